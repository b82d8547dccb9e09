section
def ys573 : ySp := (60, 3, (1, [(0, 0, 2147483647)], [], [(yc 2, yc 0, (2, yc 1, yc 0)), (yc 2, yc 4, (0, (1, 0, 0), yc 0))], [(0, (2, yc 2, yc 0)), (1, (2, yc 1004, yc 0))], []), [(4, [(1, 0, 400), (2, 0, 400), (3, 1, 2147483647)], [], [(yc 2, yc 0, (2, yc 1, yc 0)), (yc 2, yc 2, (0, (1, 1, 0), yc 0)), (yc 2, yc 1, (0, (1, 2, 0), yc 0)), (yc 2, yc 4, (0, (1, 3, 0), yc 0))], [], [(0, yc (-1), yc 0)]), (3, [(1, 0, 400), (2, 0, 400)], [], [(yc 2, yc 0, (2, yc 1, yc 0)), (yc 2, yc 4, (0, (1, 0, 0), yc 0)), (yc 2, yc 1, (0, (1, 1, 0), yc 0)), (yc 2, yc 2, (0, (1, 2, 0), yc 0))], [], [(0, yc 0, yc 0)]), (3, [(1, 0, 400), (2, 0, 400)], [], [(yc 2, yc 0, (2, yc 1, yc 0)), (yc 2, yc 4, (0, (1, 0, 0), yc 0)), (yc 2, yc 1, (0, (1, 1, 0), yc 0)), (yc 2, yc 2, (0, (1, 2, 0), yc 0))], [], [(0, yc 1, yc 0)]), (4, [(1, 2, 12), (2, 0, 400), (3, 0, 400)], [], [(yc 2, yc 0, (2, yc 1, yc 0)), (yc 2, yc 4, (0, (1, 0, 0), yc 0)), (yc 2, yc 1, (0, (1, 2, 0), yc 0)), (yc 2, yc 2, (0, (1, 3, 0), yc 0))], [], [(0, (1, 1, 0), yc 0)])], [(2, 2, 2), (2, 2, 3), (2, 2, 4)])
def yx573 : yCx := ([ys273, ys572], ys573.2.2.2.2, yFP, zm60.2.2.1, zm60.2.2.2.1, zc60, 1, ys573.2.2.2.1, [], [])
theorem yw573 : ywf ys573.2.2.1 = true := by decide +kernel
theorem yk573 : yver yx573 ys573.2.2.1 4000 = true := yverQ_ok (by decide +kernel)
theorem yt573 {E : zHp → Prop} (h : yEF E yFP) : yTs E 6 ys573 := yver_s (k := 60) (n := 5) (x := yx573) (P := ys573.2.2.1) (f := 4000) h (yal_c (yt273 h) (by decide) yw273 (yal_c (yt572 h) (by decide) yw572 (yal_n))) yg60 yk573
def ys574 : ySp := (56, 1, (1, [(0, (-1), 5)], [], [], [(0, (0, (1, 0, 0), yc 0))], []), [(1, [], [], [], [], [(0, yc 0, yc 0)])], [])
def yx574 : yCx := ([], ys574.2.2.2.2, yFP, zm56.2.2.1, zm56.2.2.2.1, zc56, 1, ys574.2.2.2.1, [], [])
theorem yw574 : ywf ys574.2.2.1 = true := by decide +kernel
theorem yk574 : yver yx574 ys574.2.2.1 4000 = true := yverQ_ok (by decide +kernel)
theorem yt574 {E : zHp → Prop} (h : yEF E yFP) : yTs E 1 ys574 := yver_s (k := 56) (n := 0) (x := yx574) (P := ys574.2.2.1) (f := 4000) h (yal_n) yg56 yk574
def ys575 : ySp := (36, 2, (1, [(0, 0, 2147483647)], [], [(yc 2, yc 0, (2, yc 1, yc 0)), (yc 2, yc 4, (0, (1, 0, 0), yc 0))], [(0, (2, yc 6, yc 0)), (1, (2, yc 2, yc 0))], []), [(4, [(1, 0, 400), (2, 0, 400), (3, 0, 2147483647)], [], [(yc 2, yc 2, (0, (1, 1, 0), yc 0)), (yc 2, yc 1, (0, (1, 2, 0), yc 0)), (yc 2, yc 0, (2, yc 1, yc 0)), (yc 2, yc 4, (0, (1, 3, 0), yc 0))], [], [])], [(2, 2, 2), (2, 2, 3), (2, 2, 4), (6, 6, 1), (6, 6, 5), (6, 6, 8), (7, 7, 1000)])
def yx575 : yCx := ([ys303, ys302, ys304, ys247, ys574, ys300, ys301, ys573], ys575.2.2.2.2, yFP, zm36.2.2.1, zm36.2.2.2.1, zc36, 1, ys575.2.2.2.1, [], [])
theorem yw575 : ywf ys575.2.2.1 = true := by decide +kernel
theorem yk575 : yver yx575 ys575.2.2.1 4000 = true := yverQ_ok (by decide +kernel)
theorem yt575 {E : zHp → Prop} (h : yEF E yFP) : yTs E 7 ys575 := yver_s (k := 36) (n := 6) (x := yx575) (P := ys575.2.2.1) (f := 4000) h (yal_c (yt303 h) (by decide) yw303 (yal_c (yt302 h) (by decide) yw302 (yal_c (yt304 h) (by decide) yw304 (yal_c (yt247 h) (by decide) yw247 (yal_c (yt574 h) (by decide) yw574 (yal_c (yt300 h) (by decide) yw300 (yal_c (yt301 h) (by decide) yw301 (yal_c (yt573 h) (by decide) yw573 (yal_n))))))))) yg36 yk575
def ys576 : ySp := (35, 4, (1, [(0, 0, 2147483647)], [], [(yc 2, yc 0, (2, yc 1, yc 0)), (yc 2, yc 4, (0, (1, 0, 0), yc 0))], [(0, (2, yc 6, yc 0)), (1, (2, yc 2, yc 0))], []), [(4, [(1, 0, 400), (2, 0, 2147483647), (3, 0, 400)], [], [(yc 2, yc 0, (2, yc 1, yc 0)), (yc 2, yc 1, (0, (1, 1, 0), yc 0)), (yc 2, yc 4, (0, (1, 2, 0), yc 0)), (yc 2, yc 2, (0, (1, 3, 0), yc 0))], [], [])], [(2, 2, 2), (2, 2, 3), (2, 2, 4), (6, 6, 1), (6, 6, 3), (6, 6, 5), (6, 6, 6), (6, 6, 7), (6, 6, 8), (6, 6, 9), (7, 7, 1000), (8, 8, 1000)])
def yx576 : yCx := ([ys575, ys278, ys299, ys275, ys247, ys277, ys298], ys576.2.2.2.2, yFP, zm35.2.2.1, zm35.2.2.2.1, zc35, 1, ys576.2.2.2.1, [], [])
theorem yw576 : ywf ys576.2.2.1 = true := by decide +kernel
theorem yk576 : yver yx576 ys576.2.2.1 4000 = true := yverQ_ok (by decide +kernel)
theorem yt576 {E : zHp → Prop} (h : yEF E yFP) : yTs E 8 ys576 := yver_s (k := 35) (n := 7) (x := yx576) (P := ys576.2.2.1) (f := 4000) h (yal_c (yt575 h) (by decide) yw575 (yal_c (yt278 h) (by decide) yw278 (yal_c (yt299 h) (by decide) yw299 (yal_c (yt275 h) (by decide) yw275 (yal_c (yt247 h) (by decide) yw247 (yal_c (yt277 h) (by decide) yw277 (yal_c (yt298 h) (by decide) yw298 (yal_n)))))))) yg35 yk576
def ys577 : ySp := (283, 1, (0, [], [], [], [(0, (2, yc 1006, yc 0))], []), [(0, [], [], [], [], [(0, yc 0, yc 0)])], [])
def yx577 : yCx := ([], ys577.2.2.2.2, yFP, zm283.2.2.1, zm283.2.2.2.1, zc283, 0, ys577.2.2.2.1, [], [])
theorem yw577 : ywf ys577.2.2.1 = true := by decide +kernel
theorem yk577 : yver yx577 ys577.2.2.1 4000 = true := yverQ_ok (by decide +kernel)
theorem yt577 {E : zHp → Prop} (h : yEF E yFP) : yTs E 1 ys577 := yver_s (k := 283) (n := 0) (x := yx577) (P := ys577.2.2.1) (f := 4000) h (yal_n) yg283 yk577
def ys578 : ySp := (281, 1, (0, [], [], [], [(0, (2, yc 1006, yc 0))], []), [(0, [], [], [], [], [(0, yc 7, yc 0)])], [])
def yx578 : yCx := ([ys577], ys578.2.2.2.2, yFP, zm281.2.2.1, zm281.2.2.2.1, zc281, 0, ys578.2.2.2.1, [], [])
theorem yw578 : ywf ys578.2.2.1 = true := by decide +kernel
theorem yk578 : yver yx578 ys578.2.2.1 4000 = true := yverQ_ok (by decide +kernel)
theorem yt578 {E : zHp → Prop} (h : yEF E yFP) : yTs E 2 ys578 := yver_s (k := 281) (n := 1) (x := yx578) (P := ys578.2.2.1) (f := 4000) h (yal_c (yt577 h) (by decide) yw577 (yal_n)) yg281 yk578
def ys579 : ySp := (284, 1, (0, [], [], [], [(0, (2, yc 1006, yc 0))], []), [(0, [], [], [], [], [(0, yc 1, yc 0)])], [])
def yx579 : yCx := ([], ys579.2.2.2.2, yFP, zm284.2.2.1, zm284.2.2.2.1, zc284, 0, ys579.2.2.2.1, [], [])
theorem yw579 : ywf ys579.2.2.1 = true := by decide +kernel
theorem yk579 : yver yx579 ys579.2.2.1 4000 = true := yverQ_ok (by decide +kernel)
theorem yt579 {E : zHp → Prop} (h : yEF E yFP) : yTs E 1 ys579 := yver_s (k := 284) (n := 0) (x := yx579) (P := ys579.2.2.1) (f := 4000) h (yal_n) yg284 yk579
def ys580 : ySp := (293, 3, (0, [], [], [], [(0, (0, yc 0, yc 0)), (1, (0, yc 7, yc 0)), (2, (7, yc 0, yc 0))], []), [(0, [], [], [], [], [(0, yc 0, yc 0)])], [])
def yx580 : yCx := ([], ys580.2.2.2.2, yFP, zm293.2.2.1, zm293.2.2.2.1, zc293, 0, ys580.2.2.2.1, [], [])
theorem yw580 : ywf ys580.2.2.1 = true := by decide +kernel
theorem yk580 : yver yx580 ys580.2.2.1 4000 = true := yverQ_ok (by decide +kernel)
theorem yt580 {E : zHp → Prop} (h : yEF E yFP) : yTs E 1 ys580 := yver_s (k := 293) (n := 0) (x := yx580) (P := ys580.2.2.1) (f := 4000) h (yal_n) yg293 yk580
def ys581 : ySp := (285, 2, (0, [], [], [], [(0, (0, yc 0, yc 0)), (1, (0, yc 7, yc 0))], []), [(0, [], [], [], [], [])], [])
def yx581 : yCx := ([ys580], ys581.2.2.2.2, yFP, zm285.2.2.1, zm285.2.2.2.1, zc285, 0, ys581.2.2.2.1, [], [])
theorem yw581 : ywf ys581.2.2.1 = true := by decide +kernel
theorem yk581 : yver yx581 ys581.2.2.1 4000 = true := yverQ_ok (by decide +kernel)
theorem yt581 {E : zHp → Prop} (h : yEF E yFP) : yTs E 2 ys581 := yver_s (k := 285) (n := 1) (x := yx581) (P := ys581.2.2.1) (f := 4000) h (yal_c (yt580 h) (by decide) yw580 (yal_n)) yg285 yk581
def ys582 : ySp := (286, 2, (0, [], [], [], [(0, (2, yc 1025, yc 0)), (1, (0, yc 0, yc 0))], []), [(0, [], [], [], [], [(0, yc 97, yc 0)])], [])
def yx582 : yCx := ([ys581], ys582.2.2.2.2, yFP, zm286.2.2.1, zm286.2.2.2.1, zc286, 0, ys582.2.2.2.1, [], [])
theorem yw582 : ywf ys582.2.2.1 = true := by decide +kernel
theorem yk582 : yver yx582 ys582.2.2.1 4000 = true := yverQ_ok (by decide +kernel)
theorem yt582 {E : zHp → Prop} (h : yEF E yFP) : yTs E 3 ys582 := yver_s (k := 286) (n := 2) (x := yx582) (P := ys582.2.2.1) (f := 4000) h (yal_c (yt581 h) (by decide) yw581 (yal_n)) yg286 yk582
def ys583 : ySp := (282, 2, (0, [], [], [], [(0, (2, yc 1006, yc 0)), (1, (0, yc 0, yc 0))], []), [(0, [], [], [], [], [(0, yc 97, yc 0)])], [])
def yx583 : yCx := ([ys579, ys582], ys583.2.2.2.2, yFP, zm282.2.2.1, zm282.2.2.2.1, zc282, 0, ys583.2.2.2.1, [], [])
theorem yw583 : ywf ys583.2.2.1 = true := by decide +kernel
theorem yk583 : yver yx583 ys583.2.2.1 4000 = true := yverQ_ok (by decide +kernel)
theorem yt583 {E : zHp → Prop} (h : yEF E yFP) : yTs E 4 ys583 := yver_s (k := 282) (n := 3) (x := yx583) (P := ys583.2.2.1) (f := 4000) h (yal_c (yt579 h) (by decide) yw579 (yal_c (yt582 h) (by decide) yw582 (yal_n))) yg282 yk583
def ys584 : ySp := (293, 3, (0, [], [], [], [(0, (0, yc 1, yc 0)), (1, (0, yc 7, yc 0)), (2, (7, yc 0, yc 0))], []), [(0, [], [], [], [], [(0, yc 1, yc 0)])], [])
def yx584 : yCx := ([], ys584.2.2.2.2, yFP, zm293.2.2.1, zm293.2.2.2.1, zc293, 0, ys584.2.2.2.1, [], [])
theorem yw584 : ywf ys584.2.2.1 = true := by decide +kernel
theorem yk584 : yver yx584 ys584.2.2.1 4000 = true := yverQ_ok (by decide +kernel)
theorem yt584 {E : zHp → Prop} (h : yEF E yFP) : yTs E 1 ys584 := yver_s (k := 293) (n := 0) (x := yx584) (P := ys584.2.2.1) (f := 4000) h (yal_n) yg293 yk584
def ys585 : ySp := (285, 2, (0, [], [], [], [(0, (0, yc 1, yc 0)), (1, (0, yc 7, yc 0))], []), [(0, [], [], [], [], [])], [])
def yx585 : yCx := ([ys584], ys585.2.2.2.2, yFP, zm285.2.2.1, zm285.2.2.2.1, zc285, 0, ys585.2.2.2.1, [], [])
theorem yw585 : ywf ys585.2.2.1 = true := by decide +kernel
theorem yk585 : yver yx585 ys585.2.2.1 4000 = true := yverQ_ok (by decide +kernel)
theorem yt585 {E : zHp → Prop} (h : yEF E yFP) : yTs E 2 ys585 := yver_s (k := 285) (n := 1) (x := yx585) (P := ys585.2.2.1) (f := 4000) h (yal_c (yt584 h) (by decide) yw584 (yal_n)) yg285 yk585
def ys586 : ySp := (286, 2, (0, [], [], [], [(0, (2, yc 1025, yc 0)), (1, (0, yc 1, yc 0))], []), [(0, [], [], [], [], [(0, yc 110, yc 0)])], [])
def yx586 : yCx := ([ys585], ys586.2.2.2.2, yFP, zm286.2.2.1, zm286.2.2.2.1, zc286, 0, ys586.2.2.2.1, [], [])
theorem yw586 : ywf ys586.2.2.1 = true := by decide +kernel
theorem yk586 : yver yx586 ys586.2.2.1 4000 = true := yverQ_ok (by decide +kernel)
theorem yt586 {E : zHp → Prop} (h : yEF E yFP) : yTs E 3 ys586 := yver_s (k := 286) (n := 2) (x := yx586) (P := ys586.2.2.1) (f := 4000) h (yal_c (yt585 h) (by decide) yw585 (yal_n)) yg286 yk586
def ys587 : ySp := (282, 2, (0, [], [], [], [(0, (2, yc 1006, yc 0)), (1, (0, yc 1, yc 0))], []), [(0, [], [], [], [], [(0, yc 110, yc 0)])], [])
def yx587 : yCx := ([ys579, ys586], ys587.2.2.2.2, yFP, zm282.2.2.1, zm282.2.2.2.1, zc282, 0, ys587.2.2.2.1, [], [])
theorem yw587 : ywf ys587.2.2.1 = true := by decide +kernel
theorem yk587 : yver yx587 ys587.2.2.1 4000 = true := yverQ_ok (by decide +kernel)
theorem yt587 {E : zHp → Prop} (h : yEF E yFP) : yTs E 4 ys587 := yver_s (k := 282) (n := 3) (x := yx587) (P := ys587.2.2.1) (f := 4000) h (yal_c (yt579 h) (by decide) yw579 (yal_c (yt586 h) (by decide) yw586 (yal_n))) yg282 yk587
def ys588 : ySp := (293, 3, (0, [], [], [], [(0, (0, yc 2, yc 0)), (1, (0, yc 7, yc 0)), (2, (7, yc 0, yc 0))], []), [(0, [], [], [], [], [(0, yc 2, yc 0)])], [])
def yx588 : yCx := ([], ys588.2.2.2.2, yFP, zm293.2.2.1, zm293.2.2.2.1, zc293, 0, ys588.2.2.2.1, [], [])
theorem yw588 : ywf ys588.2.2.1 = true := by decide +kernel
theorem yk588 : yver yx588 ys588.2.2.1 4000 = true := yverQ_ok (by decide +kernel)
theorem yt588 {E : zHp → Prop} (h : yEF E yFP) : yTs E 1 ys588 := yver_s (k := 293) (n := 0) (x := yx588) (P := ys588.2.2.1) (f := 4000) h (yal_n) yg293 yk588
def ys589 : ySp := (285, 2, (0, [], [], [], [(0, (0, yc 2, yc 0)), (1, (0, yc 7, yc 0))], []), [(0, [], [], [], [], [])], [])
def yx589 : yCx := ([ys588], ys589.2.2.2.2, yFP, zm285.2.2.1, zm285.2.2.2.1, zc285, 0, ys589.2.2.2.1, [], [])
theorem yw589 : ywf ys589.2.2.1 = true := by decide +kernel
theorem yk589 : yver yx589 ys589.2.2.1 4000 = true := yverQ_ok (by decide +kernel)
theorem yt589 {E : zHp → Prop} (h : yEF E yFP) : yTs E 2 ys589 := yver_s (k := 285) (n := 1) (x := yx589) (P := ys589.2.2.1) (f := 4000) h (yal_c (yt588 h) (by decide) yw588 (yal_n)) yg285 yk589
def ys590 : ySp := (286, 2, (0, [], [], [], [(0, (2, yc 1025, yc 0)), (1, (0, yc 2, yc 0))], []), [(0, [], [], [], [], [(0, yc 100, yc 0)])], [])
def yx590 : yCx := ([ys589], ys590.2.2.2.2, yFP, zm286.2.2.1, zm286.2.2.2.1, zc286, 0, ys590.2.2.2.1, [], [])
theorem yw590 : ywf ys590.2.2.1 = true := by decide +kernel
theorem yk590 : yver yx590 ys590.2.2.1 4000 = true := yverQ_ok (by decide +kernel)
theorem yt590 {E : zHp → Prop} (h : yEF E yFP) : yTs E 3 ys590 := yver_s (k := 286) (n := 2) (x := yx590) (P := ys590.2.2.1) (f := 4000) h (yal_c (yt589 h) (by decide) yw589 (yal_n)) yg286 yk590
def ys591 : ySp := (282, 2, (0, [], [], [], [(0, (2, yc 1006, yc 0)), (1, (0, yc 2, yc 0))], []), [(0, [], [], [], [], [(0, yc 100, yc 0)])], [])
def yx591 : yCx := ([ys579, ys590], ys591.2.2.2.2, yFP, zm282.2.2.1, zm282.2.2.2.1, zc282, 0, ys591.2.2.2.1, [], [])
theorem yw591 : ywf ys591.2.2.1 = true := by decide +kernel
theorem yk591 : yver yx591 ys591.2.2.1 4000 = true := yverQ_ok (by decide +kernel)
theorem yt591 {E : zHp → Prop} (h : yEF E yFP) : yTs E 4 ys591 := yver_s (k := 282) (n := 3) (x := yx591) (P := ys591.2.2.1) (f := 4000) h (yal_c (yt579 h) (by decide) yw579 (yal_c (yt590 h) (by decide) yw590 (yal_n))) yg282 yk591
def ys592 : ySp := (293, 3, (0, [], [], [], [(0, (0, yc 3, yc 0)), (1, (0, yc 7, yc 0)), (2, (7, yc 0, yc 0))], []), [(0, [], [], [], [], [(0, yc 3, yc 0)])], [])
def yx592 : yCx := ([], ys592.2.2.2.2, yFP, zm293.2.2.1, zm293.2.2.2.1, zc293, 0, ys592.2.2.2.1, [], [])
theorem yw592 : ywf ys592.2.2.1 = true := by decide +kernel
theorem yk592 : yver yx592 ys592.2.2.1 4000 = true := yverQ_ok (by decide +kernel)
theorem yt592 {E : zHp → Prop} (h : yEF E yFP) : yTs E 1 ys592 := yver_s (k := 293) (n := 0) (x := yx592) (P := ys592.2.2.1) (f := 4000) h (yal_n) yg293 yk592
def ys593 : ySp := (285, 2, (0, [], [], [], [(0, (0, yc 3, yc 0)), (1, (0, yc 7, yc 0))], []), [(0, [], [], [], [], [])], [])
def yx593 : yCx := ([ys592], ys593.2.2.2.2, yFP, zm285.2.2.1, zm285.2.2.2.1, zc285, 0, ys593.2.2.2.1, [], [])
theorem yw593 : ywf ys593.2.2.1 = true := by decide +kernel
theorem yk593 : yver yx593 ys593.2.2.1 4000 = true := yverQ_ok (by decide +kernel)
theorem yt593 {E : zHp → Prop} (h : yEF E yFP) : yTs E 2 ys593 := yver_s (k := 285) (n := 1) (x := yx593) (P := ys593.2.2.1) (f := 4000) h (yal_c (yt592 h) (by decide) yw592 (yal_n)) yg285 yk593
def ys594 : ySp := (286, 2, (0, [], [], [], [(0, (2, yc 1025, yc 0)), (1, (0, yc 3, yc 0))], []), [(0, [], [], [], [], [(0, yc 32, yc 0)])], [])
def yx594 : yCx := ([ys593], ys594.2.2.2.2, yFP, zm286.2.2.1, zm286.2.2.2.1, zc286, 0, ys594.2.2.2.1, [], [])
theorem yw594 : ywf ys594.2.2.1 = true := by decide +kernel
theorem yk594 : yver yx594 ys594.2.2.1 4000 = true := yverQ_ok (by decide +kernel)
theorem yt594 {E : zHp → Prop} (h : yEF E yFP) : yTs E 3 ys594 := yver_s (k := 286) (n := 2) (x := yx594) (P := ys594.2.2.1) (f := 4000) h (yal_c (yt593 h) (by decide) yw593 (yal_n)) yg286 yk594
def ys595 : ySp := (282, 2, (0, [], [], [], [(0, (2, yc 1006, yc 0)), (1, (0, yc 3, yc 0))], []), [(0, [], [], [], [], [(0, yc 32, yc 0)])], [])
def yx595 : yCx := ([ys579, ys594], ys595.2.2.2.2, yFP, zm282.2.2.1, zm282.2.2.2.1, zc282, 0, ys595.2.2.2.1, [], [])
theorem yw595 : ywf ys595.2.2.1 = true := by decide +kernel
theorem yk595 : yver yx595 ys595.2.2.1 4000 = true := yverQ_ok (by decide +kernel)
theorem yt595 {E : zHp → Prop} (h : yEF E yFP) : yTs E 4 ys595 := yver_s (k := 282) (n := 3) (x := yx595) (P := ys595.2.2.1) (f := 4000) h (yal_c (yt579 h) (by decide) yw579 (yal_c (yt594 h) (by decide) yw594 (yal_n))) yg282 yk595
def ys596 : ySp := (293, 3, (0, [], [], [], [(0, (0, yc 4, yc 0)), (1, (0, yc 7, yc 0)), (2, (7, yc 0, yc 0))], []), [(0, [], [], [], [], [(0, yc 4, yc 0)])], [])
def yx596 : yCx := ([], ys596.2.2.2.2, yFP, zm293.2.2.1, zm293.2.2.2.1, zc293, 0, ys596.2.2.2.1, [], [])
theorem yw596 : ywf ys596.2.2.1 = true := by decide +kernel
theorem yk596 : yver yx596 ys596.2.2.1 4000 = true := yverQ_ok (by decide +kernel)
theorem yt596 {E : zHp → Prop} (h : yEF E yFP) : yTs E 1 ys596 := yver_s (k := 293) (n := 0) (x := yx596) (P := ys596.2.2.1) (f := 4000) h (yal_n) yg293 yk596
def ys597 : ySp := (285, 2, (0, [], [], [], [(0, (0, yc 4, yc 0)), (1, (0, yc 7, yc 0))], []), [(0, [], [], [], [], [])], [])
def yx597 : yCx := ([ys596], ys597.2.2.2.2, yFP, zm285.2.2.1, zm285.2.2.2.1, zc285, 0, ys597.2.2.2.1, [], [])
theorem yw597 : ywf ys597.2.2.1 = true := by decide +kernel
theorem yk597 : yver yx597 ys597.2.2.1 4000 = true := yverQ_ok (by decide +kernel)
theorem yt597 {E : zHp → Prop} (h : yEF E yFP) : yTs E 2 ys597 := yver_s (k := 285) (n := 1) (x := yx597) (P := ys597.2.2.1) (f := 4000) h (yal_c (yt596 h) (by decide) yw596 (yal_n)) yg285 yk597
def ys598 : ySp := (286, 2, (0, [], [], [], [(0, (2, yc 1025, yc 0)), (1, (0, yc 4, yc 0))], []), [(0, [], [], [], [], [(0, yc 111, yc 0)])], [])
def yx598 : yCx := ([ys597], ys598.2.2.2.2, yFP, zm286.2.2.1, zm286.2.2.2.1, zc286, 0, ys598.2.2.2.1, [], [])
theorem yw598 : ywf ys598.2.2.1 = true := by decide +kernel
theorem yk598 : yver yx598 ys598.2.2.1 4000 = true := yverQ_ok (by decide +kernel)
theorem yt598 {E : zHp → Prop} (h : yEF E yFP) : yTs E 3 ys598 := yver_s (k := 286) (n := 2) (x := yx598) (P := ys598.2.2.1) (f := 4000) h (yal_c (yt597 h) (by decide) yw597 (yal_n)) yg286 yk598
def ys599 : ySp := (282, 2, (0, [], [], [], [(0, (2, yc 1006, yc 0)), (1, (0, yc 4, yc 0))], []), [(0, [], [], [], [], [(0, yc 111, yc 0)])], [])
def yx599 : yCx := ([ys579, ys598], ys599.2.2.2.2, yFP, zm282.2.2.1, zm282.2.2.2.1, zc282, 0, ys599.2.2.2.1, [], [])
theorem yw599 : ywf ys599.2.2.1 = true := by decide +kernel
theorem yk599 : yver yx599 ys599.2.2.1 4000 = true := yverQ_ok (by decide +kernel)
theorem yt599 {E : zHp → Prop} (h : yEF E yFP) : yTs E 4 ys599 := yver_s (k := 282) (n := 3) (x := yx599) (P := ys599.2.2.1) (f := 4000) h (yal_c (yt579 h) (by decide) yw579 (yal_c (yt598 h) (by decide) yw598 (yal_n))) yg282 yk599
def ys600 : ySp := (293, 3, (0, [], [], [], [(0, (0, yc 5, yc 0)), (1, (0, yc 7, yc 0)), (2, (7, yc 0, yc 0))], []), [(0, [], [], [], [], [(0, yc 5, yc 0)])], [])
def yx600 : yCx := ([], ys600.2.2.2.2, yFP, zm293.2.2.1, zm293.2.2.2.1, zc293, 0, ys600.2.2.2.1, [], [])
theorem yw600 : ywf ys600.2.2.1 = true := by decide +kernel
theorem yk600 : yver yx600 ys600.2.2.1 4000 = true := yverQ_ok (by decide +kernel)
theorem yt600 {E : zHp → Prop} (h : yEF E yFP) : yTs E 1 ys600 := yver_s (k := 293) (n := 0) (x := yx600) (P := ys600.2.2.1) (f := 4000) h (yal_n) yg293 yk600
def ys601 : ySp := (285, 2, (0, [], [], [], [(0, (0, yc 5, yc 0)), (1, (0, yc 7, yc 0))], []), [(0, [], [], [], [], [])], [])
def yx601 : yCx := ([ys600], ys601.2.2.2.2, yFP, zm285.2.2.1, zm285.2.2.2.1, zc285, 0, ys601.2.2.2.1, [], [])
theorem yw601 : ywf ys601.2.2.1 = true := by decide +kernel
theorem yk601 : yver yx601 ys601.2.2.1 4000 = true := yverQ_ok (by decide +kernel)
theorem yt601 {E : zHp → Prop} (h : yEF E yFP) : yTs E 2 ys601 := yver_s (k := 285) (n := 1) (x := yx601) (P := ys601.2.2.1) (f := 4000) h (yal_c (yt600 h) (by decide) yw600 (yal_n)) yg285 yk601
def ys602 : ySp := (286, 2, (0, [], [], [], [(0, (2, yc 1025, yc 0)), (1, (0, yc 5, yc 0))], []), [(0, [], [], [], [], [(0, yc 114, yc 0)])], [])
def yx602 : yCx := ([ys601], ys602.2.2.2.2, yFP, zm286.2.2.1, zm286.2.2.2.1, zc286, 0, ys602.2.2.2.1, [], [])
theorem yw602 : ywf ys602.2.2.1 = true := by decide +kernel
theorem yk602 : yver yx602 ys602.2.2.1 4000 = true := yverQ_ok (by decide +kernel)
theorem yt602 {E : zHp → Prop} (h : yEF E yFP) : yTs E 3 ys602 := yver_s (k := 286) (n := 2) (x := yx602) (P := ys602.2.2.1) (f := 4000) h (yal_c (yt601 h) (by decide) yw601 (yal_n)) yg286 yk602
def ys603 : ySp := (282, 2, (0, [], [], [], [(0, (2, yc 1006, yc 0)), (1, (0, yc 5, yc 0))], []), [(0, [], [], [], [], [(0, yc 114, yc 0)])], [])
def yx603 : yCx := ([ys579, ys602], ys603.2.2.2.2, yFP, zm282.2.2.1, zm282.2.2.2.1, zc282, 0, ys603.2.2.2.1, [], [])
theorem yw603 : ywf ys603.2.2.1 = true := by decide +kernel
theorem yk603 : yver yx603 ys603.2.2.1 4000 = true := yverQ_ok (by decide +kernel)
theorem yt603 {E : zHp → Prop} (h : yEF E yFP) : yTs E 4 ys603 := yver_s (k := 282) (n := 3) (x := yx603) (P := ys603.2.2.1) (f := 4000) h (yal_c (yt579 h) (by decide) yw579 (yal_c (yt602 h) (by decide) yw602 (yal_n))) yg282 yk603
def ys604 : ySp := (293, 3, (0, [], [], [], [(0, (0, yc 6, yc 0)), (1, (0, yc 7, yc 0)), (2, (7, yc 0, yc 0))], []), [(0, [], [], [], [], [(0, yc 6, yc 0)])], [])
def yx604 : yCx := ([], ys604.2.2.2.2, yFP, zm293.2.2.1, zm293.2.2.2.1, zc293, 0, ys604.2.2.2.1, [], [])
theorem yw604 : ywf ys604.2.2.1 = true := by decide +kernel
theorem yk604 : yver yx604 ys604.2.2.1 4000 = true := yverQ_ok (by decide +kernel)
theorem yt604 {E : zHp → Prop} (h : yEF E yFP) : yTs E 1 ys604 := yver_s (k := 293) (n := 0) (x := yx604) (P := ys604.2.2.1) (f := 4000) h (yal_n) yg293 yk604
def ys605 : ySp := (285, 2, (0, [], [], [], [(0, (0, yc 6, yc 0)), (1, (0, yc 7, yc 0))], []), [(0, [], [], [], [], [])], [])
def yx605 : yCx := ([ys604], ys605.2.2.2.2, yFP, zm285.2.2.1, zm285.2.2.2.1, zc285, 0, ys605.2.2.2.1, [], [])
theorem yw605 : ywf ys605.2.2.1 = true := by decide +kernel
theorem yk605 : yver yx605 ys605.2.2.1 4000 = true := yverQ_ok (by decide +kernel)
theorem yt605 {E : zHp → Prop} (h : yEF E yFP) : yTs E 2 ys605 := yver_s (k := 285) (n := 1) (x := yx605) (P := ys605.2.2.1) (f := 4000) h (yal_c (yt604 h) (by decide) yw604 (yal_n)) yg285 yk605
def ys606 : ySp := (286, 2, (0, [], [], [], [(0, (2, yc 1025, yc 0)), (1, (0, yc 6, yc 0))], []), [(0, [], [], [], [], [(0, yc 32, yc 0)])], [])
def yx606 : yCx := ([ys605], ys606.2.2.2.2, yFP, zm286.2.2.1, zm286.2.2.2.1, zc286, 0, ys606.2.2.2.1, [], [])
theorem yw606 : ywf ys606.2.2.1 = true := by decide +kernel
theorem yk606 : yver yx606 ys606.2.2.1 4000 = true := yverQ_ok (by decide +kernel)
theorem yt606 {E : zHp → Prop} (h : yEF E yFP) : yTs E 3 ys606 := yver_s (k := 286) (n := 2) (x := yx606) (P := ys606.2.2.1) (f := 4000) h (yal_c (yt605 h) (by decide) yw605 (yal_n)) yg286 yk606
def ys607 : ySp := (282, 2, (0, [], [], [], [(0, (2, yc 1006, yc 0)), (1, (0, yc 6, yc 0))], []), [(0, [], [], [], [], [(0, yc 32, yc 0)])], [])
def yx607 : yCx := ([ys579, ys606], ys607.2.2.2.2, yFP, zm282.2.2.1, zm282.2.2.2.1, zc282, 0, ys607.2.2.2.1, [], [])
theorem yw607 : ywf ys607.2.2.1 = true := by decide +kernel
theorem yk607 : yver yx607 ys607.2.2.1 4000 = true := yverQ_ok (by decide +kernel)
theorem yt607 {E : zHp → Prop} (h : yEF E yFP) : yTs E 4 ys607 := yver_s (k := 282) (n := 3) (x := yx607) (P := ys607.2.2.1) (f := 4000) h (yal_c (yt579 h) (by decide) yw579 (yal_c (yt606 h) (by decide) yw606 (yal_n))) yg282 yk607
def ys608 : ySp := (59, 6, (1, [(0, 0, 2147483647)], [], [(yc 2, yc 0, (2, yc 1, yc 0)), (yc 2, yc 4, (0, (1, 0, 0), yc 0))], [(0, (2, yc 2, yc 0)), (1, (2, yc 1006, yc 0))], []), [(3, [(1, 0, 400), (2, 0, 400)], [], [(yc 2, yc 0, (2, yc 1, yc 0)), (yc 2, yc 4, (0, (1, 0, 0), yc 0)), (yc 2, yc 2, (0, (1, 1, 0), yc 0)), (yc 2, yc 1, (0, (1, 2, 0), yc 0))], [], [(0, yc (-1), yc 0)]), (3, [(1, 0, 400), (2, 0, 400)], [], [(yc 2, yc 0, (2, yc 1, yc 0)), (yc 2, yc 4, (0, (1, 0, 0), yc 0)), (yc 2, yc 1, (0, (1, 1, 0), yc 0)), (yc 2, yc 2, (0, (1, 2, 0), yc 0))], [], [(0, yc 0, yc 0)]), (3, [(1, 0, 400), (2, 0, 400)], [], [(yc 2, yc 0, (2, yc 1, yc 0)), (yc 2, yc 4, (0, (1, 0, 0), yc 0)), (yc 2, yc 1, (0, (1, 1, 0), yc 0)), (yc 2, yc 2, (0, (1, 2, 0), yc 0))], [], [(0, yc 1, yc 0)])], [(2, 2, 2), (2, 2, 3)])
def yq608_0 : yCu := (18, (4, [(0, 0, 2147483647), (1, 0, 400), (2, 0, 400), (3, 0, 400)], [], [(yc 2, yc 0, (2, yc 1, yc 0)), (yc 2, yc 4, (0, (1, 0, 0), yc 0)), (yc 2, yc 2, (0, (1, 2, 0), yc 0)), (yc 2, yc 1, (0, (1, 3, 0), yc 0)), (yc 2, yc 3, (0, (1, 2, 0), yc 0))], [(0, (2, yc 2, yc 0)), (1, (2, yc 1006, yc 0)), (2, (0, (1, 1, 0), yc 0))], []), ([((-1), 1)], 408))
def yq608_1 : yCu := (55, (4, [(0, 0, 2147483647), (1, 0, 400), (2, 0, 400), (3, 0, 400)], [], [(yc 2, yc 0, (2, yc 1, yc 0)), (yc 2, yc 4, (0, (1, 0, 0), yc 0)), (yc 2, yc 2, (0, (1, 2, 0), yc 0)), (yc 2, yc 1, (0, (1, 3, 0), yc 0)), (yc 2, yc 3, (0, (1, 2, 0), yc 0))], [(0, (2, yc 2, yc 0)), (1, (2, yc 1006, yc 0)), (2, (0, (1, 1, 0), yc 0)), (3, (0, yc 0, yc 0)), (4, (0, (1, 2, 0), yc 0)), (5, (0, yc 0, yc 0))], []), ([], 7))
def yq608_2 : yCu := (55, (5, [(0, 0, 2147483647), (1, 0, 400), (2, (-1), 400), (3, 0, 400), (4, 0, 400)], [([(1, 1), ((-1), 2)], 0)], [(yc 2, yc 0, (2, yc 1, yc 0)), (yc 2, yc 4, (0, (1, 0, 0), yc 0)), (yc 2, yc 2, (0, (1, 3, 0), yc 0)), (yc 2, yc 1, (0, (1, 4, 0), yc 0)), (yc 2, yc 3, (0, (1, 3, 0), yc 0))], [(0, (2, yc 2, yc 0)), (1, (2, yc 1006, yc 0)), (2, (0, (1, 1, 0), yc 0)), (3, (0, yc 0, yc 0)), (4, (0, (1, 2, 0), yc 0)), (5, (0, yc 1, yc 0))], []), ([], 6))
def yq608_3 : yCu := (55, (5, [(0, 0, 2147483647), (1, 0, 400), (2, (-1), 400), (3, 0, 400), (4, 0, 400)], [([(1, 1), ((-1), 2)], 1), ([(1, 1), ((-1), 2)], 0)], [(yc 2, yc 0, (2, yc 1, yc 0)), (yc 2, yc 4, (0, (1, 0, 0), yc 0)), (yc 2, yc 2, (0, (1, 3, 0), yc 0)), (yc 2, yc 1, (0, (1, 4, 0), yc 0)), (yc 2, yc 3, (0, (1, 3, 0), yc 0))], [(0, (2, yc 2, yc 0)), (1, (2, yc 1006, yc 0)), (2, (0, (1, 1, 0), yc 0)), (3, (0, yc 0, yc 0)), (4, (0, (1, 2, 0), yc 0)), (5, (0, yc 2, yc 0))], []), ([], 5))
def yq608_4 : yCu := (55, (5, [(0, 0, 2147483647), (1, 0, 400), (2, (-1), 400), (3, 0, 400), (4, 0, 400)], [([(1, 1), ((-1), 2)], 2), ([(1, 1), ((-1), 2)], 1), ([(1, 1), ((-1), 2)], 0)], [(yc 2, yc 0, (2, yc 1, yc 0)), (yc 2, yc 4, (0, (1, 0, 0), yc 0)), (yc 2, yc 2, (0, (1, 3, 0), yc 0)), (yc 2, yc 1, (0, (1, 4, 0), yc 0)), (yc 2, yc 3, (0, (1, 3, 0), yc 0))], [(0, (2, yc 2, yc 0)), (1, (2, yc 1006, yc 0)), (2, (0, (1, 1, 0), yc 0)), (3, (0, yc 0, yc 0)), (4, (0, (1, 2, 0), yc 0)), (5, (0, yc 3, yc 0))], []), ([], 4))
def yq608_5 : yCu := (55, (4, [(0, 0, 2147483647), (1, 0, 400), (2, 0, 400), (3, 0, 400)], [], [(yc 2, yc 0, (2, yc 1, yc 0)), (yc 2, yc 4, (0, (1, 0, 0), yc 0)), (yc 2, yc 2, (0, (1, 2, 0), yc 0)), (yc 2, yc 1, (0, (1, 3, 0), yc 0)), (yc 2, yc 3, (0, (1, 2, 0), yc 0))], [(0, (2, yc 2, yc 0)), (1, (2, yc 1006, yc 0)), (2, (0, (1, 1, 0), yc 0)), (3, (0, yc 1, yc 0)), (4, (0, (1, 2, 0), yc 0)), (5, (0, yc 4, yc 0))], []), ([], 3))
def yq608_6 : yCu := (55, (5, [(0, 0, 2147483647), (1, 0, 400), (2, (-1), 400), (3, 0, 400), (4, 0, 400)], [([(1, 1), ((-1), 2)], 0)], [(yc 2, yc 0, (2, yc 1, yc 0)), (yc 2, yc 4, (0, (1, 0, 0), yc 0)), (yc 2, yc 2, (0, (1, 3, 0), yc 0)), (yc 2, yc 1, (0, (1, 4, 0), yc 0)), (yc 2, yc 3, (0, (1, 3, 0), yc 0))], [(0, (2, yc 2, yc 0)), (1, (2, yc 1006, yc 0)), (2, (0, (1, 1, 0), yc 0)), (3, (0, yc 1, yc 0)), (4, (0, (1, 2, 0), yc 0)), (5, (0, yc 5, yc 0))], []), ([], 2))
def yq608_7 : yCu := (55, (5, [(0, 0, 2147483647), (1, 0, 400), (2, (-1), 400), (3, 0, 400), (4, 0, 400)], [([(1, 1), ((-1), 2)], 1), ([(1, 1), ((-1), 2)], 0)], [(yc 2, yc 0, (2, yc 1, yc 0)), (yc 2, yc 4, (0, (1, 0, 0), yc 0)), (yc 2, yc 2, (0, (1, 3, 0), yc 0)), (yc 2, yc 1, (0, (1, 4, 0), yc 0)), (yc 2, yc 3, (0, (1, 3, 0), yc 0))], [(0, (2, yc 2, yc 0)), (1, (2, yc 1006, yc 0)), (2, (0, (1, 1, 0), yc 0)), (3, (0, yc 1, yc 0)), (4, (0, (1, 2, 0), yc 0)), (5, (0, yc 6, yc 0))], []), ([], 1))
def yq608_8 : yCu := (55, (4, [(0, 0, 2147483647), (1, 0, 400), (2, 0, 400), (3, 0, 400)], [], [(yc 2, yc 0, (2, yc 1, yc 0)), (yc 2, yc 4, (0, (1, 0, 0), yc 0)), (yc 2, yc 2, (0, (1, 2, 0), yc 0)), (yc 2, yc 1, (0, (1, 3, 0), yc 0)), (yc 2, yc 3, (0, (1, 2, 0), yc 0))], [(0, (2, yc 2, yc 0)), (1, (2, yc 1006, yc 0)), (2, (0, (1, 1, 0), yc 0)), (3, (0, yc 2, yc 0)), (4, (0, (1, 2, 0), yc 0)), (5, (0, yc 7, yc 0))], []), ([], 0))
def yx608 : yCx := ([ys247, ys248, ys578, ys583, ys587, ys591, ys595, ys599, ys603, ys607], ys608.2.2.2.2, yFP, zm59.2.2.1, zm59.2.2.2.1, zc59, 1, ys608.2.2.2.1, [yq608_0, yq608_1, yq608_2, yq608_3, yq608_4, yq608_5, yq608_6, yq608_7, yq608_8], [])
theorem yw608 : ywf ys608.2.2.1 = true := by decide +kernel
theorem yk608_e : yver0 yx608 ys608.2.2.1 4000 = true := yver0Q_ok (by decide +kernel)
theorem yk608_0 : ycc yx608 4000 yq608_0 = true := yccQ_ok (by decide +kernel)
theorem yk608_1 : ycc yx608 4000 yq608_1 = true := yccQ_ok (by decide +kernel)
theorem yk608_2 : ycc yx608 4000 yq608_2 = true := yccQ_ok (by decide +kernel)
theorem yk608_3 : ycc yx608 4000 yq608_3 = true := yccQ_ok (by decide +kernel)
theorem yk608_4 : ycc yx608 4000 yq608_4 = true := yccQ_ok (by decide +kernel)
theorem yk608_5 : ycc yx608 4000 yq608_5 = true := yccQ_ok (by decide +kernel)
theorem yk608_6 : ycc yx608 4000 yq608_6 = true := yccQ_ok (by decide +kernel)
theorem yk608_7 : ycc yx608 4000 yq608_7 = true := yccQ_ok (by decide +kernel)
theorem yk608_8 : ycc yx608 4000 yq608_8 = true := yccQ_ok (by decide +kernel)
theorem yk608 : yver yx608 ys608.2.2.1 4000 = true := yver_join yk608_e (ycc_c yk608_0 (ycc_c yk608_1 (ycc_c yk608_2 (ycc_c yk608_3 (ycc_c yk608_4 (ycc_c yk608_5 (ycc_c yk608_6 (ycc_c yk608_7 (ycc_c yk608_8 (ycc_n))))))))))
theorem yt608 {E : zHp → Prop} (h : yEF E yFP) : yTs E 5 ys608 := yver_s (k := 59) (n := 4) (x := yx608) (P := ys608.2.2.1) (f := 4000) h (yal_c (yt247 h) (by decide) yw247 (yal_c (yt248 h) (by decide) yw248 (yal_c (yt578 h) (by decide) yw578 (yal_c (yt583 h) (by decide) yw583 (yal_c (yt587 h) (by decide) yw587 (yal_c (yt591 h) (by decide) yw591 (yal_c (yt595 h) (by decide) yw595 (yal_c (yt599 h) (by decide) yw599 (yal_c (yt603 h) (by decide) yw603 (yal_c (yt607 h) (by decide) yw607 (yal_n))))))))))) yg59 yk608
def ys609 : ySp := (26, 1, (1, [(0, (-2147483648), 2147483647)], [], [], [(0, (0, (1, 0, 0), yc 0))], []), [(2, [(1, (-2147483648), 11)], [], [], [], [(0, (1, 1, 0), yc 0)])], [])
def yx609 : yCx := ([], ys609.2.2.2.2, yFP, zm26.2.2.1, zm26.2.2.2.1, zc26, 1, ys609.2.2.2.1, [], [])
theorem yw609 : ywf ys609.2.2.1 = true := by decide +kernel
theorem yk609 : yver yx609 ys609.2.2.1 4000 = true := yverQ_ok (by decide +kernel)
theorem yt609 {E : zHp → Prop} (h : yEF E yFP) : yTs E 1 ys609 := yver_s (k := 26) (n := 0) (x := yx609) (P := ys609.2.2.1) (f := 4000) h (yal_n) yg26 yk609
def ys610 : ySp := (46, 2, (1, [(0, 0, 1)], [], [], [(0, (2, yc 6, yc 0)), (1, (0, (1, 0, 0), yc 0))], []), [(1, [], [], [], [], [])], [(6, 6, 1), (6, 6, 3), (6, 6, 6), (7, 7, 1000)])
def yx610 : yCx := ([ys609, ys304], ys610.2.2.2.2, yFP, zm46.2.2.1, zm46.2.2.2.1, zc46, 1, ys610.2.2.2.1, [(0, (2, [(0, 0, 1), (1, 0, 400)], [], [(yc 6, yc 3, (0, (1, 1, 0), yc 0))], [(0, (2, yc 6, yc 0)), (1, (0, (1, 0, 0), yc 0))], []), ([(1, 1)], 1))], [])
theorem yw610 : ywf ys610.2.2.1 = true := by decide +kernel
theorem yk610 : yver yx610 ys610.2.2.1 4000 = true := yverQ_ok (by decide +kernel)
theorem yt610 {E : zHp → Prop} (h : yEF E yFP) : yTs E 2 ys610 := yver_s (k := 46) (n := 1) (x := yx610) (P := ys610.2.2.1) (f := 4000) h (yal_c (yt609 h) (by decide) yw609 (yal_c (yt304 h) (by decide) yw304 (yal_n))) yg46 yk610
def ys611 : ySp := (45, 2, (1, [(0, 0, 1)], [], [], [(0, (2, yc 6, yc 0)), (1, (0, (1, 0, 0), yc 0))], []), [(1, [], [], [], [], [])], [(6, 6, 1), (6, 6, 3), (6, 6, 6), (7, 7, 1000), (8, 8, 1000)])
def yx611 : yCx := ([ys610, ys278], ys611.2.2.2.2, yFP, zm45.2.2.1, zm45.2.2.2.1, zc45, 1, ys611.2.2.2.1, [], [])
theorem yw611 : ywf ys611.2.2.1 = true := by decide +kernel
theorem yk611 : yver yx611 ys611.2.2.1 4000 = true := yverQ_ok (by decide +kernel)
theorem yt611 {E : zHp → Prop} (h : yEF E yFP) : yTs E 3 ys611 := yver_s (k := 45) (n := 2) (x := yx611) (P := ys611.2.2.1) (f := 4000) h (yal_c (yt610 h) (by decide) yw610 (yal_c (yt278 h) (by decide) yw278 (yal_n))) yg45 yk611
def ys612 : ySp := (46, 2, (1, [(0, 0, 3)], [], [], [(0, (2, yc 6, yc 0)), (1, (0, (1, 0, 0), yc 0))], []), [(1, [], [], [], [], [])], [(6, 6, 1), (6, 6, 3), (6, 6, 6), (7, 7, 1000)])
def yx612 : yCx := ([ys609, ys304], ys612.2.2.2.2, yFP, zm46.2.2.1, zm46.2.2.2.1, zc46, 1, ys612.2.2.2.1, [(0, (2, [(0, 0, 3), (1, 0, 400)], [], [(yc 6, yc 3, (0, (1, 1, 0), yc 0))], [(0, (2, yc 6, yc 0)), (1, (0, (1, 0, 0), yc 0))], []), ([(1, 1)], 1))], [])
theorem yw612 : ywf ys612.2.2.1 = true := by decide +kernel
theorem yk612 : yver yx612 ys612.2.2.1 4000 = true := yverQ_ok (by decide +kernel)
theorem yt612 {E : zHp → Prop} (h : yEF E yFP) : yTs E 2 ys612 := yver_s (k := 46) (n := 1) (x := yx612) (P := ys612.2.2.1) (f := 4000) h (yal_c (yt609 h) (by decide) yw609 (yal_c (yt304 h) (by decide) yw304 (yal_n))) yg46 yk612
def ys613 : ySp := (45, 2, (1, [(0, 0, 3)], [], [], [(0, (2, yc 6, yc 0)), (1, (0, (1, 0, 0), yc 0))], []), [(1, [], [], [], [], [])], [(6, 6, 1), (6, 6, 3), (6, 6, 6), (7, 7, 1000), (8, 8, 1000)])
def yx613 : yCx := ([ys612, ys299], ys613.2.2.2.2, yFP, zm45.2.2.1, zm45.2.2.2.1, zc45, 1, ys613.2.2.2.1, [], [])
theorem yw613 : ywf ys613.2.2.1 = true := by decide +kernel
theorem yk613 : yver yx613 ys613.2.2.1 4000 = true := yverQ_ok (by decide +kernel)
theorem yt613 {E : zHp → Prop} (h : yEF E yFP) : yTs E 3 ys613 := yver_s (k := 45) (n := 2) (x := yx613) (P := ys613.2.2.1) (f := 4000) h (yal_c (yt612 h) (by decide) yw612 (yal_c (yt299 h) (by decide) yw299 (yal_n))) yg45 yk613
def ys614 : ySp := (51, 1, (1, [(0, 0, 2147483647)], [], [(yc 2, yc 4, (0, (1, 0, 0), yc 0))], [(0, (2, yc 2, yc 0))], []), [(1, [(0, 1, 2147483647)], [], [(yc 2, yc 4, (0, (1, 0, 0), yc 0))], [], [(0, yc 0, yc 0)]), (1, [(0, 0, 0)], [], [(yc 2, yc 4, (0, yc 0, yc 0))], [], [(0, yc 1, yc 0)])], [])
def yx614 : yCx := ([], ys614.2.2.2.2, yFP, zm51.2.2.1, zm51.2.2.2.1, zc51, 1, ys614.2.2.2.1, [], [])
theorem yw614 : ywf ys614.2.2.1 = true := by decide +kernel
theorem yk614 : yver yx614 ys614.2.2.1 4000 = true := yverQ_ok (by decide +kernel)
theorem yt614 {E : zHp → Prop} (h : yEF E yFP) : yTs E 1 ys614 := yver_s (k := 51) (n := 0) (x := yx614) (P := ys614.2.2.1) (f := 4000) h (yal_n) yg51 yk614
def ys615 : ySp := (61, 2, (1, [(0, 0, 2147483647)], [], [(yc 2, yc 0, (2, yc 1, yc 0)), (yc 2, yc 4, (0, (1, 0, 0), yc 0))], [(0, (2, yc 2, yc 0))], []), [(3, [(0, 0, 0), (1, 0, 400), (2, 0, 400)], [([(1, 1), ((-1), 2)], 0)], [(yc 2, yc 0, (2, yc 1, yc 0)), (yc 2, yc 4, (0, yc 0, yc 0)), (yc 2, yc 2, (0, (1, 1, 0), yc 0)), (yc 2, yc 1, (0, (1, 2, 0), yc 0))], [], [(0, yc 0, yc 0)]), (4, [(1, 0, 400), (2, 0, 400), (3, 1, 2147483647)], [], [(yc 2, yc 0, (2, yc 1, yc 0)), (yc 2, yc 2, (0, (1, 1, 0), yc 0)), (yc 2, yc 1, (0, (1, 2, 0), yc 0)), (yc 2, yc 4, (0, (1, 3, 0), yc 0))], [], [(0, yc 0, yc 0)]), (3, [(0, 0, 0), (1, 1, 400), (2, 1, 400)], [([(1, 1), ((-1), 2)], 0)], [(yc 2, yc 0, (2, yc 1, yc 0)), (yc 2, yc 4, (0, yc 0, yc 0)), (yc 2, yc 1, (0, (1, 1, 0), yc 0)), (yc 2, yc 2, (0, (1, 2, 0), yc 0))], [], [(0, yc 1, yc 0)])], [(2, 2, 2), (2, 2, 4)])
def yx615 : yCx := ([ys614, ys273, ys247, ys277], ys615.2.2.2.2, yFP, zm61.2.2.1, zm61.2.2.2.1, zc61, 1, ys615.2.2.2.1, [], [])
theorem yw615 : ywf ys615.2.2.1 = true := by decide +kernel
theorem yk615 : yver yx615 ys615.2.2.1 4000 = true := yverQ_ok (by decide +kernel)
theorem yt615 {E : zHp → Prop} (h : yEF E yFP) : yTs E 2 ys615 := yver_s (k := 61) (n := 1) (x := yx615) (P := ys615.2.2.1) (f := 4000) h (yal_c (yt614 h) (by decide) yw614 (yal_c (yt273 h) (by decide) yw273 (yal_c (yt247 h) (by decide) yw247 (yal_c (yt277 h) (by decide) yw277 (yal_n))))) yg61 yk615
def ys616 : ySp := (44, 3, (2, [(0, 0, 63), (1, 0, 2147483647)], [], [(yc 2, yc 0, (2, yc 1, yc 0)), (yc 2, yc 4, (0, (1, 1, 0), yc 0))], [(0, (2, yc 6, yc 0)), (1, (2, yc 2, yc 0)), (2, (0, (1, 0, 0), yc 0))], []), [(5, [(2, 0, 2147483647), (3, 0, 400), (4, 0, 400)], [], [(yc 2, yc 0, (2, yc 1, yc 0)), (yc 2, yc 4, (0, (1, 2, 0), yc 0)), (yc 2, yc 1, (0, (1, 3, 0), yc 0)), (yc 2, yc 2, (0, (1, 4, 0), yc 0))], [], [])], [(2, 2, 2), (2, 2, 4), (6, 6, 1), (6, 6, 3), (6, 6, 6), (6, 6, 8), (7, 7, 1000)])
def yx616 : yCx := ([ys610, ys302, ys615], ys616.2.2.2.2, yFP, zm44.2.2.1, zm44.2.2.2.1, zc44, 2, ys616.2.2.2.1, [], [])
theorem yw616 : ywf ys616.2.2.1 = true := by decide +kernel
theorem yk616 : yver yx616 ys616.2.2.1 4000 = true := yverQ_ok (by decide +kernel)
theorem yt616 {E : zHp → Prop} (h : yEF E yFP) : yTs E 3 ys616 := yver_s (k := 44) (n := 2) (x := yx616) (P := ys616.2.2.1) (f := 4000) h (yal_c (yt610 h) (by decide) yw610 (yal_c (yt302 h) (by decide) yw302 (yal_c (yt615 h) (by decide) yw615 (yal_n)))) yg44 yk616
def ys617 : ySp := (43, 1, (0, [], [], [], [(0, (2, yc 6, yc 0))], []), [(0, [], [], [], [], [])], [(6, 6, 1), (6, 6, 3), (6, 6, 6), (6, 6, 7), (6, 6, 9), (7, 7, 1000)])
def yx617 : yCx := ([ys610], ys617.2.2.2.2, yFP, zm43.2.2.1, zm43.2.2.2.1, zc43, 0, ys617.2.2.2.1, [], [])
theorem yw617 : ywf ys617.2.2.1 = true := by decide +kernel
theorem yk617 : yver yx617 ys617.2.2.1 4000 = true := yverQ_ok (by decide +kernel)
theorem yt617 {E : zHp → Prop} (h : yEF E yFP) : yTs E 3 ys617 := yver_s (k := 43) (n := 2) (x := yx617) (P := ys617.2.2.1) (f := 4000) h (yal_c (yt610 h) (by decide) yw610 (yal_n)) yg43 yk617
def ys618 : ySp := (42, 3, (1, [(0, 0, 2147483647)], [], [(yc 2, yc 0, (2, yc 1, yc 0)), (yc 2, yc 4, (0, (1, 0, 0), yc 0))], [(0, (2, yc 6, yc 0)), (1, (2, yc 2, yc 0))], []), [(4, [(1, 0, 2147483647), (2, 0, 400), (3, 0, 400)], [], [(yc 2, yc 0, (2, yc 1, yc 0)), (yc 2, yc 4, (0, (1, 1, 0), yc 0)), (yc 2, yc 1, (0, (1, 2, 0), yc 0)), (yc 2, yc 2, (0, (1, 3, 0), yc 0))], [], [])], [(2, 2, 2), (2, 2, 3), (2, 2, 4), (6, 6, 1), (6, 6, 3), (6, 6, 6), (6, 6, 7), (6, 6, 8), (6, 6, 9), (7, 7, 1000), (8, 8, 1000)])
def yx618 : yCx := ([ys617, ys616, ys611, ys613, ys273, ys247, ys277, ys608], ys618.2.2.2.2, yFP, zm42.2.2.1, zm42.2.2.2.1, zc42, 1, ys618.2.2.2.1, [], [])
theorem yw618 : ywf ys618.2.2.1 = true := by decide +kernel
theorem yk618 : yver yx618 ys618.2.2.1 4000 = true := yverQ_ok (by decide +kernel)
theorem yt618 {E : zHp → Prop} (h : yEF E yFP) : yTs E 6 ys618 := yver_s (k := 42) (n := 5) (x := yx618) (P := ys618.2.2.1) (f := 4000) h (yal_c (yt617 h) (by decide) yw617 (yal_c (yt616 h) (by decide) yw616 (yal_c (yt611 h) (by decide) yw611 (yal_c (yt613 h) (by decide) yw613 (yal_c (yt273 h) (by decide) yw273 (yal_c (yt247 h) (by decide) yw247 (yal_c (yt277 h) (by decide) yw277 (yal_c (yt608 h) (by decide) yw608 (yal_n))))))))) yg42 yk618
def ys619 : ySp := (39, 1, (1, [(0, 0, 255)], [], [], [(0, (0, (1, 0, 0), yc 0))], []), [(1, [], [], [], [], [(0, yc (-1), yc 0)]), (2, [(0, 37, 47), (1, 9, 13)], [], [], [], [(0, (1, 1, 0), yc 0)])], [])
def yx619 : yCx := ([], ys619.2.2.2.2, yFP, zm39.2.2.1, zm39.2.2.2.1, zc39, 1, ys619.2.2.2.1, [], [])
theorem yw619 : ywf ys619.2.2.1 = true := by decide +kernel
theorem yk619 : yver yx619 ys619.2.2.1 4000 = true := yverQ_ok (by decide +kernel)
theorem yt619 {E : zHp → Prop} (h : yEF E yFP) : yTs E 1 ys619 := yver_s (k := 39) (n := 0) (x := yx619) (P := ys619.2.2.1) (f := 4000) h (yal_n) yg39 yk619
def ys620 : ySp := (46, 2, (1, [(0, 0, 63)], [], [], [(0, (2, yc 6, yc 0)), (1, (0, (1, 0, 0), yc 0))], []), [(1, [], [], [], [], [])], [(6, 6, 1), (6, 6, 3), (6, 6, 6), (7, 7, 1000)])
def yx620 : yCx := ([ys609, ys304], ys620.2.2.2.2, yFP, zm46.2.2.1, zm46.2.2.2.1, zc46, 1, ys620.2.2.2.1, [(0, (2, [(0, 0, 63), (1, 0, 400)], [], [(yc 6, yc 3, (0, (1, 1, 0), yc 0))], [(0, (2, yc 6, yc 0)), (1, (0, (1, 0, 0), yc 0))], []), ([(1, 1)], 1))], [])
theorem yw620 : ywf ys620.2.2.1 = true := by decide +kernel
theorem yk620 : yver yx620 ys620.2.2.1 4000 = true := yverQ_ok (by decide +kernel)
theorem yt620 {E : zHp → Prop} (h : yEF E yFP) : yTs E 2 ys620 := yver_s (k := 46) (n := 1) (x := yx620) (P := ys620.2.2.1) (f := 4000) h (yal_c (yt609 h) (by decide) yw609 (yal_c (yt304 h) (by decide) yw304 (yal_n))) yg46 yk620
def ys621 : ySp := (47, 2, (1, [(0, 0, 63)], [], [], [(0, (2, yc 6, yc 0)), (1, (0, (1, 0, 0), yc 0))], []), [(1, [], [], [], [], [])], [(6, 6, 3), (8, 8, 1000)])
def yx621 : yCx := ([], ys621.2.2.2.2, yFP, zm47.2.2.1, zm47.2.2.2.1, zc47, 1, ys621.2.2.2.1, [], [])
theorem yw621 : ywf ys621.2.2.1 = true := by decide +kernel
theorem yk621 : yver yx621 ys621.2.2.1 4000 = true := yverQ_ok (by decide +kernel)
theorem yt621 {E : zHp → Prop} (h : yEF E yFP) : yTs E 1 ys621 := yver_s (k := 47) (n := 0) (x := yx621) (P := ys621.2.2.1) (f := 4000) h (yal_n) yg47 yk621
def ys622 : ySp := (45, 2, (1, [(0, 0, 63)], [], [], [(0, (2, yc 6, yc 0)), (1, (0, (1, 0, 0), yc 0))], []), [(1, [], [], [], [], [])], [(6, 6, 1), (6, 6, 3), (6, 6, 6), (7, 7, 1000), (8, 8, 1000)])
def yx622 : yCx := ([ys620, ys621], ys622.2.2.2.2, yFP, zm45.2.2.1, zm45.2.2.2.1, zc45, 1, ys622.2.2.2.1, [], [])
theorem yw622 : ywf ys622.2.2.1 = true := by decide +kernel
theorem yk622 : yver yx622 ys622.2.2.1 4000 = true := yverQ_ok (by decide +kernel)
theorem yt622 {E : zHp → Prop} (h : yEF E yFP) : yTs E 3 ys622 := yver_s (k := 45) (n := 2) (x := yx622) (P := ys622.2.2.1) (f := 4000) h (yal_c (yt620 h) (by decide) yw620 (yal_c (yt621 h) (by decide) yw621 (yal_n))) yg45 yk622
def ys623 : ySp := (283, 1, (0, [], [], [], [(0, (2, yc 1005, yc 0))], []), [(0, [], [], [], [], [(0, yc 0, yc 0)])], [])
def yx623 : yCx := ([], ys623.2.2.2.2, yFP, zm283.2.2.1, zm283.2.2.2.1, zc283, 0, ys623.2.2.2.1, [], [])
theorem yw623 : ywf ys623.2.2.1 = true := by decide +kernel
theorem yk623 : yver yx623 ys623.2.2.1 4000 = true := yverQ_ok (by decide +kernel)
theorem yt623 {E : zHp → Prop} (h : yEF E yFP) : yTs E 1 ys623 := yver_s (k := 283) (n := 0) (x := yx623) (P := ys623.2.2.1) (f := 4000) h (yal_n) yg283 yk623
def ys624 : ySp := (281, 1, (0, [], [], [], [(0, (2, yc 1005, yc 0))], []), [(0, [], [], [], [], [(0, yc 3, yc 0)])], [])
def yx624 : yCx := ([ys623], ys624.2.2.2.2, yFP, zm281.2.2.1, zm281.2.2.2.1, zc281, 0, ys624.2.2.2.1, [], [])
theorem yw624 : ywf ys624.2.2.1 = true := by decide +kernel
theorem yk624 : yver yx624 ys624.2.2.1 4000 = true := yverQ_ok (by decide +kernel)
theorem yt624 {E : zHp → Prop} (h : yEF E yFP) : yTs E 2 ys624 := yver_s (k := 281) (n := 1) (x := yx624) (P := ys624.2.2.1) (f := 4000) h (yal_c (yt623 h) (by decide) yw623 (yal_n)) yg281 yk624
def ys625 : ySp := (284, 1, (0, [], [], [], [(0, (2, yc 1005, yc 0))], []), [(0, [], [], [], [], [(0, yc 1, yc 0)])], [])
def yx625 : yCx := ([], ys625.2.2.2.2, yFP, zm284.2.2.1, zm284.2.2.2.1, zc284, 0, ys625.2.2.2.1, [], [])
theorem yw625 : ywf ys625.2.2.1 = true := by decide +kernel
theorem yk625 : yver yx625 ys625.2.2.1 4000 = true := yverQ_ok (by decide +kernel)
theorem yt625 {E : zHp → Prop} (h : yEF E yFP) : yTs E 1 ys625 := yver_s (k := 284) (n := 0) (x := yx625) (P := ys625.2.2.1) (f := 4000) h (yal_n) yg284 yk625
def ys626 : ySp := (293, 3, (0, [], [], [], [(0, (0, yc 0, yc 0)), (1, (0, yc 3, yc 0)), (2, (7, yc 0, yc 0))], []), [(0, [], [], [], [], [(0, yc 0, yc 0)])], [])
def yx626 : yCx := ([], ys626.2.2.2.2, yFP, zm293.2.2.1, zm293.2.2.2.1, zc293, 0, ys626.2.2.2.1, [], [])
theorem yw626 : ywf ys626.2.2.1 = true := by decide +kernel
theorem yk626 : yver yx626 ys626.2.2.1 4000 = true := yverQ_ok (by decide +kernel)
theorem yt626 {E : zHp → Prop} (h : yEF E yFP) : yTs E 1 ys626 := yver_s (k := 293) (n := 0) (x := yx626) (P := ys626.2.2.1) (f := 4000) h (yal_n) yg293 yk626
def ys627 : ySp := (285, 2, (0, [], [], [], [(0, (0, yc 0, yc 0)), (1, (0, yc 3, yc 0))], []), [(0, [], [], [], [], [])], [])
def yx627 : yCx := ([ys626], ys627.2.2.2.2, yFP, zm285.2.2.1, zm285.2.2.2.1, zc285, 0, ys627.2.2.2.1, [], [])
theorem yw627 : ywf ys627.2.2.1 = true := by decide +kernel
theorem yk627 : yver yx627 ys627.2.2.1 4000 = true := yverQ_ok (by decide +kernel)
theorem yt627 {E : zHp → Prop} (h : yEF E yFP) : yTs E 2 ys627 := yver_s (k := 285) (n := 1) (x := yx627) (P := ys627.2.2.1) (f := 4000) h (yal_c (yt626 h) (by decide) yw626 (yal_n)) yg285 yk627
def ys628 : ySp := (286, 2, (0, [], [], [], [(0, (2, yc 1024, yc 0)), (1, (0, yc 0, yc 0))], []), [(0, [], [], [], [], [(0, yc 105, yc 0)])], [])
def yx628 : yCx := ([ys627], ys628.2.2.2.2, yFP, zm286.2.2.1, zm286.2.2.2.1, zc286, 0, ys628.2.2.2.1, [], [])
theorem yw628 : ywf ys628.2.2.1 = true := by decide +kernel
theorem yk628 : yver yx628 ys628.2.2.1 4000 = true := yverQ_ok (by decide +kernel)
theorem yt628 {E : zHp → Prop} (h : yEF E yFP) : yTs E 3 ys628 := yver_s (k := 286) (n := 2) (x := yx628) (P := ys628.2.2.1) (f := 4000) h (yal_c (yt627 h) (by decide) yw627 (yal_n)) yg286 yk628
def ys629 : ySp := (282, 2, (0, [], [], [], [(0, (2, yc 1005, yc 0)), (1, (0, yc 0, yc 0))], []), [(0, [], [], [], [], [(0, yc 105, yc 0)])], [])
def yx629 : yCx := ([ys625, ys628], ys629.2.2.2.2, yFP, zm282.2.2.1, zm282.2.2.2.1, zc282, 0, ys629.2.2.2.1, [], [])
theorem yw629 : ywf ys629.2.2.1 = true := by decide +kernel
theorem yk629 : yver yx629 ys629.2.2.1 4000 = true := yverQ_ok (by decide +kernel)
theorem yt629 {E : zHp → Prop} (h : yEF E yFP) : yTs E 4 ys629 := yver_s (k := 282) (n := 3) (x := yx629) (P := ys629.2.2.1) (f := 4000) h (yal_c (yt625 h) (by decide) yw625 (yal_c (yt628 h) (by decide) yw628 (yal_n))) yg282 yk629
def ys630 : ySp := (293, 3, (0, [], [], [], [(0, (0, yc 1, yc 0)), (1, (0, yc 3, yc 0)), (2, (7, yc 0, yc 0))], []), [(0, [], [], [], [], [(0, yc 1, yc 0)])], [])
def yx630 : yCx := ([], ys630.2.2.2.2, yFP, zm293.2.2.1, zm293.2.2.2.1, zc293, 0, ys630.2.2.2.1, [], [])
theorem yw630 : ywf ys630.2.2.1 = true := by decide +kernel
theorem yk630 : yver yx630 ys630.2.2.1 4000 = true := yverQ_ok (by decide +kernel)
theorem yt630 {E : zHp → Prop} (h : yEF E yFP) : yTs E 1 ys630 := yver_s (k := 293) (n := 0) (x := yx630) (P := ys630.2.2.1) (f := 4000) h (yal_n) yg293 yk630
def ys631 : ySp := (285, 2, (0, [], [], [], [(0, (0, yc 1, yc 0)), (1, (0, yc 3, yc 0))], []), [(0, [], [], [], [], [])], [])
def yx631 : yCx := ([ys630], ys631.2.2.2.2, yFP, zm285.2.2.1, zm285.2.2.2.1, zc285, 0, ys631.2.2.2.1, [], [])
theorem yw631 : ywf ys631.2.2.1 = true := by decide +kernel
theorem yk631 : yver yx631 ys631.2.2.1 4000 = true := yverQ_ok (by decide +kernel)
theorem yt631 {E : zHp → Prop} (h : yEF E yFP) : yTs E 2 ys631 := yver_s (k := 285) (n := 1) (x := yx631) (P := ys631.2.2.1) (f := 4000) h (yal_c (yt630 h) (by decide) yw630 (yal_n)) yg285 yk631
def ys632 : ySp := (286, 2, (0, [], [], [], [(0, (2, yc 1024, yc 0)), (1, (0, yc 1, yc 0))], []), [(0, [], [], [], [], [(0, yc 102, yc 0)])], [])
def yx632 : yCx := ([ys631], ys632.2.2.2.2, yFP, zm286.2.2.1, zm286.2.2.2.1, zc286, 0, ys632.2.2.2.1, [], [])
theorem yw632 : ywf ys632.2.2.1 = true := by decide +kernel
theorem yk632 : yver yx632 ys632.2.2.1 4000 = true := yverQ_ok (by decide +kernel)
theorem yt632 {E : zHp → Prop} (h : yEF E yFP) : yTs E 3 ys632 := yver_s (k := 286) (n := 2) (x := yx632) (P := ys632.2.2.1) (f := 4000) h (yal_c (yt631 h) (by decide) yw631 (yal_n)) yg286 yk632
def ys633 : ySp := (282, 2, (0, [], [], [], [(0, (2, yc 1005, yc 0)), (1, (0, yc 1, yc 0))], []), [(0, [], [], [], [], [(0, yc 102, yc 0)])], [])
def yx633 : yCx := ([ys625, ys632], ys633.2.2.2.2, yFP, zm282.2.2.1, zm282.2.2.2.1, zc282, 0, ys633.2.2.2.1, [], [])
theorem yw633 : ywf ys633.2.2.1 = true := by decide +kernel
theorem yk633 : yver yx633 ys633.2.2.1 4000 = true := yverQ_ok (by decide +kernel)
theorem yt633 {E : zHp → Prop} (h : yEF E yFP) : yTs E 4 ys633 := yver_s (k := 282) (n := 3) (x := yx633) (P := ys633.2.2.1) (f := 4000) h (yal_c (yt625 h) (by decide) yw625 (yal_c (yt632 h) (by decide) yw632 (yal_n))) yg282 yk633
def ys634 : ySp := (293, 3, (0, [], [], [], [(0, (0, yc 2, yc 0)), (1, (0, yc 3, yc 0)), (2, (7, yc 0, yc 0))], []), [(0, [], [], [], [], [(0, yc 2, yc 0)])], [])
def yx634 : yCx := ([], ys634.2.2.2.2, yFP, zm293.2.2.1, zm293.2.2.2.1, zc293, 0, ys634.2.2.2.1, [], [])
theorem yw634 : ywf ys634.2.2.1 = true := by decide +kernel
theorem yk634 : yver yx634 ys634.2.2.1 4000 = true := yverQ_ok (by decide +kernel)
theorem yt634 {E : zHp → Prop} (h : yEF E yFP) : yTs E 1 ys634 := yver_s (k := 293) (n := 0) (x := yx634) (P := ys634.2.2.1) (f := 4000) h (yal_n) yg293 yk634
end
section
def ys635 : ySp := (285, 2, (0, [], [], [], [(0, (0, yc 2, yc 0)), (1, (0, yc 3, yc 0))], []), [(0, [], [], [], [], [])], [])
def yx635 : yCx := ([ys634], ys635.2.2.2.2, yFP, zm285.2.2.1, zm285.2.2.2.1, zc285, 0, ys635.2.2.2.1, [], [])
theorem yw635 : ywf ys635.2.2.1 = true := by decide +kernel
theorem yk635 : yver yx635 ys635.2.2.1 4000 = true := yverQ_ok (by decide +kernel)
theorem yt635 {E : zHp → Prop} (h : yEF E yFP) : yTs E 2 ys635 := yver_s (k := 285) (n := 1) (x := yx635) (P := ys635.2.2.1) (f := 4000) h (yal_c (yt634 h) (by decide) yw634 (yal_n)) yg285 yk635
def ys636 : ySp := (286, 2, (0, [], [], [], [(0, (2, yc 1024, yc 0)), (1, (0, yc 2, yc 0))], []), [(0, [], [], [], [], [(0, yc 32, yc 0)])], [])
def yx636 : yCx := ([ys635], ys636.2.2.2.2, yFP, zm286.2.2.1, zm286.2.2.2.1, zc286, 0, ys636.2.2.2.1, [], [])
theorem yw636 : ywf ys636.2.2.1 = true := by decide +kernel
theorem yk636 : yver yx636 ys636.2.2.1 4000 = true := yverQ_ok (by decide +kernel)
theorem yt636 {E : zHp → Prop} (h : yEF E yFP) : yTs E 3 ys636 := yver_s (k := 286) (n := 2) (x := yx636) (P := ys636.2.2.1) (f := 4000) h (yal_c (yt635 h) (by decide) yw635 (yal_n)) yg286 yk636
def ys637 : ySp := (282, 2, (0, [], [], [], [(0, (2, yc 1005, yc 0)), (1, (0, yc 2, yc 0))], []), [(0, [], [], [], [], [(0, yc 32, yc 0)])], [])
def yx637 : yCx := ([ys625, ys636], ys637.2.2.2.2, yFP, zm282.2.2.1, zm282.2.2.2.1, zc282, 0, ys637.2.2.2.1, [], [])
theorem yw637 : ywf ys637.2.2.1 = true := by decide +kernel
theorem yk637 : yver yx637 ys637.2.2.1 4000 = true := yverQ_ok (by decide +kernel)
theorem yt637 {E : zHp → Prop} (h : yEF E yFP) : yTs E 4 ys637 := yver_s (k := 282) (n := 3) (x := yx637) (P := ys637.2.2.1) (f := 4000) h (yal_c (yt625 h) (by decide) yw625 (yal_c (yt636 h) (by decide) yw636 (yal_n))) yg282 yk637
def ys638 : ySp := (59, 6, (1, [(0, 0, 2147483647)], [], [(yc 2, yc 0, (2, yc 1, yc 0)), (yc 2, yc 4, (0, (1, 0, 0), yc 0))], [(0, (2, yc 2, yc 0)), (1, (2, yc 1005, yc 0))], []), [(3, [(1, 0, 400), (2, 0, 400)], [], [(yc 2, yc 0, (2, yc 1, yc 0)), (yc 2, yc 4, (0, (1, 0, 0), yc 0)), (yc 2, yc 2, (0, (1, 1, 0), yc 0)), (yc 2, yc 1, (0, (1, 2, 0), yc 0))], [], [(0, yc (-1), yc 0)]), (3, [(1, 0, 400), (2, 0, 400)], [], [(yc 2, yc 0, (2, yc 1, yc 0)), (yc 2, yc 4, (0, (1, 0, 0), yc 0)), (yc 2, yc 1, (0, (1, 1, 0), yc 0)), (yc 2, yc 2, (0, (1, 2, 0), yc 0))], [], [(0, yc 0, yc 0)])], [(2, 2, 2), (2, 2, 3)])
def yx638 : yCx := ([ys247, ys248, ys624, ys629, ys633, ys637], ys638.2.2.2.2, yFP, zm59.2.2.1, zm59.2.2.2.1, zc59, 1, ys638.2.2.2.1, [(18, (4, [(0, 0, 2147483647), (1, 0, 400), (2, 0, 400), (3, 0, 400)], [], [(yc 2, yc 0, (2, yc 1, yc 0)), (yc 2, yc 4, (0, (1, 0, 0), yc 0)), (yc 2, yc 2, (0, (1, 2, 0), yc 0)), (yc 2, yc 1, (0, (1, 3, 0), yc 0)), (yc 2, yc 3, (0, (1, 2, 0), yc 0))], [(0, (2, yc 2, yc 0)), (1, (2, yc 1005, yc 0)), (2, (0, (1, 1, 0), yc 0))], []), ([((-1), 1)], 404)), (55, (4, [(0, 0, 2147483647), (1, 0, 400), (2, 0, 400), (3, 0, 400)], [], [(yc 2, yc 0, (2, yc 1, yc 0)), (yc 2, yc 4, (0, (1, 0, 0), yc 0)), (yc 2, yc 2, (0, (1, 2, 0), yc 0)), (yc 2, yc 1, (0, (1, 3, 0), yc 0)), (yc 2, yc 3, (0, (1, 2, 0), yc 0))], [(0, (2, yc 2, yc 0)), (1, (2, yc 1005, yc 0)), (2, (0, (1, 1, 0), yc 0)), (3, (0, yc 0, yc 0)), (4, (0, (1, 2, 0), yc 0)), (5, (0, yc 0, yc 0))], []), ([], 3)), (55, (5, [(0, 0, 2147483647), (1, 0, 400), (2, (-1), 400), (3, 0, 400), (4, 0, 400)], [([(1, 1), ((-1), 2)], 0)], [(yc 2, yc 0, (2, yc 1, yc 0)), (yc 2, yc 4, (0, (1, 0, 0), yc 0)), (yc 2, yc 2, (0, (1, 3, 0), yc 0)), (yc 2, yc 1, (0, (1, 4, 0), yc 0)), (yc 2, yc 3, (0, (1, 3, 0), yc 0))], [(0, (2, yc 2, yc 0)), (1, (2, yc 1005, yc 0)), (2, (0, (1, 1, 0), yc 0)), (3, (0, yc 0, yc 0)), (4, (0, (1, 2, 0), yc 0)), (5, (0, yc 1, yc 0))], []), ([], 2)), (55, (5, [(0, 0, 2147483647), (1, 0, 400), (2, (-1), 400), (3, 0, 400), (4, 0, 400)], [([(1, 1), ((-1), 2)], 1), ([(1, 1), ((-1), 2)], 0)], [(yc 2, yc 0, (2, yc 1, yc 0)), (yc 2, yc 4, (0, (1, 0, 0), yc 0)), (yc 2, yc 2, (0, (1, 3, 0), yc 0)), (yc 2, yc 1, (0, (1, 4, 0), yc 0)), (yc 2, yc 3, (0, (1, 3, 0), yc 0))], [(0, (2, yc 2, yc 0)), (1, (2, yc 1005, yc 0)), (2, (0, (1, 1, 0), yc 0)), (3, (0, yc 0, yc 0)), (4, (0, (1, 2, 0), yc 0)), (5, (0, yc 2, yc 0))], []), ([], 1)), (55, (4, [(0, 0, 2147483647), (1, 0, 400), (2, 0, 400), (3, 0, 400)], [], [(yc 2, yc 0, (2, yc 1, yc 0)), (yc 2, yc 4, (0, (1, 0, 0), yc 0)), (yc 2, yc 2, (0, (1, 2, 0), yc 0)), (yc 2, yc 1, (0, (1, 3, 0), yc 0)), (yc 2, yc 3, (0, (1, 2, 0), yc 0))], [(0, (2, yc 2, yc 0)), (1, (2, yc 1005, yc 0)), (2, (0, (1, 1, 0), yc 0)), (3, (0, yc 1, yc 0)), (4, (0, (1, 2, 0), yc 0)), (5, (0, yc 3, yc 0))], []), ([], 0))], [])
theorem yw638 : ywf ys638.2.2.1 = true := by decide +kernel
theorem yk638 : yver yx638 ys638.2.2.1 4000 = true := yverQ_ok (by decide +kernel)
theorem yt638 {E : zHp → Prop} (h : yEF E yFP) : yTs E 5 ys638 := yver_s (k := 59) (n := 4) (x := yx638) (P := ys638.2.2.1) (f := 4000) h (yal_c (yt247 h) (by decide) yw247 (yal_c (yt248 h) (by decide) yw248 (yal_c (yt624 h) (by decide) yw624 (yal_c (yt629 h) (by decide) yw629 (yal_c (yt633 h) (by decide) yw633 (yal_c (yt637 h) (by decide) yw637 (yal_n))))))) yg59 yk638
def ys639 : ySp := (40, 2, (1, [(0, 0, 2147483647)], [], [(yc 2, yc 0, (2, yc 1, yc 0)), (yc 2, yc 4, (0, (1, 0, 0), yc 0))], [(0, (2, yc 6, yc 0)), (1, (2, yc 2, yc 0))], []), [(4, [(1, 0, 2147483647), (2, 0, 400), (3, 0, 400)], [], [(yc 2, yc 0, (2, yc 1, yc 0)), (yc 2, yc 4, (0, (1, 1, 0), yc 0)), (yc 2, yc 1, (0, (1, 2, 0), yc 0)), (yc 2, yc 2, (0, (1, 3, 0), yc 0))], [], [])], [(2, 2, 2), (2, 2, 3), (2, 2, 4), (6, 6, 1), (6, 6, 3), (6, 6, 6), (6, 6, 8), (7, 7, 1000)])
def yx639 : yCx := ([ys616, ys610, ys638], ys639.2.2.2.2, yFP, zm40.2.2.1, zm40.2.2.2.1, zc40, 1, ys639.2.2.2.1, [], [])
theorem yw639 : ywf ys639.2.2.1 = true := by decide +kernel
theorem yk639 : yver yx639 ys639.2.2.1 4000 = true := yverQ_ok (by decide +kernel)
theorem yt639 {E : zHp → Prop} (h : yEF E yFP) : yTs E 6 ys639 := yver_s (k := 40) (n := 5) (x := yx639) (P := ys639.2.2.1) (f := 4000) h (yal_c (yt616 h) (by decide) yw616 (yal_c (yt610 h) (by decide) yw610 (yal_c (yt638 h) (by decide) yw638 (yal_n)))) yg40 yk639
def ys640 : ySp := (55, 2, (2, [(0, 0, 63), (1, 0, 2147483647)], [], [(yc 2, yc 0, (2, yc 1, yc 0)), (yc 2, yc 4, (0, (1, 1, 0), yc 0))], [(0, (2, yc 2, yc 0)), (1, (0, (1, 0, 0), yc 0))], []), [(4, [(2, 0, 400), (3, 0, 400)], [], [(yc 2, yc 0, (2, yc 1, yc 0)), (yc 2, yc 4, (0, (1, 1, 0), yc 0)), (yc 2, yc 2, (0, (1, 2, 0), yc 0)), (yc 2, yc 1, (0, (1, 3, 0), yc 0))], [], [(0, yc 0, yc 0)]), (4, [(2, 1, 400), (3, 1, 400)], [([(1, 2), ((-1), 3)], 0)], [(yc 2, yc 0, (2, yc 1, yc 0)), (yc 2, yc 4, (0, (1, 1, 0), yc 0)), (yc 2, yc 1, (0, (1, 2, 0), yc 0)), (yc 2, yc 2, (0, (1, 3, 0), yc 0))], [], [(0, yc 1, yc 0)])], [(2, 2, 2)])
def yx640 : yCx := ([], ys640.2.2.2.2, yFP, zm55.2.2.1, zm55.2.2.2.1, zc55, 2, ys640.2.2.2.1, [], [])
theorem yw640 : ywf ys640.2.2.1 = true := by decide +kernel
theorem yk640 : yver yx640 ys640.2.2.1 4000 = true := yverQ_ok (by decide +kernel)
theorem yt640 {E : zHp → Prop} (h : yEF E yFP) : yTs E 1 ys640 := yver_s (k := 55) (n := 0) (x := yx640) (P := ys640.2.2.1) (f := 4000) h (yal_n) yg55 yk640
def ys641 : ySp := (41, 4, (1, [(0, 0, 2147483647)], [], [(yc 2, yc 0, (2, yc 1, yc 0)), (yc 2, yc 4, (0, (1, 0, 0), yc 0))], [(0, (2, yc 6, yc 0)), (1, (2, yc 2, yc 0))], []), [(4, [(1, 0, 400), (2, 0, 400), (3, 0, 2147483647)], [], [(yc 2, yc 0, (2, yc 1, yc 0)), (yc 2, yc 2, (0, (1, 1, 0), yc 0)), (yc 2, yc 1, (0, (1, 2, 0), yc 0)), (yc 2, yc 4, (0, (1, 3, 0), yc 0))], [], [])], [(2, 2, 2), (2, 2, 4), (6, 6, 1), (6, 6, 3), (6, 6, 5), (6, 6, 6), (6, 6, 8), (6, 6, 9), (7, 7, 1000), (8, 8, 1000)])
def yx641 : yCx := ([ys303, ys622, ys273, ys247, ys277, ys640], ys641.2.2.2.2, yFP, zm41.2.2.1, zm41.2.2.2.1, zc41, 1, ys641.2.2.2.1, [], [])
theorem yw641 : ywf ys641.2.2.1 = true := by decide +kernel
theorem yk641 : yver yx641 ys641.2.2.1 4000 = true := yverQ_ok (by decide +kernel)
theorem yt641 {E : zHp → Prop} (h : yEF E yFP) : yTs E 4 ys641 := yver_s (k := 41) (n := 3) (x := yx641) (P := ys641.2.2.1) (f := 4000) h (yal_c (yt303 h) (by decide) yw303 (yal_c (yt622 h) (by decide) yw622 (yal_c (yt273 h) (by decide) yw273 (yal_c (yt247 h) (by decide) yw247 (yal_c (yt277 h) (by decide) yw277 (yal_c (yt640 h) (by decide) yw640 (yal_n))))))) yg41 yk641
def ys642 : ySp := (39, 1, (1, [(0, (-1), 5)], [], [], [(0, (0, (1, 0, 0), yc 0))], []), [(1, [], [], [], [], [(0, yc (-1), yc 0)])], [])
def yx642 : yCx := ([], ys642.2.2.2.2, yFP, zm39.2.2.1, zm39.2.2.2.1, zc39, 1, ys642.2.2.2.1, [], [])
theorem yw642 : ywf ys642.2.2.1 = true := by decide +kernel
theorem yk642 : yver yx642 ys642.2.2.1 4000 = true := yverQ_ok (by decide +kernel)
theorem yt642 {E : zHp → Prop} (h : yEF E yFP) : yTs E 1 ys642 := yver_s (k := 39) (n := 0) (x := yx642) (P := ys642.2.2.1) (f := 4000) h (yal_n) yg39 yk642
def ys643 : ySp := (38, 3, (1, [(0, 0, 2147483647)], [], [(yc 2, yc 0, (2, yc 1, yc 0)), (yc 2, yc 4, (0, (1, 0, 0), yc 0))], [(0, (2, yc 6, yc 0)), (1, (2, yc 2, yc 0))], []), [(4, [(1, 0, 2147483647), (2, 0, 400), (3, 0, 400)], [], [(yc 2, yc 0, (2, yc 1, yc 0)), (yc 2, yc 4, (0, (1, 1, 0), yc 0)), (yc 2, yc 1, (0, (1, 2, 0), yc 0)), (yc 2, yc 2, (0, (1, 3, 0), yc 0))], [], [])], [(2, 2, 2), (2, 2, 3), (2, 2, 4), (6, 6, 1), (6, 6, 3), (6, 6, 5), (6, 6, 6), (6, 6, 7), (6, 6, 8), (6, 6, 9), (7, 7, 1000), (8, 8, 1000)])
def yx643 : yCx := ([ys642, ys619, ys639, ys641, ys618, ys622, ys247, ys277], ys643.2.2.2.2, yFP, zm38.2.2.1, zm38.2.2.2.1, zc38, 1, ys643.2.2.2.1, [], [])
theorem yw643 : ywf ys643.2.2.1 = true := by decide +kernel
theorem yk643 : yver yx643 ys643.2.2.1 4000 = true := yverQ_ok (by decide +kernel)
theorem yt643 {E : zHp → Prop} (h : yEF E yFP) : yTs E 7 ys643 := yver_s (k := 38) (n := 6) (x := yx643) (P := ys643.2.2.1) (f := 4000) h (yal_c (yt642 h) (by decide) yw642 (yal_c (yt619 h) (by decide) yw619 (yal_c (yt639 h) (by decide) yw639 (yal_c (yt641 h) (by decide) yw641 (yal_c (yt618 h) (by decide) yw618 (yal_c (yt622 h) (by decide) yw622 (yal_c (yt247 h) (by decide) yw247 (yal_c (yt277 h) (by decide) yw277 (yal_n))))))))) yg38 yk643
def ys644 : ySp := (50, 3, (1, [(0, 0, 400)], [], [], [(0, (2, yc 2, yc 0)), (1, (2, yc 1, yc 0)), (2, (0, (1, 0, 0), yc 0))], []), [(2, [(1, 0, 400)], [], [(yc 2, yc 0, (2, yc 1, yc 0)), (yc 2, yc 1, (0, (1, 1, 0), yc 0)), (yc 2, yc 2, (0, yc 0, yc 0)), (yc 2, yc 4, (0, yc 0, yc 0))], [], [])], [(2, 2, 0), (2, 2, 1), (2, 2, 2), (2, 2, 4)])
def yx644 : yCx := ([], ys644.2.2.2.2, yFP, zm50.2.2.1, zm50.2.2.2.1, zc50, 1, ys644.2.2.2.1, [], [])
theorem yw644 : ywf ys644.2.2.1 = true := by decide +kernel
theorem yk644 : yver yx644 ys644.2.2.1 4000 = true := yverQ_ok (by decide +kernel)
theorem yt644 {E : zHp → Prop} (h : yEF E yFP) : yTs E 1 ys644 := yver_s (k := 50) (n := 0) (x := yx644) (P := ys644.2.2.1) (f := 4000) h (yal_n) yg50 yk644
def ys645 : ySp := (127, 1, (0, [], [], [], [(0, (2, yc 0, yc 0))], []), [(1, [(0, 0, 400)], [], [(yc 2, yc 0, (2, yc 1, yc 0)), (yc 2, yc 1, (0, (1, 0, 0), yc 0)), (yc 2, yc 2, (0, yc 0, yc 0)), (yc 2, yc 4, (0, yc 0, yc 0))], [], [])], [(0, 0, 1), (2, 2, 0), (2, 2, 1), (2, 2, 2), (2, 2, 4)])
def yx645 : yCx := ([ys644], ys645.2.2.2.2, yFP, zm127.2.2.1, zm127.2.2.2.1, zc127, 0, ys645.2.2.2.1, [], [])
theorem yw645 : ywf ys645.2.2.1 = true := by decide +kernel
theorem yk645 : yver yx645 ys645.2.2.1 4000 = true := yverQ_ok (by decide +kernel)
theorem yt645 {E : zHp → Prop} (h : yEF E yFP) : yTs E 2 ys645 := yver_s (k := 127) (n := 1) (x := yx645) (P := ys645.2.2.1) (f := 4000) h (yal_c (yt644 h) (by decide) yw644 (yal_n)) yg127 yk645
def ys648 : ySp := (68, 2, (0, [], [], [], [(0, (2, yc 9, yc 0)), (1, (2, yc 40, yc 0))], []), [(0, [], [], [], [], [])], [(40, 40, 1000)])
def yx648 : yCx := ([], ys648.2.2.2.2, yFP, zm68.2.2.1, zm68.2.2.2.1, zc68, 0, ys648.2.2.2.1, [], [])
theorem yw648 : ywf ys648.2.2.1 = true := by decide +kernel
theorem yk648 : yver yx648 ys648.2.2.1 4000 = true := yverQ_ok (by decide +kernel)
theorem yt648 {E : zHp → Prop} (h : yEF E yFP) : yTs E 1 ys648 := yver_s (k := 68) (n := 0) (x := yx648) (P := ys648.2.2.1) (f := 4000) h (yal_n) yg68 yk648
def ys649 : ySp := (81, 1, (0, [], [], [], [(0, (2, yc 9, yc 0))], []), [(1, [(0, (-2147483648), 2147483647)], [], [], [], [(0, (1, 0, 0), yc 0)])], [])
def yx649 : yCx := ([], ys649.2.2.2.2, yFP, zm81.2.2.1, zm81.2.2.2.1, zc81, 0, ys649.2.2.2.1, [], [])
theorem yw649 : ywf ys649.2.2.1 = true := by decide +kernel
theorem yk649 : yver yx649 ys649.2.2.1 4000 = true := yverQ_ok (by decide +kernel)
theorem yt649 {E : zHp → Prop} (h : yEF E yFP) : yTs E 1 ys649 := yver_s (k := 81) (n := 0) (x := yx649) (P := ys649.2.2.1) (f := 4000) h (yal_n) yg81 yk649
def ys650 : ySp := (68, 2, (0, [], [], [], [(0, (2, yc 9, yc 0)), (1, (2, yc 39, yc 0))], []), [(0, [], [], [], [], [])], [(39, 39, 1000)])
def yx650 : yCx := ([], ys650.2.2.2.2, yFP, zm68.2.2.1, zm68.2.2.2.1, zc68, 0, ys650.2.2.2.1, [], [])
theorem yw650 : ywf ys650.2.2.1 = true := by decide +kernel
theorem yk650 : yver yx650 ys650.2.2.1 4000 = true := yverQ_ok (by decide +kernel)
theorem yt650 {E : zHp → Prop} (h : yEF E yFP) : yTs E 1 ys650 := yver_s (k := 68) (n := 0) (x := yx650) (P := ys650.2.2.1) (f := 4000) h (yal_n) yg68 yk650
def ys651 : ySp := (68, 2, (0, [], [], [], [(0, (2, yc 9, yc 0)), (1, (2, yc 38, yc 0))], []), [(0, [], [], [], [], [])], [(38, 38, 1000)])
def yx651 : yCx := ([], ys651.2.2.2.2, yFP, zm68.2.2.1, zm68.2.2.2.1, zc68, 0, ys651.2.2.2.1, [], [])
theorem yw651 : ywf ys651.2.2.1 = true := by decide +kernel
theorem yk651 : yver yx651 ys651.2.2.1 4000 = true := yverQ_ok (by decide +kernel)
theorem yt651 {E : zHp → Prop} (h : yEF E yFP) : yTs E 1 ys651 := yver_s (k := 68) (n := 0) (x := yx651) (P := ys651.2.2.1) (f := 4000) h (yal_n) yg68 yk651
def ys652 : ySp := (68, 2, (0, [], [], [], [(0, (2, yc 9, yc 0)), (1, (2, yc 37, yc 0))], []), [(0, [], [], [], [], [])], [(37, 37, 1000)])
def yx652 : yCx := ([], ys652.2.2.2.2, yFP, zm68.2.2.1, zm68.2.2.2.1, zc68, 0, ys652.2.2.2.1, [], [])
theorem yw652 : ywf ys652.2.2.1 = true := by decide +kernel
theorem yk652 : yver yx652 ys652.2.2.1 4000 = true := yverQ_ok (by decide +kernel)
theorem yt652 {E : zHp → Prop} (h : yEF E yFP) : yTs E 1 ys652 := yver_s (k := 68) (n := 0) (x := yx652) (P := ys652.2.2.1) (f := 4000) h (yal_n) yg68 yk652
def ys654 : ySp := (14, 1, (0, [], [], [], [(0, (2, yc 14, yc 0))], []), [(1, [(0, 0, 20)], [], [], [], [(0, (1, 0, 0), yc 0)])], [])
def yx654 : yCx := ([], ys654.2.2.2.2, yFP, zm14.2.2.1, zm14.2.2.2.1, zc14, 0, ys654.2.2.2.1, [], [])
theorem yw654 : ywf ys654.2.2.1 = true := by decide +kernel
theorem yk654 : yver yx654 ys654.2.2.1 4000 = true := yverQ_ok (by decide +kernel)
theorem yt654 {E : zHp → Prop} (h : yEF E yFP) : yTs E 1 ys654 := yver_s (k := 14) (n := 0) (x := yx654) (P := ys654.2.2.1) (f := 4000) h (yal_n) yg14 yk654
def ys655 : ySp := (96, 3, (0, [], [], [], [(0, (2, yc 9, yc 0))], []), [(1, [(0, (-2147483648), 2147483647)], [], [], [], [(0, (1, 0, 0), yc 0)])], [])
def yx655 : yCx := ([], ys655.2.2.2.2, yFP, zm96.2.2.1, zm96.2.2.2.1, zc96, 0, ys655.2.2.2.1, [(5, (2, [(0, (-2147483648), 2147483647), (1, 78, 114)], [], [], [(0, (2, yc 9, yc 0)), (1, (0, (1, 0, 0), yc 0)), (2, (0, (1, 1, 0), yc 0))], []), ([((-1), 1)], 115))], [])
theorem yw655 : ywf ys655.2.2.1 = true := by decide +kernel
theorem yk655 : yver yx655 ys655.2.2.1 4000 = true := yverQ_ok (by decide +kernel)
theorem yt655 {E : zHp → Prop} (h : yEF E yFP) : yTs E 1 ys655 := yver_s (k := 96) (n := 0) (x := yx655) (P := ys655.2.2.1) (f := 4000) h (yal_n) yg96 yk655
def ys656 : ySp := (80, 1, (1, [(0, 0, 6)], [], [(yc 10, yc 3, (0, (1, 0, 0), yc 0))], [(0, (2, yc 9, yc 0))], []), [(1, [], [], [(yc 10, yc 3, (0, (1, 0, 0), yc 0))], [], [(0, (1, 0, 0), yc 0)])], [])
def yx656 : yCx := ([], ys656.2.2.2.2, yFP, zm80.2.2.1, zm80.2.2.2.1, zc80, 1, ys656.2.2.2.1, [], [])
theorem yw656 : ywf ys656.2.2.1 = true := by decide +kernel
theorem yk656 : yver yx656 ys656.2.2.1 4000 = true := yverQ_ok (by decide +kernel)
theorem yt656 {E : zHp → Prop} (h : yEF E yFP) : yTs E 1 ys656 := yver_s (k := 80) (n := 0) (x := yx656) (P := ys656.2.2.1) (f := 4000) h (yal_n) yg80 yk656
def ys659 : ySp := (89, 3, (1, [(0, 0, 5)], [], [], [(0, (2, yc 9, yc 0)), (1, (0, (1, 0, 0), yc 0)), (2, (0, yc 4, yc 0))], []), [(2, [(1, (-2147483648), 2147483647)], [], [], [], [(0, (1, 1, 0), yc 0)])], [])
def yx659 : yCx := ([], ys659.2.2.2.2, yFP, zm89.2.2.1, zm89.2.2.2.1, zc89, 1, ys659.2.2.2.1, [], [])
theorem yw659 : ywf ys659.2.2.1 = true := by decide +kernel
theorem yk659 : yver yx659 ys659.2.2.1 4000 = true := yverQ_ok (by decide +kernel)
theorem yt659 {E : zHp → Prop} (h : yEF E yFP) : yTs E 1 ys659 := yver_s (k := 89) (n := 0) (x := yx659) (P := ys659.2.2.1) (f := 4000) h (yal_n) yg89 yk659
def ys660 : ySp := (106, 2, (1, [(0, 0, 5)], [], [], [(0, (2, yc 9, yc 0)), (1, (0, (1, 0, 0), yc 0))], []), [(1, [], [], [], [], [(0, yc 0, yc 0)]), (1, [], [], [], [], [(0, yc 1, yc 0)])], [])
def yx660 : yCx := ([ys659], ys660.2.2.2.2, yFP, zm106.2.2.1, zm106.2.2.2.1, zc106, 1, ys660.2.2.2.1, [], [])
theorem yw660 : ywf ys660.2.2.1 = true := by decide +kernel
theorem yk660 : yver yx660 ys660.2.2.1 4000 = true := yverQ_ok (by decide +kernel)
theorem yt660 {E : zHp → Prop} (h : yEF E yFP) : yTs E 2 ys660 := yver_s (k := 106) (n := 1) (x := yx660) (P := ys660.2.2.1) (f := 4000) h (yal_c (yt659 h) (by decide) yw659 (yal_n)) yg106 yk660
def ys661 : ySp := (110, 3, (0, [], [], [], [(0, (2, yc 9, yc 0))], []), [(1, [(0, (-2147483648), 2147483647)], [], [], [], [(0, (1, 0, 0), yc 0)])], [])
def yx661 : yCx := ([ys656, ys660], ys661.2.2.2.2, yFP, zm110.2.2.1, zm110.2.2.2.1, zc110, 0, ys661.2.2.2.1, [(4, (2, [(0, (-2147483648), 2147483647), (1, 0, 6)], [], [], [(0, (2, yc 9, yc 0)), (1, (0, (1, 0, 0), yc 0)), (2, (0, (1, 1, 0), yc 0))], []), ([((-1), 1)], 7))], [])
theorem yw661 : ywf ys661.2.2.1 = true := by decide +kernel
theorem yk661 : yver yx661 ys661.2.2.1 4000 = true := yverQ_ok (by decide +kernel)
theorem yt661 {E : zHp → Prop} (h : yEF E yFP) : yTs E 3 ys661 := yver_s (k := 110) (n := 2) (x := yx661) (P := ys661.2.2.1) (f := 4000) h (yal_c (yt656 h) (by decide) yw656 (yal_c (yt660 h) (by decide) yw660 (yal_n))) yg110 yk661
def ys662 : ySp := (82, 1, (0, [], [], [], [(0, (2, yc 9, yc 0))], []), [(1, [(0, (-2147483648), 2147483647)], [], [], [], [(0, (1, 0, 0), yc 0)])], [])
def yx662 : yCx := ([], ys662.2.2.2.2, yFP, zm82.2.2.1, zm82.2.2.2.1, zc82, 0, ys662.2.2.2.1, [], [])
theorem yw662 : ywf ys662.2.2.1 = true := by decide +kernel
theorem yk662 : yver yx662 ys662.2.2.1 4000 = true := yverQ_ok (by decide +kernel)
theorem yt662 {E : zHp → Prop} (h : yEF E yFP) : yTs E 1 ys662 := yver_s (k := 82) (n := 0) (x := yx662) (P := ys662.2.2.1) (f := 4000) h (yal_n) yg82 yk662
def ys663 : ySp := (79, 1, (1, [(0, 0, 6)], [], [(yc 10, yc 2, (0, (1, 0, 0), yc 0))], [(0, (2, yc 9, yc 0))], []), [(1, [], [], [(yc 10, yc 2, (0, (1, 0, 0), yc 0))], [], [(0, (1, 0, 0), yc 0)])], [])
def yx663 : yCx := ([], ys663.2.2.2.2, yFP, zm79.2.2.1, zm79.2.2.2.1, zc79, 1, ys663.2.2.2.1, [], [])
theorem yw663 : ywf ys663.2.2.1 = true := by decide +kernel
theorem yk663 : yver yx663 ys663.2.2.1 4000 = true := yverQ_ok (by decide +kernel)
theorem yt663 {E : zHp → Prop} (h : yEF E yFP) : yTs E 1 ys663 := yver_s (k := 79) (n := 0) (x := yx663) (P := ys663.2.2.1) (f := 4000) h (yal_n) yg79 yk663
def ys664 : ySp := (78, 1, (0, [], [], [], [(0, (2, yc 9, yc 0))], []), [(1, [(0, (-2147483648), 2147483647)], [], [], [], [(0, (1, 0, 0), yc 0)])], [])
def yx664 : yCx := ([], ys664.2.2.2.2, yFP, zm78.2.2.1, zm78.2.2.2.1, zc78, 0, ys664.2.2.2.1, [], [])
theorem yw664 : ywf ys664.2.2.1 = true := by decide +kernel
theorem yk664 : yver yx664 ys664.2.2.1 4000 = true := yverQ_ok (by decide +kernel)
theorem yt664 {E : zHp → Prop} (h : yEF E yFP) : yTs E 1 ys664 := yver_s (k := 78) (n := 0) (x := yx664) (P := ys664.2.2.1) (f := 4000) h (yal_n) yg78 yk664
def ys665 : ySp := (77, 1, (1, [(0, 0, 6)], [], [(yc 10, yc 0, (0, (1, 0, 0), yc 0))], [(0, (2, yc 9, yc 0))], []), [(1, [], [], [(yc 10, yc 0, (0, (1, 0, 0), yc 0))], [], [(0, (1, 0, 0), yc 0)])], [])
def yx665 : yCx := ([], ys665.2.2.2.2, yFP, zm77.2.2.1, zm77.2.2.2.1, zc77, 1, ys665.2.2.2.1, [], [])
theorem yw665 : ywf ys665.2.2.1 = true := by decide +kernel
theorem yk665 : yver yx665 ys665.2.2.1 4000 = true := yverQ_ok (by decide +kernel)
theorem yt665 {E : zHp → Prop} (h : yEF E yFP) : yTs E 1 ys665 := yver_s (k := 77) (n := 0) (x := yx665) (P := ys665.2.2.1) (f := 4000) h (yal_n) yg77 yk665
def ys666 : ySp := (154, 2, (1, [(0, (-2147483648), 2147483647)], [], [], [(0, (2, yc 0, yc 0)), (1, (0, (1, 0, 0), yc 0))], []), [(1, [], [], [], [], [(0, yc (-1), yc 0)]), (2, [(0, 0, 11), (1, (-2147483648), 2147483647)], [], [], [], [(0, (1, 1, 0), yc 0)])], [])
def yx666 : yCx := ([ys654, ys665, ys664, ys663, ys656, ys649, ys662, ys655, ys661], ys666.2.2.2.2, yFP, zm154.2.2.1, zm154.2.2.2.1, zc154, 1, ys666.2.2.2.1, [], [])
theorem yw666 : ywf ys666.2.2.1 = true := by decide +kernel
theorem yk666 : yver yx666 ys666.2.2.1 4000 = true := yverQ_ok (by decide +kernel)
theorem yt666 {E : zHp → Prop} (h : yEF E yFP) : yTs E 4 ys666 := yver_s (k := 154) (n := 3) (x := yx666) (P := ys666.2.2.1) (f := 4000) h (yal_c (yt654 h) (by decide) yw654 (yal_c (yt665 h) (by decide) yw665 (yal_c (yt664 h) (by decide) yw664 (yal_c (yt663 h) (by decide) yw663 (yal_c (yt656 h) (by decide) yw656 (yal_c (yt649 h) (by decide) yw649 (yal_c (yt662 h) (by decide) yw662 (yal_c (yt655 h) (by decide) yw655 (yal_c (yt661 h) (by decide) yw661 (yal_n)))))))))) yg154 yk666
def ys668 : ySp := (215, 2, (1, [(0, 0, 5)], [], [], [(0, (2, yc 70, yc 0)), (1, (0, (1, 0, 0), yc 0))], []), [(1, [], [], [], [], [(0, yc 0, yc 0)]), (1, [], [], [], [], [(0, yc 1, yc 0)])], [])
def yx668 : yCx := ([], ys668.2.2.2.2, yFP, zm215.2.2.1, zm215.2.2.2.1, zc215, 1, ys668.2.2.2.1, [], [])
theorem yw668 : ywf ys668.2.2.1 = true := by decide +kernel
theorem yk668 : yver yx668 ys668.2.2.1 4000 = true := yverQ_ok (by decide +kernel)
theorem yt668 {E : zHp → Prop} (h : yEF E yFP) : yTs E 1 ys668 := yver_s (k := 215) (n := 0) (x := yx668) (P := ys668.2.2.1) (f := 4000) h (yal_n) yg215 yk668
def ys669 : ySp := (277, 4, (1, [(0, 0, 63)], [], [], [(0, (2, yc 70, yc 0)), (1, (0, (1, 0, 0), yc 0))], []), [(1, [(0, 12, 63)], [], [], [], [(0, yc (-1), yc 0)]), (3, [(0, 0, 11), (1, (-2147483648), 2147483647), (2, 0, 400)], [], [(yc 70, yc 1, (0, (1, 2, 0), yc 0))], [], [(0, (1, 1, 0), yc 0)])], [])
def yx669 : yCx := ([ys668], ys669.2.2.2.2, yFP, zm277.2.2.1, zm277.2.2.2.1, zc277, 1, ys669.2.2.2.1, [(130, (3, [(0, 8, 8), (1, (-2147483648), 2147483647), (2, 0, 40)], [], [], [(0, (2, yc 70, yc 0)), (1, (0, yc 8, yc 0)), (2, (0, (1, 1, 0), yc 0)), (3, (0, (1, 2, 0), yc 0))], []), ([((-1), 2)], 41)), (92, (3, [(0, 7, 7), (1, (-2147483648), 2147483647), (2, 0, 6)], [], [], [(0, (2, yc 70, yc 0)), (1, (0, yc 7, yc 0)), (2, (0, (1, 1, 0), yc 0)), (3, (0, (1, 2, 0), yc 0))], []), ([((-1), 2)], 48))], [])
theorem yw669 : ywf ys669.2.2.1 = true := by decide +kernel
theorem yk669 : yver yx669 ys669.2.2.1 4000 = true := yverQ_ok (by decide +kernel)
theorem yt669 {E : zHp → Prop} (h : yEF E yFP) : yTs E 2 ys669 := yver_s (k := 277) (n := 1) (x := yx669) (P := ys669.2.2.1) (f := 4000) h (yal_c (yt668 h) (by decide) yw668 (yal_n)) yg277 yk669
def ys670 : ySp := (277, 4, (1, [(0, (-2147483648), 2147483647)], [], [], [(0, (2, yc 70, yc 0)), (1, (0, (1, 0, 0), yc 0))], []), [(1, [], [], [], [], [(0, yc (-1), yc 0)]), (3, [(0, 0, 11), (1, (-2147483648), 2147483647), (2, 0, 400)], [], [(yc 70, yc 1, (0, (1, 2, 0), yc 0))], [], [(0, (1, 1, 0), yc 0)])], [])
def yx670 : yCx := ([ys668], ys670.2.2.2.2, yFP, zm277.2.2.1, zm277.2.2.2.1, zc277, 1, ys670.2.2.2.1, [(130, (3, [(0, 8, 8), (1, (-2147483648), 2147483647), (2, 0, 40)], [], [], [(0, (2, yc 70, yc 0)), (1, (0, yc 8, yc 0)), (2, (0, (1, 1, 0), yc 0)), (3, (0, (1, 2, 0), yc 0))], []), ([((-1), 2)], 41)), (92, (3, [(0, 7, 7), (1, (-2147483648), 2147483647), (2, 0, 6)], [], [], [(0, (2, yc 70, yc 0)), (1, (0, yc 7, yc 0)), (2, (0, (1, 1, 0), yc 0)), (3, (0, (1, 2, 0), yc 0))], []), ([((-1), 2)], 48))], [])
theorem yw670 : ywf ys670.2.2.1 = true := by decide +kernel
theorem yk670 : yver yx670 ys670.2.2.1 4000 = true := yverQ_ok (by decide +kernel)
theorem yt670 {E : zHp → Prop} (h : yEF E yFP) : yTs E 2 ys670 := yver_s (k := 277) (n := 1) (x := yx670) (P := ys670.2.2.1) (f := 4000) h (yal_c (yt668 h) (by decide) yw668 (yal_n)) yg277 yk670
def ys671 : ySp := (76, 1, (0, [], [], [], [(0, (2, yc 9, yc 0))], []), [(0, [], [], [], [], [(0, yc 0, yc 0)]), (0, [], [], [], [], [(0, yc 1, yc 0)])], [])
def yx671 : yCx := ([ys665], ys671.2.2.2.2, yFP, zm76.2.2.1, zm76.2.2.2.1, zc76, 0, ys671.2.2.2.1, [], [])
theorem yw671 : ywf ys671.2.2.1 = true := by decide +kernel
theorem yk671 : yver yx671 ys671.2.2.1 4000 = true := yverQ_ok (by decide +kernel)
theorem yt671 {E : zHp → Prop} (h : yEF E yFP) : yTs E 2 ys671 := yver_s (k := 76) (n := 1) (x := yx671) (P := ys671.2.2.1) (f := 4000) h (yal_c (yt665 h) (by decide) yw665 (yal_n)) yg76 yk671
def ys672 : ySp := (70, 2, (0, [], [], [], [(0, (2, yc 11, yc 0)), (1, (2, yc 9, yc 0))], []), [(0, [], [], [], [], [])], [(12, 12, 1000)])
def yx672 : yCx := ([], ys672.2.2.2.2, yFP, zm70.2.2.1, zm70.2.2.2.1, zc70, 0, ys672.2.2.2.1, [], [])
theorem yw672 : ywf ys672.2.2.1 = true := by decide +kernel
theorem yk672 : yver yx672 ys672.2.2.1 4000 = true := yverQ_ok (by decide +kernel)
theorem yt672 {E : zHp → Prop} (h : yEF E yFP) : yTs E 1 ys672 := yver_s (k := 70) (n := 0) (x := yx672) (P := ys672.2.2.1) (f := 4000) h (yal_n) yg70 yk672
def ys673 : ySp := (79, 1, (1, [(0, 0, 6)], [], [(yc 12, yc 2, (0, (1, 0, 0), yc 0))], [(0, (2, yc 11, yc 0))], []), [(1, [], [], [(yc 12, yc 2, (0, (1, 0, 0), yc 0))], [], [(0, (1, 0, 0), yc 0)])], [])
def yx673 : yCx := ([], ys673.2.2.2.2, yFP, zm79.2.2.1, zm79.2.2.2.1, zc79, 1, ys673.2.2.2.1, [], [])
theorem yw673 : ywf ys673.2.2.1 = true := by decide +kernel
theorem yk673 : yver yx673 ys673.2.2.1 4000 = true := yverQ_ok (by decide +kernel)
theorem yt673 {E : zHp → Prop} (h : yEF E yFP) : yTs E 1 ys673 := yver_s (k := 79) (n := 0) (x := yx673) (P := ys673.2.2.1) (f := 4000) h (yal_n) yg79 yk673
def ys674 : ySp := (11, 1, (0, [], [], [], [(0, (2, yc 43, yc 0))], []), [(1, [(0, 0, 2147483647)], [], [], [], [(0, (1, 0, 0), yc 0)])], [(43, 43, 0)])
def yx674 : yCx := ([], ys674.2.2.2.2, yFP, zm11.2.2.1, zm11.2.2.2.1, zc11, 0, ys674.2.2.2.1, [], [])
theorem yw674 : ywf ys674.2.2.1 = true := by decide +kernel
theorem yk674 : yver yx674 ys674.2.2.1 4000 = true := yverQ_ok (by decide +kernel)
theorem yt674 {E : zHp → Prop} (h : yEF E yFP) : yTs E 1 ys674 := yver_s (k := 11) (n := 0) (x := yx674) (P := ys674.2.2.1) (f := 4000) h (yal_n) yg11 yk674
def ys675 : ySp := (77, 1, (0, [], [], [(yc 12, yc 0, (0, yc 6, yc 0))], [(0, (2, yc 11, yc 0))], []), [(0, [], [], [(yc 12, yc 0, (0, yc 6, yc 0))], [], [(0, yc 6, yc 0)])], [])
def yx675 : yCx := ([], ys675.2.2.2.2, yFP, zm77.2.2.1, zm77.2.2.2.1, zc77, 0, ys675.2.2.2.1, [], [])
theorem yw675 : ywf ys675.2.2.1 = true := by decide +kernel
theorem yk675 : yver yx675 ys675.2.2.1 4000 = true := yverQ_ok (by decide +kernel)
theorem yt675 {E : zHp → Prop} (h : yEF E yFP) : yTs E 1 ys675 := yver_s (k := 77) (n := 0) (x := yx675) (P := ys675.2.2.1) (f := 4000) h (yal_n) yg77 yk675
def ys684 : ySp := (91, 2, (1, [(0, 0, 5)], [], [], [(0, (2, yc 11, yc 0)), (1, (0, (1, 0, 0), yc 0))], []), [(2, [(1, 0, 63)], [], [], [], [(0, (1, 1, 0), yc 0)])], [])
def yx684 : yCx := ([], ys684.2.2.2.2, yFP, zm91.2.2.1, zm91.2.2.2.1, zc91, 1, ys684.2.2.2.1, [], [])
theorem yw684 : ywf ys684.2.2.1 = true := by decide +kernel
theorem yk684 : yver yx684 ys684.2.2.1 4000 = true := yverQ_ok (by decide +kernel)
theorem yt684 {E : zHp → Prop} (h : yEF E yFP) : yTs E 1 ys684 := yver_s (k := 91) (n := 0) (x := yx684) (P := ys684.2.2.1) (f := 4000) h (yal_n) yg91 yk684
def ys685 : ySp := (92, 3, (2, [(0, 0, 5), (1, 0, 5)], [], [], [(0, (2, yc 11, yc 0)), (1, (0, (1, 0, 0), yc 0)), (2, (0, (1, 1, 0), yc 0))], []), [(2, [], [], [], [], [(0, yc 0, yc 0)]), (2, [], [], [], [], [(0, yc 1, yc 0)])], [])
def yx685 : yCx := ([ys684], ys685.2.2.2.2, yFP, zm92.2.2.1, zm92.2.2.2.1, zc92, 2, ys685.2.2.2.1, [], [])
theorem yw685 : ywf ys685.2.2.1 = true := by decide +kernel
theorem yk685 : yver yx685 ys685.2.2.1 4000 = true := yverQ_ok (by decide +kernel)
theorem yt685 {E : zHp → Prop} (h : yEF E yFP) : yTs E 2 ys685 := yver_s (k := 92) (n := 1) (x := yx685) (P := ys685.2.2.1) (f := 4000) h (yal_c (yt684 h) (by decide) yw684 (yal_n)) yg92 yk685
def ys687 : ySp := (94, 3, (2, [(0, 0, 5), (1, 0, 5)], [], [], [(0, (2, yc 11, yc 0)), (1, (0, (1, 0, 0), yc 0)), (2, (0, (1, 1, 0), yc 0))], []), [(3, [(2, (-2147483648), 2147483647)], [], [], [], [(0, (1, 2, 0), yc 0)])], [])
def yx687 : yCx := ([], ys687.2.2.2.2, yFP, zm94.2.2.1, zm94.2.2.2.1, zc94, 2, ys687.2.2.2.1, [], [])
theorem yw687 : ywf ys687.2.2.1 = true := by decide +kernel
theorem yk687 : yver yx687 ys687.2.2.1 4000 = true := yverQ_ok (by decide +kernel)
theorem yt687 {E : zHp → Prop} (h : yEF E yFP) : yTs E 1 ys687 := yver_s (k := 94) (n := 0) (x := yx687) (P := ys687.2.2.1) (f := 4000) h (yal_n) yg94 yk687
def ys688 : ySp := (75, 4, (3, [(0, 0, 5), (1, 0, 5), (2, (-2147483648), 2147483647)], [], [], [(0, (2, yc 11, yc 0)), (1, (0, (1, 0, 0), yc 0)), (2, (0, (1, 1, 0), yc 0)), (3, (0, (1, 2, 0), yc 0))], []), [(3, [], [], [], [], [])], [(12, 12, 1000)])
def yx688 : yCx := ([], ys688.2.2.2.2, yFP, zm75.2.2.1, zm75.2.2.2.1, zc75, 3, ys688.2.2.2.1, [], [])
theorem yw688 : ywf ys688.2.2.1 = true := by decide +kernel
theorem yk688 : yver yx688 ys688.2.2.1 4000 = true := yverQ_ok (by decide +kernel)
theorem yt688 {E : zHp → Prop} (h : yEF E yFP) : yTs E 1 ys688 := yver_s (k := 75) (n := 0) (x := yx688) (P := ys688.2.2.1) (f := 4000) h (yal_n) yg75 yk688
def ys692 : ySp := (77, 1, (0, [], [], [(yc 12, yc 0, (0, yc 5, yc 0))], [(0, (2, yc 11, yc 0))], []), [(0, [], [], [(yc 12, yc 0, (0, yc 5, yc 0))], [], [(0, yc 5, yc 0)])], [])
def yx692 : yCx := ([], ys692.2.2.2.2, yFP, zm77.2.2.1, zm77.2.2.2.1, zc77, 0, ys692.2.2.2.1, [], [])
theorem yw692 : ywf ys692.2.2.1 = true := by decide +kernel
theorem yk692 : yver yx692 ys692.2.2.1 4000 = true := yverQ_ok (by decide +kernel)
theorem yt692 {E : zHp → Prop} (h : yEF E yFP) : yTs E 1 ys692 := yver_s (k := 77) (n := 0) (x := yx692) (P := ys692.2.2.1) (f := 4000) h (yal_n) yg77 yk692
def ys693 : ySp := (77, 1, (0, [], [], [(yc 12, yc 0, (0, yc 4, yc 0))], [(0, (2, yc 11, yc 0))], []), [(0, [], [], [(yc 12, yc 0, (0, yc 4, yc 0))], [], [(0, yc 4, yc 0)])], [])
def yx693 : yCx := ([], ys693.2.2.2.2, yFP, zm77.2.2.1, zm77.2.2.2.1, zc77, 0, ys693.2.2.2.1, [], [])
theorem yw693 : ywf ys693.2.2.1 = true := by decide +kernel
theorem yk693 : yver yx693 ys693.2.2.1 4000 = true := yverQ_ok (by decide +kernel)
theorem yt693 {E : zHp → Prop} (h : yEF E yFP) : yTs E 1 ys693 := yver_s (k := 77) (n := 0) (x := yx693) (P := ys693.2.2.1) (f := 4000) h (yal_n) yg77 yk693
def ys694 : ySp := (77, 1, (0, [], [], [(yc 12, yc 0, (0, yc 3, yc 0))], [(0, (2, yc 11, yc 0))], []), [(0, [], [], [(yc 12, yc 0, (0, yc 3, yc 0))], [], [(0, yc 3, yc 0)])], [])
def yx694 : yCx := ([], ys694.2.2.2.2, yFP, zm77.2.2.1, zm77.2.2.2.1, zc77, 0, ys694.2.2.2.1, [], [])
theorem yw694 : ywf ys694.2.2.1 = true := by decide +kernel
theorem yk694 : yver yx694 ys694.2.2.1 4000 = true := yverQ_ok (by decide +kernel)
theorem yt694 {E : zHp → Prop} (h : yEF E yFP) : yTs E 1 ys694 := yver_s (k := 77) (n := 0) (x := yx694) (P := ys694.2.2.1) (f := 4000) h (yal_n) yg77 yk694
def ys695 : ySp := (77, 1, (0, [], [], [(yc 12, yc 0, (0, yc 2, yc 0))], [(0, (2, yc 11, yc 0))], []), [(0, [], [], [(yc 12, yc 0, (0, yc 2, yc 0))], [], [(0, yc 2, yc 0)])], [])
def yx695 : yCx := ([], ys695.2.2.2.2, yFP, zm77.2.2.1, zm77.2.2.2.1, zc77, 0, ys695.2.2.2.1, [], [])
theorem yw695 : ywf ys695.2.2.1 = true := by decide +kernel
theorem yk695 : yver yx695 ys695.2.2.1 4000 = true := yverQ_ok (by decide +kernel)
theorem yt695 {E : zHp → Prop} (h : yEF E yFP) : yTs E 1 ys695 := yver_s (k := 77) (n := 0) (x := yx695) (P := ys695.2.2.1) (f := 4000) h (yal_n) yg77 yk695
def ys696 : ySp := (77, 1, (0, [], [], [(yc 12, yc 0, (0, yc 1, yc 0))], [(0, (2, yc 11, yc 0))], []), [(0, [], [], [(yc 12, yc 0, (0, yc 1, yc 0))], [], [(0, yc 1, yc 0)])], [])
def yx696 : yCx := ([], ys696.2.2.2.2, yFP, zm77.2.2.1, zm77.2.2.2.1, zc77, 0, ys696.2.2.2.1, [], [])
theorem yw696 : ywf ys696.2.2.1 = true := by decide +kernel
theorem yk696 : yver yx696 ys696.2.2.1 4000 = true := yverQ_ok (by decide +kernel)
theorem yt696 {E : zHp → Prop} (h : yEF E yFP) : yTs E 1 ys696 := yver_s (k := 77) (n := 0) (x := yx696) (P := ys696.2.2.1) (f := 4000) h (yal_n) yg77 yk696
def ys697 : ySp := (77, 1, (0, [], [], [(yc 12, yc 0, (0, yc 0, yc 0))], [(0, (2, yc 11, yc 0))], []), [(0, [], [], [(yc 12, yc 0, (0, yc 0, yc 0))], [], [(0, yc 0, yc 0)])], [])
def yx697 : yCx := ([], ys697.2.2.2.2, yFP, zm77.2.2.1, zm77.2.2.2.1, zc77, 0, ys697.2.2.2.1, [], [])
theorem yw697 : ywf ys697.2.2.1 = true := by decide +kernel
theorem yk697 : yver yx697 ys697.2.2.1 4000 = true := yverQ_ok (by decide +kernel)
theorem yt697 {E : zHp → Prop} (h : yEF E yFP) : yTs E 1 ys697 := yver_s (k := 77) (n := 0) (x := yx697) (P := ys697.2.2.1) (f := 4000) h (yal_n) yg77 yk697
def ys698 : ySp := (87, 3, (1, [(0, 0, 5)], [], [], [(0, (2, yc 11, yc 0)), (1, (0, (1, 0, 0), yc 0)), (2, (0, yc 0, yc 0))], []), [(2, [(1, 0, 5)], [], [], [], [(0, (1, 1, 0), yc 0)])], [])
def yx698 : yCx := ([], ys698.2.2.2.2, yFP, zm87.2.2.1, zm87.2.2.2.1, zc87, 1, ys698.2.2.2.1, [], [])
theorem yw698 : ywf ys698.2.2.1 = true := by decide +kernel
theorem yk698 : yver yx698 ys698.2.2.1 4000 = true := yverQ_ok (by decide +kernel)
theorem yt698 {E : zHp → Prop} (h : yEF E yFP) : yTs E 1 ys698 := yver_s (k := 87) (n := 0) (x := yx698) (P := ys698.2.2.1) (f := 4000) h (yal_n) yg87 yk698
def ys699 : ySp := (88, 4, (2, [(0, 0, 5), (1, 0, 5)], [], [], [(0, (2, yc 11, yc 0)), (1, (0, (1, 0, 0), yc 0)), (2, (0, yc 0, yc 0)), (3, (0, (1, 1, 0), yc 0))], []), [(2, [], [], [], [], [])], [(12, 12, 1000)])
def yx699 : yCx := ([], ys699.2.2.2.2, yFP, zm88.2.2.1, zm88.2.2.2.1, zc88, 2, ys699.2.2.2.1, [], [])
theorem yw699 : ywf ys699.2.2.1 = true := by decide +kernel
theorem yk699 : yver yx699 ys699.2.2.1 4000 = true := yverQ_ok (by decide +kernel)
theorem yt699 {E : zHp → Prop} (h : yEF E yFP) : yTs E 1 ys699 := yver_s (k := 88) (n := 0) (x := yx699) (P := ys699.2.2.1) (f := 4000) h (yal_n) yg88 yk699
def ys700 : ySp := (88, 4, (2, [(0, 0, 5), (1, 0, 5)], [], [], [(0, (2, yc 11, yc 0)), (1, (0, (1, 0, 0), yc 0)), (2, (0, yc 3, yc 0)), (3, (0, (1, 1, 0), yc 0))], []), [(2, [], [], [], [], [])], [(12, 12, 1000)])
def yx700 : yCx := ([], ys700.2.2.2.2, yFP, zm88.2.2.1, zm88.2.2.2.1, zc88, 2, ys700.2.2.2.1, [], [])
theorem yw700 : ywf ys700.2.2.1 = true := by decide +kernel
theorem yk700 : yver yx700 ys700.2.2.1 4000 = true := yverQ_ok (by decide +kernel)
theorem yt700 {E : zHp → Prop} (h : yEF E yFP) : yTs E 1 ys700 := yver_s (k := 88) (n := 0) (x := yx700) (P := ys700.2.2.1) (f := 4000) h (yal_n) yg88 yk700
def ys701 : ySp := (88, 4, (2, [(0, 0, 5), (1, 0, 1)], [], [], [(0, (2, yc 11, yc 0)), (1, (0, (1, 0, 0), yc 0)), (2, (0, yc 4, yc 0)), (3, (0, (1, 1, 0), yc 0))], []), [(2, [], [], [], [], [])], [(12, 12, 1000)])
def yx701 : yCx := ([], ys701.2.2.2.2, yFP, zm88.2.2.1, zm88.2.2.2.1, zc88, 2, ys701.2.2.2.1, [], [])
theorem yw701 : ywf ys701.2.2.1 = true := by decide +kernel
theorem yk701 : yver yx701 ys701.2.2.1 4000 = true := yverQ_ok (by decide +kernel)
theorem yt701 {E : zHp → Prop} (h : yEF E yFP) : yTs E 1 ys701 := yver_s (k := 88) (n := 0) (x := yx701) (P := ys701.2.2.1) (f := 4000) h (yal_n) yg88 yk701
def ys702 : ySp := (88, 4, (2, [(0, 0, 5), (1, 0, 1)], [], [], [(0, (2, yc 11, yc 0)), (1, (0, (1, 0, 0), yc 0)), (2, (0, yc 5, yc 0)), (3, (0, (1, 1, 0), yc 0))], []), [(2, [], [], [], [], [])], [(12, 12, 1000)])
def yx702 : yCx := ([], ys702.2.2.2.2, yFP, zm88.2.2.1, zm88.2.2.2.1, zc88, 2, ys702.2.2.2.1, [], [])
theorem yw702 : ywf ys702.2.2.1 = true := by decide +kernel
theorem yk702 : yver yx702 ys702.2.2.1 4000 = true := yverQ_ok (by decide +kernel)
theorem yt702 {E : zHp → Prop} (h : yEF E yFP) : yTs E 1 ys702 := yver_s (k := 88) (n := 0) (x := yx702) (P := ys702.2.2.1) (f := 4000) h (yal_n) yg88 yk702
def ys703 : ySp := (104, 3, (2, [(0, 0, 5), (1, 0, 5)], [], [], [(0, (2, yc 11, yc 0)), (1, (0, (1, 0, 0), yc 0)), (2, (0, (1, 1, 0), yc 0))], []), [(2, [], [], [], [], [])], [(12, 12, 1000)])
def yx703 : yCx := ([ys701, ys702, ys699, ys700], ys703.2.2.2.2, yFP, zm104.2.2.1, zm104.2.2.2.1, zc104, 2, ys703.2.2.2.1, [], [])
theorem yw703 : ywf ys703.2.2.1 = true := by decide +kernel
theorem yk703 : yver yx703 ys703.2.2.1 4000 = true := yverQ_ok (by decide +kernel)
theorem yt703 {E : zHp → Prop} (h : yEF E yFP) : yTs E 2 ys703 := yver_s (k := 104) (n := 1) (x := yx703) (P := ys703.2.2.1) (f := 4000) h (yal_c (yt701 h) (by decide) yw701 (yal_c (yt702 h) (by decide) yw702 (yal_c (yt699 h) (by decide) yw699 (yal_c (yt700 h) (by decide) yw700 (yal_n))))) yg104 yk703
def ys704 : ySp := (103, 2, (1, [(0, 0, 5)], [], [], [(0, (2, yc 11, yc 0)), (1, (0, (1, 0, 0), yc 0))], []), [(1, [], [], [], [], [])], [(12, 12, 1000)])
def yx704 : yCx := ([ys698, ys703], ys704.2.2.2.2, yFP, zm103.2.2.1, zm103.2.2.2.1, zc103, 1, ys704.2.2.2.1, [], [])
theorem yw704 : ywf ys704.2.2.1 = true := by decide +kernel
theorem yk704 : yver yx704 ys704.2.2.1 4000 = true := yverQ_ok (by decide +kernel)
theorem yt704 {E : zHp → Prop} (h : yEF E yFP) : yTs E 3 ys704 := yver_s (k := 103) (n := 2) (x := yx704) (P := ys704.2.2.1) (f := 4000) h (yal_c (yt698 h) (by decide) yw698 (yal_c (yt703 h) (by decide) yw703 (yal_n))) yg103 yk704
def ys705 : ySp := (87, 3, (1, [(0, 0, 5)], [], [], [(0, (2, yc 11, yc 0)), (1, (0, (1, 0, 0), yc 0)), (2, (0, yc 3, yc 0))], []), [(2, [(1, 0, 5)], [], [], [], [(0, (1, 1, 0), yc 0)])], [])
def yx705 : yCx := ([], ys705.2.2.2.2, yFP, zm87.2.2.1, zm87.2.2.2.1, zc87, 1, ys705.2.2.2.1, [], [])
theorem yw705 : ywf ys705.2.2.1 = true := by decide +kernel
theorem yk705 : yver yx705 ys705.2.2.1 4000 = true := yverQ_ok (by decide +kernel)
theorem yt705 {E : zHp → Prop} (h : yEF E yFP) : yTs E 1 ys705 := yver_s (k := 87) (n := 0) (x := yx705) (P := ys705.2.2.1) (f := 4000) h (yal_n) yg87 yk705
def ys706 : ySp := (101, 3, (2, [(0, 0, 5), (1, 0, 5)], [], [], [(0, (2, yc 11, yc 0)), (1, (0, (1, 0, 0), yc 0)), (2, (0, (1, 1, 0), yc 0))], []), [(2, [], [], [], [], [(0, yc 0, yc 0)]), (2, [], [], [], [], [(0, yc 1, yc 0)])], [])
def yx706 : yCx := ([ys698, ys705, ys685], ys706.2.2.2.2, yFP, zm101.2.2.1, zm101.2.2.2.1, zc101, 2, ys706.2.2.2.1, [], [])
theorem yw706 : ywf ys706.2.2.1 = true := by decide +kernel
theorem yk706 : yver yx706 ys706.2.2.1 4000 = true := yverQ_ok (by decide +kernel)
theorem yt706 {E : zHp → Prop} (h : yEF E yFP) : yTs E 3 ys706 := yver_s (k := 101) (n := 2) (x := yx706) (P := ys706.2.2.1) (f := 4000) h (yal_c (yt698 h) (by decide) yw698 (yal_c (yt705 h) (by decide) yw705 (yal_c (yt685 h) (by decide) yw685 (yal_n)))) yg101 yk706
def ys707 : ySp := (87, 3, (1, [(0, 0, 5)], [], [], [(0, (2, yc 11, yc 0)), (1, (0, (1, 0, 0), yc 0)), (2, (0, yc 4, yc 0))], []), [(2, [(1, (-2147483648), 2147483647)], [], [], [], [(0, (1, 1, 0), yc 0)])], [])
def yx707 : yCx := ([], ys707.2.2.2.2, yFP, zm87.2.2.1, zm87.2.2.2.1, zc87, 1, ys707.2.2.2.1, [], [])
theorem yw707 : ywf ys707.2.2.1 = true := by decide +kernel
theorem yk707 : yver yx707 ys707.2.2.1 4000 = true := yverQ_ok (by decide +kernel)
theorem yt707 {E : zHp → Prop} (h : yEF E yFP) : yTs E 1 ys707 := yver_s (k := 87) (n := 0) (x := yx707) (P := ys707.2.2.1) (f := 4000) h (yal_n) yg87 yk707
def ys708 : ySp := (88, 4, (2, [(0, 0, 5), (1, (-2147483648), 2147483647)], [], [], [(0, (2, yc 11, yc 0)), (1, (0, (1, 0, 0), yc 0)), (2, (0, yc 4, yc 0)), (3, (0, (1, 1, 0), yc 0))], []), [(2, [], [], [], [], [])], [(12, 12, 1000)])
def yx708 : yCx := ([], ys708.2.2.2.2, yFP, zm88.2.2.1, zm88.2.2.2.1, zc88, 2, ys708.2.2.2.1, [], [])
theorem yw708 : ywf ys708.2.2.1 = true := by decide +kernel
theorem yk708 : yver yx708 ys708.2.2.1 4000 = true := yverQ_ok (by decide +kernel)
theorem yt708 {E : zHp → Prop} (h : yEF E yFP) : yTs E 1 ys708 := yver_s (k := 88) (n := 0) (x := yx708) (P := ys708.2.2.1) (f := 4000) h (yal_n) yg88 yk708
def ys709 : ySp := (102, 4, (2, [(0, 0, 5), (1, 0, 5)], [], [], [(0, (2, yc 11, yc 0)), (1, (0, (1, 0, 0), yc 0)), (2, (0, (1, 1, 0), yc 0))], []), [(2, [], [], [], [], [])], [(12, 12, 1000)])
def yx709 : yCx := ([ys688, ys705, ys707, ys700, ys708, ys687], ys709.2.2.2.2, yFP, zm102.2.2.1, zm102.2.2.2.1, zc102, 2, ys709.2.2.2.1, [], [])
theorem yw709 : ywf ys709.2.2.1 = true := by decide +kernel
theorem yk709 : yver yx709 ys709.2.2.1 4000 = true := yverQ_ok (by decide +kernel)
theorem yt709 {E : zHp → Prop} (h : yEF E yFP) : yTs E 2 ys709 := yver_s (k := 102) (n := 1) (x := yx709) (P := ys709.2.2.1) (f := 4000) h (yal_c (yt688 h) (by decide) yw688 (yal_c (yt705 h) (by decide) yw705 (yal_c (yt707 h) (by decide) yw707 (yal_c (yt700 h) (by decide) yw700 (yal_c (yt708 h) (by decide) yw708 (yal_c (yt687 h) (by decide) yw687 (yal_n))))))) yg102 yk709
def ys710 : ySp := (12, 5, (0, [], [], [], [(0, (2, yc 43, yc 0)), (1, (2, yc 11, yc 0))], []), [(1, [(0, (-2147483648), 2147483647)], [], [], [], [(0, (1, 0, 0), yc 0)])], [(12, 12, 1000), (43, 43, 0)])
def yx710 : yCx := ([ys674, ys675, ys692, ys693, ys694, ys695, ys696, ys697, ys673, ys706, ys709, ys704], ys710.2.2.2.2, yFP, zm12.2.2.1, zm12.2.2.2.1, zc12, 0, ys710.2.2.2.1, [(4, (2, [(0, (-2147483648), 2147483647), (1, 0, 6)], [], [], [(0, (2, yc 43, yc 0)), (1, (2, yc 11, yc 0)), (2, (0, (1, 0, 0), yc 0)), (3, (0, (1, 1, 0), yc 0))], []), ([((-1), 1)], 7))], [(12, 1, 12, 0)])
theorem yw710 : ywf ys710.2.2.1 = true := by decide +kernel
theorem yk710 : yver yx710 ys710.2.2.1 4000 = true := yverQ_ok (by decide +kernel)
theorem yt710 {E : zHp → Prop} (h : yEF E yFP) : yTs E 4 ys710 := yver_s (k := 12) (n := 3) (x := yx710) (P := ys710.2.2.1) (f := 4000) h (yal_c (yt674 h) (by decide) yw674 (yal_c (yt675 h) (by decide) yw675 (yal_c (yt692 h) (by decide) yw692 (yal_c (yt693 h) (by decide) yw693 (yal_c (yt694 h) (by decide) yw694 (yal_c (yt695 h) (by decide) yw695 (yal_c (yt696 h) (by decide) yw696 (yal_c (yt697 h) (by decide) yw697 (yal_c (yt673 h) (by decide) yw673 (yal_c (yt706 h) (by decide) yw706 (yal_c (yt709 h) (by decide) yw709 (yal_c (yt704 h) (by decide) yw704 (yal_n))))))))))))) yg12 yk710
def ys711 : ySp := (80, 1, (1, [(0, 0, 6)], [], [(yc 12, yc 3, (0, (1, 0, 0), yc 0))], [(0, (2, yc 11, yc 0))], []), [(1, [], [], [(yc 12, yc 3, (0, (1, 0, 0), yc 0))], [], [(0, (1, 0, 0), yc 0)])], [])
def yx711 : yCx := ([], ys711.2.2.2.2, yFP, zm80.2.2.1, zm80.2.2.2.1, zc80, 1, ys711.2.2.2.1, [], [])
theorem yw711 : ywf ys711.2.2.1 = true := by decide +kernel
theorem yk711 : yver yx711 ys711.2.2.1 4000 = true := yverQ_ok (by decide +kernel)
theorem yt711 {E : zHp → Prop} (h : yEF E yFP) : yTs E 1 ys711 := yver_s (k := 80) (n := 0) (x := yx711) (P := ys711.2.2.1) (f := 4000) h (yal_n) yg80 yk711
def ys720 : ySp := (78, 1, (0, [], [], [], [(0, (2, yc 11, yc 0))], []), [(1, [(0, (-2147483648), 2147483647)], [], [], [], [(0, (1, 0, 0), yc 0)])], [])
def yx720 : yCx := ([], ys720.2.2.2.2, yFP, zm78.2.2.1, zm78.2.2.2.1, zc78, 0, ys720.2.2.2.1, [], [])
theorem yw720 : ywf ys720.2.2.1 = true := by decide +kernel
theorem yk720 : yver yx720 ys720.2.2.1 4000 = true := yverQ_ok (by decide +kernel)
theorem yt720 {E : zHp → Prop} (h : yEF E yFP) : yTs E 1 ys720 := yver_s (k := 78) (n := 0) (x := yx720) (P := ys720.2.2.1) (f := 4000) h (yal_n) yg78 yk720
def ys732 : ySp := (87, 3, (1, [(0, 0, 5)], [], [], [(0, (2, yc 11, yc 0)), (1, (0, (1, 0, 0), yc 0)), (2, (0, yc 1, yc 0))], []), [(2, [(1, (-2147483648), 2147483647)], [], [], [], [(0, (1, 1, 0), yc 0)])], [])
def yx732 : yCx := ([], ys732.2.2.2.2, yFP, zm87.2.2.1, zm87.2.2.2.1, zc87, 1, ys732.2.2.2.1, [], [])
theorem yw732 : ywf ys732.2.2.1 = true := by decide +kernel
theorem yk732 : yver yx732 ys732.2.2.1 4000 = true := yverQ_ok (by decide +kernel)
theorem yt732 {E : zHp → Prop} (h : yEF E yFP) : yTs E 1 ys732 := yver_s (k := 87) (n := 0) (x := yx732) (P := ys732.2.2.1) (f := 4000) h (yal_n) yg87 yk732
def ys733 : ySp := (97, 2, (1, [(0, 0, 5)], [], [], [(0, (2, yc 11, yc 0)), (1, (0, (1, 0, 0), yc 0))], []), [(1, [], [], [], [], [(0, yc 0, yc 0)]), (1, [], [], [], [], [(0, yc 1, yc 0)])], [])
def yx733 : yCx := ([ys698, ys705], ys733.2.2.2.2, yFP, zm97.2.2.1, zm97.2.2.2.1, zc97, 1, ys733.2.2.2.1, [], [])
theorem yw733 : ywf ys733.2.2.1 = true := by decide +kernel
theorem yk733 : yver yx733 ys733.2.2.1 4000 = true := yverQ_ok (by decide +kernel)
theorem yt733 {E : zHp → Prop} (h : yEF E yFP) : yTs E 2 ys733 := yver_s (k := 97) (n := 1) (x := yx733) (P := ys733.2.2.1) (f := 4000) h (yal_c (yt698 h) (by decide) yw698 (yal_c (yt705 h) (by decide) yw705 (yal_n))) yg97 yk733
end
section
def ys734 : ySp := (87, 3, (1, [(0, 0, 5)], [], [], [(0, (2, yc 11, yc 0)), (1, (0, (1, 0, 0), yc 0)), (2, (0, yc 2, yc 0))], []), [(2, [(1, (-2147483648), 2147483647)], [], [], [], [(0, (1, 1, 0), yc 0)])], [])
def yx734 : yCx := ([], ys734.2.2.2.2, yFP, zm87.2.2.1, zm87.2.2.2.1, zc87, 1, ys734.2.2.2.1, [], [])
theorem yw734 : ywf ys734.2.2.1 = true := by decide +kernel
theorem yk734 : yver yx734 ys734.2.2.1 4000 = true := yverQ_ok (by decide +kernel)
theorem yt734 {E : zHp → Prop} (h : yEF E yFP) : yTs E 1 ys734 := yver_s (k := 87) (n := 0) (x := yx734) (P := ys734.2.2.1) (f := 4000) h (yal_n) yg87 yk734
def ys735 : ySp := (87, 3, (1, [(0, 0, 5)], [], [], [(0, (2, yc 11, yc 0)), (1, (0, (1, 0, 0), yc 0)), (2, (0, yc 5, yc 0))], []), [(2, [(1, (-2147483648), 2147483647)], [], [], [], [(0, (1, 1, 0), yc 0)])], [])
def yx735 : yCx := ([], ys735.2.2.2.2, yFP, zm87.2.2.1, zm87.2.2.2.1, zc87, 1, ys735.2.2.2.1, [], [])
theorem yw735 : ywf ys735.2.2.1 = true := by decide +kernel
theorem yk735 : yver yx735 ys735.2.2.1 4000 = true := yverQ_ok (by decide +kernel)
theorem yt735 {E : zHp → Prop} (h : yEF E yFP) : yTs E 1 ys735 := yver_s (k := 87) (n := 0) (x := yx735) (P := ys735.2.2.1) (f := 4000) h (yal_n) yg87 yk735
def ys736 : ySp := (98, 2, (1, [(0, 0, 5)], [], [], [(0, (2, yc 11, yc 0)), (1, (0, (1, 0, 0), yc 0))], []), [(2, [(1, 0, 2147483647)], [], [], [], [(0, (1, 1, 0), yc 0)])], [])
def yx736 : yCx := ([ys720, ys735], ys736.2.2.2.2, yFP, zm98.2.2.1, zm98.2.2.2.1, zc98, 1, ys736.2.2.2.1, [], [])
theorem yw736 : ywf ys736.2.2.1 = true := by decide +kernel
theorem yk736 : yver yx736 ys736.2.2.1 4000 = true := yverQ_ok (by decide +kernel)
theorem yt736 {E : zHp → Prop} (h : yEF E yFP) : yTs E 2 ys736 := yver_s (k := 98) (n := 1) (x := yx736) (P := ys736.2.2.1) (f := 4000) h (yal_c (yt720 h) (by decide) yw720 (yal_c (yt735 h) (by decide) yw735 (yal_n))) yg98 yk736
def ys737 : ySp := (100, 3, (1, [(0, 0, 5)], [], [], [(0, (2, yc 11, yc 0)), (1, (0, (1, 0, 0), yc 0)), (2, (0, yc 0, yc 0))], []), [(1, [], [], [], [], [(0, yc 0, yc 0)]), (2, [(1, 0, 2147483647)], [], [], [], [(0, (1, 1, 0), yc 0)])], [])
def yx737 : yCx := ([ys707, ys734, ys733, ys736], ys737.2.2.2.2, yFP, zm100.2.2.1, zm100.2.2.2.1, zc100, 1, ys737.2.2.2.1, [], [])
theorem yw737 : ywf ys737.2.2.1 = true := by decide +kernel
theorem yk737 : yver yx737 ys737.2.2.1 4000 = true := yverQ_ok (by decide +kernel)
theorem yt737 {E : zHp → Prop} (h : yEF E yFP) : yTs E 3 ys737 := yver_s (k := 100) (n := 2) (x := yx737) (P := ys737.2.2.1) (f := 4000) h (yal_c (yt707 h) (by decide) yw707 (yal_c (yt734 h) (by decide) yw734 (yal_c (yt733 h) (by decide) yw733 (yal_c (yt736 h) (by decide) yw736 (yal_n))))) yg100 yk737
def ys738 : ySp := (99, 2, (1, [(0, 0, 5)], [], [], [(0, (2, yc 11, yc 0)), (1, (0, (1, 0, 0), yc 0))], []), [(1, [], [], [], [], [(0, yc 0, yc 0)]), (2, [(1, 0, 2147483647)], [], [], [], [(0, (1, 1, 0), yc 0)])], [])
def yx738 : yCx := ([ys737], ys738.2.2.2.2, yFP, zm99.2.2.1, zm99.2.2.2.1, zc99, 1, ys738.2.2.2.1, [], [])
theorem yw738 : ywf ys738.2.2.1 = true := by decide +kernel
theorem yk738 : yver yx738 ys738.2.2.1 4000 = true := yverQ_ok (by decide +kernel)
theorem yt738 {E : zHp → Prop} (h : yEF E yFP) : yTs E 4 ys738 := yver_s (k := 99) (n := 3) (x := yx738) (P := ys738.2.2.1) (f := 4000) h (yal_c (yt737 h) (by decide) yw737 (yal_n)) yg99 yk738
def ys741 : ySp := (81, 1, (0, [], [], [], [(0, (2, yc 11, yc 0))], []), [(1, [(0, (-2147483648), 2147483647)], [], [], [], [(0, (1, 0, 0), yc 0)])], [])
def yx741 : yCx := ([], ys741.2.2.2.2, yFP, zm81.2.2.1, zm81.2.2.2.1, zc81, 0, ys741.2.2.2.1, [], [])
theorem yw741 : ywf ys741.2.2.1 = true := by decide +kernel
theorem yk741 : yver yx741 ys741.2.2.1 4000 = true := yverQ_ok (by decide +kernel)
theorem yt741 {E : zHp → Prop} (h : yEF E yFP) : yTs E 1 ys741 := yver_s (k := 81) (n := 0) (x := yx741) (P := ys741.2.2.1) (f := 4000) h (yal_n) yg81 yk741
def ys753 : ySp := (89, 3, (1, [(0, 0, 5)], [], [], [(0, (2, yc 11, yc 0)), (1, (0, (1, 0, 0), yc 0)), (2, (0, yc 4, yc 0))], []), [(2, [(1, (-2147483648), 2147483647)], [], [], [], [(0, (1, 1, 0), yc 0)])], [])
def yx753 : yCx := ([], ys753.2.2.2.2, yFP, zm89.2.2.1, zm89.2.2.2.1, zc89, 1, ys753.2.2.2.1, [], [])
theorem yw753 : ywf ys753.2.2.1 = true := by decide +kernel
theorem yk753 : yver yx753 ys753.2.2.1 4000 = true := yverQ_ok (by decide +kernel)
theorem yt753 {E : zHp → Prop} (h : yEF E yFP) : yTs E 1 ys753 := yver_s (k := 89) (n := 0) (x := yx753) (P := ys753.2.2.1) (f := 4000) h (yal_n) yg89 yk753
def ys754 : ySp := (106, 2, (1, [(0, 0, 5)], [], [], [(0, (2, yc 11, yc 0)), (1, (0, (1, 0, 0), yc 0))], []), [(1, [], [], [], [], [(0, yc 0, yc 0)]), (1, [], [], [], [], [(0, yc 1, yc 0)])], [])
def yx754 : yCx := ([ys753], ys754.2.2.2.2, yFP, zm106.2.2.1, zm106.2.2.2.1, zc106, 1, ys754.2.2.2.1, [], [])
theorem yw754 : ywf ys754.2.2.1 = true := by decide +kernel
theorem yk754 : yver yx754 ys754.2.2.1 4000 = true := yverQ_ok (by decide +kernel)
theorem yt754 {E : zHp → Prop} (h : yEF E yFP) : yTs E 2 ys754 := yver_s (k := 106) (n := 1) (x := yx754) (P := ys754.2.2.1) (f := 4000) h (yal_c (yt753 h) (by decide) yw753 (yal_n)) yg106 yk754
def ys755 : ySp := (89, 3, (1, [(0, 0, 5)], [], [], [(0, (2, yc 11, yc 0)), (1, (0, (1, 0, 0), yc 0)), (2, (0, yc 1, yc 0))], []), [(2, [(1, (-2147483648), 2147483647)], [], [], [], [(0, (1, 1, 0), yc 0)])], [])
def yx755 : yCx := ([], ys755.2.2.2.2, yFP, zm89.2.2.1, zm89.2.2.2.1, zc89, 1, ys755.2.2.2.1, [], [])
theorem yw755 : ywf ys755.2.2.1 = true := by decide +kernel
theorem yk755 : yver yx755 ys755.2.2.1 4000 = true := yverQ_ok (by decide +kernel)
theorem yt755 {E : zHp → Prop} (h : yEF E yFP) : yTs E 1 ys755 := yver_s (k := 89) (n := 0) (x := yx755) (P := ys755.2.2.1) (f := 4000) h (yal_n) yg89 yk755
def ys756 : ySp := (89, 3, (1, [(0, 0, 5)], [], [], [(0, (2, yc 11, yc 0)), (1, (0, (1, 0, 0), yc 0)), (2, (0, yc 0, yc 0))], []), [(2, [(1, 0, 5)], [], [], [], [(0, (1, 1, 0), yc 0)])], [])
def yx756 : yCx := ([], ys756.2.2.2.2, yFP, zm89.2.2.1, zm89.2.2.2.1, zc89, 1, ys756.2.2.2.1, [], [])
theorem yw756 : ywf ys756.2.2.1 = true := by decide +kernel
theorem yk756 : yver yx756 ys756.2.2.1 4000 = true := yverQ_ok (by decide +kernel)
theorem yt756 {E : zHp → Prop} (h : yEF E yFP) : yTs E 1 ys756 := yver_s (k := 89) (n := 0) (x := yx756) (P := ys756.2.2.1) (f := 4000) h (yal_n) yg89 yk756
def ys757 : ySp := (89, 3, (1, [(0, 0, 5)], [], [], [(0, (2, yc 11, yc 0)), (1, (0, (1, 0, 0), yc 0)), (2, (0, yc 2, yc 0))], []), [(2, [(1, (-2147483648), 2147483647)], [], [], [], [(0, (1, 1, 0), yc 0)])], [])
def yx757 : yCx := ([], ys757.2.2.2.2, yFP, zm89.2.2.1, zm89.2.2.2.1, zc89, 1, ys757.2.2.2.1, [], [])
theorem yw757 : ywf ys757.2.2.1 = true := by decide +kernel
theorem yk757 : yver yx757 ys757.2.2.1 4000 = true := yverQ_ok (by decide +kernel)
theorem yt757 {E : zHp → Prop} (h : yEF E yFP) : yTs E 1 ys757 := yver_s (k := 89) (n := 0) (x := yx757) (P := ys757.2.2.1) (f := 4000) h (yal_n) yg89 yk757
def ys758 : ySp := (107, 3, (1, [(0, 0, 5)], [], [], [(0, (2, yc 11, yc 0)), (1, (0, (1, 0, 0), yc 0))], []), [(1, [], [], [], [], [(0, yc 0, yc 0)]), (1, [], [], [], [], [(0, yc 1, yc 0)])], [])
def yx758 : yCx := ([ys673, ys705, ys732, ys755, ys756, ys757, ys738, ys754], ys758.2.2.2.2, yFP, zm107.2.2.1, zm107.2.2.2.1, zc107, 1, ys758.2.2.2.1, [(12, (2, [(0, 0, 5), (1, 0, 6)], [], [], [(0, (2, yc 11, yc 0)), (1, (0, (1, 0, 0), yc 0)), (2, (0, (1, 1, 0), yc 0))], []), ([((-1), 1)], 7))], [])
theorem yw758 : ywf ys758.2.2.1 = true := by decide +kernel
theorem yk758 : yver yx758 ys758.2.2.1 4000 = true := yverQ_ok (by decide +kernel)
theorem yt758 {E : zHp → Prop} (h : yEF E yFP) : yTs E 5 ys758 := yver_s (k := 107) (n := 4) (x := yx758) (P := ys758.2.2.1) (f := 4000) h (yal_c (yt673 h) (by decide) yw673 (yal_c (yt705 h) (by decide) yw705 (yal_c (yt732 h) (by decide) yw732 (yal_c (yt755 h) (by decide) yw755 (yal_c (yt756 h) (by decide) yw756 (yal_c (yt757 h) (by decide) yw757 (yal_c (yt738 h) (by decide) yw738 (yal_c (yt754 h) (by decide) yw754 (yal_n))))))))) yg107 yk758
def ys759 : ySp := (89, 3, (1, [(0, 0, 5)], [], [], [(0, (2, yc 11, yc 0)), (1, (0, (1, 0, 0), yc 0)), (2, (0, yc 3, yc 0))], []), [(2, [(1, (-2147483648), 2147483647)], [], [], [], [(0, (1, 1, 0), yc 0)])], [])
def yx759 : yCx := ([], ys759.2.2.2.2, yFP, zm89.2.2.1, zm89.2.2.2.1, zc89, 1, ys759.2.2.2.1, [], [])
theorem yw759 : ywf ys759.2.2.1 = true := by decide +kernel
theorem yk759 : yver yx759 ys759.2.2.1 4000 = true := yverQ_ok (by decide +kernel)
theorem yt759 {E : zHp → Prop} (h : yEF E yFP) : yTs E 1 ys759 := yver_s (k := 89) (n := 0) (x := yx759) (P := ys759.2.2.1) (f := 4000) h (yal_n) yg89 yk759
def ys760 : ySp := (90, 4, (2, [(0, 0, 5), (1, (-2147483648), 2147483647)], [], [], [(0, (2, yc 11, yc 0)), (1, (0, (1, 0, 0), yc 0)), (2, (0, yc 4, yc 0)), (3, (0, (1, 1, 0), yc 0))], []), [(2, [], [], [], [], [])], [(12, 12, 1000)])
def yx760 : yCx := ([], ys760.2.2.2.2, yFP, zm90.2.2.1, zm90.2.2.2.1, zc90, 2, ys760.2.2.2.1, [], [])
theorem yw760 : ywf ys760.2.2.1 = true := by decide +kernel
theorem yk760 : yver yx760 ys760.2.2.1 4000 = true := yverQ_ok (by decide +kernel)
theorem yt760 {E : zHp → Prop} (h : yEF E yFP) : yTs E 1 ys760 := yver_s (k := 90) (n := 0) (x := yx760) (P := ys760.2.2.1) (f := 4000) h (yal_n) yg90 yk760
def ys761 : ySp := (108, 3, (1, [(0, 0, 5)], [], [], [(0, (2, yc 11, yc 0)), (1, (0, (1, 0, 0), yc 0))], []), [(2, [(1, (-2147483648), 2147483647)], [], [], [], [(0, (1, 1, 0), yc 0)])], [(12, 12, 1000)])
def yx761 : yCx := ([ys741, ys759, ys760], ys761.2.2.2.2, yFP, zm108.2.2.1, zm108.2.2.2.1, zc108, 1, ys761.2.2.2.1, [], [])
theorem yw761 : ywf ys761.2.2.1 = true := by decide +kernel
theorem yk761 : yver yx761 ys761.2.2.1 4000 = true := yverQ_ok (by decide +kernel)
theorem yt761 {E : zHp → Prop} (h : yEF E yFP) : yTs E 2 ys761 := yver_s (k := 108) (n := 1) (x := yx761) (P := ys761.2.2.1) (f := 4000) h (yal_c (yt741 h) (by decide) yw741 (yal_c (yt759 h) (by decide) yw759 (yal_c (yt760 h) (by decide) yw760 (yal_n)))) yg108 yk761
def ys762 : ySp := (109, 2, (0, [], [], [], [(0, (2, yc 11, yc 0))], []), [(0, [], [], [], [], [])], [(12, 12, 1000)])
def yx762 : yCx := ([ys711, ys758, ys761], ys762.2.2.2.2, yFP, zm109.2.2.1, zm109.2.2.2.1, zc109, 0, ys762.2.2.2.1, [(2, (1, [(0, 0, 6)], [], [], [(0, (2, yc 11, yc 0)), (1, (0, (1, 0, 0), yc 0))], []), ([((-1), 0)], 7))], [])
theorem yw762 : ywf ys762.2.2.1 = true := by decide +kernel
theorem yk762 : yver yx762 ys762.2.2.1 4000 = true := yverQ_ok (by decide +kernel)
theorem yt762 {E : zHp → Prop} (h : yEF E yFP) : yTs E 6 ys762 := yver_s (k := 109) (n := 5) (x := yx762) (P := ys762.2.2.1) (f := 4000) h (yal_c (yt711 h) (by decide) yw711 (yal_c (yt758 h) (by decide) yw758 (yal_c (yt761 h) (by decide) yw761 (yal_n)))) yg109 yk762
def ys765 : ySp := (88, 4, (2, [(0, 0, 5), (1, (-2147483648), 2147483647)], [], [], [(0, (2, yc 11, yc 0)), (1, (0, (1, 0, 0), yc 0)), (2, (0, yc 5, yc 0)), (3, (0, (1, 1, 0), yc 0))], []), [(2, [], [], [], [], [])], [(12, 12, 1000)])
def yx765 : yCx := ([], ys765.2.2.2.2, yFP, zm88.2.2.1, zm88.2.2.2.1, zc88, 2, ys765.2.2.2.1, [], [])
theorem yw765 : ywf ys765.2.2.1 = true := by decide +kernel
theorem yk765 : yver yx765 ys765.2.2.1 4000 = true := yverQ_ok (by decide +kernel)
theorem yt765 {E : zHp → Prop} (h : yEF E yFP) : yTs E 1 ys765 := yver_s (k := 88) (n := 0) (x := yx765) (P := ys765.2.2.1) (f := 4000) h (yal_n) yg88 yk765
def ys766 : ySp := (112, 2, (0, [], [], [], [(0, (2, yc 11, yc 0))], []), [(0, [], [], [], [], [])], [(12, 12, 1000)])
def yx766 : yCx := ([ys673, ys741, ys735, ys765, ys733], ys766.2.2.2.2, yFP, zm112.2.2.1, zm112.2.2.2.1, zc112, 0, ys766.2.2.2.1, [(2, (1, [(0, 0, 6)], [], [], [(0, (2, yc 11, yc 0)), (1, (0, (1, 0, 0), yc 0))], []), ([((-1), 0)], 7))], [])
theorem yw766 : ywf ys766.2.2.1 = true := by decide +kernel
theorem yk766 : yver yx766 ys766.2.2.1 4000 = true := yverQ_ok (by decide +kernel)
theorem yt766 {E : zHp → Prop} (h : yEF E yFP) : yTs E 3 ys766 := yver_s (k := 112) (n := 2) (x := yx766) (P := ys766.2.2.1) (f := 4000) h (yal_c (yt673 h) (by decide) yw673 (yal_c (yt741 h) (by decide) yw741 (yal_c (yt735 h) (by decide) yw735 (yal_c (yt765 h) (by decide) yw765 (yal_c (yt733 h) (by decide) yw733 (yal_n)))))) yg112 yk766
def ys767 : ySp := (82, 1, (0, [], [], [], [(0, (2, yc 11, yc 0))], []), [(1, [(0, (-2147483648), 2147483647)], [], [], [], [(0, (1, 0, 0), yc 0)])], [])
def yx767 : yCx := ([], ys767.2.2.2.2, yFP, zm82.2.2.1, zm82.2.2.2.1, zc82, 0, ys767.2.2.2.1, [], [])
theorem yw767 : ywf ys767.2.2.1 = true := by decide +kernel
theorem yk767 : yver yx767 ys767.2.2.1 4000 = true := yverQ_ok (by decide +kernel)
theorem yt767 {E : zHp → Prop} (h : yEF E yFP) : yTs E 1 ys767 := yver_s (k := 82) (n := 0) (x := yx767) (P := ys767.2.2.1) (f := 4000) h (yal_n) yg82 yk767
def ys769 : ySp := (204, 1, (1, [(0, 0, 6)], [], [(yc 80, yc 0, (0, (1, 0, 0), yc 0))], [(0, (2, yc 70, yc 0))], []), [(1, [(0, 0, 0)], [], [(yc 80, yc 0, (0, yc 0, yc 0))], [], [(0, yc 0, yc 0)]), (1, [(0, 1, 6)], [], [(yc 80, yc 0, (0, (1, 0, 0), yc 0))], [], [(0, yc 1, yc 0)])], [])
def yx769 : yCx := ([], ys769.2.2.2.2, yFP, zm204.2.2.1, zm204.2.2.2.1, zc204, 1, ys769.2.2.2.1, [], [])
theorem yw769 : ywf ys769.2.2.1 = true := by decide +kernel
theorem yk769 : yver yx769 ys769.2.2.1 4000 = true := yverQ_ok (by decide +kernel)
theorem yt769 {E : zHp → Prop} (h : yEF E yFP) : yTs E 1 ys769 := yver_s (k := 204) (n := 0) (x := yx769) (P := ys769.2.2.1) (f := 4000) h (yal_n) yg204 yk769
def ys770 : ySp := (158, 6, (1, [(0, 0, 2147483647)], [], [], [(0, (1, (1, 0, 0), yc 0)), (2, (1, yc 1, yc 0)), (4, (1, yc 10, yc 0))], []), [(1, [(0, 0, 0)], [], [], [], [(0, yc 0, yc 0)]), (1, [(0, 11, 2147483647)], [], [], [], [(0, yc 0, yc 0)]), (1, [(0, 1, 10)], [], [], [], [(0, yc 1, yc 0)])], [])
def yx770 : yCx := ([], ys770.2.2.2.2, yFP, zm158.2.2.1, zm158.2.2.2.1, zc158, 1, ys770.2.2.2.1, [], [])
theorem yw770 : ywf ys770.2.2.1 = true := by decide +kernel
theorem yk770 : yver yx770 ys770.2.2.1 4000 = true := yverQ_ok (by decide +kernel)
theorem yt770 {E : zHp → Prop} (h : yEF E yFP) : yTs E 1 ys770 := yver_s (k := 158) (n := 0) (x := yx770) (P := ys770.2.2.1) (f := 4000) h (yal_n) yg158 yk770
def ys771 : ySp := (158, 6, (1, [(0, 0, 2147483647)], [], [], [(0, (1, (1, 0, 0), yc 0)), (2, (1, yc 1, yc 0)), (4, (1, yc 60, yc 0))], []), [(1, [(0, 0, 0)], [], [], [], [(0, yc 0, yc 0)]), (1, [(0, 61, 2147483647)], [], [], [], [(0, yc 0, yc 0)]), (1, [(0, 1, 60)], [], [], [], [(0, yc 1, yc 0)])], [])
def yx771 : yCx := ([], ys771.2.2.2.2, yFP, zm158.2.2.1, zm158.2.2.2.1, zc158, 1, ys771.2.2.2.1, [], [])
theorem yw771 : ywf ys771.2.2.1 = true := by decide +kernel
theorem yk771 : yver yx771 ys771.2.2.1 4000 = true := yverQ_ok (by decide +kernel)
theorem yt771 {E : zHp → Prop} (h : yEF E yFP) : yTs E 1 ys771 := yver_s (k := 158) (n := 0) (x := yx771) (P := ys771.2.2.1) (f := 4000) h (yal_n) yg158 yk771
def ys772 : ySp := (158, 6, (1, [(0, 0, 2147483647)], [], [], [(0, (1, (1, 0, 0), yc 0)), (2, (1, yc 0, yc 0)), (4, (1, yc 1, yc 0))], []), [(1, [(0, 2, 2147483647)], [], [], [], [(0, yc 0, yc 0)]), (1, [(0, 0, 1)], [], [], [], [(0, yc 1, yc 0)])], [])
def yx772 : yCx := ([], ys772.2.2.2.2, yFP, zm158.2.2.1, zm158.2.2.2.1, zc158, 1, ys772.2.2.2.1, [], [])
theorem yw772 : ywf ys772.2.2.1 = true := by decide +kernel
theorem yk772 : yver yx772 ys772.2.2.1 4000 = true := yverQ_ok (by decide +kernel)
theorem yt772 {E : zHp → Prop} (h : yEF E yFP) : yTs E 1 ys772 := yver_s (k := 158) (n := 0) (x := yx772) (P := ys772.2.2.1) (f := 4000) h (yal_n) yg158 yk772
def ys773 : ySp := (274, 2, (0, [], [], [], [(0, (2, yc 70, yc 0)), (1, (0, yc 7, yc 0))], []), [(1, [(0, 0, 6)], [], [], [], [(0, (1, 0, 0), yc 0)])], [(70, 70, 35)])
def yx773 : yCx := ([], ys773.2.2.2.2, yFP, zm274.2.2.1, zm274.2.2.2.1, zc274, 0, ys773.2.2.2.1, [], [])
theorem yw773 : ywf ys773.2.2.1 = true := by decide +kernel
theorem yk773 : yver yx773 ys773.2.2.1 4000 = true := yverQ_ok (by decide +kernel)
theorem yt773 {E : zHp → Prop} (h : yEF E yFP) : yTs E 1 ys773 := yver_s (k := 274) (n := 0) (x := yx773) (P := ys773.2.2.1) (f := 4000) h (yal_n) yg274 yk773
def ys777 : ySp := (210, 3, (2, [(0, 0, 5), (1, 0, 5)], [], [], [(0, (2, yc 70, yc 0)), (1, (0, (1, 0, 0), yc 0)), (2, (0, (1, 1, 0), yc 0))], []), [(2, [], [], [], [], [(0, yc 0, yc 0)]), (2, [], [], [], [], [(0, yc 1, yc 0)])], [])
def yx777 : yCx := ([], ys777.2.2.2.2, yFP, zm210.2.2.1, zm210.2.2.2.1, zc210, 2, ys777.2.2.2.1, [], [])
theorem yw777 : ywf ys777.2.2.1 = true := by decide +kernel
theorem yk777 : yver yx777 ys777.2.2.1 4000 = true := yverQ_ok (by decide +kernel)
theorem yt777 {E : zHp → Prop} (h : yEF E yFP) : yTs E 1 ys777 := yver_s (k := 210) (n := 0) (x := yx777) (P := ys777.2.2.1) (f := 4000) h (yal_n) yg210 yk777
def ys780 : ySp := (274, 2, (0, [], [], [], [(0, (2, yc 70, yc 0)), (1, (0, yc 6, yc 0))], []), [(1, [(0, 0, 5)], [], [], [], [(0, (1, 0, 0), yc 0)])], [(70, 70, 35)])
def yx780 : yCx := ([], ys780.2.2.2.2, yFP, zm274.2.2.1, zm274.2.2.2.1, zc274, 0, ys780.2.2.2.1, [], [])
theorem yw780 : ywf ys780.2.2.1 = true := by decide +kernel
theorem yk780 : yver yx780 ys780.2.2.1 4000 = true := yverQ_ok (by decide +kernel)
theorem yt780 {E : zHp → Prop} (h : yEF E yFP) : yTs E 1 ys780 := yver_s (k := 274) (n := 0) (x := yx780) (P := ys780.2.2.1) (f := 4000) h (yal_n) yg274 yk780
def ys781 : ySp := (274, 2, (0, [], [], [], [(0, (2, yc 70, yc 0)), (1, (0, yc 5, yc 0))], []), [(1, [(0, 0, 4)], [], [], [], [(0, (1, 0, 0), yc 0)])], [(70, 70, 35)])
def yx781 : yCx := ([], ys781.2.2.2.2, yFP, zm274.2.2.1, zm274.2.2.2.1, zc274, 0, ys781.2.2.2.1, [], [])
theorem yw781 : ywf ys781.2.2.1 = true := by decide +kernel
theorem yk781 : yver yx781 ys781.2.2.1 4000 = true := yverQ_ok (by decide +kernel)
theorem yt781 {E : zHp → Prop} (h : yEF E yFP) : yTs E 1 ys781 := yver_s (k := 274) (n := 0) (x := yx781) (P := ys781.2.2.1) (f := 4000) h (yal_n) yg274 yk781
def ys782 : ySp := (274, 2, (0, [], [], [], [(0, (2, yc 70, yc 0)), (1, (0, yc 4, yc 0))], []), [(1, [(0, 0, 3)], [], [], [], [(0, (1, 0, 0), yc 0)])], [(70, 70, 35)])
def yx782 : yCx := ([], ys782.2.2.2.2, yFP, zm274.2.2.1, zm274.2.2.2.1, zc274, 0, ys782.2.2.2.1, [], [])
theorem yw782 : ywf ys782.2.2.1 = true := by decide +kernel
theorem yk782 : yver yx782 ys782.2.2.1 4000 = true := yverQ_ok (by decide +kernel)
theorem yt782 {E : zHp → Prop} (h : yEF E yFP) : yTs E 1 ys782 := yver_s (k := 274) (n := 0) (x := yx782) (P := ys782.2.2.1) (f := 4000) h (yal_n) yg274 yk782
def ys783 : ySp := (274, 2, (0, [], [], [], [(0, (2, yc 70, yc 0)), (1, (0, yc 3, yc 0))], []), [(1, [(0, 0, 2)], [], [], [], [(0, (1, 0, 0), yc 0)])], [(70, 70, 35)])
def yx783 : yCx := ([], ys783.2.2.2.2, yFP, zm274.2.2.1, zm274.2.2.2.1, zc274, 0, ys783.2.2.2.1, [], [])
theorem yw783 : ywf ys783.2.2.1 = true := by decide +kernel
theorem yk783 : yver yx783 ys783.2.2.1 4000 = true := yverQ_ok (by decide +kernel)
theorem yt783 {E : zHp → Prop} (h : yEF E yFP) : yTs E 1 ys783 := yver_s (k := 274) (n := 0) (x := yx783) (P := ys783.2.2.1) (f := 4000) h (yal_n) yg274 yk783
def ys784 : ySp := (274, 2, (0, [], [], [], [(0, (2, yc 70, yc 0)), (1, (0, yc 2, yc 0))], []), [(1, [(0, 0, 1)], [], [], [], [(0, (1, 0, 0), yc 0)])], [(70, 70, 35)])
def yx784 : yCx := ([], ys784.2.2.2.2, yFP, zm274.2.2.1, zm274.2.2.2.1, zc274, 0, ys784.2.2.2.1, [], [])
theorem yw784 : ywf ys784.2.2.1 = true := by decide +kernel
theorem yk784 : yver yx784 ys784.2.2.1 4000 = true := yverQ_ok (by decide +kernel)
theorem yt784 {E : zHp → Prop} (h : yEF E yFP) : yTs E 1 ys784 := yver_s (k := 274) (n := 0) (x := yx784) (P := ys784.2.2.1) (f := 4000) h (yal_n) yg274 yk784
def ys785 : ySp := (274, 2, (0, [], [], [], [(0, (2, yc 70, yc 0)), (1, (0, yc 1, yc 0))], []), [(0, [], [], [], [], [(0, yc 0, yc 0)])], [(70, 70, 35)])
def yx785 : yCx := ([], ys785.2.2.2.2, yFP, zm274.2.2.1, zm274.2.2.2.1, zc274, 0, ys785.2.2.2.1, [], [])
theorem yw785 : ywf ys785.2.2.1 = true := by decide +kernel
theorem yk785 : yver yx785 ys785.2.2.1 4000 = true := yverQ_ok (by decide +kernel)
theorem yt785 {E : zHp → Prop} (h : yEF E yFP) : yTs E 1 ys785 := yver_s (k := 274) (n := 0) (x := yx785) (P := ys785.2.2.1) (f := 4000) h (yal_n) yg274 yk785
def ys786 : ySp := (208, 3, (1, [(0, 0, 5)], [], [], [(0, (2, yc 70, yc 0)), (1, (0, (1, 0, 0), yc 0)), (2, (0, yc 0, yc 0))], []), [(2, [(1, 0, 5)], [], [], [], [(0, (1, 1, 0), yc 0)])], [])
def yx786 : yCx := ([], ys786.2.2.2.2, yFP, zm208.2.2.1, zm208.2.2.2.1, zc208, 1, ys786.2.2.2.1, [], [])
theorem yw786 : ywf ys786.2.2.1 = true := by decide +kernel
theorem yk786 : yver yx786 ys786.2.2.1 4000 = true := yverQ_ok (by decide +kernel)
theorem yt786 {E : zHp → Prop} (h : yEF E yFP) : yTs E 1 ys786 := yver_s (k := 208) (n := 0) (x := yx786) (P := ys786.2.2.1) (f := 4000) h (yal_n) yg208 yk786
def ys787 : ySp := (224, 2, (1, [(0, 0, 5)], [], [], [(0, (2, yc 70, yc 0)), (1, (0, (1, 0, 0), yc 0))], []), [(1, [], [], [], [], [])], [(80, 80, 1000)])
def yx787 : yCx := ([ys786], ys787.2.2.2.2, yFP, zm224.2.2.1, zm224.2.2.2.1, zc224, 1, ys787.2.2.2.1, [], [])
theorem yw787 : ywf ys787.2.2.1 = true := by decide +kernel
theorem yk787 : yver yx787 ys787.2.2.1 4000 = true := yverQ_ok (by decide +kernel)
theorem yt787 {E : zHp → Prop} (h : yEF E yFP) : yTs E 2 ys787 := yver_s (k := 224) (n := 1) (x := yx787) (P := ys787.2.2.1) (f := 4000) h (yal_c (yt786 h) (by decide) yw786 (yal_n)) yg224 yk787
def ys788 : ySp := (208, 3, (1, [(0, 0, 5)], [], [], [(0, (2, yc 70, yc 0)), (1, (0, (1, 0, 0), yc 0)), (2, (0, yc 3, yc 0))], []), [(2, [(1, 0, 5)], [], [], [], [(0, (1, 1, 0), yc 0)])], [])
def yx788 : yCx := ([], ys788.2.2.2.2, yFP, zm208.2.2.1, zm208.2.2.2.1, zc208, 1, ys788.2.2.2.1, [], [])
theorem yw788 : ywf ys788.2.2.1 = true := by decide +kernel
theorem yk788 : yver yx788 ys788.2.2.1 4000 = true := yverQ_ok (by decide +kernel)
theorem yt788 {E : zHp → Prop} (h : yEF E yFP) : yTs E 1 ys788 := yver_s (k := 208) (n := 0) (x := yx788) (P := ys788.2.2.1) (f := 4000) h (yal_n) yg208 yk788
def ys789 : ySp := (222, 4, (2, [(0, 0, 5), (1, 0, 5)], [], [], [(0, (2, yc 70, yc 0)), (1, (0, (1, 0, 0), yc 0)), (2, (0, (1, 1, 0), yc 0))], []), [(2, [], [], [], [], [(0, yc 0, yc 0)]), (2, [], [], [], [], [(0, yc 1, yc 0)])], [])
def yx789 : yCx := ([ys786, ys788, ys777], ys789.2.2.2.2, yFP, zm222.2.2.1, zm222.2.2.2.1, zc222, 2, ys789.2.2.2.1, [], [])
theorem yw789 : ywf ys789.2.2.1 = true := by decide +kernel
theorem yk789 : yver yx789 ys789.2.2.1 4000 = true := yverQ_ok (by decide +kernel)
theorem yt789 {E : zHp → Prop} (h : yEF E yFP) : yTs E 2 ys789 := yver_s (k := 222) (n := 1) (x := yx789) (P := ys789.2.2.1) (f := 4000) h (yal_c (yt786 h) (by decide) yw786 (yal_c (yt788 h) (by decide) yw788 (yal_c (yt777 h) (by decide) yw777 (yal_n)))) yg222 yk789
def ys790 : ySp := (223, 4, (2, [(0, 0, 5), (1, 0, 5)], [], [], [(0, (2, yc 70, yc 0)), (1, (0, (1, 0, 0), yc 0)), (2, (0, (1, 1, 0), yc 0))], []), [(2, [], [], [], [], [])], [(80, 80, 1000)])
def yx790 : yCx := ([ys788], ys790.2.2.2.2, yFP, zm223.2.2.1, zm223.2.2.2.1, zc223, 2, ys790.2.2.2.1, [], [])
theorem yw790 : ywf ys790.2.2.1 = true := by decide +kernel
theorem yk790 : yver yx790 ys790.2.2.1 4000 = true := yverQ_ok (by decide +kernel)
theorem yt790 {E : zHp → Prop} (h : yEF E yFP) : yTs E 2 ys790 := yver_s (k := 223) (n := 1) (x := yx790) (P := ys790.2.2.1) (f := 4000) h (yal_c (yt788 h) (by decide) yw788 (yal_n)) yg223 yk790
def ys791 : ySp := (275, 4, (0, [], [], [], [(0, (2, yc 70, yc 0))], []), [(1, [(0, (-2147483648), 2147483647)], [], [], [], [(0, (1, 0, 0), yc 0)])], [(70, 70, 35), (80, 80, 1000)])
def yx791 : yCx := ([ys789, ys790, ys787, ys773, ys780, ys781, ys782, ys783, ys784, ys785], ys791.2.2.2.2, yFP, zm275.2.2.1, zm275.2.2.2.1, zc275, 0, ys791.2.2.2.1, [(4, (2, [(0, (-2147483648), 2147483647), (1, 0, 6)], [], [], [(0, (2, yc 70, yc 0)), (1, (0, (1, 0, 0), yc 0)), (2, (0, (1, 1, 0), yc 0))], []), ([((-1), 1)], 7))], [(14, 1, 80, 0)])
theorem yw791 : ywf ys791.2.2.1 = true := by decide +kernel
theorem yk791 : yver yx791 ys791.2.2.1 4000 = true := yverQ_ok (by decide +kernel)
theorem yt791 {E : zHp → Prop} (h : yEF E yFP) : yTs E 3 ys791 := yver_s (k := 275) (n := 2) (x := yx791) (P := ys791.2.2.1) (f := 4000) h (yal_c (yt789 h) (by decide) yw789 (yal_c (yt790 h) (by decide) yw790 (yal_c (yt787 h) (by decide) yw787 (yal_c (yt773 h) (by decide) yw773 (yal_c (yt780 h) (by decide) yw780 (yal_c (yt781 h) (by decide) yw781 (yal_c (yt782 h) (by decide) yw782 (yal_c (yt783 h) (by decide) yw783 (yal_c (yt784 h) (by decide) yw784 (yal_c (yt785 h) (by decide) yw785 (yal_n))))))))))) yg275 yk791
def ys809 : ySp := (208, 3, (1, [(0, 0, 5)], [], [], [(0, (2, yc 70, yc 0)), (1, (0, (1, 0, 0), yc 0)), (2, (0, yc 1, yc 0))], []), [(2, [(1, (-2147483648), 2147483647)], [], [], [], [(0, (1, 1, 0), yc 0)])], [])
def yx809 : yCx := ([], ys809.2.2.2.2, yFP, zm208.2.2.1, zm208.2.2.2.1, zc208, 1, ys809.2.2.2.1, [], [])
theorem yw809 : ywf ys809.2.2.1 = true := by decide +kernel
theorem yk809 : yver yx809 ys809.2.2.1 4000 = true := yverQ_ok (by decide +kernel)
theorem yt809 {E : zHp → Prop} (h : yEF E yFP) : yTs E 1 ys809 := yver_s (k := 208) (n := 0) (x := yx809) (P := ys809.2.2.1) (f := 4000) h (yal_n) yg208 yk809
def ys810 : ySp := (212, 2, (1, [(0, 0, 5)], [], [], [(0, (2, yc 70, yc 0)), (1, (0, (1, 0, 0), yc 0))], []), [(1, [], [], [], [], [(0, yc 0, yc 0)]), (1, [], [], [], [], [(0, yc 1, yc 0)])], [])
def yx810 : yCx := ([ys786, ys788], ys810.2.2.2.2, yFP, zm212.2.2.1, zm212.2.2.2.1, zc212, 1, ys810.2.2.2.1, [], [])
theorem yw810 : ywf ys810.2.2.1 = true := by decide +kernel
theorem yk810 : yver yx810 ys810.2.2.1 4000 = true := yverQ_ok (by decide +kernel)
theorem yt810 {E : zHp → Prop} (h : yEF E yFP) : yTs E 2 ys810 := yver_s (k := 212) (n := 1) (x := yx810) (P := ys810.2.2.1) (f := 4000) h (yal_c (yt786 h) (by decide) yw786 (yal_c (yt788 h) (by decide) yw788 (yal_n))) yg212 yk810
def ys811 : ySp := (208, 3, (1, [(0, 0, 5)], [], [], [(0, (2, yc 70, yc 0)), (1, (0, (1, 0, 0), yc 0)), (2, (0, yc 2, yc 0))], []), [(2, [(1, (-2147483648), 2147483647)], [], [], [], [(0, (1, 1, 0), yc 0)])], [])
def yx811 : yCx := ([], ys811.2.2.2.2, yFP, zm208.2.2.1, zm208.2.2.2.1, zc208, 1, ys811.2.2.2.1, [], [])
theorem yw811 : ywf ys811.2.2.1 = true := by decide +kernel
theorem yk811 : yver yx811 ys811.2.2.1 4000 = true := yverQ_ok (by decide +kernel)
theorem yt811 {E : zHp → Prop} (h : yEF E yFP) : yTs E 1 ys811 := yver_s (k := 208) (n := 0) (x := yx811) (P := ys811.2.2.1) (f := 4000) h (yal_n) yg208 yk811
def ys812 : ySp := (208, 3, (1, [(0, 0, 5)], [], [], [(0, (2, yc 70, yc 0)), (1, (0, (1, 0, 0), yc 0)), (2, (0, yc 4, yc 0))], []), [(2, [(1, (-2147483648), 2147483647)], [], [], [], [(0, (1, 1, 0), yc 0)])], [])
def yx812 : yCx := ([], ys812.2.2.2.2, yFP, zm208.2.2.1, zm208.2.2.2.1, zc208, 1, ys812.2.2.2.1, [], [])
theorem yw812 : ywf ys812.2.2.1 = true := by decide +kernel
theorem yk812 : yver yx812 ys812.2.2.1 4000 = true := yverQ_ok (by decide +kernel)
theorem yt812 {E : zHp → Prop} (h : yEF E yFP) : yTs E 1 ys812 := yver_s (k := 208) (n := 0) (x := yx812) (P := ys812.2.2.1) (f := 4000) h (yal_n) yg208 yk812
def ys813 : ySp := (208, 3, (1, [(0, 0, 5)], [], [], [(0, (2, yc 70, yc 0)), (1, (0, (1, 0, 0), yc 0)), (2, (0, yc 5, yc 0))], []), [(2, [(1, (-2147483648), 2147483647)], [], [], [], [(0, (1, 1, 0), yc 0)])], [])
def yx813 : yCx := ([], ys813.2.2.2.2, yFP, zm208.2.2.1, zm208.2.2.2.1, zc208, 1, ys813.2.2.2.1, [], [])
theorem yw813 : ywf ys813.2.2.1 = true := by decide +kernel
theorem yk813 : yver yx813 ys813.2.2.1 4000 = true := yverQ_ok (by decide +kernel)
theorem yt813 {E : zHp → Prop} (h : yEF E yFP) : yTs E 1 ys813 := yver_s (k := 208) (n := 0) (x := yx813) (P := ys813.2.2.1) (f := 4000) h (yal_n) yg208 yk813
def ys814 : ySp := (213, 3, (1, [(0, 0, 5)], [], [], [(0, (2, yc 70, yc 0)), (1, (0, (1, 0, 0), yc 0))], []), [(1, [], [], [], [], [(0, yc 0, yc 0)]), (2, [(1, 0, 2147483647)], [], [], [], [(0, (1, 1, 0), yc 0)])], [])
def yx814 : yCx := ([ys813, ys810], ys814.2.2.2.2, yFP, zm213.2.2.1, zm213.2.2.2.1, zc213, 1, ys814.2.2.2.1, [], [])
theorem yw814 : ywf ys814.2.2.1 = true := by decide +kernel
theorem yk814 : yver yx814 ys814.2.2.1 4000 = true := yverQ_ok (by decide +kernel)
theorem yt814 {E : zHp → Prop} (h : yEF E yFP) : yTs E 3 ys814 := yver_s (k := 213) (n := 2) (x := yx814) (P := ys814.2.2.1) (f := 4000) h (yal_c (yt813 h) (by decide) yw813 (yal_c (yt810 h) (by decide) yw810 (yal_n))) yg213 yk814
def ys815 : ySp := (214, 4, (1, [(0, 0, 5)], [], [], [(0, (2, yc 70, yc 0)), (1, (0, (1, 0, 0), yc 0)), (2, (0, yc 0, yc 0))], []), [(1, [], [], [], [], [(0, yc 0, yc 0)]), (2, [(1, 0, 2147483647)], [], [], [], [(0, (1, 1, 0), yc 0)])], [])
def yx815 : yCx := ([ys811, ys812, ys810, ys814], ys815.2.2.2.2, yFP, zm214.2.2.1, zm214.2.2.2.1, zc214, 1, ys815.2.2.2.1, [], [])
theorem yw815 : ywf ys815.2.2.1 = true := by decide +kernel
theorem yk815 : yver yx815 ys815.2.2.1 4000 = true := yverQ_ok (by decide +kernel)
theorem yt815 {E : zHp → Prop} (h : yEF E yFP) : yTs E 4 ys815 := yver_s (k := 214) (n := 3) (x := yx815) (P := ys815.2.2.1) (f := 4000) h (yal_c (yt811 h) (by decide) yw811 (yal_c (yt812 h) (by decide) yw812 (yal_c (yt810 h) (by decide) yw810 (yal_c (yt814 h) (by decide) yw814 (yal_n))))) yg214 yk815
def ys825 : ySp := (209, 3, (1, [(0, 0, 5)], [], [], [(0, (2, yc 70, yc 0)), (1, (0, (1, 0, 0), yc 0)), (2, (0, yc 1, yc 0))], []), [(2, [(1, (-2147483648), 2147483647)], [], [], [], [(0, (1, 1, 0), yc 0)])], [])
def yx825 : yCx := ([], ys825.2.2.2.2, yFP, zm209.2.2.1, zm209.2.2.2.1, zc209, 1, ys825.2.2.2.1, [], [])
theorem yw825 : ywf ys825.2.2.1 = true := by decide +kernel
theorem yk825 : yver yx825 ys825.2.2.1 4000 = true := yverQ_ok (by decide +kernel)
theorem yt825 {E : zHp → Prop} (h : yEF E yFP) : yTs E 1 ys825 := yver_s (k := 209) (n := 0) (x := yx825) (P := ys825.2.2.1) (f := 4000) h (yal_n) yg209 yk825
def ys826 : ySp := (209, 3, (1, [(0, 0, 5)], [], [], [(0, (2, yc 70, yc 0)), (1, (0, (1, 0, 0), yc 0)), (2, (0, yc 0, yc 0))], []), [(2, [(1, 0, 5)], [], [], [], [(0, (1, 1, 0), yc 0)])], [])
def yx826 : yCx := ([], ys826.2.2.2.2, yFP, zm209.2.2.1, zm209.2.2.2.1, zc209, 1, ys826.2.2.2.1, [], [])
theorem yw826 : ywf ys826.2.2.1 = true := by decide +kernel
theorem yk826 : yver yx826 ys826.2.2.1 4000 = true := yverQ_ok (by decide +kernel)
theorem yt826 {E : zHp → Prop} (h : yEF E yFP) : yTs E 1 ys826 := yver_s (k := 209) (n := 0) (x := yx826) (P := ys826.2.2.1) (f := 4000) h (yal_n) yg209 yk826
def ys827 : ySp := (209, 3, (1, [(0, 0, 5)], [], [], [(0, (2, yc 70, yc 0)), (1, (0, (1, 0, 0), yc 0)), (2, (0, yc 2, yc 0))], []), [(2, [(1, (-2147483648), 2147483647)], [], [], [], [(0, (1, 1, 0), yc 0)])], [])
def yx827 : yCx := ([], ys827.2.2.2.2, yFP, zm209.2.2.1, zm209.2.2.2.1, zc209, 1, ys827.2.2.2.1, [], [])
theorem yw827 : ywf ys827.2.2.1 = true := by decide +kernel
theorem yk827 : yver yx827 ys827.2.2.1 4000 = true := yverQ_ok (by decide +kernel)
theorem yt827 {E : zHp → Prop} (h : yEF E yFP) : yTs E 1 ys827 := yver_s (k := 209) (n := 0) (x := yx827) (P := ys827.2.2.1) (f := 4000) h (yal_n) yg209 yk827
def ys828 : ySp := (216, 3, (1, [(0, 0, 5)], [], [], [(0, (2, yc 70, yc 0)), (1, (0, (1, 0, 0), yc 0))], []), [(1, [], [], [], [], [(0, yc 0, yc 0)]), (1, [], [], [], [], [(0, yc 1, yc 0)])], [])
def yx828 : yCx := ([ys788, ys809, ys825, ys826, ys827, ys815, ys668], ys828.2.2.2.2, yFP, zm216.2.2.1, zm216.2.2.2.1, zc216, 1, ys828.2.2.2.1, [(12, (2, [(0, 0, 5), (1, 0, 6)], [], [], [(0, (2, yc 70, yc 0)), (1, (0, (1, 0, 0), yc 0)), (2, (0, (1, 1, 0), yc 0))], []), ([((-1), 1)], 7))], [])
theorem yw828 : ywf ys828.2.2.1 = true := by decide +kernel
theorem yk828 : yver yx828 ys828.2.2.1 4000 = true := yverQ_ok (by decide +kernel)
theorem yt828 {E : zHp → Prop} (h : yEF E yFP) : yTs E 5 ys828 := yver_s (k := 216) (n := 4) (x := yx828) (P := ys828.2.2.1) (f := 4000) h (yal_c (yt788 h) (by decide) yw788 (yal_c (yt809 h) (by decide) yw809 (yal_c (yt825 h) (by decide) yw825 (yal_c (yt826 h) (by decide) yw826 (yal_c (yt827 h) (by decide) yw827 (yal_c (yt815 h) (by decide) yw815 (yal_c (yt668 h) (by decide) yw668 (yal_n)))))))) yg216 yk828
def ys829 : ySp := (209, 3, (1, [(0, 0, 5)], [], [], [(0, (2, yc 70, yc 0)), (1, (0, (1, 0, 0), yc 0)), (2, (0, yc 3, yc 0))], []), [(2, [(1, (-2147483648), 2147483647)], [], [], [], [(0, (1, 1, 0), yc 0)])], [])
def yx829 : yCx := ([], ys829.2.2.2.2, yFP, zm209.2.2.1, zm209.2.2.2.1, zc209, 1, ys829.2.2.2.1, [], [])
theorem yw829 : ywf ys829.2.2.1 = true := by decide +kernel
theorem yk829 : yver yx829 ys829.2.2.1 4000 = true := yverQ_ok (by decide +kernel)
theorem yt829 {E : zHp → Prop} (h : yEF E yFP) : yTs E 1 ys829 := yver_s (k := 209) (n := 0) (x := yx829) (P := ys829.2.2.1) (f := 4000) h (yal_n) yg209 yk829
def ys830 : ySp := (225, 2, (1, [(0, 0, 5)], [], [], [(0, (2, yc 70, yc 0)), (1, (0, (1, 0, 0), yc 0))], []), [(2, [(1, (-2147483648), 2147483647)], [], [], [], [(0, (1, 1, 0), yc 0)])], [(80, 80, 1000)])
def yx830 : yCx := ([ys829], ys830.2.2.2.2, yFP, zm225.2.2.1, zm225.2.2.2.1, zc225, 1, ys830.2.2.2.1, [], [])
theorem yw830 : ywf ys830.2.2.1 = true := by decide +kernel
theorem yk830 : yver yx830 ys830.2.2.1 4000 = true := yverQ_ok (by decide +kernel)
theorem yt830 {E : zHp → Prop} (h : yEF E yFP) : yTs E 2 ys830 := yver_s (k := 225) (n := 1) (x := yx830) (P := ys830.2.2.1) (f := 4000) h (yal_c (yt829 h) (by decide) yw829 (yal_n)) yg225 yk830
def ys831 : ySp := (246, 3, (0, [], [], [], [(0, (2, yc 70, yc 0))], []), [(1, [(0, (-2147483648), 2147483647)], [], [], [], [(0, (1, 0, 0), yc 0)])], [(80, 80, 1000)])
def yx831 : yCx := ([ys828, ys830], ys831.2.2.2.2, yFP, zm246.2.2.1, zm246.2.2.2.1, zc246, 0, ys831.2.2.2.1, [(4, (2, [(0, (-2147483648), 2147483647), (1, 0, 6)], [], [], [(0, (2, yc 70, yc 0)), (1, (0, (1, 0, 0), yc 0)), (2, (0, (1, 1, 0), yc 0))], []), ([((-1), 1)], 7))], [])
theorem yw831 : ywf ys831.2.2.1 = true := by decide +kernel
theorem yk831 : yver yx831 ys831.2.2.1 4000 = true := yverQ_ok (by decide +kernel)
theorem yt831 {E : zHp → Prop} (h : yEF E yFP) : yTs E 6 ys831 := yver_s (k := 246) (n := 5) (x := yx831) (P := ys831.2.2.1) (f := 4000) h (yal_c (yt828 h) (by decide) yw828 (yal_c (yt830 h) (by decide) yw830 (yal_n))) yg246 yk831
def ys832 : ySp := (233, 3, (0, [], [], [], [(0, (2, yc 70, yc 0))], []), [(1, [(0, (-2147483648), 2147483647)], [], [], [], [(0, (1, 0, 0), yc 0)])], [(80, 80, 1000)])
def yx832 : yCx := ([ys813, ys810], ys832.2.2.2.2, yFP, zm233.2.2.1, zm233.2.2.2.1, zc233, 0, ys832.2.2.2.1, [(4, (2, [(0, (-2147483648), 2147483647), (1, 0, 6)], [], [], [(0, (2, yc 70, yc 0)), (1, (0, (1, 0, 0), yc 0)), (2, (0, (1, 1, 0), yc 0))], []), ([((-1), 1)], 7))], [])
theorem yw832 : ywf ys832.2.2.1 = true := by decide +kernel
theorem yk832 : yver yx832 ys832.2.2.1 4000 = true := yverQ_ok (by decide +kernel)
theorem yt832 {E : zHp → Prop} (h : yEF E yFP) : yTs E 3 ys832 := yver_s (k := 233) (n := 2) (x := yx832) (P := ys832.2.2.1) (f := 4000) h (yal_c (yt813 h) (by decide) yw813 (yal_c (yt810 h) (by decide) yw810 (yal_n))) yg233 yk832
def ys833 : ySp := (276, 8, (3, [(0, 0, 63), (1, 0, 63), (2, 0, 1)], [], [], [(0, (2, yc 70, yc 0)), (1, (0, (1, 0, 0), yc 0)), (2, (0, (1, 1, 0), yc 0)), (3, (0, (1, 2, 0), yc 0))], []), [(3, [], [], [], [], [(0, yc (-1), yc 0)]), (4, [(0, 1, 10), (1, 1, 60), (3, (-2147483648), 2147483647)], [], [], [], [(0, (1, 3, 0), yc 0)])], [(70, 70, 35), (80, 80, 1000), (84, 84, 1000)])
def yx833 : yCx := ([ys770, ys771, ys772, ys769, ys832, ys831, ys4, ys5, ys791], ys833.2.2.2.2, yFP, zm276.2.2.1, zm276.2.2.2.1, zc276, 3, ys833.2.2.2.1, [(65, (11, [(0, 1, 10), (1, 1, 60), (2, 0, 1), (3, 1, 60), (4, (-2147483648), 2147483647), (5, (-2147483648), 2147483647), (6, 0, 40), (7, 0, 2147483647), (8, 0, 2147483647), (9, 1, 6), (10, 0, 6)], [], [(yc 70, yc 23, (0, (1, 7, 0), yc 0)), (yc 70, yc 35, (1, (1, 8, 0), yc 0)), (yc 80, yc 0, (0, (1, 9, 0), yc 0)), (yc 80, yc 2, (0, (1, 10, 0), yc 0)), (yc 84, yc 0, (0, (1, 9, 0), yc 0)), (yc 84, yc 2, (0, (1, 10, 0), yc 0))], [(0, (2, yc 70, yc 0)), (1, (0, (1, 0, 0), yc 0)), (2, (0, (1, 3, 0), yc 0)), (3, (0, (1, 2, 0), yc 0)), (4, (0, (1, 4, 0), yc 0)), (5, (0, (1, 5, 0), yc 0)), (6, (0, (1, 6, 0), yc 0))], []), ([((-63), 6)], 2583)), (74, (14, [(0, 1, 10), (1, 1, 60), (2, 0, 1), (3, 1, 60), (4, (-2147483648), 2147483647), (5, (-2147483648), 2147483647), (6, 0, 20), (7, 0, 60), (8, 0, 2147483647), (9, 0, 2147483647), (10, 0, 6), (11, 0, 6), (12, 1, 6), (13, 0, 6)], [], [(yc 70, yc 23, (0, (1, 8, 0), yc 0)), (yc 70, yc 35, (1, (1, 9, 0), yc 0)), (yc 80, yc 0, (0, (1, 10, 0), yc 0)), (yc 80, yc 2, (0, (1, 11, 0), yc 0)), (yc 84, yc 0, (0, (1, 12, 0), yc 0)), (yc 84, yc 2, (0, (1, 13, 0), yc 0))], [(0, (2, yc 70, yc 0)), (1, (0, (1, 0, 0), yc 0)), (2, (0, (1, 3, 0), yc 0)), (3, (0, (1, 2, 0), yc 0)), (4, (0, (1, 4, 0), yc 0)), (5, (0, (1, 5, 0), yc 0)), (6, (0, (1, 6, 0), yc 0)), (7, (0, (1, 7, 0), yc 0))], []), ([((-1), 7), ((-63), 6)], 2581))], [])
theorem yw833 : ywf ys833.2.2.1 = true := by decide +kernel
theorem yk833 : yver yx833 ys833.2.2.1 4000 = true := yverQ_ok (by decide +kernel)
theorem yt833 {E : zHp → Prop} (h : yXt E) : yTs E 7 ys833 := yver_s (k := 276) (n := 6) (x := yx833) (P := ys833.2.2.1) (f := 4000) h.1 (yal_c (yt770 h.1) (by decide) yw770 (yal_c (yt771 h.1) (by decide) yw771 (yal_c (yt772 h.1) (by decide) yw772 (yal_c (yt769 h.1) (by decide) yw769 (yal_c (yt832 h.1) (by decide) yw832 (yal_c (yt831 h.1) (by decide) yw831 (yal_c (yl4 h) (by decide) yw4 (yal_c (yl5 h) (by decide) yw5 (yal_c (yt791 h.1) (by decide) yw791 (yal_n)))))))))) yg276 yk833
def ys834 : ySp := (158, 6, (1, [(0, (-9223372036854775808), 9223372036854775807)], [], [], [(0, (1, (1, 0, 0), yc 0)), (2, (1, yc 1, yc 0)), (4, (1, yc 10, yc 0))], []), [(1, [(0, (-9223372036854775808), 0)], [], [], [], [(0, yc 0, yc 0)]), (1, [(0, 11, 9223372036854775807)], [], [], [], [(0, yc 0, yc 0)]), (1, [(0, 1, 10)], [], [], [], [(0, yc 1, yc 0)])], [])
def yx834 : yCx := ([], ys834.2.2.2.2, yFP, zm158.2.2.1, zm158.2.2.2.1, zc158, 1, ys834.2.2.2.1, [], [])
theorem yw834 : ywf ys834.2.2.1 = true := by decide +kernel
theorem yk834 : yver yx834 ys834.2.2.1 4000 = true := yverQ_ok (by decide +kernel)
theorem yt834 {E : zHp → Prop} (h : yEF E yFP) : yTs E 1 ys834 := yver_s (k := 158) (n := 0) (x := yx834) (P := ys834.2.2.1) (f := 4000) h (yal_n) yg158 yk834
def ys835 : ySp := (158, 6, (1, [(0, (-9223372036854775808), 9223372036854775807)], [], [], [(0, (1, (1, 0, 0), yc 0)), (2, (1, yc 1, yc 0)), (4, (1, yc 60, yc 0))], []), [(1, [(0, (-9223372036854775808), 0)], [], [], [], [(0, yc 0, yc 0)]), (1, [(0, 61, 9223372036854775807)], [], [], [], [(0, yc 0, yc 0)]), (1, [(0, 1, 60)], [], [], [], [(0, yc 1, yc 0)])], [])
def yx835 : yCx := ([], ys835.2.2.2.2, yFP, zm158.2.2.1, zm158.2.2.2.1, zc158, 1, ys835.2.2.2.1, [], [])
theorem yw835 : ywf ys835.2.2.1 = true := by decide +kernel
theorem yk835 : yver yx835 ys835.2.2.1 4000 = true := yverQ_ok (by decide +kernel)
theorem yt835 {E : zHp → Prop} (h : yEF E yFP) : yTs E 1 ys835 := yver_s (k := 158) (n := 0) (x := yx835) (P := ys835.2.2.1) (f := 4000) h (yal_n) yg158 yk835
def ys836 : ySp := (158, 6, (1, [(0, (-9223372036854775808), 9223372036854775807)], [], [], [(0, (1, (1, 0, 0), yc 0)), (2, (1, yc 0, yc 0)), (4, (1, yc 1, yc 0))], []), [(1, [(0, (-9223372036854775808), (-1))], [], [], [], [(0, yc 0, yc 0)]), (1, [(0, 2, 9223372036854775807)], [], [], [], [(0, yc 0, yc 0)]), (1, [(0, 0, 1)], [], [], [], [(0, yc 1, yc 0)])], [])
def yx836 : yCx := ([], ys836.2.2.2.2, yFP, zm158.2.2.1, zm158.2.2.2.1, zc158, 1, ys836.2.2.2.1, [], [])
theorem yw836 : ywf ys836.2.2.1 = true := by decide +kernel
theorem yk836 : yver yx836 ys836.2.2.1 4000 = true := yverQ_ok (by decide +kernel)
theorem yt836 {E : zHp → Prop} (h : yEF E yFP) : yTs E 1 ys836 := yver_s (k := 158) (n := 0) (x := yx836) (P := ys836.2.2.1) (f := 4000) h (yal_n) yg158 yk836
def ys837 : ySp := (276, 8, (3, [(0, (-2147483648), 2147483647), (1, (-2147483648), 2147483647), (2, (-2147483648), 2147483647)], [], [], [(0, (2, yc 70, yc 0)), (1, (0, (1, 0, 0), yc 0)), (2, (0, (1, 1, 0), yc 0)), (3, (0, (1, 2, 0), yc 0))], []), [(3, [], [], [], [], [(0, yc (-1), yc 0)]), (4, [(0, 1, 10), (1, 1, 60), (2, 0, 1), (3, (-2147483648), 2147483647)], [], [], [], [(0, (1, 3, 0), yc 0)])], [(70, 70, 35), (80, 80, 1000), (84, 84, 1000)])
def yx837 : yCx := ([ys834, ys835, ys836, ys769, ys832, ys831, ys4, ys5, ys791], ys837.2.2.2.2, yFP, zm276.2.2.1, zm276.2.2.2.1, zc276, 3, ys837.2.2.2.1, [(65, (11, [(0, 1, 10), (1, 1, 60), (2, 0, 1), (3, 1, 60), (4, (-2147483648), 2147483647), (5, (-2147483648), 2147483647), (6, 0, 40), (7, 0, 2147483647), (8, 0, 2147483647), (9, 1, 6), (10, 0, 6)], [], [(yc 70, yc 23, (0, (1, 7, 0), yc 0)), (yc 70, yc 35, (1, (1, 8, 0), yc 0)), (yc 80, yc 0, (0, (1, 9, 0), yc 0)), (yc 80, yc 2, (0, (1, 10, 0), yc 0)), (yc 84, yc 0, (0, (1, 9, 0), yc 0)), (yc 84, yc 2, (0, (1, 10, 0), yc 0))], [(0, (2, yc 70, yc 0)), (1, (0, (1, 0, 0), yc 0)), (2, (0, (1, 3, 0), yc 0)), (3, (0, (1, 2, 0), yc 0)), (4, (0, (1, 4, 0), yc 0)), (5, (0, (1, 5, 0), yc 0)), (6, (0, (1, 6, 0), yc 0))], []), ([((-63), 6)], 2583)), (74, (14, [(0, 1, 10), (1, 1, 60), (2, 0, 1), (3, 1, 60), (4, (-2147483648), 2147483647), (5, (-2147483648), 2147483647), (6, 0, 20), (7, 0, 60), (8, 0, 2147483647), (9, 0, 2147483647), (10, 0, 6), (11, 0, 6), (12, 1, 6), (13, 0, 6)], [], [(yc 70, yc 23, (0, (1, 8, 0), yc 0)), (yc 70, yc 35, (1, (1, 9, 0), yc 0)), (yc 80, yc 0, (0, (1, 10, 0), yc 0)), (yc 80, yc 2, (0, (1, 11, 0), yc 0)), (yc 84, yc 0, (0, (1, 12, 0), yc 0)), (yc 84, yc 2, (0, (1, 13, 0), yc 0))], [(0, (2, yc 70, yc 0)), (1, (0, (1, 0, 0), yc 0)), (2, (0, (1, 3, 0), yc 0)), (3, (0, (1, 2, 0), yc 0)), (4, (0, (1, 4, 0), yc 0)), (5, (0, (1, 5, 0), yc 0)), (6, (0, (1, 6, 0), yc 0)), (7, (0, (1, 7, 0), yc 0))], []), ([((-1), 7), ((-63), 6)], 2581))], [])
theorem yw837 : ywf ys837.2.2.1 = true := by decide +kernel
theorem yk837 : yver yx837 ys837.2.2.1 4000 = true := yverQ_ok (by decide +kernel)
theorem yt837 {E : zHp → Prop} (h : yXt E) : yTs E 7 ys837 := yver_s (k := 276) (n := 6) (x := yx837) (P := ys837.2.2.1) (f := 4000) h.1 (yal_c (yt834 h.1) (by decide) yw834 (yal_c (yt835 h.1) (by decide) yw835 (yal_c (yt836 h.1) (by decide) yw836 (yal_c (yt769 h.1) (by decide) yw769 (yal_c (yt832 h.1) (by decide) yw832 (yal_c (yt831 h.1) (by decide) yw831 (yal_c (yl4 h) (by decide) yw4 (yal_c (yl5 h) (by decide) yw5 (yal_c (yt791 h.1) (by decide) yw791 (yal_n)))))))))) yg276 yk837
def ys842 : ySp := (291, 4, (1, [(0, (-1), 5)], [], [], [(0, (2, yc 45, yc 0)), (1, (0, (1, 0, 0), yc 0))], []), [(1, [], [], [], [], [])], [(45, 45, 1000)])
def yx842 : yCx := ([], ys842.2.2.2.2, yFP, zm291.2.2.1, zm291.2.2.2.1, zc291, 1, ys842.2.2.2.1, [(5, (2, [(0, (-1), 5), (1, 0, 6)], [], [], [(0, (2, yc 45, yc 0)), (1, (0, (1, 0, 0), yc 0)), (2, (0, (1, 1, 0), yc 0)), (3, (0, yc 6, yc 0))], []), ([((-1), 1)], 7))], [])
theorem yw842 : ywf ys842.2.2.1 = true := by decide +kernel
theorem yk842 : yver yx842 ys842.2.2.1 4000 = true := yverQ_ok (by decide +kernel)
theorem yt842 {E : zHp → Prop} (h : yEF E yFP) : yTs E 1 ys842 := yver_s (k := 291) (n := 0) (x := yx842) (P := ys842.2.2.1) (f := 4000) h (yal_n) yg291 yk842
def ys843 : ySp := (291, 4, (1, [(0, (-1), 5)], [], [], [(0, (2, yc 46, yc 0)), (1, (0, (1, 0, 0), yc 0))], []), [(1, [], [], [], [], [])], [(46, 46, 1000)])
def yx843 : yCx := ([], ys843.2.2.2.2, yFP, zm291.2.2.1, zm291.2.2.2.1, zc291, 1, ys843.2.2.2.1, [(5, (2, [(0, (-1), 5), (1, 0, 6)], [], [], [(0, (2, yc 46, yc 0)), (1, (0, (1, 0, 0), yc 0)), (2, (0, (1, 1, 0), yc 0)), (3, (0, yc 6, yc 0))], []), ([((-1), 1)], 7))], [])
theorem yw843 : ywf ys843.2.2.1 = true := by decide +kernel
theorem yk843 : yver yx843 ys843.2.2.1 4000 = true := yverQ_ok (by decide +kernel)
theorem yt843 {E : zHp → Prop} (h : yEF E yFP) : yTs E 1 ys843 := yver_s (k := 291) (n := 0) (x := yx843) (P := ys843.2.2.1) (f := 4000) h (yal_n) yg291 yk843
def ys844 : ySp := (291, 4, (1, [(0, 0, 1)], [], [], [(0, (2, yc 47, yc 0)), (1, (0, (1, 0, 0), yc 0))], []), [(1, [], [], [], [], [])], [(47, 47, 1000)])
def yx844 : yCx := ([], ys844.2.2.2.2, yFP, zm291.2.2.1, zm291.2.2.2.1, zc291, 1, ys844.2.2.2.1, [(5, (2, [(0, 0, 1), (1, 0, 64)], [], [], [(0, (2, yc 47, yc 0)), (1, (0, (1, 0, 0), yc 0)), (2, (0, (1, 1, 0), yc 0)), (3, (0, yc 64, yc 0))], []), ([((-1), 1)], 65))], [])
theorem yw844 : ywf ys844.2.2.1 = true := by decide +kernel
theorem yk844 : yver yx844 ys844.2.2.1 4000 = true := yverQ_ok (by decide +kernel)
theorem yt844 {E : zHp → Prop} (h : yEF E yFP) : yTs E 1 ys844 := yver_s (k := 291) (n := 0) (x := yx844) (P := ys844.2.2.1) (f := 4000) h (yal_n) yg291 yk844
def ys845 : ySp := (77, 1, (1, [(0, 0, 6)], [], [(yc 12, yc 0, (0, (1, 0, 0), yc 0))], [(0, (2, yc 11, yc 0))], []), [(1, [], [], [(yc 12, yc 0, (0, (1, 0, 0), yc 0))], [], [(0, (1, 0, 0), yc 0)])], [])
def yx845 : yCx := ([], ys845.2.2.2.2, yFP, zm77.2.2.1, zm77.2.2.2.1, zc77, 1, ys845.2.2.2.1, [], [])
theorem yw845 : ywf ys845.2.2.1 = true := by decide +kernel
theorem yk845 : yver yx845 ys845.2.2.1 4000 = true := yverQ_ok (by decide +kernel)
theorem yt845 {E : zHp → Prop} (h : yEF E yFP) : yTs E 1 ys845 := yver_s (k := 77) (n := 0) (x := yx845) (P := ys845.2.2.1) (f := 4000) h (yal_n) yg77 yk845
def ys846 : ySp := (280, 1, (1, [(0, (-2147483648), 2147483647)], [], [], [(0, (0, (1, 0, 0), yc 0))], []), [(2, [(1, 0, 63)], [], [], [], [(0, (1, 1, 0), yc 0)])], [])
def yx846 : yCx := ([], ys846.2.2.2.2, yFP, zm280.2.2.1, zm280.2.2.2.1, zc280, 1, ys846.2.2.2.1, [], [])
theorem yw846 : ywf ys846.2.2.1 = true := by decide +kernel
theorem yk846 : yver yx846 ys846.2.2.1 4000 = true := yverQ_ok (by decide +kernel)
theorem yt846 {E : zHp → Prop} (h : yEF E yFP) : yTs E 1 ys846 := yver_s (k := 280) (n := 0) (x := yx846) (P := ys846.2.2.1) (f := 4000) h (yal_n) yg280 yk846
end
section
def ys847 : ySp := (2, 5, (3, [(0, 0, 6), (1, (-2147483648), 2147483647), (2, 0, 63)], [], [], [(0, (2, yc 44, yc 0)), (1, (0, (1, 0, 0), yc 0)), (2, (0, (1, 1, 0), yc 0)), (3, (0, (1, 2, 0), yc 0))], []), [(3, [], [], [], [], [])], [(45, 45, 1000), (46, 46, 1000)])
def yx847 : yCx := ([], ys847.2.2.2.2, yFP, zm2.2.2.1, zm2.2.2.2.1, zc2, 3, ys847.2.2.2.1, [(3, (4, [(0, 0, 6), (1, (-2147483648), 2147483647), (2, 0, 63), (3, 0, 6)], [], [], [(0, (2, yc 44, yc 0)), (1, (0, (1, 0, 0), yc 0)), (2, (0, (1, 1, 0), yc 0)), (3, (0, (1, 2, 0), yc 0)), (4, (0, (1, 3, 0), yc 0))], []), ([((-1), 3)], 7))], [])
theorem yw847 : ywf ys847.2.2.1 = true := by decide +kernel
theorem yk847 : yver yx847 ys847.2.2.1 4000 = true := yverQ_ok (by decide +kernel)
theorem yt847 {E : zHp → Prop} (h : yEF E yFP) : yTs E 1 ys847 := yver_s (k := 2) (n := 0) (x := yx847) (P := ys847.2.2.1) (f := 4000) h (yal_n) yg2 yk847
def ys848 : ySp := (3, 5, (1, [(0, 0, 63)], [], [], [(0, (2, yc 44, yc 0)), (1, (2, yc 11, yc 0)), (2, (0, (1, 0, 0), yc 0))], []), [(1, [], [], [], [], [])], [(47, 47, 1000)])
def yx848 : yCx := ([ys845, ys684], ys848.2.2.2.2, yFP, zm3.2.2.1, zm3.2.2.2.1, zc3, 1, ys848.2.2.2.1, [(5, (3, [(0, 0, 63), (1, 0, 63), (2, 0, 6)], [], [], [(0, (2, yc 44, yc 0)), (1, (2, yc 11, yc 0)), (2, (0, (1, 0, 0), yc 0)), (3, (0, (1, 1, 0), yc 0)), (4, (0, (1, 2, 0), yc 0))], []), ([((-1), 2)], 14)), (52, (4, [(0, 0, 63), (1, 0, 63), (2, 0, 6), (3, 0, 6)], [], [(yc 12, yc 0, (0, (1, 3, 0), yc 0))], [(0, (2, yc 44, yc 0)), (1, (2, yc 11, yc 0)), (2, (0, (1, 0, 0), yc 0)), (3, (0, (1, 1, 0), yc 0)), (4, (0, (1, 2, 0), yc 0))], []), ([((-1), 2)], 7))], [])
theorem yw848 : ywf ys848.2.2.1 = true := by decide +kernel
theorem yk848 : yver yx848 ys848.2.2.1 4000 = true := yverQ_ok (by decide +kernel)
theorem yt848 {E : zHp → Prop} (h : yEF E yFP) : yTs E 2 ys848 := yver_s (k := 3) (n := 1) (x := yx848) (P := ys848.2.2.1) (f := 4000) h (yal_c (yt845 h) (by decide) yw845 (yal_c (yt684 h) (by decide) yw684 (yal_n))) yg3 yk848
def ys851 : ySp := (1, 7, (1, [(0, 0, 5)], [], [], [(0, (2, yc 44, yc 0)), (1, (2, yc 11, yc 0)), (2, (0, (1, 0, 0), yc 0))], []), [(1, [], [], [], [], [])], [(45, 45, 1000), (46, 46, 1000), (47, 47, 1000)])
def yx851 : yCx := ([ys847, ys848, ys845, ys698, ys705, ys846, ys844, ys842, ys843], ys851.2.2.2.2, yFP, zm1.2.2.1, zm1.2.2.2.1, zc1, 1, ys851.2.2.2.1, [(67, (6, [(0, 0, 5), (1, 0, 5), (2, 0, 63), (3, 1, 64), (4, 0, 64), (5, 0, 6)], [], [(yc 12, yc 0, (0, (1, 5, 0), yc 0))], [(0, (2, yc 44, yc 0)), (1, (2, yc 11, yc 0)), (2, (0, (1, 0, 0), yc 0)), (3, (0, (1, 1, 0), yc 0)), (4, (0, (1, 2, 0), yc 0)), (5, (0, (1, 3, 0), yc 0)), (6, (0, (1, 4, 0), yc 0))], []), ([((-1), 4)], 65))], [])
theorem yw851 : ywf ys851.2.2.1 = true := by decide +kernel
theorem yk851 : yver yx851 ys851.2.2.1 4000 = true := yverQ_ok (by decide +kernel)
theorem yt851 {E : zHp → Prop} (h : yEF E yFP) : yTs E 3 ys851 := yver_s (k := 1) (n := 2) (x := yx851) (P := ys851.2.2.1) (f := 4000) h (yal_c (yt847 h) (by decide) yw847 (yal_c (yt848 h) (by decide) yw848 (yal_c (yt845 h) (by decide) yw845 (yal_c (yt698 h) (by decide) yw698 (yal_c (yt705 h) (by decide) yw705 (yal_c (yt846 h) (by decide) yw846 (yal_c (yt844 h) (by decide) yw844 (yal_c (yt842 h) (by decide) yw842 (yal_c (yt843 h) (by decide) yw843 (yal_n)))))))))) yg1 yk851
def ys857 : ySp := (4, 5, (2, [(0, 0, 5), (1, 0, 4)], [], [], [(0, (2, yc 44, yc 0)), (1, (2, yc 11, yc 0)), (2, (0, (1, 0, 0), yc 0)), (3, (0, (1, 1, 0), yc 0))], []), [(2, [], [], [], [], [(0, yc 0, yc 0)]), (2, [], [], [], [], [(0, yc 1, yc 0)])], [(45, 45, 1000), (46, 46, 1000), (47, 47, 1000)])
def yx857 : yCx := ([ys851, ys673, ys698, ys732], ys857.2.2.2.2, yFP, zm4.2.2.1, zm4.2.2.2.1, zc4, 2, ys857.2.2.2.1, [(3, (3, [(0, 0, 5), (1, 0, 4), (2, 0, 6)], [], [], [(0, (2, yc 44, yc 0)), (1, (2, yc 11, yc 0)), (2, (0, (1, 0, 0), yc 0)), (3, (0, (1, 1, 0), yc 0)), (4, (0, (1, 2, 0), yc 0))], []), ([((-1), 2)], 7))], [])
theorem yw857 : ywf ys857.2.2.1 = true := by decide +kernel
theorem yk857 : yver yx857 ys857.2.2.1 4000 = true := yverQ_ok (by decide +kernel)
theorem yt857 {E : zHp → Prop} (h : yEF E yFP) : yTs E 4 ys857 := yver_s (k := 4) (n := 3) (x := yx857) (P := ys857.2.2.1) (f := 4000) h (yal_c (yt851 h) (by decide) yw851 (yal_c (yt673 h) (by decide) yw673 (yal_c (yt698 h) (by decide) yw698 (yal_c (yt732 h) (by decide) yw732 (yal_n))))) yg4 yk857
def ys859 : ySp := (105, 3, (2, [(0, 0, 5), (1, 0, 5)], [], [], [(0, (2, yc 11, yc 0)), (1, (0, (1, 0, 0), yc 0)), (2, (0, (1, 1, 0), yc 0))], []), [(2, [], [], [], [], [])], [(12, 12, 1000)])
def yx859 : yCx := ([], ys859.2.2.2.2, yFP, zm105.2.2.1, zm105.2.2.2.1, zc105, 2, ys859.2.2.2.1, [], [])
theorem yw859 : ywf ys859.2.2.1 = true := by decide +kernel
theorem yk859 : yver yx859 ys859.2.2.1 4000 = true := yverQ_ok (by decide +kernel)
theorem yt859 {E : zHp → Prop} (h : yEF E yFP) : yTs E 1 ys859 := yver_s (k := 105) (n := 0) (x := yx859) (P := ys859.2.2.1) (f := 4000) h (yal_n) yg105 yk859
def ys860 : ySp := (151, 4, (2, [(0, 0, 5), (1, 0, 4)], [], [], [(0, (2, yc 0, yc 0)), (1, (0, (1, 0, 0), yc 0)), (2, (0, (1, 1, 0), yc 0))], []), [(2, [], [], [], [], [(0, yc 0, yc 0)]), (2, [], [], [], [], [(0, yc 1, yc 0)])], [(12, 12, 1000), (45, 45, 1000), (46, 46, 1000), (47, 47, 1000)])
def yx860 : yCx := ([ys857, ys672, ys665, ys859], ys860.2.2.2.2, yFP, zm151.2.2.1, zm151.2.2.2.1, zc151, 2, ys860.2.2.2.1, [(2, (3, [(0, 0, 5), (1, 0, 4), (2, 0, 6)], [], [], [(0, (2, yc 0, yc 0)), (1, (0, (1, 0, 0), yc 0)), (2, (0, (1, 1, 0), yc 0)), (3, (0, (1, 2, 0), yc 0))], []), ([((-1), 2)], 7))], [])
theorem yw860 : ywf ys860.2.2.1 = true := by decide +kernel
theorem yk860 : yver yx860 ys860.2.2.1 4000 = true := yverQ_ok (by decide +kernel)
theorem yt860 {E : zHp → Prop} (h : yEF E yFP) : yTs E 5 ys860 := yver_s (k := 151) (n := 4) (x := yx860) (P := ys860.2.2.1) (f := 4000) h (yal_c (yt857 h) (by decide) yw857 (yal_c (yt672 h) (by decide) yw672 (yal_c (yt665 h) (by decide) yw665 (yal_c (yt859 h) (by decide) yw859 (yal_n))))) yg151 yk860
def ys861 : ySp := (150, 4, (1, [(0, (-2147483648), 2147483647)], [], [], [(0, (2, yc 0, yc 0)), (1, (0, (1, 0, 0), yc 0))], []), [(1, [], [], [], [], [(0, yc (-1), yc 0)]), (2, [(0, 0, 4), (1, (-2147483648), 2147483647)], [], [], [], [(0, (1, 1, 0), yc 0)])], [(12, 12, 1000), (45, 45, 1000), (46, 46, 1000), (47, 47, 1000)])
def yx861 : yCx := ([ys671, ys665, ys860], ys861.2.2.2.2, yFP, zm150.2.2.1, zm150.2.2.2.1, zc150, 1, ys861.2.2.2.1, [(25, (3, [(0, 0, 4), (1, (-2147483648), 2147483647), (2, 0, 6)], [], [], [(0, (2, yc 0, yc 0)), (1, (0, (1, 0, 0), yc 0)), (2, (0, (1, 1, 0), yc 0)), (3, (0, (1, 2, 0), yc 0))], []), ([((-1), 2)], 7))], [])
theorem yw861 : ywf ys861.2.2.1 = true := by decide +kernel
theorem yk861 : yver yx861 ys861.2.2.1 4000 = true := yverQ_ok (by decide +kernel)
theorem yt861 {E : zHp → Prop} (h : yEF E yFP) : yTs E 6 ys861 := yver_s (k := 150) (n := 5) (x := yx861) (P := ys861.2.2.1) (f := 4000) h (yal_c (yt671 h) (by decide) yw671 (yal_c (yt665 h) (by decide) yw665 (yal_c (yt860 h) (by decide) yw860 (yal_n)))) yg150 yk861
def ys863 : ySp := (235, 4, (2, [(0, 1, 6), (1, 0, 5)], [], [], [(0, (0, (1, 0, 0), yc 0)), (1, (0, (1, 1, 0), yc 0))], []), [(2, [(1, 0, 0)], [], [], [], [(0, yc 1, yc 0)]), (3, [(1, 1, 5), (2, 1, 7776)], [], [], [], [(0, (1, 2, 0), yc 0)])], [])
def yx863 : yCx := ([], ys863.2.2.2.2, yFP, zm235.2.2.1, zm235.2.2.2.1, zc235, 2, ys863.2.2.2.1, [(4, (2, [(0, 1, 6), (1, 0, 5)], [], [], [(0, (0, (1, 0, 0), yc 0)), (1, (0, (1, 1, 0), yc 0)), (2, (0, yc 1, yc 0)), (3, (0, yc 0, yc 0))], []), ([], 5)), (4, (2, [(0, 1, 6), (1, 1, 5)], [], [], [(0, (0, (1, 0, 0), yc 0)), (1, (0, (1, 1, 0), yc 0)), (2, (0, (1, 0, 0), yc 0)), (3, (0, yc 1, yc 0))], []), ([], 4)), (4, (3, [(0, 1, 6), (1, 2, 5), (2, 1, 36)], [], [], [(0, (0, (1, 0, 0), yc 0)), (1, (0, (1, 1, 0), yc 0)), (2, (0, (1, 2, 0), yc 0)), (3, (0, yc 2, yc 0))], []), ([], 3)), (4, (3, [(0, 1, 6), (1, 3, 5), (2, 1, 216)], [], [], [(0, (0, (1, 0, 0), yc 0)), (1, (0, (1, 1, 0), yc 0)), (2, (0, (1, 2, 0), yc 0)), (3, (0, yc 3, yc 0))], []), ([], 2)), (4, (3, [(0, 1, 6), (1, 4, 5), (2, 1, 1296)], [], [], [(0, (0, (1, 0, 0), yc 0)), (1, (0, (1, 1, 0), yc 0)), (2, (0, (1, 2, 0), yc 0)), (3, (0, yc 4, yc 0))], []), ([], 1)), (4, (3, [(0, 1, 6), (1, 5, 5), (2, 1, 7776)], [], [], [(0, (0, (1, 0, 0), yc 0)), (1, (0, yc 5, yc 0)), (2, (0, (1, 2, 0), yc 0)), (3, (0, yc 5, yc 0))], []), ([], 0))], [])
theorem yw863 : ywf ys863.2.2.1 = true := by decide +kernel
theorem yk863 : yver yx863 ys863.2.2.1 4000 = true := yverQ_ok (by decide +kernel)
theorem yt863 {E : zHp → Prop} (h : yEF E yFP) : yTs E 1 ys863 := yver_s (k := 235) (n := 0) (x := yx863) (P := ys863.2.2.1) (f := 4000) h (yal_n) yg235 yk863
def ys864 : ySp := (235, 4, (2, [(0, 1, 6), (1, (-7), 7)], [], [], [(0, (0, (1, 0, 0), yc 0)), (1, (0, (1, 1, 0), yc 0))], []), [(2, [(1, (-7), 0)], [], [], [], [(0, yc 1, yc 0)]), (3, [(1, 1, 7), (2, 1, 279936)], [], [], [], [(0, (1, 2, 0), yc 0)])], [])
def yq864_0 : yCu := (4, (2, [(0, 1, 6), (1, (-7), 7)], [], [], [(0, (0, (1, 0, 0), yc 0)), (1, (0, (1, 1, 0), yc 0)), (2, (0, yc 1, yc 0)), (3, (0, yc 0, yc 0))], []), ([], 7))
def yq864_1 : yCu := (4, (2, [(0, 1, 6), (1, 1, 7)], [], [], [(0, (0, (1, 0, 0), yc 0)), (1, (0, (1, 1, 0), yc 0)), (2, (0, (1, 0, 0), yc 0)), (3, (0, yc 1, yc 0))], []), ([], 6))
def yq864_2 : yCu := (4, (3, [(0, 1, 6), (1, 2, 7), (2, 1, 36)], [], [], [(0, (0, (1, 0, 0), yc 0)), (1, (0, (1, 1, 0), yc 0)), (2, (0, (1, 2, 0), yc 0)), (3, (0, yc 2, yc 0))], []), ([], 5))
def yq864_3 : yCu := (4, (3, [(0, 1, 6), (1, 3, 7), (2, 1, 216)], [], [], [(0, (0, (1, 0, 0), yc 0)), (1, (0, (1, 1, 0), yc 0)), (2, (0, (1, 2, 0), yc 0)), (3, (0, yc 3, yc 0))], []), ([], 4))
def yq864_4 : yCu := (4, (3, [(0, 1, 6), (1, 4, 7), (2, 1, 1296)], [], [], [(0, (0, (1, 0, 0), yc 0)), (1, (0, (1, 1, 0), yc 0)), (2, (0, (1, 2, 0), yc 0)), (3, (0, yc 4, yc 0))], []), ([], 3))
def yq864_5 : yCu := (4, (3, [(0, 1, 6), (1, 5, 7), (2, 1, 7776)], [], [], [(0, (0, (1, 0, 0), yc 0)), (1, (0, (1, 1, 0), yc 0)), (2, (0, (1, 2, 0), yc 0)), (3, (0, yc 5, yc 0))], []), ([], 2))
def yq864_6 : yCu := (4, (3, [(0, 1, 6), (1, 6, 7), (2, 1, 46656)], [], [], [(0, (0, (1, 0, 0), yc 0)), (1, (0, (1, 1, 0), yc 0)), (2, (0, (1, 2, 0), yc 0)), (3, (0, yc 6, yc 0))], []), ([], 1))
def yq864_7 : yCu := (4, (3, [(0, 1, 6), (1, 7, 7), (2, 1, 279936)], [], [], [(0, (0, (1, 0, 0), yc 0)), (1, (0, yc 7, yc 0)), (2, (0, (1, 2, 0), yc 0)), (3, (0, yc 7, yc 0))], []), ([], 0))
def yx864 : yCx := ([], ys864.2.2.2.2, yFP, zm235.2.2.1, zm235.2.2.2.1, zc235, 2, ys864.2.2.2.1, [yq864_0, yq864_1, yq864_2, yq864_3, yq864_4, yq864_5, yq864_6, yq864_7], [])
theorem yw864 : ywf ys864.2.2.1 = true := by decide +kernel
theorem yk864_e : yver0 yx864 ys864.2.2.1 4000 = true := yver0Q_ok (by decide +kernel)
theorem yk864_0 : ycc yx864 4000 yq864_0 = true := yccQ_ok (by decide +kernel)
theorem yk864_1 : ycc yx864 4000 yq864_1 = true := yccQ_ok (by decide +kernel)
theorem yk864_2 : ycc yx864 4000 yq864_2 = true := yccQ_ok (by decide +kernel)
theorem yk864_3 : ycc yx864 4000 yq864_3 = true := yccQ_ok (by decide +kernel)
theorem yk864_4 : ycc yx864 4000 yq864_4 = true := yccQ_ok (by decide +kernel)
theorem yk864_5 : ycc yx864 4000 yq864_5 = true := yccQ_ok (by decide +kernel)
theorem yk864_6 : ycc yx864 4000 yq864_6 = true := yccQ_ok (by decide +kernel)
theorem yk864_7 : ycc yx864 4000 yq864_7 = true := yccQ_ok (by decide +kernel)
theorem yk864 : yver yx864 ys864.2.2.1 4000 = true := yver_join yk864_e (ycc_c yk864_0 (ycc_c yk864_1 (ycc_c yk864_2 (ycc_c yk864_3 (ycc_c yk864_4 (ycc_c yk864_5 (ycc_c yk864_6 (ycc_c yk864_7 (ycc_n)))))))))
theorem yt864 {E : zHp → Prop} (h : yEF E yFP) : yTs E 1 ys864 := yver_s (k := 235) (n := 0) (x := yx864) (P := ys864.2.2.1) (f := 4000) h (yal_n) yg235 yk864
def ys865 : ySp := (236, 4, (4, [(0, 0, 1), (1, 0, 5), (2, (-1), 5), (3, 1, 6)], [], [(yc 80, yc 0, (0, (1, 3, 0), yc 0))], [(0, (2, yc 70, yc 0)), (1, (0, (1, 0, 0), yc 0)), (2, (0, (1, 1, 0), yc 0)), (3, (0, (1, 2, 0), yc 0))], []), [(5, [(4, 0, 1)], [], [(yc 80, yc 0, (0, (1, 3, 0), yc 0))], [], [(0, (1, 4, 0), yc 0)])], [])
def yx865 : yCx := ([ys864], ys865.2.2.2.2, yFP, zm236.2.2.1, zm236.2.2.2.1, zc236, 4, ys865.2.2.2.1, [], [])
theorem yw865 : ywf ys865.2.2.1 = true := by decide +kernel
theorem yk865 : yver yx865 ys865.2.2.1 4000 = true := yverQ_ok (by decide +kernel)
theorem yt865 {E : zHp → Prop} (h : yEF E yFP) : yTs E 2 ys865 := yver_s (k := 236) (n := 1) (x := yx865) (P := ys865.2.2.1) (f := 4000) h (yal_c (yt864 h) (by decide) yw864 (yal_n)) yg236 yk865
def ys867 : ySp := (159, 2, (2, [(0, 0, 63), (1, 0, 1)], [], [], [(0, (0, (1, 0, 0), yc 0)), (1, (0, (1, 1, 0), yc 0))], []), [(2, [], [], [], [], [(0, yc 0, yc 0)]), (2, [], [], [], [], [(0, yc 1, yc 0)])], [])
def yx867 : yCx := ([], ys867.2.2.2.2, yFP, zm159.2.2.1, zm159.2.2.2.1, zc159, 2, ys867.2.2.2.1, [], [])
theorem yw867 : ywf ys867.2.2.1 = true := by decide +kernel
theorem yk867 : yver yx867 ys867.2.2.1 4000 = true := yverQ_ok (by decide +kernel)
theorem yt867 {E : zHp → Prop} (h : yEF E yFP) : yTs E 1 ys867 := yver_s (k := 159) (n := 0) (x := yx867) (P := ys867.2.2.1) (f := 4000) h (yal_n) yg159 yk867
def ys868 : ySp := (237, 6, (3, [(0, 0, 1), (1, 0, 5), (2, 1, 6)], [], [(yc 80, yc 0, (0, (1, 2, 0), yc 0))], [(0, (2, yc 70, yc 0)), (1, (0, (1, 0, 0), yc 0)), (2, (0, (1, 1, 0), yc 0))], []), [(3, [(1, 1, 5)], [], [(yc 80, yc 0, (0, (1, 2, 0), yc 0))], [], [(0, yc 0, yc 0)]), (3, [], [], [(yc 80, yc 0, (0, (1, 2, 0), yc 0))], [], [(0, yc 1, yc 0)])], [])
def yx868 : yCx := ([ys867, ys865], ys868.2.2.2.2, yFP, zm237.2.2.1, zm237.2.2.2.1, zc237, 3, ys868.2.2.2.1, [(5, (5, [(0, 0, 1), (1, 0, 5), (2, 1, 6), (3, 0, 63), (4, 0, 5)], [], [(yc 80, yc 0, (0, (1, 2, 0), yc 0))], [(0, (2, yc 70, yc 0)), (1, (0, (1, 0, 0), yc 0)), (2, (0, (1, 1, 0), yc 0)), (3, (0, (1, 3, 0), yc 0)), (4, (0, (1, 4, 0), yc 0))], []), ([((-1), 4)], 6))], [])
theorem yw868 : ywf ys868.2.2.1 = true := by decide +kernel
theorem yk868 : yver yx868 ys868.2.2.1 4000 = true := yverQ_ok (by decide +kernel)
theorem yt868 {E : zHp → Prop} (h : yEF E yFP) : yTs E 3 ys868 := yver_s (k := 237) (n := 2) (x := yx868) (P := ys868.2.2.1) (f := 4000) h (yal_c (yt867 h) (by decide) yw867 (yal_c (yt865 h) (by decide) yw865 (yal_n))) yg237 yk868
def ys869 : ySp := (238, 5, (4, [(0, 0, 1), (1, 0, 5), (2, 0, 5), (3, 1, 6)], [], [(yc 80, yc 0, (0, (1, 3, 0), yc 0))], [(0, (2, yc 70, yc 0)), (1, (0, (1, 0, 0), yc 0)), (2, (0, (1, 1, 0), yc 0)), (3, (0, (1, 2, 0), yc 0))], []), [(4, [], [], [(yc 80, yc 0, (0, (1, 3, 0), yc 0))], [], [(0, yc 0, yc 0)]), (4, [(1, 1, 5), (2, 0, 1)], [], [(yc 80, yc 0, (0, (1, 3, 0), yc 0))], [], [(0, yc 1, yc 0)])], [])
def yx869 : yCx := ([ys865], ys869.2.2.2.2, yFP, zm238.2.2.1, zm238.2.2.2.1, zc238, 4, ys869.2.2.2.1, [(3, (5, [(0, 0, 1), (1, 0, 5), (2, 0, 5), (3, 1, 6), (4, 0, 5)], [], [(yc 80, yc 0, (0, (1, 3, 0), yc 0))], [(0, (2, yc 70, yc 0)), (1, (0, (1, 0, 0), yc 0)), (2, (0, (1, 1, 0), yc 0)), (3, (0, (1, 2, 0), yc 0)), (4, (0, (1, 4, 0), yc 0))], []), ([((-1), 4)], 6))], [])
theorem yw869 : ywf ys869.2.2.1 = true := by decide +kernel
theorem yk869 : yver yx869 ys869.2.2.1 4000 = true := yverQ_ok (by decide +kernel)
theorem yt869 {E : zHp → Prop} (h : yEF E yFP) : yTs E 3 ys869 := yver_s (k := 238) (n := 2) (x := yx869) (P := ys869.2.2.1) (f := 4000) h (yal_c (yt865 h) (by decide) yw865 (yal_n)) yg238 yk869
def ys870 : ySp := (239, 7, (4, [(0, 0, 5), (1, 0, 1), (2, 0, 5), (3, 1, 6)], [], [(yc 80, yc 0, (0, (1, 3, 0), yc 0))], [(0, (2, yc 70, yc 0)), (1, (0, (1, 0, 0), yc 0)), (2, (0, (1, 1, 0), yc 0)), (3, (0, (1, 2, 0), yc 0))], []), [(4, [(2, 1, 5)], [], [(yc 80, yc 0, (0, (1, 3, 0), yc 0))], [], [(0, yc 0, yc 0)]), (4, [], [], [(yc 80, yc 0, (0, (1, 3, 0), yc 0))], [], [(0, yc 1, yc 0)])], [])
def yx870 : yCx := ([ys777, ys865], ys870.2.2.2.2, yFP, zm239.2.2.1, zm239.2.2.2.1, zc239, 4, ys870.2.2.2.1, [(6, (6, [(0, 0, 5), (1, 0, 1), (2, 0, 5), (3, 1, 6), (4, 0, 5), (5, 0, 5)], [], [(yc 80, yc 0, (0, (1, 3, 0), yc 0))], [(0, (2, yc 70, yc 0)), (1, (0, (1, 0, 0), yc 0)), (2, (0, (1, 1, 0), yc 0)), (3, (0, (1, 2, 0), yc 0)), (4, (0, (1, 4, 0), yc 0)), (5, (0, (1, 5, 0), yc 0))], []), ([((-1), 5)], 6))], [])
theorem yw870 : ywf ys870.2.2.1 = true := by decide +kernel
theorem yk870 : yver yx870 ys870.2.2.1 4000 = true := yverQ_ok (by decide +kernel)
theorem yt870 {E : zHp → Prop} (h : yEF E yFP) : yTs E 3 ys870 := yver_s (k := 239) (n := 2) (x := yx870) (P := ys870.2.2.1) (f := 4000) h (yal_c (yt777 h) (by decide) yw777 (yal_c (yt865 h) (by decide) yw865 (yal_n))) yg239 yk870
def ys881 : ySp := (159, 2, (2, [(0, 0, 63), (1, 0, 5)], [], [], [(0, (0, (1, 0, 0), yc 0)), (1, (0, (1, 1, 0), yc 0))], []), [(2, [], [], [], [], [(0, yc 0, yc 0)]), (2, [], [], [], [], [(0, yc 1, yc 0)])], [])
def yx881 : yCx := ([], ys881.2.2.2.2, yFP, zm159.2.2.1, zm159.2.2.2.1, zc159, 2, ys881.2.2.2.1, [], [])
theorem yw881 : ywf ys881.2.2.1 = true := by decide +kernel
theorem yk881 : yver yx881 ys881.2.2.1 4000 = true := yverQ_ok (by decide +kernel)
theorem yt881 {E : zHp → Prop} (h : yEF E yFP) : yTs E 1 ys881 := yver_s (k := 159) (n := 0) (x := yx881) (P := ys881.2.2.1) (f := 4000) h (yal_n) yg159 yk881
def ys916 : ySp := (236, 4, (4, [(0, 0, 2147483647), (1, 0, 5), (2, (-1), 5), (3, 1, 6)], [], [(yc 80, yc 0, (0, (1, 3, 0), yc 0))], [(0, (2, yc 70, yc 0)), (1, (0, (1, 0, 0), yc 0)), (2, (0, (1, 1, 0), yc 0)), (3, (0, (1, 2, 0), yc 0))], []), [(5, [(4, 0, 5)], [], [(yc 80, yc 0, (0, (1, 3, 0), yc 0))], [], [(0, (1, 4, 0), yc 0)])], [])
def yx916 : yCx := ([ys864], ys916.2.2.2.2, yFP, zm236.2.2.1, zm236.2.2.2.1, zc236, 4, ys916.2.2.2.1, [], [])
theorem yw916 : ywf ys916.2.2.1 = true := by decide +kernel
theorem yk916 : yver yx916 ys916.2.2.1 4000 = true := yverQ_ok (by decide +kernel)
theorem yt916 {E : zHp → Prop} (h : yEF E yFP) : yTs E 2 ys916 := yver_s (k := 236) (n := 1) (x := yx916) (P := ys916.2.2.1) (f := 4000) h (yal_c (yt864 h) (by decide) yw864 (yal_n)) yg236 yk916
def ys917 : ySp := (237, 6, (3, [(0, 0, 2147483647), (1, 0, 5), (2, 1, 6)], [], [(yc 80, yc 0, (0, (1, 2, 0), yc 0))], [(0, (2, yc 70, yc 0)), (1, (0, (1, 0, 0), yc 0)), (2, (0, (1, 1, 0), yc 0))], []), [(3, [(1, 1, 5)], [], [(yc 80, yc 0, (0, (1, 2, 0), yc 0))], [], [(0, yc 0, yc 0)]), (3, [], [], [(yc 80, yc 0, (0, (1, 2, 0), yc 0))], [], [(0, yc 1, yc 0)])], [])
def yx917 : yCx := ([ys881, ys916], ys917.2.2.2.2, yFP, zm237.2.2.1, zm237.2.2.2.1, zc237, 3, ys917.2.2.2.1, [(5, (5, [(0, 0, 2147483647), (1, 0, 5), (2, 1, 6), (3, 0, 63), (4, 0, 5)], [], [(yc 80, yc 0, (0, (1, 2, 0), yc 0))], [(0, (2, yc 70, yc 0)), (1, (0, (1, 0, 0), yc 0)), (2, (0, (1, 1, 0), yc 0)), (3, (0, (1, 3, 0), yc 0)), (4, (0, (1, 4, 0), yc 0))], []), ([((-1), 4)], 6))], [])
theorem yw917 : ywf ys917.2.2.1 = true := by decide +kernel
theorem yk917 : yver yx917 ys917.2.2.1 4000 = true := yverQ_ok (by decide +kernel)
theorem yt917 {E : zHp → Prop} (h : yEF E yFP) : yTs E 3 ys917 := yver_s (k := 237) (n := 2) (x := yx917) (P := ys917.2.2.1) (f := 4000) h (yal_c (yt881 h) (by decide) yw881 (yal_c (yt916 h) (by decide) yw916 (yal_n))) yg237 yk917
def ys918 : ySp := (238, 5, (4, [(0, 0, 2147483647), (1, 0, 5), (2, 0, 5), (3, 1, 6)], [], [(yc 80, yc 0, (0, (1, 3, 0), yc 0))], [(0, (2, yc 70, yc 0)), (1, (0, (1, 0, 0), yc 0)), (2, (0, (1, 1, 0), yc 0)), (3, (0, (1, 2, 0), yc 0))], []), [(4, [], [], [(yc 80, yc 0, (0, (1, 3, 0), yc 0))], [], [(0, yc 0, yc 0)]), (4, [(1, 1, 5)], [], [(yc 80, yc 0, (0, (1, 3, 0), yc 0))], [], [(0, yc 1, yc 0)])], [])
def yx918 : yCx := ([ys916], ys918.2.2.2.2, yFP, zm238.2.2.1, zm238.2.2.2.1, zc238, 4, ys918.2.2.2.1, [(3, (5, [(0, 0, 2147483647), (1, 0, 5), (2, 0, 5), (3, 1, 6), (4, 0, 5)], [], [(yc 80, yc 0, (0, (1, 3, 0), yc 0))], [(0, (2, yc 70, yc 0)), (1, (0, (1, 0, 0), yc 0)), (2, (0, (1, 1, 0), yc 0)), (3, (0, (1, 2, 0), yc 0)), (4, (0, (1, 4, 0), yc 0))], []), ([((-1), 4)], 6))], [])
theorem yw918 : ywf ys918.2.2.1 = true := by decide +kernel
theorem yk918 : yver yx918 ys918.2.2.1 4000 = true := yverQ_ok (by decide +kernel)
theorem yt918 {E : zHp → Prop} (h : yEF E yFP) : yTs E 3 ys918 := yver_s (k := 238) (n := 2) (x := yx918) (P := ys918.2.2.1) (f := 4000) h (yal_c (yt916 h) (by decide) yw916 (yal_n)) yg238 yk918
def ys919 : ySp := (239, 7, (4, [(0, 0, 5), (1, 0, 2147483647), (2, 0, 5), (3, 1, 6)], [], [(yc 80, yc 0, (0, (1, 3, 0), yc 0))], [(0, (2, yc 70, yc 0)), (1, (0, (1, 0, 0), yc 0)), (2, (0, (1, 1, 0), yc 0)), (3, (0, (1, 2, 0), yc 0))], []), [(4, [(2, 1, 5)], [], [(yc 80, yc 0, (0, (1, 3, 0), yc 0))], [], [(0, yc 0, yc 0)]), (4, [], [], [(yc 80, yc 0, (0, (1, 3, 0), yc 0))], [], [(0, yc 1, yc 0)])], [])
def yx919 : yCx := ([ys777, ys916], ys919.2.2.2.2, yFP, zm239.2.2.1, zm239.2.2.2.1, zc239, 4, ys919.2.2.2.1, [(6, (6, [(0, 0, 5), (1, 0, 2147483647), (2, 0, 5), (3, 1, 6), (4, 0, 5), (5, 0, 5)], [], [(yc 80, yc 0, (0, (1, 3, 0), yc 0))], [(0, (2, yc 70, yc 0)), (1, (0, (1, 0, 0), yc 0)), (2, (0, (1, 1, 0), yc 0)), (3, (0, (1, 2, 0), yc 0)), (4, (0, (1, 4, 0), yc 0)), (5, (0, (1, 5, 0), yc 0))], []), ([((-1), 5)], 6))], [])
theorem yw919 : ywf ys919.2.2.1 = true := by decide +kernel
theorem yk919 : yver yx919 ys919.2.2.1 4000 = true := yverQ_ok (by decide +kernel)
theorem yt919 {E : zHp → Prop} (h : yEF E yFP) : yTs E 3 ys919 := yver_s (k := 239) (n := 2) (x := yx919) (P := ys919.2.2.1) (f := 4000) h (yal_c (yt777 h) (by decide) yw777 (yal_c (yt916 h) (by decide) yw916 (yal_n))) yg239 yk919
def ys976 : ySp := (249, 5, (5, [(0, 0, 5), (1, 0, 5), (2, 0, 1), (3, 0, 5), (4, 1, 6)], [], [(yc 80, yc 0, (0, (1, 4, 0), yc 0))], [(0, (2, yc 70, yc 0)), (1, (0, (1, 0, 0), yc 0)), (2, (0, (1, 1, 0), yc 0)), (3, (0, (1, 2, 0), yc 0)), (4, (0, (1, 3, 0), yc 0))], []), [(5, [], [], [(yc 80, yc 0, (0, (1, 4, 0), yc 0))], [], [(0, yc 0, yc 0)]), (5, [(1, 0, 1)], [], [(yc 80, yc 0, (0, (1, 4, 0), yc 0))], [], [(0, yc 1, yc 0)])], [])
def yx976 : yCx := ([ys786, ys788, ys865, ys868, ys869, ys870], ys976.2.2.2.2, yFP, zm249.2.2.1, zm249.2.2.2.1, zc249, 5, ys976.2.2.2.1, [], [])
theorem yw976 : ywf ys976.2.2.1 = true := by decide +kernel
theorem yk976 : yver yx976 ys976.2.2.1 4000 = true := yverQ_ok (by decide +kernel)
theorem yt976 {E : zHp → Prop} (h : yEF E yFP) : yTs E 4 ys976 := yver_s (k := 249) (n := 3) (x := yx976) (P := ys976.2.2.1) (f := 4000) h (yal_c (yt786 h) (by decide) yw786 (yal_c (yt788 h) (by decide) yw788 (yal_c (yt865 h) (by decide) yw865 (yal_c (yt868 h) (by decide) yw868 (yal_c (yt869 h) (by decide) yw869 (yal_c (yt870 h) (by decide) yw870 (yal_n))))))) yg249 yk976
def ys985 : ySp := (249, 5, (5, [(0, 0, 5), (1, 0, 5), (2, 0, 2147483647), (3, 0, 5), (4, 1, 6)], [], [(yc 80, yc 0, (0, (1, 4, 0), yc 0))], [(0, (2, yc 70, yc 0)), (1, (0, (1, 0, 0), yc 0)), (2, (0, (1, 1, 0), yc 0)), (3, (0, (1, 2, 0), yc 0)), (4, (0, (1, 3, 0), yc 0))], []), [(5, [], [], [(yc 80, yc 0, (0, (1, 4, 0), yc 0))], [], [(0, yc 0, yc 0)]), (5, [], [], [(yc 80, yc 0, (0, (1, 4, 0), yc 0))], [], [(0, yc 1, yc 0)])], [])
def yx985 : yCx := ([ys786, ys788, ys916, ys917, ys918, ys919], ys985.2.2.2.2, yFP, zm249.2.2.1, zm249.2.2.2.1, zc249, 5, ys985.2.2.2.1, [], [])
theorem yw985 : ywf ys985.2.2.1 = true := by decide +kernel
theorem yk985 : yver yx985 ys985.2.2.1 4000 = true := yverQ_ok (by decide +kernel)
theorem yt985 {E : zHp → Prop} (h : yEF E yFP) : yTs E 4 ys985 := yver_s (k := 249) (n := 3) (x := yx985) (P := ys985.2.2.1) (f := 4000) h (yal_c (yt786 h) (by decide) yw786 (yal_c (yt788 h) (by decide) yw788 (yal_c (yt916 h) (by decide) yw916 (yal_c (yt917 h) (by decide) yw917 (yal_c (yt918 h) (by decide) yw918 (yal_c (yt919 h) (by decide) yw919 (yal_n))))))) yg249 yk985
def ys986 : ySp := (250, 5, (4, [(0, 0, 5), (1, 0, 5), (2, 0, 5), (3, 1, 6)], [], [(yc 80, yc 0, (0, (1, 3, 0), yc 0))], [(0, (2, yc 70, yc 0)), (1, (0, (1, 0, 0), yc 0)), (2, (0, (1, 1, 0), yc 0)), (3, (0, (1, 2, 0), yc 0))], []), [(4, [], [], [(yc 80, yc 0, (0, (1, 3, 0), yc 0))], [], [(0, yc 0, yc 0)]), (4, [], [], [(yc 80, yc 0, (0, (1, 3, 0), yc 0))], [], [(0, yc 1, yc 0)])], [(70, 70, 27)])
def yx986 : yCx := ([ys863, ys976, ys985], ys986.2.2.2.2, yFP, zm250.2.2.1, zm250.2.2.2.1, zc250, 4, ys986.2.2.2.1, [(3, (5, [(0, 0, 5), (1, 0, 5), (2, 0, 5), (3, 1, 6), (4, 0, 2147483647)], [], [(yc 80, yc 0, (0, (1, 3, 0), yc 0))], [(0, (2, yc 70, yc 0)), (1, (0, (1, 0, 0), yc 0)), (2, (0, (1, 1, 0), yc 0)), (3, (0, (1, 2, 0), yc 0)), (4, (0, (1, 4, 0), yc 0))], []), ([((-1), 4)], 2147483648))], [])
theorem yw986 : ywf ys986.2.2.1 = true := by decide +kernel
theorem yk986 : yver yx986 ys986.2.2.1 4000 = true := yverQ_ok (by decide +kernel)
theorem yt986 {E : zHp → Prop} (h : yEF E yFP) : yTs E 5 ys986 := yver_s (k := 250) (n := 4) (x := yx986) (P := ys986.2.2.1) (f := 4000) h (yal_c (yt863 h) (by decide) yw863 (yal_c (yt976 h) (by decide) yw976 (yal_c (yt985 h) (by decide) yw985 (yal_n)))) yg250 yk986
def ys987 : ySp := (251, 7, (4, [(0, 0, 5), (1, 0, 5), (2, 0, 1), (3, 0, 6)], [], [(yc 80, yc 0, (0, (1, 3, 0), yc 0))], [(0, (2, yc 70, yc 0)), (1, (0, (1, 0, 0), yc 0)), (2, (0, (1, 1, 0), yc 0)), (3, (0, (1, 2, 0), yc 0))], []), [(4, [], [], [(yc 80, yc 0, (0, (1, 3, 0), yc 0))], [], [(0, yc (-1), yc 0)]), (4, [], [], [(yc 80, yc 0, (0, (1, 3, 0), yc 0))], [], [(0, yc 0, yc 0)]), (5, [(3, 2, 6), (4, 1, 5)], [], [(yc 80, yc 0, (0, (1, 3, 0), yc 0))], [], [(0, (1, 4, 0), yc 0)])], [(70, 70, 27)])
def yx987 : yCx := ([ys786, ys788, ys986], ys987.2.2.2.2, yFP, zm251.2.2.1, zm251.2.2.2.1, zc251, 4, ys987.2.2.2.1, [(37, (6, [(0, 0, 5), (1, 0, 5), (2, 0, 1), (3, 0, 6), (4, 0, 1), (5, 1, 6)], [], [(yc 80, yc 0, (0, (1, 3, 0), yc 0))], [(0, (2, yc 70, yc 0)), (1, (0, (1, 0, 0), yc 0)), (2, (0, (1, 1, 0), yc 0)), (3, (0, (1, 4, 0), yc 0)), (4, (0, (1, 3, (-1)), yc 0)), (5, (0, (1, 5, 0), yc 0))], []), ([((-1), 5)], 7))], [])
theorem yw987 : ywf ys987.2.2.1 = true := by decide +kernel
theorem yk987 : yver yx987 ys987.2.2.1 4000 = true := yverQ_ok (by decide +kernel)
theorem yt987 {E : zHp → Prop} (h : yEF E yFP) : yTs E 6 ys987 := yver_s (k := 251) (n := 5) (x := yx987) (P := ys987.2.2.1) (f := 4000) h (yal_c (yt786 h) (by decide) yw786 (yal_c (yt788 h) (by decide) yw788 (yal_c (yt986 h) (by decide) yw986 (yal_n)))) yg251 yk987
def ys988 : ySp := (270, 4, (2, [(0, 0, 5), (1, 0, 4)], [], [], [(0, (2, yc 70, yc 0)), (1, (0, (1, 0, 0), yc 0)), (2, (0, (1, 1, 0), yc 0))], []), [(2, [], [], [], [], [(0, yc 0, yc 0)]), (2, [], [], [], [], [(0, yc 1, yc 0)])], [(70, 70, 27)])
def yx988 : yCx := ([ys786, ys809, ys987], ys988.2.2.2.2, yFP, zm270.2.2.1, zm270.2.2.2.1, zc270, 2, ys988.2.2.2.1, [(2, (3, [(0, 0, 5), (1, 0, 4), (2, 0, 6)], [], [], [(0, (2, yc 70, yc 0)), (1, (0, (1, 0, 0), yc 0)), (2, (0, (1, 1, 0), yc 0)), (3, (0, (1, 2, 0), yc 0))], []), ([((-1), 2)], 7))], [])
theorem yw988 : ywf ys988.2.2.1 = true := by decide +kernel
theorem yk988 : yver yx988 ys988.2.2.1 4000 = true := yverQ_ok (by decide +kernel)
theorem yt988 {E : zHp → Prop} (h : yEF E yFP) : yTs E 7 ys988 := yver_s (k := 270) (n := 6) (x := yx988) (P := ys988.2.2.1) (f := 4000) h (yal_c (yt786 h) (by decide) yw786 (yal_c (yt809 h) (by decide) yw809 (yal_c (yt987 h) (by decide) yw987 (yal_n)))) yg270 yk988
def ys990 : ySp := (229, 3, (2, [(0, 0, 5), (1, 0, 5)], [], [], [(0, (2, yc 70, yc 0)), (1, (0, (1, 0, 0), yc 0)), (2, (0, (1, 1, 0), yc 0))], []), [(2, [], [], [], [], [])], [(80, 80, 1000)])
def yx990 : yCx := ([], ys990.2.2.2.2, yFP, zm229.2.2.1, zm229.2.2.2.1, zc229, 2, ys990.2.2.2.1, [], [])
theorem yw990 : ywf ys990.2.2.1 = true := by decide +kernel
theorem yk990 : yver yx990 ys990.2.2.1 4000 = true := yverQ_ok (by decide +kernel)
theorem yt990 {E : zHp → Prop} (h : yEF E yFP) : yTs E 1 ys990 := yver_s (k := 229) (n := 0) (x := yx990) (P := ys990.2.2.1) (f := 4000) h (yal_n) yg229 yk990
def ys991 : ySp := (271, 5, (2, [(0, 0, 5), (1, 0, 4)], [], [], [(0, (2, yc 70, yc 0)), (1, (0, (1, 0, 0), yc 0)), (2, (0, (1, 1, 0), yc 0))], []), [(2, [], [], [], [], [(0, yc 0, yc 0)]), (2, [], [], [], [], [(0, yc 1, yc 0)])], [(70, 70, 27), (80, 80, 1000), (84, 84, 1000)])
def yx991 : yCx := ([ys990, ys4, ys5, ys988], ys991.2.2.2.2, yFP, zm271.2.2.1, zm271.2.2.2.1, zc271, 2, ys991.2.2.2.1, [(2, (4, [(0, 0, 5), (1, 0, 4), (2, 0, 5), (3, 0, 6)], [], [], [(0, (2, yc 70, yc 0)), (1, (0, (1, 2, 0), yc 0)), (2, (0, (1, 1, 0), yc 0)), (3, (0, (1, 3, 0), yc 0))], []), ([((-1), 3)], 7))], [])
theorem yw991 : ywf ys991.2.2.1 = true := by decide +kernel
theorem yk991 : yver yx991 ys991.2.2.1 4000 = true := yverQ_ok (by decide +kernel)
theorem yt991 {E : zHp → Prop} (h : yXt E) : yTs E 8 ys991 := yver_s (k := 271) (n := 7) (x := yx991) (P := ys991.2.2.1) (f := 4000) h.1 (yal_c (yt990 h.1) (by decide) yw990 (yal_c (yl4 h) (by decide) yw4 (yal_c (yl5 h) (by decide) yw5 (yal_c (yt988 h.1) (by decide) yw988 (yal_n))))) yg271 yk991
def ys992 : ySp := (272, 4, (1, [(0, 0, 4)], [], [], [(0, (2, yc 70, yc 0)), (1, (0, (1, 0, 0), yc 0))], []), [(1, [], [], [], [], [(0, yc (-1), yc 0)]), (2, [(1, (-2147483648), 2147483647)], [], [], [], [(0, (1, 1, 0), yc 0)])], [(70, 70, 27), (80, 80, 1000), (84, 84, 1000)])
def yx992 : yCx := ([ys35, ys769, ys991], ys992.2.2.2.2, yFP, zm272.2.2.1, zm272.2.2.2.1, zc272, 1, ys992.2.2.2.1, [(25, (4, [(0, 0, 4), (1, (-2147483648), 2147483647), (2, 0, 6), (3, 0, 6)], [], [(yc 80, yc 0, (0, (1, 3, 0), yc 0))], [(0, (2, yc 70, yc 0)), (1, (0, (1, 0, 0), yc 0)), (2, (0, (1, 1, 0), yc 0)), (3, (0, (1, 2, 0), yc 0))], []), ([((-1), 2)], 7))], [])
theorem yw992 : ywf ys992.2.2.1 = true := by decide +kernel
theorem yk992 : yver yx992 ys992.2.2.1 4000 = true := yverQ_ok (by decide +kernel)
theorem yt992 {E : zHp → Prop} (h : yXt E) : yTs E 9 ys992 := yver_s (k := 272) (n := 8) (x := yx992) (P := ys992.2.2.1) (f := 4000) h.1 (yal_c (yt35 h.1) (by decide) yw35 (yal_c (yt769 h.1) (by decide) yw769 (yal_c (yt991 h) (by decide) yw991 (yal_n)))) yg272 yk992
def ys993 : ySp := (158, 6, (1, [(0, (-9223372036854775808), 9223372036854775807)], [], [], [(0, (1, (1, 0, 0), yc 0)), (2, (1, yc 0, yc 0)), (4, (1, yc 4, yc 0))], []), [(1, [(0, (-9223372036854775808), (-1))], [], [], [], [(0, yc 0, yc 0)]), (1, [(0, 5, 9223372036854775807)], [], [], [], [(0, yc 0, yc 0)]), (1, [(0, 0, 4)], [], [], [], [(0, yc 1, yc 0)])], [])
def yx993 : yCx := ([], ys993.2.2.2.2, yFP, zm158.2.2.1, zm158.2.2.2.1, zc158, 1, ys993.2.2.2.1, [], [])
theorem yw993 : ywf ys993.2.2.1 = true := by decide +kernel
theorem yk993 : yver yx993 ys993.2.2.1 4000 = true := yverQ_ok (by decide +kernel)
theorem yt993 {E : zHp → Prop} (h : yEF E yFP) : yTs E 1 ys993 := yver_s (k := 158) (n := 0) (x := yx993) (P := ys993.2.2.1) (f := 4000) h (yal_n) yg158 yk993
def ys994 : ySp := (272, 4, (1, [(0, (-2147483648), 2147483647)], [], [], [(0, (2, yc 70, yc 0)), (1, (0, (1, 0, 0), yc 0))], []), [(1, [], [], [], [], [(0, yc (-1), yc 0)]), (2, [(0, 0, 4), (1, (-2147483648), 2147483647)], [], [], [], [(0, (1, 1, 0), yc 0)])], [(70, 70, 27), (80, 80, 1000), (84, 84, 1000)])
def yx994 : yCx := ([ys993, ys769, ys991], ys994.2.2.2.2, yFP, zm272.2.2.1, zm272.2.2.2.1, zc272, 1, ys994.2.2.2.1, [(25, (4, [(0, 0, 4), (1, (-2147483648), 2147483647), (2, 0, 6), (3, 0, 6)], [], [(yc 80, yc 0, (0, (1, 3, 0), yc 0))], [(0, (2, yc 70, yc 0)), (1, (0, (1, 0, 0), yc 0)), (2, (0, (1, 1, 0), yc 0)), (3, (0, (1, 2, 0), yc 0))], []), ([((-1), 2)], 7))], [])
theorem yw994 : ywf ys994.2.2.1 = true := by decide +kernel
theorem yk994 : yver yx994 ys994.2.2.1 4000 = true := yverQ_ok (by decide +kernel)
theorem yt994 {E : zHp → Prop} (h : yXt E) : yTs E 9 ys994 := yver_s (k := 272) (n := 8) (x := yx994) (P := ys994.2.2.1) (f := 4000) h.1 (yal_c (yt993 h.1) (by decide) yw993 (yal_c (yt769 h.1) (by decide) yw769 (yal_c (yt991 h) (by decide) yw991 (yal_n)))) yg272 yk994
def ys995 : ySp := (140, 2, (1, [(0, (-2147483648), 2147483647)], [], [], [(0, (2, yc 0, yc 0)), (1, (0, (1, 0, 0), yc 0))], []), [(1, [], [], [], [], [(0, yc 0, yc 0)]), (2, [(0, 0, 5), (1, 0, 303)], [], [(yc 13, (1, 0, 0), (3, (1, 1, 0), yc 0))], [], [(0, yc 1, yc 0)])], [])
def yx995 : yCx := ([], ys995.2.2.2.2, yFP, zm140.2.2.1, zm140.2.2.2.1, zc140, 1, ys995.2.2.2.1, [], [])
theorem yw995 : ywf ys995.2.2.1 = true := by decide +kernel
theorem yk995 : yver yx995 ys995.2.2.1 4000 = true := yverQ_ok (by decide +kernel)
theorem yt995 {E : zHp → Prop} (h : yEF E yFP) : yTs E 1 ys995 := yver_s (k := 140) (n := 0) (x := yx995) (P := ys995.2.2.1) (f := 4000) h (yal_n) yg140 yk995
def ys996 : ySp := (111, 1, (0, [], [], [], [(0, (2, yc 9, yc 0))], []), [(0, [], [], [], [], [(0, yc 0, yc 0)]), (0, [], [], [], [], [(0, yc 1, yc 0)])], [])
def yx996 : yCx := ([ys656, ys661], ys996.2.2.2.2, yFP, zm111.2.2.1, zm111.2.2.2.1, zc111, 0, ys996.2.2.2.1, [], [])
theorem yw996 : ywf ys996.2.2.1 = true := by decide +kernel
theorem yk996 : yver yx996 ys996.2.2.1 4000 = true := yverQ_ok (by decide +kernel)
theorem yt996 {E : zHp → Prop} (h : yEF E yFP) : yTs E 4 ys996 := yver_s (k := 111) (n := 3) (x := yx996) (P := ys996.2.2.1) (f := 4000) h (yal_c (yt656 h) (by decide) yw656 (yal_c (yt661 h) (by decide) yw661 (yal_n))) yg111 yk996
def ys1001 : ySp := (30, 5, (3, [(0, 0, 2147483647), (1, (-9223372036854775808), 9223372036854775807), (2, (-9223372036854775808), 9223372036854775807)], [], [], [(0, (0, (1, 0, 0), yc 0)), (1, (1, (1, 1, 0), yc 0)), (3, (1, (1, 2, 0), yc 0))], []), [(3, [], [], [], [], [(0, yc 0, yc 0)]), (3, [], [], [], [], [(0, yc 1, yc 0)])], [])
def yx1001 : yCx := ([], ys1001.2.2.2.2, yFP, zm30.2.2.1, zm30.2.2.2.1, zc30, 3, ys1001.2.2.2.1, [], [])
theorem yw1001 : ywf ys1001.2.2.1 = true := by decide +kernel
theorem yk1001 : yver yx1001 ys1001.2.2.1 4000 = true := yverQ_ok (by decide +kernel)
theorem yt1001 {E : zHp → Prop} (h : yEF E yFP) : yTs E 1 ys1001 := yver_s (k := 30) (n := 0) (x := yx1001) (P := ys1001.2.2.1) (f := 4000) h (yal_n) yg30 yk1001
def ys1002 : ySp := (30, 5, (3, [(0, (-2147483648), 2147483647), (1, (-9223372036854775808), 9223372036854775807), (2, (-9223372036854775808), 9223372036854775807)], [], [], [(0, (0, (1, 0, 0), yc 0)), (1, (1, (1, 1, 0), yc 0)), (3, (1, (1, 2, 0), yc 0))], []), [(3, [], [], [], [], [(0, yc 0, yc 0)]), (3, [], [], [], [], [(0, yc 1, yc 0)])], [])
def yx1002 : yCx := ([], ys1002.2.2.2.2, yFP, zm30.2.2.1, zm30.2.2.2.1, zc30, 3, ys1002.2.2.2.1, [], [])
theorem yw1002 : ywf ys1002.2.2.1 = true := by decide +kernel
theorem yk1002 : yver yx1002 ys1002.2.2.1 4000 = true := yverQ_ok (by decide +kernel)
theorem yt1002 {E : zHp → Prop} (h : yEF E yFP) : yTs E 1 ys1002 := yver_s (k := 30) (n := 0) (x := yx1002) (P := ys1002.2.2.1) (f := 4000) h (yal_n) yg30 yk1002
def ys1003 : ySp := (29, 5, (3, [(0, (-2147483648), 2147483647), (1, (-9223372036854775808), 9223372036854775807), (2, (-9223372036854775808), 9223372036854775807)], [], [], [(0, (0, (1, 0, 0), yc 0)), (1, (1, (1, 1, 0), yc 0)), (3, (1, (1, 2, 0), yc 0))], []), [(3, [], [], [], [], [(1, yc 0, yc 0)]), (3, [], [], [], [], [(1, yc 1, yc 0)]), (4, [(0, 1, 13), (3, (-9223372036854775808), 9223372036854775807)], [], [], [], [(1, (1, 3, 0), yc 0)])], [])
def yx1003 : yCx := ([ys1001, ys1002], ys1003.2.2.2.2, yFP, zm29.2.2.1, zm29.2.2.2.1, zc29, 3, ys1003.2.2.2.1, [], [])
theorem yw1003 : ywf ys1003.2.2.1 = true := by decide +kernel
theorem yk1003 : yver yx1003 ys1003.2.2.1 4000 = true := yverQ_ok (by decide +kernel)
theorem yt1003 {E : zHp → Prop} (h : yEF E yFP) : yTs E 2 ys1003 := yver_s (k := 29) (n := 1) (x := yx1003) (P := ys1003.2.2.1) (f := 4000) h (yal_c (yt1001 h) (by decide) yw1001 (yal_c (yt1002 h) (by decide) yw1002 (yal_n))) yg29 yk1003
def ys1005 : ySp := (114, 8, (2, [(0, 0, 5), (1, 0, 5)], [], [], [(0, (2, yc 11, yc 0)), (1, (0, (1, 0, 0), yc 0)), (2, (0, (1, 1, 0), yc 0)), (3, (0, yc 3, yc 0)), (4, (0, yc 0, yc 0))], []), [(3, [(2, (-2147483648), 2147483647)], [], [], [], [(0, (1, 2, 0), yc 0)])], [])
def yx1005 : yCx := ([ys711, ys732, ys753, ys755, ys756, ys759], ys1005.2.2.2.2, yFP, zm114.2.2.1, zm114.2.2.2.1, zc114, 2, ys1005.2.2.2.1, [(6, (4, [(0, 0, 5), (1, 0, 5), (2, (-2147483648), 2147483647), (3, 0, 6)], [], [], [(0, (2, yc 11, yc 0)), (1, (0, (1, 0, 0), yc 0)), (2, (0, (1, 1, 0), yc 0)), (3, (0, yc 3, yc 0)), (4, (0, yc 0, yc 0)), (5, (0, (1, 2, 0), yc 0)), (6, (0, (1, 3, 0), yc 0))], []), ([((-1), 3)], 7))], [])
theorem yw1005 : ywf ys1005.2.2.1 = true := by decide +kernel
theorem yk1005 : yver yx1005 ys1005.2.2.1 4000 = true := yverQ_ok (by decide +kernel)
theorem yt1005 {E : zHp → Prop} (h : yEF E yFP) : yTs E 2 ys1005 := yver_s (k := 114) (n := 1) (x := yx1005) (P := ys1005.2.2.1) (f := 4000) h (yal_c (yt711 h) (by decide) yw711 (yal_c (yt732 h) (by decide) yw732 (yal_c (yt753 h) (by decide) yw753 (yal_c (yt755 h) (by decide) yw755 (yal_c (yt756 h) (by decide) yw756 (yal_c (yt759 h) (by decide) yw759 (yal_n))))))) yg114 yk1005
def ys1006 : ySp := (114, 8, (2, [(0, 0, 5), (1, 0, 5)], [], [], [(0, (2, yc 11, yc 0)), (1, (0, (1, 0, 0), yc 0)), (2, (0, (1, 1, 0), yc 0)), (3, (0, yc 2, yc 0)), (4, (0, yc 1, yc 0))], []), [(3, [(2, 0, 2147483647)], [], [], [], [(0, (1, 2, 0), yc 0)])], [])
def yx1006 : yCx := ([ys711, ys732, ys753, ys755, ys756, ys757], ys1006.2.2.2.2, yFP, zm114.2.2.1, zm114.2.2.2.1, zc114, 2, ys1006.2.2.2.1, [(6, (4, [(0, 0, 5), (1, 0, 5), (2, 0, 2147483647), (3, 0, 6)], [], [], [(0, (2, yc 11, yc 0)), (1, (0, (1, 0, 0), yc 0)), (2, (0, (1, 1, 0), yc 0)), (3, (0, yc 2, yc 0)), (4, (0, yc 1, yc 0)), (5, (0, (1, 2, 0), yc 0)), (6, (0, (1, 3, 0), yc 0))], []), ([((-1), 3)], 7))], [])
theorem yw1006 : ywf ys1006.2.2.1 = true := by decide +kernel
theorem yk1006 : yver yx1006 ys1006.2.2.1 4000 = true := yverQ_ok (by decide +kernel)
theorem yt1006 {E : zHp → Prop} (h : yEF E yFP) : yTs E 2 ys1006 := yver_s (k := 114) (n := 1) (x := yx1006) (P := ys1006.2.2.1) (f := 4000) h (yal_c (yt711 h) (by decide) yw711 (yal_c (yt732 h) (by decide) yw732 (yal_c (yt753 h) (by decide) yw753 (yal_c (yt755 h) (by decide) yw755 (yal_c (yt756 h) (by decide) yw756 (yal_c (yt757 h) (by decide) yw757 (yal_n))))))) yg114 yk1006
def ys1007 : ySp := (100, 3, (1, [(0, 0, 5)], [], [], [(0, (2, yc 11, yc 0)), (1, (0, (1, 0, 0), yc 0)), (2, (0, yc 1, yc 0))], []), [(2, [(1, 0, 2147483647)], [], [], [], [(0, (1, 1, 0), yc 0)])], [])
def yx1007 : yCx := ([ys707, ys734, ys736], ys1007.2.2.2.2, yFP, zm100.2.2.1, zm100.2.2.2.1, zc100, 1, ys1007.2.2.2.1, [], [])
theorem yw1007 : ywf ys1007.2.2.1 = true := by decide +kernel
theorem yk1007 : yver yx1007 ys1007.2.2.1 4000 = true := yverQ_ok (by decide +kernel)
theorem yt1007 {E : zHp → Prop} (h : yEF E yFP) : yTs E 3 ys1007 := yver_s (k := 100) (n := 2) (x := yx1007) (P := ys1007.2.2.1) (f := 4000) h (yal_c (yt707 h) (by decide) yw707 (yal_c (yt734 h) (by decide) yw734 (yal_c (yt736 h) (by decide) yw736 (yal_n)))) yg100 yk1007
def ys1008 : ySp := (31, 5, (3, [(0, 0, 63), (1, 0, 5), (2, 0, 5)], [], [], [(0, (0, (1, 0, 0), yc 0)), (1, (2, yc 11, yc 0)), (2, (0, (1, 1, 0), yc 0)), (3, (0, (1, 2, 0), yc 0))], []), [(3, [(0, 12, 63)], [], [], [], [(0, yc 0, yc 0)]), (3, [(0, 12, 63)], [], [], [], [(0, yc 1, yc 0)]), (4, [(0, 0, 11), (3, (-2147483648), 2147483647)], [], [], [], [(0, (1, 3, 0), yc 0)])], [])
def yx1008 : yCx := ([ys741, ys698, ys705, ys707, ys732, ys735, ys685, ys687, ys1007, ys1005, ys1006], ys1008.2.2.2.2, yFP, zm31.2.2.1, zm31.2.2.2.1, zc31, 3, ys1008.2.2.2.1, [], [])
theorem yw1008 : ywf ys1008.2.2.1 = true := by decide +kernel
theorem yk1008 : yver yx1008 ys1008.2.2.1 4000 = true := yverQ_ok (by decide +kernel)
theorem yt1008 {E : zHp → Prop} (h : yEF E yFP) : yTs E 4 ys1008 := yver_s (k := 31) (n := 3) (x := yx1008) (P := ys1008.2.2.1) (f := 4000) h (yal_c (yt741 h) (by decide) yw741 (yal_c (yt698 h) (by decide) yw698 (yal_c (yt705 h) (by decide) yw705 (yal_c (yt707 h) (by decide) yw707 (yal_c (yt732 h) (by decide) yw732 (yal_c (yt735 h) (by decide) yw735 (yal_c (yt685 h) (by decide) yw685 (yal_c (yt687 h) (by decide) yw687 (yal_c (yt1007 h) (by decide) yw1007 (yal_c (yt1005 h) (by decide) yw1005 (yal_c (yt1006 h) (by decide) yw1006 (yal_n)))))))))))) yg31 yk1008
def ys1009 : ySp := (28, 7, (3, [(0, 0, 303), (1, 0, 5), (2, 0, 5)], [], [], [(0, (3, (1, 0, 0), yc 0)), (1, (2, yc 11, yc 0)), (2, (0, (1, 1, 0), yc 0)), (3, (0, (1, 2, 0), yc 0))], []), [(3, [], [], [], [], [(1, yc 0, yc 0)]), (4, [(3, (-9223372036854775808), 9223372036854775807)], [], [], [], [(1, (1, 3, 0), yc 0)])], [(88, 999, 1000)])
def yx1009 : yCx := ([ys1003, ys1008], ys1009.2.2.2.2, yFP, zm28.2.2.1, zm28.2.2.2.1, zc28, 3, ys1009.2.2.2.1, [(6, (5, [(0, 0, 303), (1, 0, 5), (2, 0, 5), (3, 0, 64), (4, 0, 400)], [], [], [(0, (3, (1, 0, 0), yc 0)), (1, (2, yc 11, yc 0)), (2, (0, (1, 1, 0), yc 0)), (3, (0, (1, 2, 0), yc 0)), (4, (0, (1, 3, 0), yc 0)), (5, (0, (1, 4, 0), yc 0))], []), ([((-1), 4)], 401))], [])
theorem yw1009 : ywf ys1009.2.2.1 = true := by decide +kernel
theorem yk1009 : yver yx1009 ys1009.2.2.1 4000 = true := yverQ_ok (by decide +kernel)
theorem yt1009 {E : zHp → Prop} (h : yEF E yFP) : yTs E 5 ys1009 := yver_s (k := 28) (n := 4) (x := yx1009) (P := ys1009.2.2.1) (f := 4000) h (yal_c (yt1003 h) (by decide) yw1003 (yal_c (yt1008 h) (by decide) yw1008 (yal_n))) yg28 yk1009
def ys1010 : ySp := (27, 9, (1, [(0, 0, 303)], [], [], [(0, (3, (1, 0, 0), yc 0)), (1, (2, yc 11, yc 0))], []), [(1, [], [], [], [], [])], [(12, 12, 1000), (88, 999, 1000)])
def yx1010 : yCx := ([ys1009, ys845, ys673, ys706, ys709], ys1010.2.2.2.2, yFP, zm27.2.2.1, zm27.2.2.2.1, zc27, 1, ys1010.2.2.2.1, [(2, (2, [(0, 0, 303), (1, 0, 6)], [], [], [(0, (3, (1, 0, 0), yc 0)), (1, (2, yc 11, yc 0)), (2, (0, (1, 1, 0), yc 0))], []), ([((-9), 1)], 63)), (18, (6, [(0, 0, 303), (1, 0, 5), (2, (-1), 5), (3, 0, 9223372036854775807), (4, 0, 6), (5, 1, 6)], [], [(yc 12, yc 2, (0, (1, 5, 0), yc 0))], [(0, (3, (1, 0, 0), yc 0)), (1, (2, yc 11, yc 0)), (2, (0, (1, 1, 0), yc 0)), (3, (0, (1, 2, 0), yc 0)), (4, (1, (1, 3, 0), yc 0)), (6, (0, (1, 4, 0), yc 0))], []), ([((-1), 4), ((-9), 1)], 61))], [])
theorem yw1010 : ywf ys1010.2.2.1 = true := by decide +kernel
theorem yk1010 : yver yx1010 ys1010.2.2.1 4000 = true := yverQ_ok (by decide +kernel)
theorem yt1010 {E : zHp → Prop} (h : yEF E yFP) : yTs E 6 ys1010 := yver_s (k := 27) (n := 5) (x := yx1010) (P := ys1010.2.2.1) (f := 4000) h (yal_c (yt1009 h) (by decide) yw1009 (yal_c (yt845 h) (by decide) yw845 (yal_c (yt673 h) (by decide) yw673 (yal_c (yt706 h) (by decide) yw706 (yal_c (yt709 h) (by decide) yw709 (yal_n)))))) yg27 yk1010
def ys1011 : ySp := (110, 3, (0, [], [], [], [(0, (2, yc 11, yc 0))], []), [(1, [(0, (-2147483648), 2147483647)], [], [], [], [(0, (1, 0, 0), yc 0)])], [])
def yx1011 : yCx := ([ys711, ys754], ys1011.2.2.2.2, yFP, zm110.2.2.1, zm110.2.2.2.1, zc110, 0, ys1011.2.2.2.1, [(4, (2, [(0, (-2147483648), 2147483647), (1, 0, 6)], [], [], [(0, (2, yc 11, yc 0)), (1, (0, (1, 0, 0), yc 0)), (2, (0, (1, 1, 0), yc 0))], []), ([((-1), 1)], 7))], [])
theorem yw1011 : ywf ys1011.2.2.1 = true := by decide +kernel
theorem yk1011 : yver yx1011 ys1011.2.2.1 4000 = true := yverQ_ok (by decide +kernel)
theorem yt1011 {E : zHp → Prop} (h : yEF E yFP) : yTs E 3 ys1011 := yver_s (k := 110) (n := 2) (x := yx1011) (P := ys1011.2.2.1) (f := 4000) h (yal_c (yt711 h) (by decide) yw711 (yal_c (yt754 h) (by decide) yw754 (yal_n))) yg110 yk1011
def ys1012 : ySp := (111, 1, (0, [], [], [], [(0, (2, yc 11, yc 0))], []), [(0, [], [], [], [], [(0, yc 0, yc 0)]), (0, [], [], [], [], [(0, yc 1, yc 0)])], [])
def yx1012 : yCx := ([ys711, ys1011], ys1012.2.2.2.2, yFP, zm111.2.2.1, zm111.2.2.2.1, zc111, 0, ys1012.2.2.2.1, [], [])
theorem yw1012 : ywf ys1012.2.2.1 = true := by decide +kernel
theorem yk1012 : yver yx1012 ys1012.2.2.1 4000 = true := yverQ_ok (by decide +kernel)
theorem yt1012 {E : zHp → Prop} (h : yEF E yFP) : yTs E 4 ys1012 := yver_s (k := 111) (n := 3) (x := yx1012) (P := ys1012.2.2.1) (f := 4000) h (yal_c (yt711 h) (by decide) yw711 (yal_c (yt1011 h) (by decide) yw1011 (yal_n))) yg111 yk1012
def ys1013 : ySp := (149, 3, (1, [(0, (-2147483648), 2147483647)], [], [], [(0, (2, yc 0, yc 0)), (1, (0, (1, 0, 0), yc 0))], []), [(1, [], [], [], [], [(0, yc (-1), yc 0)]), (3, [(0, 0, 5), (1, (-2147483648), 2147483647), (2, 0, 303)], [], [(yc 13, (1, 0, 0), (3, (1, 2, 0), yc 0))], [], [(0, (1, 1, 0), yc 0)])], [(12, 12, 1000), (88, 999, 1000)])
def yx1013 : yCx := ([ys1010, ys672, ys671, ys649, ys741, ys762, ys996, ys1012, ys766, ys995], ys1013.2.2.2.2, yFP, zm149.2.2.1, zm149.2.2.2.1, zc149, 1, ys1013.2.2.2.1, [(51, (3, [(0, 0, 5), (1, 0, 60), (2, 0, 303)], [], [(yc 13, (1, 0, 0), (3, (1, 2, 0), yc 0))], [(0, (2, yc 0, yc 0)), (1, (0, (1, 0, 0), yc 0)), (2, (0, (1, 1, 0), yc 0))], []), ([((-1), 1)], 61))], [])
theorem yw1013 : ywf ys1013.2.2.1 = true := by decide +kernel
theorem yk1013 : yver yx1013 ys1013.2.2.1 4000 = true := yverQ_ok (by decide +kernel)
theorem yt1013 {E : zHp → Prop} (h : yEF E yFP) : yTs E 7 ys1013 := yver_s (k := 149) (n := 6) (x := yx1013) (P := ys1013.2.2.1) (f := 4000) h (yal_c (yt1010 h) (by decide) yw1010 (yal_c (yt672 h) (by decide) yw672 (yal_c (yt671 h) (by decide) yw671 (yal_c (yt649 h) (by decide) yw649 (yal_c (yt741 h) (by decide) yw741 (yal_c (yt762 h) (by decide) yw762 (yal_c (yt996 h) (by decide) yw996 (yal_c (yt1012 h) (by decide) yw1012 (yal_c (yt766 h) (by decide) yw766 (yal_c (yt995 h) (by decide) yw995 (yal_n))))))))))) yg149 yk1013
def ys1014 : ySp := (199, 2, (1, [(0, 0, 5)], [], [], [(0, (2, yc 70, yc 0)), (1, (0, (1, 0, 0), yc 0))], []), [(1, [], [], [], [], [(0, yc 0, yc 0)]), (1, [], [], [], [], [(0, yc 1, yc 0)])], [])
def yx1014 : yCx := ([], ys1014.2.2.2.2, yFP, zm199.2.2.1, zm199.2.2.2.1, zc199, 1, ys1014.2.2.2.1, [], [])
theorem yw1014 : ywf ys1014.2.2.1 = true := by decide +kernel
theorem yk1014 : yver yx1014 ys1014.2.2.1 4000 = true := yverQ_ok (by decide +kernel)
theorem yt1014 {E : zHp → Prop} (h : yEF E yFP) : yTs E 1 ys1014 := yver_s (k := 199) (n := 0) (x := yx1014) (P := ys1014.2.2.1) (f := 4000) h (yal_n) yg199 yk1014
def ys1015 : ySp := (268, 2, (0, [], [], [], [(0, (2, yc 70, yc 0))], []), [(0, [], [], [], [], [(0, yc 0, yc 0)]), (0, [], [], [], [], [(0, yc 1, yc 0)])], [])
def yx1015 : yCx := ([ys668], ys1015.2.2.2.2, yFP, zm268.2.2.1, zm268.2.2.2.1, zc268, 0, ys1015.2.2.2.1, [(2, (1, [(0, 0, 6)], [], [], [(0, (2, yc 70, yc 0)), (1, (0, (1, 0, 0), yc 0))], []), ([((-1), 0)], 7))], [])
theorem yw1015 : ywf ys1015.2.2.1 = true := by decide +kernel
theorem yk1015 : yver yx1015 ys1015.2.2.1 4000 = true := yverQ_ok (by decide +kernel)
theorem yt1015 {E : zHp → Prop} (h : yEF E yFP) : yTs E 2 ys1015 := yver_s (k := 268) (n := 1) (x := yx1015) (P := ys1015.2.2.1) (f := 4000) h (yal_c (yt668 h) (by decide) yw668 (yal_n)) yg268 yk1015
def ys1019 : ySp := (211, 3, (2, [(0, 0, 5), (1, 0, 5)], [], [], [(0, (2, yc 70, yc 0)), (1, (0, (1, 0, 0), yc 0)), (2, (0, (1, 1, 0), yc 0))], []), [(3, [(2, (-2147483648), 2147483647)], [], [], [], [(0, (1, 2, 0), yc 0)])], [])
def yx1019 : yCx := ([], ys1019.2.2.2.2, yFP, zm211.2.2.1, zm211.2.2.2.1, zc211, 2, ys1019.2.2.2.1, [], [])
theorem yw1019 : ywf ys1019.2.2.1 = true := by decide +kernel
theorem yk1019 : yver yx1019 ys1019.2.2.1 4000 = true := yverQ_ok (by decide +kernel)
theorem yt1019 {E : zHp → Prop} (h : yEF E yFP) : yTs E 1 ys1019 := yver_s (k := 211) (n := 0) (x := yx1019) (P := ys1019.2.2.1) (f := 4000) h (yal_n) yg211 yk1019
def ys1026 : ySp := (214, 4, (1, [(0, 0, 5)], [], [], [(0, (2, yc 70, yc 0)), (1, (0, (1, 0, 0), yc 0)), (2, (0, yc 1, yc 0))], []), [(1, [], [], [], [], [(0, yc 0, yc 0)]), (2, [(1, 0, 2147483647)], [], [], [], [(0, (1, 1, 0), yc 0)])], [])
def yx1026 : yCx := ([ys811, ys812, ys814], ys1026.2.2.2.2, yFP, zm214.2.2.1, zm214.2.2.2.1, zc214, 1, ys1026.2.2.2.1, [], [])
theorem yw1026 : ywf ys1026.2.2.1 = true := by decide +kernel
theorem yk1026 : yver yx1026 ys1026.2.2.1 4000 = true := yverQ_ok (by decide +kernel)
theorem yt1026 {E : zHp → Prop} (h : yEF E yFP) : yTs E 4 ys1026 := yver_s (k := 214) (n := 3) (x := yx1026) (P := ys1026.2.2.1) (f := 4000) h (yal_c (yt811 h) (by decide) yw811 (yal_c (yt812 h) (by decide) yw812 (yal_c (yt814 h) (by decide) yw814 (yal_n)))) yg214 yk1026
def ys1028 : ySp := (243, 7, (2, [(0, 0, 5), (1, 0, 5)], [], [], [(0, (2, yc 70, yc 0)), (1, (0, (1, 0, 0), yc 0)), (2, (0, (1, 1, 0), yc 0))], []), [(2, [], [], [], [], [])], [(79, 79, 1000)])
def yx1028 : yCx := ([ys786, ys788, ys809, ys812, ys813, ys825, ys826, ys827, ys829, ys777, ys1019, ys1026, ys668], ys1028.2.2.2.2, yFP, zm243.2.2.1, zm243.2.2.2.1, zc243, 2, ys1028.2.2.2.1, [(16, (6, [(0, 0, 5), (1, 0, 5), (2, 0, 5), (3, (-2147483648), 2147483647), (4, (-2147483648), 2147483647), (5, 0, 6)], [], [], [(0, (2, yc 70, yc 0)), (1, (0, (1, 0, 0), yc 0)), (2, (0, (1, 1, 0), yc 0)), (3, (0, (1, 2, 0), yc 0)), (4, (0, (1, 3, 0), yc 0)), (5, (0, (1, 4, 0), yc 0)), (6, (0, (1, 5, 0), yc 0))], []), ([((-1), 5)], 7))], [])
theorem yw1028 : ywf ys1028.2.2.1 = true := by decide +kernel
theorem yk1028 : yver yx1028 ys1028.2.2.1 4000 = true := yverQ_ok (by decide +kernel)
theorem yt1028 {E : zHp → Prop} (h : yEF E yFP) : yTs E 5 ys1028 := yver_s (k := 243) (n := 4) (x := yx1028) (P := ys1028.2.2.1) (f := 4000) h (yal_c (yt786 h) (by decide) yw786 (yal_c (yt788 h) (by decide) yw788 (yal_c (yt809 h) (by decide) yw809 (yal_c (yt812 h) (by decide) yw812 (yal_c (yt813 h) (by decide) yw813 (yal_c (yt825 h) (by decide) yw825 (yal_c (yt826 h) (by decide) yw826 (yal_c (yt827 h) (by decide) yw827 (yal_c (yt829 h) (by decide) yw829 (yal_c (yt777 h) (by decide) yw777 (yal_c (yt1019 h) (by decide) yw1019 (yal_c (yt1026 h) (by decide) yw1026 (yal_c (yt668 h) (by decide) yw668 (yal_n)))))))))))))) yg243 yk1028
def ys1029 : ySp := (245, 9, (2, [(0, 0, 5), (1, 0, 5)], [], [], [(0, (2, yc 70, yc 0)), (1, (0, (1, 0, 0), yc 0)), (2, (0, (1, 1, 0), yc 0))], []), [(3, [(2, (-1), 5)], [], [], [], [(0, (1, 2, 0), yc 0)])], [(70, 70, 20), (78, 78, 1000), (79, 79, 1000)])
def yx1029 : yCx := ([ys789, ys1028, ys2], ys1029.2.2.2.2, yFP, zm245.2.2.1, zm245.2.2.2.1, zc245, 2, ys1029.2.2.2.1, [(8, (5, [(0, 0, 5), (1, 0, 5), (2, (-1), 5), (3, 0, 9223372036854775807), (4, 0, 6)], [], [], [(0, (2, yc 70, yc 0)), (1, (0, (1, 0, 0), yc 0)), (2, (0, (1, 1, 0), yc 0)), (3, (0, (1, 2, 0), yc 0)), (4, (1, (1, 3, 0), yc 0)), (6, (0, (1, 4, 0), yc 0))], []), ([((-1), 4)], 7))], [])
theorem yw1029 : ywf ys1029.2.2.1 = true := by decide +kernel
theorem yk1029 : yver yx1029 ys1029.2.2.1 4000 = true := yverQ_ok (by decide +kernel)
theorem yt1029 {E : zHp → Prop} (h : yXt E) : yTs E 6 ys1029 := yver_s (k := 245) (n := 5) (x := yx1029) (P := ys1029.2.2.1) (f := 4000) h.1 (yal_c (yt789 h.1) (by decide) yw789 (yal_c (yt1028 h.1) (by decide) yw1028 (yal_c (yl2 h) (by decide) yw2 (yal_n)))) yg245 yk1029
def ys1030 : ySp := (247, 4, (1, [(0, 0, 5)], [], [], [(0, (2, yc 70, yc 0)), (1, (0, (1, 0, 0), yc 0))], []), [(2, [(1, (-2147483648), 2147483647)], [], [], [], [(0, (1, 1, 0), yc 0)])], [(70, 70, 20), (78, 78, 1000), (79, 79, 1000), (80, 80, 1000)])
def yx1030 : yCx := ([ys790, ys832, ys1029, ys831], ys1030.2.2.2.2, yFP, zm247.2.2.1, zm247.2.2.2.1, zc247, 1, ys1030.2.2.2.1, [(2, (2, [(0, 0, 5), (1, 0, 6)], [], [], [(0, (2, yc 70, yc 0)), (1, (0, (1, 0, 0), yc 0)), (2, (0, (1, 1, 0), yc 0))], []), ([((-1), 1)], 7))], [])
theorem yw1030 : ywf ys1030.2.2.1 = true := by decide +kernel
theorem yk1030 : yver yx1030 ys1030.2.2.1 4000 = true := yverQ_ok (by decide +kernel)
theorem yt1030 {E : zHp → Prop} (h : yXt E) : yTs E 7 ys1030 := yver_s (k := 247) (n := 6) (x := yx1030) (P := ys1030.2.2.1) (f := 4000) h.1 (yal_c (yt790 h.1) (by decide) yw790 (yal_c (yt832 h.1) (by decide) yw832 (yal_c (yt1029 h) (by decide) yw1029 (yal_c (yt831 h.1) (by decide) yw831 (yal_n))))) yg247 yk1030
def ys1031 : ySp := (269, 4, (1, [(0, 0, 5)], [], [], [(0, (2, yc 70, yc 0)), (1, (0, (1, 0, 0), yc 0))], []), [(1, [], [], [], [], [(0, yc (-1), yc 0)]), (2, [(1, (-2147483648), 2147483647)], [], [], [], [(0, (1, 1, 0), yc 0)])], [(70, 70, 20), (78, 78, 1000), (79, 79, 1000), (80, 80, 1000), (84, 84, 1000)])
def yx1031 : yCx := ([ys1014, ys769, ys1030, ys4, ys5, ys1015], ys1031.2.2.2.2, yFP, zm269.2.2.1, zm269.2.2.2.1, zc269, 1, ys1031.2.2.2.1, [(40, (7, [(0, 0, 5), (1, (-2147483648), 2147483647), (2, 0, 60), (3, 0, 6), (4, 0, 6), (5, 1, 6), (6, 0, 6)], [], [(yc 80, yc 0, (0, (1, 3, 0), yc 0)), (yc 80, yc 2, (0, (1, 4, 0), yc 0)), (yc 84, yc 0, (0, (1, 5, 0), yc 0)), (yc 84, yc 2, (0, (1, 6, 0), yc 0))], [(0, (2, yc 70, yc 0)), (1, (0, (1, 0, 0), yc 0)), (2, (0, (1, 1, 0), yc 0)), (3, (0, (1, 2, 0), yc 0))], []), ([((-1), 2)], 61))], [])
theorem yw1031 : ywf ys1031.2.2.1 = true := by decide +kernel
theorem yk1031 : yver yx1031 ys1031.2.2.1 4000 = true := yverQ_ok (by decide +kernel)
theorem yt1031 {E : zHp → Prop} (h : yXt E) : yTs E 8 ys1031 := yver_s (k := 269) (n := 7) (x := yx1031) (P := ys1031.2.2.1) (f := 4000) h.1 (yal_c (yt1014 h.1) (by decide) yw1014 (yal_c (yt769 h.1) (by decide) yw769 (yal_c (yt1030 h) (by decide) yw1030 (yal_c (yl4 h) (by decide) yw4 (yal_c (yl5 h) (by decide) yw5 (yal_c (yt1015 h.1) (by decide) yw1015 (yal_n))))))) yg269 yk1031
def ys1032 : ySp := (199, 2, (1, [(0, (-2147483648), 2147483647)], [], [], [(0, (2, yc 70, yc 0)), (1, (0, (1, 0, 0), yc 0))], []), [(1, [], [], [], [], [(0, yc 0, yc 0)]), (1, [(0, 0, 5)], [], [], [], [(0, yc 1, yc 0)])], [])
def yx1032 : yCx := ([], ys1032.2.2.2.2, yFP, zm199.2.2.1, zm199.2.2.2.1, zc199, 1, ys1032.2.2.2.1, [], [])
theorem yw1032 : ywf ys1032.2.2.1 = true := by decide +kernel
theorem yk1032 : yver yx1032 ys1032.2.2.1 4000 = true := yverQ_ok (by decide +kernel)
theorem yt1032 {E : zHp → Prop} (h : yEF E yFP) : yTs E 1 ys1032 := yver_s (k := 199) (n := 0) (x := yx1032) (P := ys1032.2.2.1) (f := 4000) h (yal_n) yg199 yk1032
def ys1033 : ySp := (269, 4, (1, [(0, (-2147483648), 2147483647)], [], [], [(0, (2, yc 70, yc 0)), (1, (0, (1, 0, 0), yc 0))], []), [(1, [], [], [], [], [(0, yc (-1), yc 0)]), (2, [(0, 0, 5), (1, (-2147483648), 2147483647)], [], [], [], [(0, (1, 1, 0), yc 0)])], [(70, 70, 20), (78, 78, 1000), (79, 79, 1000), (80, 80, 1000), (84, 84, 1000)])
def yx1033 : yCx := ([ys1032, ys769, ys1030, ys4, ys5, ys1015], ys1033.2.2.2.2, yFP, zm269.2.2.1, zm269.2.2.2.1, zc269, 1, ys1033.2.2.2.1, [(40, (7, [(0, 0, 5), (1, (-2147483648), 2147483647), (2, 0, 60), (3, 0, 6), (4, 0, 6), (5, 1, 6), (6, 0, 6)], [], [(yc 80, yc 0, (0, (1, 3, 0), yc 0)), (yc 80, yc 2, (0, (1, 4, 0), yc 0)), (yc 84, yc 0, (0, (1, 5, 0), yc 0)), (yc 84, yc 2, (0, (1, 6, 0), yc 0))], [(0, (2, yc 70, yc 0)), (1, (0, (1, 0, 0), yc 0)), (2, (0, (1, 1, 0), yc 0)), (3, (0, (1, 2, 0), yc 0))], []), ([((-1), 2)], 61))], [])
theorem yw1033 : ywf ys1033.2.2.1 = true := by decide +kernel
theorem yk1033 : yver yx1033 ys1033.2.2.1 4000 = true := yverQ_ok (by decide +kernel)
theorem yt1033 {E : zHp → Prop} (h : yXt E) : yTs E 8 ys1033 := yver_s (k := 269) (n := 7) (x := yx1033) (P := ys1033.2.2.1) (f := 4000) h.1 (yal_c (yt1032 h.1) (by decide) yw1032 (yal_c (yt769 h.1) (by decide) yw769 (yal_c (yt1030 h) (by decide) yw1030 (yal_c (yl4 h) (by decide) yw4 (yal_c (yl5 h) (by decide) yw5 (yal_c (yt1015 h.1) (by decide) yw1015 (yal_n))))))) yg269 yk1033
def ys1034 : ySp := (83, 2, (1, [(0, (-2147483648), 2147483647)], [], [], [(0, (2, yc 9, yc 0)), (1, (0, (1, 0, 0), yc 0))], []), [(1, [], [], [], [], [(0, yc 0, yc 0)]), (1, [(0, 0, 5)], [], [], [], [(0, yc 1, yc 0)])], [])
def yx1034 : yCx := ([ys663], ys1034.2.2.2.2, yFP, zm83.2.2.1, zm83.2.2.2.1, zc83, 1, ys1034.2.2.2.1, [], [])
theorem yw1034 : ywf ys1034.2.2.1 = true := by decide +kernel
theorem yk1034 : yver yx1034 ys1034.2.2.1 4000 = true := yverQ_ok (by decide +kernel)
theorem yt1034 {E : zHp → Prop} (h : yEF E yFP) : yTs E 2 ys1034 := yver_s (k := 83) (n := 1) (x := yx1034) (P := ys1034.2.2.1) (f := 4000) h (yal_c (yt663 h) (by decide) yw663 (yal_n)) yg83 yk1034
def ys1035 : ySp := (87, 3, (1, [(0, 0, 5)], [], [], [(0, (2, yc 9, yc 0)), (1, (0, (1, 0, 0), yc 0)), (2, (0, yc 0, yc 0))], []), [(2, [(1, 0, 5)], [], [], [], [(0, (1, 1, 0), yc 0)])], [])
def yx1035 : yCx := ([], ys1035.2.2.2.2, yFP, zm87.2.2.1, zm87.2.2.2.1, zc87, 1, ys1035.2.2.2.1, [], [])
theorem yw1035 : ywf ys1035.2.2.1 = true := by decide +kernel
theorem yk1035 : yver yx1035 ys1035.2.2.1 4000 = true := yverQ_ok (by decide +kernel)
theorem yt1035 {E : zHp → Prop} (h : yEF E yFP) : yTs E 1 ys1035 := yver_s (k := 87) (n := 0) (x := yx1035) (P := ys1035.2.2.1) (f := 4000) h (yal_n) yg87 yk1035
def ys1036 : ySp := (87, 3, (1, [(0, 0, 5)], [], [], [(0, (2, yc 9, yc 0)), (1, (0, (1, 0, 0), yc 0)), (2, (0, yc 3, yc 0))], []), [(2, [(1, 0, 5)], [], [], [], [(0, (1, 1, 0), yc 0)])], [])
def yx1036 : yCx := ([], ys1036.2.2.2.2, yFP, zm87.2.2.1, zm87.2.2.2.1, zc87, 1, ys1036.2.2.2.1, [], [])
theorem yw1036 : ywf ys1036.2.2.1 = true := by decide +kernel
theorem yk1036 : yver yx1036 ys1036.2.2.1 4000 = true := yverQ_ok (by decide +kernel)
theorem yt1036 {E : zHp → Prop} (h : yEF E yFP) : yTs E 1 ys1036 := yver_s (k := 87) (n := 0) (x := yx1036) (P := ys1036.2.2.1) (f := 4000) h (yal_n) yg87 yk1036
def ys1037 : ySp := (87, 3, (1, [(0, 0, 5)], [], [], [(0, (2, yc 9, yc 0)), (1, (0, (1, 0, 0), yc 0)), (2, (0, yc 4, yc 0))], []), [(2, [(1, (-2147483648), 2147483647)], [], [], [], [(0, (1, 1, 0), yc 0)])], [])
def yx1037 : yCx := ([], ys1037.2.2.2.2, yFP, zm87.2.2.1, zm87.2.2.2.1, zc87, 1, ys1037.2.2.2.1, [], [])
theorem yw1037 : ywf ys1037.2.2.1 = true := by decide +kernel
theorem yk1037 : yver yx1037 ys1037.2.2.1 4000 = true := yverQ_ok (by decide +kernel)
theorem yt1037 {E : zHp → Prop} (h : yEF E yFP) : yTs E 1 ys1037 := yver_s (k := 87) (n := 0) (x := yx1037) (P := ys1037.2.2.1) (f := 4000) h (yal_n) yg87 yk1037
def ys1038 : ySp := (9, 2, (1, [(0, (-2147483648), 5)], [], [(yc 44, yc 10, (0, (1, 0, 0), yc 0))], [(0, (2, yc 44, yc 0))], []), [(2, [(1, (-2147483648), 5)], [], [(yc 44, yc 10, (0, (1, 1, 0), yc 0))], [], [])], [(44, 44, 3), (44, 44, 5), (44, 44, 6), (48, 48, 1000)])
def yx1038 : yCx := ([], ys1038.2.2.2.2, yFP, zm9.2.2.1, zm9.2.2.2.1, zc9, 1, ys1038.2.2.2.1, [], [])
theorem yw1038 : ywf ys1038.2.2.1 = true := by decide +kernel
theorem yk1038 : yver yx1038 ys1038.2.2.1 4000 = true := yverQ_ok (by decide +kernel)
theorem yt1038 {E : zHp → Prop} (h : yEF E yFP) : yTs E 1 ys1038 := yver_s (k := 9) (n := 0) (x := yx1038) (P := ys1038.2.2.1) (f := 4000) h (yal_n) yg9 yk1038
def ys1039 : ySp := (91, 2, (1, [(0, 0, 5)], [], [], [(0, (2, yc 9, yc 0)), (1, (0, (1, 0, 0), yc 0))], []), [(2, [(1, 0, 63)], [], [], [], [(0, (1, 1, 0), yc 0)])], [])
def yx1039 : yCx := ([], ys1039.2.2.2.2, yFP, zm91.2.2.1, zm91.2.2.2.1, zc91, 1, ys1039.2.2.2.1, [], [])
theorem yw1039 : ywf ys1039.2.2.1 = true := by decide +kernel
theorem yk1039 : yver yx1039 ys1039.2.2.1 4000 = true := yverQ_ok (by decide +kernel)
theorem yt1039 {E : zHp → Prop} (h : yEF E yFP) : yTs E 1 ys1039 := yver_s (k := 91) (n := 0) (x := yx1039) (P := ys1039.2.2.1) (f := 4000) h (yal_n) yg91 yk1039
def ys1046 : ySp := (8, 6, (3, [(0, 0, 5), (1, 0, 63), (2, (-2147483648), 5)], [], [(yc 44, yc 10, (0, (1, 2, 0), yc 0))], [(0, (2, yc 44, yc 0)), (1, (2, yc 9, yc 0)), (2, (0, (1, 0, 0), yc 0)), (3, (0, (1, 1, 0), yc 0)), (4, (0, yc 5, yc 0))], []), [(4, [(3, (-2147483648), 5)], [], [(yc 44, yc 10, (0, (1, 3, 0), yc 0))], [], [])], [(44, 44, 3), (44, 44, 5), (44, 44, 6), (48, 48, 1000)])
def yx1046 : yCx := ([ys1038], ys1046.2.2.2.2, yFP, zm8.2.2.1, zm8.2.2.2.1, zc8, 3, ys1046.2.2.2.1, [], [])
theorem yw1046 : ywf ys1046.2.2.1 = true := by decide +kernel
theorem yk1046 : yver yx1046 ys1046.2.2.1 4000 = true := yverQ_ok (by decide +kernel)
theorem yt1046 {E : zHp → Prop} (h : yEF E yFP) : yTs E 2 ys1046 := yver_s (k := 8) (n := 1) (x := yx1046) (P := ys1046.2.2.1) (f := 4000) h (yal_c (yt1038 h) (by decide) yw1038 (yal_n)) yg8 yk1046
def ys1052 : ySp := (92, 3, (2, [(0, 0, 5), (1, 0, 5)], [], [], [(0, (2, yc 9, yc 0)), (1, (0, (1, 0, 0), yc 0)), (2, (0, (1, 1, 0), yc 0))], []), [(2, [], [], [], [], [(0, yc 0, yc 0)]), (2, [], [], [], [], [(0, yc 1, yc 0)])], [])
def yx1052 : yCx := ([ys1039], ys1052.2.2.2.2, yFP, zm92.2.2.1, zm92.2.2.2.1, zc92, 2, ys1052.2.2.2.1, [], [])
theorem yw1052 : ywf ys1052.2.2.1 = true := by decide +kernel
theorem yk1052 : yver yx1052 ys1052.2.2.1 4000 = true := yverQ_ok (by decide +kernel)
theorem yt1052 {E : zHp → Prop} (h : yEF E yFP) : yTs E 2 ys1052 := yver_s (k := 92) (n := 1) (x := yx1052) (P := ys1052.2.2.1) (f := 4000) h (yal_c (yt1039 h) (by decide) yw1039 (yal_n)) yg92 yk1052
def ys1053 : ySp := (8, 6, (3, [(0, 0, 5), (1, 0, 63), (2, (-2147483648), 5)], [], [(yc 44, yc 10, (0, (1, 2, 0), yc 0))], [(0, (2, yc 44, yc 0)), (1, (2, yc 9, yc 0)), (2, (0, (1, 0, 0), yc 0)), (3, (0, (1, 1, 0), yc 0)), (4, (0, yc 4, yc 0))], []), [(4, [(3, (-2147483648), 5)], [], [(yc 44, yc 10, (0, (1, 3, 0), yc 0))], [], [])], [(44, 44, 3), (44, 44, 5), (44, 44, 6), (48, 48, 1000), (49, 49, 1000)])
def yx1053 : yCx := ([ys1046, ys1038, ys665, ys1052], ys1053.2.2.2.2, yFP, zm8.2.2.1, zm8.2.2.2.1, zc8, 3, ys1053.2.2.2.1, [(31, (5, [(0, 0, 5), (1, 0, 63), (2, 5, 5), (3, 0, 6), (4, (-2147483648), 5)], [], [(yc 44, yc 10, (0, (1, 4, 0), yc 0))], [(0, (2, yc 44, yc 0)), (1, (2, yc 9, yc 0)), (2, (0, (1, 0, 0), yc 0)), (3, (0, (1, 1, 0), yc 0)), (4, (0, yc 4, yc 0)), (5, (0, (1, 3, 0), yc 0))], []), ([((-1), 3)], 7))], [])
theorem yw1053 : ywf ys1053.2.2.1 = true := by decide +kernel
theorem yk1053 : yver yx1053 ys1053.2.2.1 4000 = true := yverQ_ok (by decide +kernel)
theorem yt1053 {E : zHp → Prop} (h : yEF E yFP) : yTs E 3 ys1053 := yver_s (k := 8) (n := 2) (x := yx1053) (P := ys1053.2.2.1) (f := 4000) h (yal_c (yt1046 h) (by decide) yw1046 (yal_c (yt1038 h) (by decide) yw1038 (yal_c (yt665 h) (by decide) yw665 (yal_c (yt1052 h) (by decide) yw1052 (yal_n))))) yg8 yk1053
end
section
def ys1056 : ySp := (8, 6, (3, [(0, 0, 5), (1, 0, 63), (2, (-2147483648), 5)], [], [(yc 44, yc 10, (0, (1, 2, 0), yc 0))], [(0, (2, yc 44, yc 0)), (1, (2, yc 9, yc 0)), (2, (0, (1, 0, 0), yc 0)), (3, (0, (1, 1, 0), yc 0)), (4, (0, yc 3, yc 0))], []), [(4, [(3, (-2147483648), 5)], [], [(yc 44, yc 10, (0, (1, 3, 0), yc 0))], [], [])], [(44, 44, 3), (44, 44, 5), (44, 44, 6), (48, 48, 1000), (49, 49, 1000)])
def yx1056 : yCx := ([ys1053, ys1038, ys665, ys1052], ys1056.2.2.2.2, yFP, zm8.2.2.1, zm8.2.2.2.1, zc8, 3, ys1056.2.2.2.1, [(31, (5, [(0, 0, 5), (1, 0, 63), (2, 4, 5), (3, 0, 6), (4, (-2147483648), 5)], [], [(yc 44, yc 10, (0, (1, 4, 0), yc 0))], [(0, (2, yc 44, yc 0)), (1, (2, yc 9, yc 0)), (2, (0, (1, 0, 0), yc 0)), (3, (0, (1, 1, 0), yc 0)), (4, (0, yc 3, yc 0)), (5, (0, (1, 3, 0), yc 0))], []), ([((-1), 3)], 7))], [])
theorem yw1056 : ywf ys1056.2.2.1 = true := by decide +kernel
theorem yk1056 : yver yx1056 ys1056.2.2.1 4000 = true := yverQ_ok (by decide +kernel)
theorem yt1056 {E : zHp → Prop} (h : yEF E yFP) : yTs E 4 ys1056 := yver_s (k := 8) (n := 3) (x := yx1056) (P := ys1056.2.2.1) (f := 4000) h (yal_c (yt1053 h) (by decide) yw1053 (yal_c (yt1038 h) (by decide) yw1038 (yal_c (yt665 h) (by decide) yw665 (yal_c (yt1052 h) (by decide) yw1052 (yal_n))))) yg8 yk1056
def ys1059 : ySp := (8, 6, (3, [(0, 0, 5), (1, 0, 63), (2, (-2147483648), 5)], [], [(yc 44, yc 10, (0, (1, 2, 0), yc 0))], [(0, (2, yc 44, yc 0)), (1, (2, yc 9, yc 0)), (2, (0, (1, 0, 0), yc 0)), (3, (0, (1, 1, 0), yc 0)), (4, (0, yc 2, yc 0))], []), [(4, [(3, (-2147483648), 5)], [], [(yc 44, yc 10, (0, (1, 3, 0), yc 0))], [], [])], [(44, 44, 3), (44, 44, 5), (44, 44, 6), (48, 48, 1000), (49, 49, 1000)])
def yx1059 : yCx := ([ys1056, ys1038, ys665, ys1052], ys1059.2.2.2.2, yFP, zm8.2.2.1, zm8.2.2.2.1, zc8, 3, ys1059.2.2.2.1, [(31, (5, [(0, 0, 5), (1, 0, 63), (2, 3, 5), (3, 0, 6), (4, (-2147483648), 5)], [], [(yc 44, yc 10, (0, (1, 4, 0), yc 0))], [(0, (2, yc 44, yc 0)), (1, (2, yc 9, yc 0)), (2, (0, (1, 0, 0), yc 0)), (3, (0, (1, 1, 0), yc 0)), (4, (0, yc 2, yc 0)), (5, (0, (1, 3, 0), yc 0))], []), ([((-1), 3)], 7))], [])
theorem yw1059 : ywf ys1059.2.2.1 = true := by decide +kernel
theorem yk1059 : yver yx1059 ys1059.2.2.1 4000 = true := yverQ_ok (by decide +kernel)
theorem yt1059 {E : zHp → Prop} (h : yEF E yFP) : yTs E 5 ys1059 := yver_s (k := 8) (n := 4) (x := yx1059) (P := ys1059.2.2.1) (f := 4000) h (yal_c (yt1056 h) (by decide) yw1056 (yal_c (yt1038 h) (by decide) yw1038 (yal_c (yt665 h) (by decide) yw665 (yal_c (yt1052 h) (by decide) yw1052 (yal_n))))) yg8 yk1059
def ys1062 : ySp := (8, 6, (3, [(0, 0, 5), (1, 0, 63), (2, (-2147483648), 5)], [], [(yc 44, yc 10, (0, (1, 2, 0), yc 0))], [(0, (2, yc 44, yc 0)), (1, (2, yc 9, yc 0)), (2, (0, (1, 0, 0), yc 0)), (3, (0, (1, 1, 0), yc 0)), (4, (0, yc 1, yc 0))], []), [(4, [(3, (-2147483648), 5)], [], [(yc 44, yc 10, (0, (1, 3, 0), yc 0))], [], [])], [(44, 44, 3), (44, 44, 5), (44, 44, 6), (48, 48, 1000), (49, 49, 1000)])
def yx1062 : yCx := ([ys1059, ys1038, ys665, ys1052], ys1062.2.2.2.2, yFP, zm8.2.2.1, zm8.2.2.2.1, zc8, 3, ys1062.2.2.2.1, [(31, (5, [(0, 0, 5), (1, 0, 63), (2, 2, 5), (3, 0, 6), (4, (-2147483648), 5)], [], [(yc 44, yc 10, (0, (1, 4, 0), yc 0))], [(0, (2, yc 44, yc 0)), (1, (2, yc 9, yc 0)), (2, (0, (1, 0, 0), yc 0)), (3, (0, (1, 1, 0), yc 0)), (4, (0, yc 1, yc 0)), (5, (0, (1, 3, 0), yc 0))], []), ([((-1), 3)], 7))], [])
theorem yw1062 : ywf ys1062.2.2.1 = true := by decide +kernel
theorem yk1062 : yver yx1062 ys1062.2.2.1 4000 = true := yverQ_ok (by decide +kernel)
theorem yt1062 {E : zHp → Prop} (h : yEF E yFP) : yTs E 6 ys1062 := yver_s (k := 8) (n := 5) (x := yx1062) (P := ys1062.2.2.1) (f := 4000) h (yal_c (yt1059 h) (by decide) yw1059 (yal_c (yt1038 h) (by decide) yw1038 (yal_c (yt665 h) (by decide) yw665 (yal_c (yt1052 h) (by decide) yw1052 (yal_n))))) yg8 yk1062
def ys1063 : ySp := (8, 6, (3, [(0, 0, 5), (1, 0, 63), (2, (-2147483648), 5)], [], [(yc 44, yc 10, (0, (1, 2, 0), yc 0))], [(0, (2, yc 44, yc 0)), (1, (2, yc 9, yc 0)), (2, (0, (1, 0, 0), yc 0)), (3, (0, (1, 1, 0), yc 0)), (4, (0, yc 0, yc 0))], []), [(4, [(3, (-2147483648), 5)], [], [(yc 44, yc 10, (0, (1, 3, 0), yc 0))], [], [])], [(44, 44, 3), (44, 44, 5), (44, 44, 6), (48, 48, 1000), (49, 49, 1000)])
def yx1063 : yCx := ([ys1062, ys1038, ys665, ys1052], ys1063.2.2.2.2, yFP, zm8.2.2.1, zm8.2.2.2.1, zc8, 3, ys1063.2.2.2.1, [(31, (5, [(0, 0, 5), (1, 0, 63), (2, 1, 5), (3, 0, 6), (4, (-2147483648), 5)], [], [(yc 44, yc 10, (0, (1, 4, 0), yc 0))], [(0, (2, yc 44, yc 0)), (1, (2, yc 9, yc 0)), (2, (0, (1, 0, 0), yc 0)), (3, (0, (1, 1, 0), yc 0)), (4, (0, yc 0, yc 0)), (5, (0, (1, 3, 0), yc 0))], []), ([((-1), 3)], 7))], [])
theorem yw1063 : ywf ys1063.2.2.1 = true := by decide +kernel
theorem yk1063 : yver yx1063 ys1063.2.2.1 4000 = true := yverQ_ok (by decide +kernel)
theorem yt1063 {E : zHp → Prop} (h : yEF E yFP) : yTs E 7 ys1063 := yver_s (k := 8) (n := 6) (x := yx1063) (P := ys1063.2.2.1) (f := 4000) h (yal_c (yt1062 h) (by decide) yw1062 (yal_c (yt1038 h) (by decide) yw1038 (yal_c (yt665 h) (by decide) yw665 (yal_c (yt1052 h) (by decide) yw1052 (yal_n))))) yg8 yk1063
def ys1064 : ySp := (7, 6, (4, [(0, 0, 5), (1, 0, 5), (2, 0, 5), (3, (-2147483648), 2147483647)], [], [], [(0, (2, yc 44, yc 0)), (1, (2, yc 9, yc 0)), (2, (0, (1, 0, 0), yc 0)), (3, (0, (1, 1, 0), yc 0)), (4, (0, (1, 2, 0), yc 0)), (5, (0, (1, 3, 0), yc 0))], []), [(4, [], [], [], [], [])], [(44, 44, 3), (44, 44, 5), (44, 44, 6), (44, 44, 8), (44, 44, 9), (44, 44, 10), (48, 48, 1000), (49, 49, 1000)])
def yx1064 : yCx := ([ys1063], ys1064.2.2.2.2, yFP, zm7.2.2.1, zm7.2.2.2.1, zc7, 4, ys1064.2.2.2.1, [], [])
theorem yw1064 : ywf ys1064.2.2.1 = true := by decide +kernel
theorem yk1064 : yver yx1064 ys1064.2.2.1 4000 = true := yverQ_ok (by decide +kernel)
theorem yt1064 {E : zHp → Prop} (h : yEF E yFP) : yTs E 8 ys1064 := yver_s (k := 7) (n := 7) (x := yx1064) (P := ys1064.2.2.1) (f := 4000) h (yal_c (yt1063 h) (by decide) yw1063 (yal_n)) yg7 yk1064
def ys1065 : ySp := (6, 4, (1, [(0, 0, 5)], [], [], [(0, (2, yc 44, yc 0)), (1, (2, yc 9, yc 0)), (2, (0, (1, 0, 0), yc 0))], []), [(1, [], [], [], [], [])], [(44, 44, 3), (44, 44, 5), (44, 44, 6), (44, 44, 8), (44, 44, 9), (44, 44, 10), (48, 48, 1000), (49, 49, 1000)])
def yx1065 : yCx := ([ys1064, ys1035, ys1036, ys1037], ys1065.2.2.2.2, yFP, zm6.2.2.1, zm6.2.2.2.1, zc6, 1, ys1065.2.2.2.1, [], [])
theorem yw1065 : ywf ys1065.2.2.1 = true := by decide +kernel
theorem yk1065 : yver yx1065 ys1065.2.2.1 4000 = true := yverQ_ok (by decide +kernel)
theorem yt1065 {E : zHp → Prop} (h : yEF E yFP) : yTs E 9 ys1065 := yver_s (k := 6) (n := 8) (x := yx1065) (P := ys1065.2.2.1) (f := 4000) h (yal_c (yt1064 h) (by decide) yw1064 (yal_c (yt1035 h) (by decide) yw1035 (yal_c (yt1036 h) (by decide) yw1036 (yal_c (yt1037 h) (by decide) yw1037 (yal_n))))) yg6 yk1065
def ys1066 : ySp := (97, 2, (1, [(0, 0, 5)], [], [], [(0, (2, yc 9, yc 0)), (1, (0, (1, 0, 0), yc 0))], []), [(1, [], [], [], [], [(0, yc 0, yc 0)]), (1, [], [], [], [], [(0, yc 1, yc 0)])], [])
def yx1066 : yCx := ([ys1035, ys1036], ys1066.2.2.2.2, yFP, zm97.2.2.1, zm97.2.2.2.1, zc97, 1, ys1066.2.2.2.1, [], [])
theorem yw1066 : ywf ys1066.2.2.1 = true := by decide +kernel
theorem yk1066 : yver yx1066 ys1066.2.2.1 4000 = true := yverQ_ok (by decide +kernel)
theorem yt1066 {E : zHp → Prop} (h : yEF E yFP) : yTs E 2 ys1066 := yver_s (k := 97) (n := 1) (x := yx1066) (P := ys1066.2.2.1) (f := 4000) h (yal_c (yt1035 h) (by decide) yw1035 (yal_c (yt1036 h) (by decide) yw1036 (yal_n))) yg97 yk1066
def ys1067 : ySp := (148, 3, (2, [(0, (-2147483648), 2147483647), (1, (-2147483648), 2147483647)], [], [], [(0, (2, yc 0, yc 0)), (1, (0, (1, 0, 0), yc 0)), (2, (0, (1, 1, 0), yc 0))], []), [(2, [], [], [], [], [(0, yc (-1), yc 0)]), (3, [(0, 0, 5), (1, 0, 2), (2, (-2147483648), 2147483647)], [], [], [], [(0, (1, 2, 0), yc 0)])], [(44, 44, 3), (44, 44, 5), (44, 44, 6), (44, 44, 8), (44, 44, 9), (44, 44, 10), (48, 48, 1000), (49, 49, 1000)])
def yx1067 : yCx := ([ys1065, ys1034, ys1066], ys1067.2.2.2.2, yFP, zm148.2.2.1, zm148.2.2.2.1, zc148, 2, ys1067.2.2.2.1, [], [])
theorem yw1067 : ywf ys1067.2.2.1 = true := by decide +kernel
theorem yk1067 : yver yx1067 ys1067.2.2.1 4000 = true := yverQ_ok (by decide +kernel)
theorem yt1067 {E : zHp → Prop} (h : yEF E yFP) : yTs E 10 ys1067 := yver_s (k := 148) (n := 9) (x := yx1067) (P := ys1067.2.2.1) (f := 4000) h (yal_c (yt1065 h) (by decide) yw1065 (yal_c (yt1034 h) (by decide) yw1034 (yal_c (yt1066 h) (by decide) yw1066 (yal_n)))) yg148 yk1067
def ys1068 : ySp := (85, 2, (1, [(0, (-2147483648), 2147483647)], [], [], [(0, (2, yc 9, yc 0)), (1, (0, (1, 0, 0), yc 0))], []), [(1, [], [], [], [], [(0, yc 0, yc 0)]), (1, [(0, 0, 5)], [], [], [], [(0, yc 1, yc 0)])], [])
def yx1068 : yCx := ([ys665], ys1068.2.2.2.2, yFP, zm85.2.2.1, zm85.2.2.2.1, zc85, 1, ys1068.2.2.2.1, [], [])
theorem yw1068 : ywf ys1068.2.2.1 = true := by decide +kernel
theorem yk1068 : yver yx1068 ys1068.2.2.1 4000 = true := yverQ_ok (by decide +kernel)
theorem yt1068 {E : zHp → Prop} (h : yEF E yFP) : yTs E 2 ys1068 := yver_s (k := 85) (n := 1) (x := yx1068) (P := ys1068.2.2.1) (f := 4000) h (yal_c (yt665 h) (by decide) yw665 (yal_n)) yg85 yk1068
def ys1073 : ySp := (94, 3, (2, [(0, 0, 5), (1, 0, 5)], [], [], [(0, (2, yc 9, yc 0)), (1, (0, (1, 0, 0), yc 0)), (2, (0, (1, 1, 0), yc 0))], []), [(3, [(2, (-2147483648), 2147483647)], [], [], [], [(0, (1, 2, 0), yc 0)])], [])
def yx1073 : yCx := ([], ys1073.2.2.2.2, yFP, zm94.2.2.1, zm94.2.2.2.1, zc94, 2, ys1073.2.2.2.1, [], [])
theorem yw1073 : ywf ys1073.2.2.1 = true := by decide +kernel
theorem yk1073 : yver yx1073 ys1073.2.2.1 4000 = true := yverQ_ok (by decide +kernel)
theorem yt1073 {E : zHp → Prop} (h : yEF E yFP) : yTs E 1 ys1073 := yver_s (k := 94) (n := 0) (x := yx1073) (P := ys1073.2.2.1) (f := 4000) h (yal_n) yg94 yk1073
def ys1074 : ySp := (95, 4, (1, [(0, 0, 5)], [], [], [(0, (2, yc 9, yc 0)), (1, (0, (1, 0, 0), yc 0))], []), [(2, [(1, (-2147483648), 2147483647)], [], [], [], [(0, (1, 1, 0), yc 0)])], [])
def yx1074 : yCx := ([ys665, ys1073], ys1074.2.2.2.2, yFP, zm95.2.2.1, zm95.2.2.2.1, zc95, 1, ys1074.2.2.2.1, [(4, (3, [(0, 0, 5), (1, (-2147483648), 2147483647), (2, 0, 6)], [], [], [(0, (2, yc 9, yc 0)), (1, (0, (1, 0, 0), yc 0)), (2, (0, (1, 1, 0), yc 0)), (3, (0, (1, 2, 0), yc 0))], []), ([((-1), 2)], 7))], [])
theorem yw1074 : ywf ys1074.2.2.1 = true := by decide +kernel
theorem yk1074 : yver yx1074 ys1074.2.2.1 4000 = true := yverQ_ok (by decide +kernel)
theorem yt1074 {E : zHp → Prop} (h : yEF E yFP) : yTs E 2 ys1074 := yver_s (k := 95) (n := 1) (x := yx1074) (P := ys1074.2.2.1) (f := 4000) h (yal_c (yt665 h) (by decide) yw665 (yal_c (yt1073 h) (by decide) yw1073 (yal_n))) yg95 yk1074
def ys1075 : ySp := (147, 2, (1, [(0, (-2147483648), 2147483647)], [], [], [(0, (2, yc 0, yc 0)), (1, (0, (1, 0, 0), yc 0))], []), [(2, [(1, (-2147483648), 2147483647)], [], [], [], [(0, (1, 1, 0), yc 0)])], [])
def yx1075 : yCx := ([ys1068, ys1074], ys1075.2.2.2.2, yFP, zm147.2.2.1, zm147.2.2.2.1, zc147, 1, ys1075.2.2.2.1, [], [])
theorem yw1075 : ywf ys1075.2.2.1 = true := by decide +kernel
theorem yk1075 : yver yx1075 ys1075.2.2.1 4000 = true := yverQ_ok (by decide +kernel)
theorem yt1075 {E : zHp → Prop} (h : yEF E yFP) : yTs E 3 ys1075 := yver_s (k := 147) (n := 2) (x := yx1075) (P := ys1075.2.2.1) (f := 4000) h (yal_c (yt1068 h) (by decide) yw1068 (yal_c (yt1074 h) (by decide) yw1074 (yal_n))) yg147 yk1075
def ys1076 : ySp := (205, 2, (2, [(0, (-2147483648), 2147483647), (1, 0, 6)], [], [(yc 80, yc 0, (0, (1, 1, 0), yc 0))], [(0, (2, yc 70, yc 0)), (1, (0, (1, 0, 0), yc 0))], []), [(2, [], [], [(yc 80, yc 0, (0, (1, 1, 0), yc 0))], [], [(0, yc 0, yc 0)]), (2, [(0, 0, 5), (1, 1, 6)], [([(1, 1), ((-1), 0)], (-1))], [(yc 80, yc 0, (0, (1, 1, 0), yc 0))], [], [(0, yc 1, yc 0)])], [])
def yx1076 : yCx := ([], ys1076.2.2.2.2, yFP, zm205.2.2.1, zm205.2.2.2.1, zc205, 2, ys1076.2.2.2.1, [], [])
theorem yw1076 : ywf ys1076.2.2.1 = true := by decide +kernel
theorem yk1076 : yver yx1076 ys1076.2.2.1 4000 = true := yverQ_ok (by decide +kernel)
theorem yt1076 {E : zHp → Prop} (h : yEF E yFP) : yTs E 1 ys1076 := yver_s (k := 205) (n := 0) (x := yx1076) (P := ys1076.2.2.1) (f := 4000) h (yal_n) yg205 yk1076
def ys1077 : ySp := (265, 4, (1, [(0, (-2147483648), 2147483647)], [], [], [(0, (2, yc 70, yc 0)), (1, (0, (1, 0, 0), yc 0))], []), [(2, [(1, (-2147483648), 2147483647)], [], [], [], [(0, (1, 1, 0), yc 0)])], [])
def yx1077 : yCx := ([ys1076, ys1019], ys1077.2.2.2.2, yFP, zm265.2.2.1, zm265.2.2.2.1, zc265, 1, ys1077.2.2.2.1, [(16, (4, [(0, 0, 5), (1, (-2147483648), 2147483647), (2, 0, 6), (3, 1, 6)], [([(1, 3), ((-1), 0)], (-1))], [(yc 80, yc 0, (0, (1, 3, 0), yc 0))], [(0, (2, yc 70, yc 0)), (1, (0, (1, 0, 0), yc 0)), (2, (0, (1, 1, 0), yc 0)), (3, (0, (1, 2, 0), yc 0))], []), ([((-1), 2)], 7))], [])
theorem yw1077 : ywf ys1077.2.2.1 = true := by decide +kernel
theorem yk1077 : yver yx1077 ys1077.2.2.1 4000 = true := yverQ_ok (by decide +kernel)
theorem yt1077 {E : zHp → Prop} (h : yEF E yFP) : yTs E 2 ys1077 := yver_s (k := 265) (n := 1) (x := yx1077) (P := ys1077.2.2.1) (f := 4000) h (yal_c (yt1076 h) (by decide) yw1076 (yal_c (yt1019 h) (by decide) yw1019 (yal_n))) yg265 yk1077
def ys1078 : ySp := (66, 5, (0, [], [], [], [(0, (2, yc 67, yc 0)), (1, (2, yc 9, yc 0))], []), [(1, [(0, (-2147483648), 2147483647)], [], [], [], [(0, (1, 0, 0), yc 0)])], [(69, 69, 1000)])
def yx1078 : yCx := ([ys665, ys1073], ys1078.2.2.2.2, yFP, zm66.2.2.1, zm66.2.2.2.1, zc66, 0, ys1078.2.2.2.1, [(7, (2, [(0, 0, 6), (1, 0, 6)], [], [(yc 10, yc 0, (0, (1, 0, 0), yc 0))], [(0, (2, yc 67, yc 0)), (1, (2, yc 9, yc 0)), (2, (0, (1, 0, 0), yc 0)), (3, (0, (1, 1, 0), yc 0))], []), ([((-9), 1)], 133)), (22, (4, [(0, 1, 6), (1, 0, 5), (2, 0, 6), (3, (-2147483648), 2147483647)], [], [(yc 10, yc 0, (0, (1, 0, 0), yc 0)), (yc 69, yc 0, (0, (1, 3, 0), yc 0))], [(0, (2, yc 67, yc 0)), (1, (2, yc 9, yc 0)), (2, (0, (1, 0, 0), yc 0)), (3, (0, (1, 1, 0), yc 0)), (4, (0, (1, 2, 0), yc 0))], []), ([((-1), 2), ((-9), 1)], 131)), (65, (2, [(0, 0, 6), (1, 0, 6)], [], [(yc 10, yc 0, (0, (1, 0, 0), yc 0))], [(0, (2, yc 67, yc 0)), (1, (2, yc 9, yc 0)), (2, (0, (1, 0, 0), yc 0)), (3, (0, (1, 1, 0), yc 0))], []), ([((-9), 1)], 70)), (126, (3, [(0, 0, 6), (1, (-2147483648), 2147483647), (2, 0, 6)], [], [(yc 10, yc 0, (0, (1, 0, 0), yc 0))], [(0, (2, yc 67, yc 0)), (1, (2, yc 9, yc 0)), (2, (0, (1, 0, 0), yc 0)), (3, (0, (1, 1, 0), yc 0)), (4, (0, (1, 2, 0), yc 0))], []), ([((-1), 2)], 7)), (73, (3, [(0, 1, 6), (1, 0, 5), (2, 0, 6)], [], [(yc 10, yc 0, (0, (1, 0, 0), yc 0))], [(0, (2, yc 67, yc 0)), (1, (2, yc 9, yc 0)), (2, (0, (1, 0, 0), yc 0)), (3, (0, (1, 1, 0), yc 0)), (4, (0, (1, 2, 0), yc 0))], []), ([((-1), 2), ((-9), 1)], 68))], [])
theorem yw1078 : ywf ys1078.2.2.1 = true := by decide +kernel
theorem yk1078 : yver yx1078 ys1078.2.2.1 4000 = true := yverQ_ok (by decide +kernel)
theorem yt1078 {E : zHp → Prop} (h : yEF E yFP) : yTs E 2 ys1078 := yver_s (k := 66) (n := 1) (x := yx1078) (P := ys1078.2.2.1) (f := 4000) h (yal_c (yt665 h) (by decide) yw665 (yal_c (yt1073 h) (by decide) yw1073 (yal_n))) yg66 yk1078
def ys1079 : ySp := (64, 6, (2, [(0, 0, 5), (1, 0, 63)], [], [], [(0, (2, yc 67, yc 0)), (1, (2, yc 9, yc 0)), (2, (0, (1, 0, 0), yc 0)), (3, (0, (1, 1, 0), yc 0)), (4, (0, yc 6, yc 0))], []), [(2, [], [], [], [], [(0, yc 0, yc 0)]), (2, [], [], [], [], [(0, yc 1, yc 0)])], [])
def yx1079 : yCx := ([ys1073], ys1079.2.2.2.2, yFP, zm64.2.2.1, zm64.2.2.2.1, zc64, 2, ys1079.2.2.2.1, [], [])
theorem yw1079 : ywf ys1079.2.2.1 = true := by decide +kernel
theorem yk1079 : yver yx1079 ys1079.2.2.1 4000 = true := yverQ_ok (by decide +kernel)
theorem yt1079 {E : zHp → Prop} (h : yEF E yFP) : yTs E 2 ys1079 := yver_s (k := 64) (n := 1) (x := yx1079) (P := ys1079.2.2.1) (f := 4000) h (yal_c (yt1073 h) (by decide) yw1073 (yal_n)) yg64 yk1079
def ys1080 : ySp := (64, 6, (2, [(0, 0, 5), (1, 0, 63)], [], [], [(0, (2, yc 67, yc 0)), (1, (2, yc 9, yc 0)), (2, (0, (1, 0, 0), yc 0)), (3, (0, (1, 1, 0), yc 0)), (4, (0, yc 5, yc 0))], []), [(2, [], [], [], [], [(0, yc 0, yc 0)]), (2, [], [], [], [], [(0, yc 1, yc 0)])], [(68, 68, 1000)])
def yx1080 : yCx := ([ys1079, ys665, ys1073], ys1080.2.2.2.2, yFP, zm64.2.2.1, zm64.2.2.2.1, zc64, 2, ys1080.2.2.2.1, [(46, (4, [(0, 0, 5), (1, 0, 63), (2, 1, 6), (3, 0, 5)], [], [(yc 67, yc 1, (0, yc 6, yc 0)), (yc 68, yc 0, (0, (1, 3, 0), yc 0))], [(0, (2, yc 67, yc 0)), (1, (2, yc 9, yc 0)), (2, (0, (1, 0, 0), yc 0)), (3, (0, (1, 1, 0), yc 0)), (4, (0, yc 5, yc 0)), (5, (0, (1, 2, 0), yc 0))], []), ([((-1), 2)], 7))], [])
theorem yw1080 : ywf ys1080.2.2.1 = true := by decide +kernel
theorem yk1080 : yver yx1080 ys1080.2.2.1 4000 = true := yverQ_ok (by decide +kernel)
theorem yt1080 {E : zHp → Prop} (h : yEF E yFP) : yTs E 3 ys1080 := yver_s (k := 64) (n := 2) (x := yx1080) (P := ys1080.2.2.1) (f := 4000) h (yal_c (yt1079 h) (by decide) yw1079 (yal_c (yt665 h) (by decide) yw665 (yal_c (yt1073 h) (by decide) yw1073 (yal_n)))) yg64 yk1080
def ys1081 : ySp := (64, 6, (2, [(0, 0, 5), (1, 0, 63)], [], [], [(0, (2, yc 67, yc 0)), (1, (2, yc 9, yc 0)), (2, (0, (1, 0, 0), yc 0)), (3, (0, (1, 1, 0), yc 0)), (4, (0, yc 4, yc 0))], []), [(2, [], [], [], [], [(0, yc 0, yc 0)]), (2, [], [], [], [], [(0, yc 1, yc 0)])], [(68, 68, 1000)])
def yx1081 : yCx := ([ys1080, ys665, ys1073], ys1081.2.2.2.2, yFP, zm64.2.2.1, zm64.2.2.2.1, zc64, 2, ys1081.2.2.2.1, [(46, (5, [(0, 0, 5), (1, 0, 63), (2, 1, 6), (3, 5, 6), (4, 0, 5)], [], [(yc 67, yc 1, (0, (1, 3, 0), yc 0)), (yc 68, yc 0, (0, (1, 4, 0), yc 0))], [(0, (2, yc 67, yc 0)), (1, (2, yc 9, yc 0)), (2, (0, (1, 0, 0), yc 0)), (3, (0, (1, 1, 0), yc 0)), (4, (0, yc 4, yc 0)), (5, (0, (1, 2, 0), yc 0))], []), ([((-1), 2)], 7))], [])
theorem yw1081 : ywf ys1081.2.2.1 = true := by decide +kernel
theorem yk1081 : yver yx1081 ys1081.2.2.1 4000 = true := yverQ_ok (by decide +kernel)
theorem yt1081 {E : zHp → Prop} (h : yEF E yFP) : yTs E 4 ys1081 := yver_s (k := 64) (n := 3) (x := yx1081) (P := ys1081.2.2.1) (f := 4000) h (yal_c (yt1080 h) (by decide) yw1080 (yal_c (yt665 h) (by decide) yw665 (yal_c (yt1073 h) (by decide) yw1073 (yal_n)))) yg64 yk1081
def ys1082 : ySp := (64, 6, (2, [(0, 0, 5), (1, 0, 63)], [], [], [(0, (2, yc 67, yc 0)), (1, (2, yc 9, yc 0)), (2, (0, (1, 0, 0), yc 0)), (3, (0, (1, 1, 0), yc 0)), (4, (0, yc 3, yc 0))], []), [(2, [], [], [], [], [(0, yc 0, yc 0)]), (2, [], [], [], [], [(0, yc 1, yc 0)])], [(68, 68, 1000)])
def yx1082 : yCx := ([ys1081, ys665, ys1073], ys1082.2.2.2.2, yFP, zm64.2.2.1, zm64.2.2.2.1, zc64, 2, ys1082.2.2.2.1, [(46, (5, [(0, 0, 5), (1, 0, 63), (2, 1, 6), (3, 4, 6), (4, 0, 5)], [], [(yc 67, yc 1, (0, (1, 3, 0), yc 0)), (yc 68, yc 0, (0, (1, 4, 0), yc 0))], [(0, (2, yc 67, yc 0)), (1, (2, yc 9, yc 0)), (2, (0, (1, 0, 0), yc 0)), (3, (0, (1, 1, 0), yc 0)), (4, (0, yc 3, yc 0)), (5, (0, (1, 2, 0), yc 0))], []), ([((-1), 2)], 7))], [])
theorem yw1082 : ywf ys1082.2.2.1 = true := by decide +kernel
theorem yk1082 : yver yx1082 ys1082.2.2.1 4000 = true := yverQ_ok (by decide +kernel)
theorem yt1082 {E : zHp → Prop} (h : yEF E yFP) : yTs E 5 ys1082 := yver_s (k := 64) (n := 4) (x := yx1082) (P := ys1082.2.2.1) (f := 4000) h (yal_c (yt1081 h) (by decide) yw1081 (yal_c (yt665 h) (by decide) yw665 (yal_c (yt1073 h) (by decide) yw1073 (yal_n)))) yg64 yk1082
def ys1083 : ySp := (64, 6, (2, [(0, 0, 5), (1, 0, 63)], [], [], [(0, (2, yc 67, yc 0)), (1, (2, yc 9, yc 0)), (2, (0, (1, 0, 0), yc 0)), (3, (0, (1, 1, 0), yc 0)), (4, (0, yc 2, yc 0))], []), [(2, [], [], [], [], [(0, yc 0, yc 0)]), (2, [], [], [], [], [(0, yc 1, yc 0)])], [(68, 68, 1000)])
def yx1083 : yCx := ([ys1082, ys665, ys1073], ys1083.2.2.2.2, yFP, zm64.2.2.1, zm64.2.2.2.1, zc64, 2, ys1083.2.2.2.1, [(46, (5, [(0, 0, 5), (1, 0, 63), (2, 1, 6), (3, 3, 6), (4, 0, 5)], [], [(yc 67, yc 1, (0, (1, 3, 0), yc 0)), (yc 68, yc 0, (0, (1, 4, 0), yc 0))], [(0, (2, yc 67, yc 0)), (1, (2, yc 9, yc 0)), (2, (0, (1, 0, 0), yc 0)), (3, (0, (1, 1, 0), yc 0)), (4, (0, yc 2, yc 0)), (5, (0, (1, 2, 0), yc 0))], []), ([((-1), 2)], 7))], [])
theorem yw1083 : ywf ys1083.2.2.1 = true := by decide +kernel
theorem yk1083 : yver yx1083 ys1083.2.2.1 4000 = true := yverQ_ok (by decide +kernel)
theorem yt1083 {E : zHp → Prop} (h : yEF E yFP) : yTs E 6 ys1083 := yver_s (k := 64) (n := 5) (x := yx1083) (P := ys1083.2.2.1) (f := 4000) h (yal_c (yt1082 h) (by decide) yw1082 (yal_c (yt665 h) (by decide) yw665 (yal_c (yt1073 h) (by decide) yw1073 (yal_n)))) yg64 yk1083
def ys1087 : ySp := (64, 6, (2, [(0, 0, 5), (1, 0, 63)], [], [], [(0, (2, yc 67, yc 0)), (1, (2, yc 9, yc 0)), (2, (0, (1, 0, 0), yc 0)), (3, (0, (1, 1, 0), yc 0)), (4, (0, yc 1, yc 0))], []), [(2, [], [], [], [], [(0, yc 0, yc 0)]), (2, [], [], [], [], [(0, yc 1, yc 0)])], [(68, 68, 1000)])
def yx1087 : yCx := ([ys1083, ys665, ys1073], ys1087.2.2.2.2, yFP, zm64.2.2.1, zm64.2.2.2.1, zc64, 2, ys1087.2.2.2.1, [(46, (5, [(0, 0, 5), (1, 0, 63), (2, 1, 6), (3, 2, 6), (4, 0, 5)], [], [(yc 67, yc 1, (0, (1, 3, 0), yc 0)), (yc 68, yc 0, (0, (1, 4, 0), yc 0))], [(0, (2, yc 67, yc 0)), (1, (2, yc 9, yc 0)), (2, (0, (1, 0, 0), yc 0)), (3, (0, (1, 1, 0), yc 0)), (4, (0, yc 1, yc 0)), (5, (0, (1, 2, 0), yc 0))], []), ([((-1), 2)], 7))], [])
theorem yw1087 : ywf ys1087.2.2.1 = true := by decide +kernel
theorem yk1087 : yver yx1087 ys1087.2.2.1 4000 = true := yverQ_ok (by decide +kernel)
theorem yt1087 {E : zHp → Prop} (h : yEF E yFP) : yTs E 7 ys1087 := yver_s (k := 64) (n := 6) (x := yx1087) (P := ys1087.2.2.1) (f := 4000) h (yal_c (yt1083 h) (by decide) yw1083 (yal_c (yt665 h) (by decide) yw665 (yal_c (yt1073 h) (by decide) yw1073 (yal_n)))) yg64 yk1087
def ys1088 : ySp := (63, 4, (0, [], [], [], [(0, (2, yc 67, yc 0)), (1, (2, yc 9, yc 0))], []), [(0, [], [], [], [], [])], [(67, 67, 1), (68, 68, 1000)])
def yx1088 : yCx := ([ys1087, ys665], ys1088.2.2.2.2, yFP, zm63.2.2.1, zm63.2.2.2.1, zc63, 0, ys1088.2.2.2.1, [(2, (1, [(0, 2, 7)], [], [], [(0, (2, yc 67, yc 0)), (1, (2, yc 9, yc 0)), (2, (0, (1, 0, 0), yc 0))], []), ([((-9), 0)], 72)), (17, (3, [(0, 2, 6), (1, 0, 6), (2, 2, 6)], [], [(yc 10, yc 0, (0, (1, 2, 0), yc 0)), (yc 67, yc 1, (0, (1, 0, 0), yc 0))], [(0, (2, yc 67, yc 0)), (1, (2, yc 9, yc 0)), (2, (0, (1, 0, 0), yc 0)), (3, (0, (1, 1, 0), yc 0))], []), ([((-1), 1), ((-9), 0)], 70))], [])
theorem yw1088 : ywf ys1088.2.2.1 = true := by decide +kernel
theorem yk1088 : yver yx1088 ys1088.2.2.1 4000 = true := yverQ_ok (by decide +kernel)
theorem yt1088 {E : zHp → Prop} (h : yEF E yFP) : yTs E 8 ys1088 := yver_s (k := 63) (n := 7) (x := yx1088) (P := ys1088.2.2.1) (f := 4000) h (yal_c (yt1087 h) (by decide) yw1087 (yal_c (yt665 h) (by decide) yw665 (yal_n))) yg63 yk1088
def ys1089 : ySp := (146, 2, (1, [(0, (-2147483648), 2147483647)], [], [], [(0, (2, yc 0, yc 0)), (1, (0, (1, 0, 0), yc 0))], []), [(1, [], [], [], [], [(0, yc (-1), yc 0)]), (2, [(0, 0, 7), (1, (-2147483648), 2147483647)], [], [], [], [(0, (1, 1, 0), yc 0)])], [(67, 67, 1), (68, 68, 1000), (69, 69, 1000)])
def yx1089 : yCx := ([ys1088, ys1078, ys671], ys1089.2.2.2.2, yFP, zm146.2.2.1, zm146.2.2.2.1, zc146, 1, ys1089.2.2.2.1, [], [])
theorem yw1089 : ywf ys1089.2.2.1 = true := by decide +kernel
theorem yk1089 : yver yx1089 ys1089.2.2.1 4000 = true := yverQ_ok (by decide +kernel)
theorem yt1089 {E : zHp → Prop} (h : yEF E yFP) : yTs E 9 ys1089 := yver_s (k := 146) (n := 8) (x := yx1089) (P := ys1089.2.2.1) (f := 4000) h (yal_c (yt1088 h) (by decide) yw1088 (yal_c (yt1078 h) (by decide) yw1078 (yal_c (yt671 h) (by decide) yw671 (yal_n)))) yg146 yk1089
def ys1090 : ySp := (158, 6, (1, [(0, 0, 2147483647)], [], [], [(0, (1, (1, 0, 0), yc 0)), (2, (1, yc 0, yc 0)), (4, (1, yc 7, yc 0))], []), [(1, [(0, 8, 2147483647)], [], [], [], [(0, yc 0, yc 0)]), (1, [(0, 0, 7)], [], [], [], [(0, yc 1, yc 0)])], [])
def yx1090 : yCx := ([], ys1090.2.2.2.2, yFP, zm158.2.2.1, zm158.2.2.2.1, zc158, 1, ys1090.2.2.2.1, [], [])
theorem yw1090 : ywf ys1090.2.2.1 = true := by decide +kernel
theorem yk1090 : yver yx1090 ys1090.2.2.1 4000 = true := yverQ_ok (by decide +kernel)
theorem yt1090 {E : zHp → Prop} (h : yEF E yFP) : yTs E 1 ys1090 := yver_s (k := 158) (n := 0) (x := yx1090) (P := ys1090.2.2.1) (f := 4000) h (yal_n) yg158 yk1090
def ys1128 : ySp := (236, 4, (4, [(0, 0, 2147483647), (1, 1, 6), (2, 0, 1), (3, 1, 6)], [], [(yc 80, yc 0, (0, (1, 3, 0), yc 0))], [(0, (2, yc 70, yc 0)), (1, (0, (1, 0, 0), yc 0)), (2, (0, (1, 1, 0), yc 0)), (3, (0, (1, 2, 0), yc 0))], []), [(5, [(4, 0, 5)], [], [(yc 80, yc 0, (0, (1, 3, 0), yc 0))], [], [(0, (1, 4, 0), yc 0)])], [])
def yx1128 : yCx := ([ys864], ys1128.2.2.2.2, yFP, zm236.2.2.1, zm236.2.2.2.1, zc236, 4, ys1128.2.2.2.1, [], [])
theorem yw1128 : ywf ys1128.2.2.1 = true := by decide +kernel
theorem yk1128 : yver yx1128 ys1128.2.2.1 4000 = true := yverQ_ok (by decide +kernel)
theorem yt1128 {E : zHp → Prop} (h : yEF E yFP) : yTs E 2 ys1128 := yver_s (k := 236) (n := 1) (x := yx1128) (P := ys1128.2.2.1) (f := 4000) h (yal_c (yt864 h) (by decide) yw864 (yal_n)) yg236 yk1128
def ys1130 : ySp := (236, 4, (4, [(0, 0, 2147483647), (1, 1, 6), (2, 0, 5), (3, 1, 6)], [], [(yc 80, yc 0, (0, (1, 3, 0), yc 0))], [(0, (2, yc 70, yc 0)), (1, (0, (1, 0, 0), yc 0)), (2, (0, (1, 1, 0), yc 0)), (3, (0, (1, 2, 0), yc 0))], []), [(5, [(4, 0, 5)], [], [(yc 80, yc 0, (0, (1, 3, 0), yc 0))], [], [(0, (1, 4, 0), yc 0)])], [])
def yx1130 : yCx := ([ys864], ys1130.2.2.2.2, yFP, zm236.2.2.1, zm236.2.2.2.1, zc236, 4, ys1130.2.2.2.1, [], [])
theorem yw1130 : ywf ys1130.2.2.1 = true := by decide +kernel
theorem yk1130 : yver yx1130 ys1130.2.2.1 4000 = true := yverQ_ok (by decide +kernel)
theorem yt1130 {E : zHp → Prop} (h : yEF E yFP) : yTs E 2 ys1130 := yver_s (k := 236) (n := 1) (x := yx1130) (P := ys1130.2.2.1) (f := 4000) h (yal_c (yt864 h) (by decide) yw864 (yal_n)) yg236 yk1130
def ys1131 : ySp := (237, 6, (3, [(0, 0, 2147483647), (1, 1, 6), (2, 1, 6)], [], [(yc 80, yc 0, (0, (1, 2, 0), yc 0))], [(0, (2, yc 70, yc 0)), (1, (0, (1, 0, 0), yc 0)), (2, (0, (1, 1, 0), yc 0))], []), [(3, [], [], [(yc 80, yc 0, (0, (1, 2, 0), yc 0))], [], [(0, yc 0, yc 0)]), (3, [], [], [(yc 80, yc 0, (0, (1, 2, 0), yc 0))], [], [(0, yc 1, yc 0)])], [])
def yx1131 : yCx := ([ys881, ys1130], ys1131.2.2.2.2, yFP, zm237.2.2.1, zm237.2.2.2.1, zc237, 3, ys1131.2.2.2.1, [(5, (5, [(0, 0, 2147483647), (1, 1, 6), (2, 1, 6), (3, 0, 63), (4, 0, 6)], [], [(yc 80, yc 0, (0, (1, 2, 0), yc 0))], [(0, (2, yc 70, yc 0)), (1, (0, (1, 0, 0), yc 0)), (2, (0, (1, 1, 0), yc 0)), (3, (0, (1, 3, 0), yc 0)), (4, (0, (1, 4, 0), yc 0))], []), ([((-1), 4)], 7))], [])
theorem yw1131 : ywf ys1131.2.2.1 = true := by decide +kernel
theorem yk1131 : yver yx1131 ys1131.2.2.1 4000 = true := yverQ_ok (by decide +kernel)
theorem yt1131 {E : zHp → Prop} (h : yEF E yFP) : yTs E 3 ys1131 := yver_s (k := 237) (n := 2) (x := yx1131) (P := ys1131.2.2.1) (f := 4000) h (yal_c (yt881 h) (by decide) yw881 (yal_c (yt1130 h) (by decide) yw1130 (yal_n))) yg237 yk1131
def ys1132 : ySp := (240, 5, (3, [(0, 0, 2147483647), (1, 1, 6), (2, 1, 6)], [], [(yc 80, yc 0, (0, (1, 2, 0), yc 0))], [(0, (2, yc 70, yc 0)), (1, (0, (1, 0, 0), yc 0)), (2, (0, (1, 1, 0), yc 0))], []), [(3, [], [], [(yc 80, yc 0, (0, (1, 2, 0), yc 0))], [], [(0, yc 0, yc 0)]), (3, [], [], [(yc 80, yc 0, (0, (1, 2, 0), yc 0))], [], [(0, yc 1, yc 0)])], [])
def yx1132 : yCx := ([ys1019, ys1128, ys1130, ys1131], ys1132.2.2.2.2, yFP, zm240.2.2.1, zm240.2.2.2.1, zc240, 3, ys1132.2.2.2.1, [(13, (4, [(0, 0, 2147483647), (1, 1, 6), (2, 1, 6), (3, 0, 6)], [], [(yc 80, yc 0, (0, (1, 2, 0), yc 0))], [(0, (2, yc 70, yc 0)), (1, (0, (1, 0, 0), yc 0)), (2, (0, (1, 1, 0), yc 0)), (3, (0, (1, 3, 0), yc 0))], []), ([((-1), 3)], 7))], [])
theorem yw1132 : ywf ys1132.2.2.1 = true := by decide +kernel
theorem yk1132 : yver yx1132 ys1132.2.2.1 4000 = true := yverQ_ok (by decide +kernel)
theorem yt1132 {E : zHp → Prop} (h : yEF E yFP) : yTs E 4 ys1132 := yver_s (k := 240) (n := 3) (x := yx1132) (P := ys1132.2.2.1) (f := 4000) h (yal_c (yt1019 h) (by decide) yw1019 (yal_c (yt1128 h) (by decide) yw1128 (yal_c (yt1130 h) (by decide) yw1130 (yal_c (yt1131 h) (by decide) yw1131 (yal_n))))) yg240 yk1132
def ys1133 : ySp := (241, 3, (0, [], [], [], [(0, (2, yc 70, yc 0))], []), [(0, [], [], [], [], [(0, yc 0, yc 0)]), (1, [(0, 2, 6)], [], [], [], [(0, (1, 0, 0), yc 0)])], [(70, 70, 26)])
def yx1133 : yCx := ([ys864, ys1132], ys1133.2.2.2.2, yFP, zm241.2.2.1, zm241.2.2.2.1, zc241, 0, ys1133.2.2.2.1, [(2, (1, [(0, 2, 7)], [], [], [(0, (2, yc 70, yc 0)), (1, (0, (1, 0, 0), yc 0))], []), ([((-2147483650), 0)], 17179869200)), (14, (3, [(0, 2, 6), (1, 0, 2147483647), (2, 2, 6)], [], [(yc 80, yc 0, (0, (1, 2, 0), yc 0))], [(0, (2, yc 70, yc 0)), (1, (0, (1, 0, 0), yc 0)), (2, (0, (1, 1, 0), yc 0))], []), ([((-1), 1), ((-2147483650), 0)], 17179869198))], [])
theorem yw1133 : ywf ys1133.2.2.1 = true := by decide +kernel
theorem yk1133 : yver yx1133 ys1133.2.2.1 4000 = true := yverQ_ok (by decide +kernel)
theorem yt1133 {E : zHp → Prop} (h : yEF E yFP) : yTs E 5 ys1133 := yver_s (k := 241) (n := 4) (x := yx1133) (P := ys1133.2.2.1) (f := 4000) h (yal_c (yt864 h) (by decide) yw864 (yal_c (yt1132 h) (by decide) yw1132 (yal_n))) yg241 yk1133
def ys1135 : ySp := (159, 2, (2, [(0, (-2147483648), 2147483647), (1, 0, 5)], [], [], [(0, (0, (1, 0, 0), yc 0)), (1, (0, (1, 1, 0), yc 0))], []), [(2, [], [], [], [], [(0, yc 0, yc 0)]), (2, [], [], [], [], [(0, yc 1, yc 0)])], [])
def yx1135 : yCx := ([], ys1135.2.2.2.2, yFP, zm159.2.2.1, zm159.2.2.2.1, zc159, 2, ys1135.2.2.2.1, [], [])
theorem yw1135 : ywf ys1135.2.2.1 = true := by decide +kernel
theorem yk1135 : yver yx1135 ys1135.2.2.1 4000 = true := yverQ_ok (by decide +kernel)
theorem yt1135 {E : zHp → Prop} (h : yEF E yFP) : yTs E 1 ys1135 := yver_s (k := 159) (n := 0) (x := yx1135) (P := ys1135.2.2.1) (f := 4000) h (yal_n) yg159 yk1135
def ys1137 : ySp := (263, 7, (1, [(0, 0, 5)], [], [], [(0, (2, yc 70, yc 0)), (1, (0, (1, 0, 0), yc 0))], []), [(2, [(1, (-2147483648), 2147483647)], [], [], [], [(0, (1, 1, 0), yc 0)])], [])
def yx1137 : yCx := ([ys1135, ys1019], ys1137.2.2.2.2, yFP, zm263.2.2.1, zm263.2.2.2.1, zc263, 1, ys1137.2.2.2.1, [(4, (3, [(0, 0, 5), (1, (-2147483648), 2147483647), (2, 0, 7)], [], [], [(0, (2, yc 70, yc 0)), (1, (0, (1, 0, 0), yc 0)), (2, (0, (1, 1, 0), yc 0)), (3, (0, (1, 2, 0), yc 0))], []), ([((-65), 2)], 520)), (26, (5, [(0, 0, 5), (1, (-2147483648), 2147483647), (2, 0, 6), (3, (-2147483648), 2147483647), (4, 0, 6)], [], [], [(0, (2, yc 70, yc 0)), (1, (0, (1, 0, 0), yc 0)), (2, (0, (1, 1, 0), yc 0)), (3, (0, (1, 2, 0), yc 0)), (4, (0, (1, 3, 0), yc 0)), (5, (0, (1, 4, 0), yc 0))], []), ([((-9), 4), ((-65), 2)], 518)), (40, (7, [(0, 0, 5), (1, (-2147483648), 2147483647), (2, 0, 6), (3, (-2147483648), 2147483647), (4, 0, 5), (5, 0, 6), (6, 1, 6)], [], [(yc 80, yc 0, (0, (1, 6, 0), yc 0))], [(0, (2, yc 70, yc 0)), (1, (0, (1, 0, 0), yc 0)), (2, (0, (1, 1, 0), yc 0)), (3, (0, (1, 2, 0), yc 0)), (4, (0, (1, 3, 0), yc 0)), (5, (0, (1, 4, 0), yc 0)), (6, (0, (1, 5, 0), yc 0))], []), ([((-1), 5), ((-9), 4), ((-65), 2)], 516))], [])
theorem yw1137 : ywf ys1137.2.2.1 = true := by decide +kernel
theorem yk1137 : yver yx1137 ys1137.2.2.1 4000 = true := yverQ_ok (by decide +kernel)
theorem yt1137 {E : zHp → Prop} (h : yEF E yFP) : yTs E 2 ys1137 := yver_s (k := 263) (n := 1) (x := yx1137) (P := ys1137.2.2.1) (f := 4000) h (yal_c (yt1135 h) (by decide) yw1135 (yal_c (yt1019 h) (by decide) yw1019 (yal_n))) yg263 yk1137
def ys1138 : ySp := (264, 4, (1, [(0, 0, 7)], [], [], [(0, (2, yc 70, yc 0)), (1, (0, (1, 0, 0), yc 0))], []), [(1, [], [], [], [], [(0, yc (-1), yc 0)]), (1, [(0, 1, 1)], [], [], [], [(0, yc 0, yc 0)]), (2, [(1, (-2147483648), 2147483647)], [], [], [], [(0, (1, 1, 0), yc 0)])], [(70, 70, 26)])
def yx1138 : yCx := ([ys1090, ys1135, ys769, ys1130, ys1133, ys1137], ys1138.2.2.2.2, yFP, zm264.2.2.1, zm264.2.2.2.1, zc264, 1, ys1138.2.2.2.1, [(29, (4, [(0, 0, 0), (1, (-2147483648), 2147483647), (2, 0, 6), (3, 1, 6)], [], [(yc 80, yc 0, (0, (1, 3, 0), yc 0))], [(0, (2, yc 70, yc 0)), (1, (0, yc 0, yc 0)), (2, (0, (1, 1, 0), yc 0)), (3, (0, (1, 2, 0), yc 0))], []), ([((-1), 2)], 7))], [])
theorem yw1138 : ywf ys1138.2.2.1 = true := by decide +kernel
theorem yk1138 : yver yx1138 ys1138.2.2.1 4000 = true := yverQ_ok (by decide +kernel)
theorem yt1138 {E : zHp → Prop} (h : yEF E yFP) : yTs E 6 ys1138 := yver_s (k := 264) (n := 5) (x := yx1138) (P := ys1138.2.2.1) (f := 4000) h (yal_c (yt1090 h) (by decide) yw1090 (yal_c (yt1135 h) (by decide) yw1135 (yal_c (yt769 h) (by decide) yw769 (yal_c (yt1130 h) (by decide) yw1130 (yal_c (yt1133 h) (by decide) yw1133 (yal_c (yt1137 h) (by decide) yw1137 (yal_n))))))) yg264 yk1138
def ys1139 : ySp := (158, 6, (1, [(0, (-9223372036854775808), 9223372036854775807)], [], [], [(0, (1, (1, 0, 0), yc 0)), (2, (1, yc 0, yc 0)), (4, (1, yc 7, yc 0))], []), [(1, [(0, (-9223372036854775808), (-1))], [], [], [], [(0, yc 0, yc 0)]), (1, [(0, 8, 9223372036854775807)], [], [], [], [(0, yc 0, yc 0)]), (1, [(0, 0, 7)], [], [], [], [(0, yc 1, yc 0)])], [])
def yx1139 : yCx := ([], ys1139.2.2.2.2, yFP, zm158.2.2.1, zm158.2.2.2.1, zc158, 1, ys1139.2.2.2.1, [], [])
theorem yw1139 : ywf ys1139.2.2.1 = true := by decide +kernel
theorem yk1139 : yver yx1139 ys1139.2.2.1 4000 = true := yverQ_ok (by decide +kernel)
theorem yt1139 {E : zHp → Prop} (h : yEF E yFP) : yTs E 1 ys1139 := yver_s (k := 158) (n := 0) (x := yx1139) (P := ys1139.2.2.1) (f := 4000) h (yal_n) yg158 yk1139
def ys1140 : ySp := (264, 4, (1, [(0, (-2147483648), 2147483647)], [], [], [(0, (2, yc 70, yc 0)), (1, (0, (1, 0, 0), yc 0))], []), [(1, [], [], [], [], [(0, yc (-1), yc 0)]), (1, [(0, 1, 1)], [], [], [], [(0, yc 0, yc 0)]), (2, [(0, 0, 7), (1, (-2147483648), 2147483647)], [], [], [], [(0, (1, 1, 0), yc 0)])], [(70, 70, 26)])
def yx1140 : yCx := ([ys1139, ys1135, ys769, ys1130, ys1133, ys1137], ys1140.2.2.2.2, yFP, zm264.2.2.1, zm264.2.2.2.1, zc264, 1, ys1140.2.2.2.1, [(29, (4, [(0, 0, 0), (1, (-2147483648), 2147483647), (2, 0, 6), (3, 1, 6)], [], [(yc 80, yc 0, (0, (1, 3, 0), yc 0))], [(0, (2, yc 70, yc 0)), (1, (0, yc 0, yc 0)), (2, (0, (1, 1, 0), yc 0)), (3, (0, (1, 2, 0), yc 0))], []), ([((-1), 2)], 7))], [])
theorem yw1140 : ywf ys1140.2.2.1 = true := by decide +kernel
theorem yk1140 : yver yx1140 ys1140.2.2.1 4000 = true := yverQ_ok (by decide +kernel)
theorem yt1140 {E : zHp → Prop} (h : yEF E yFP) : yTs E 6 ys1140 := yver_s (k := 264) (n := 5) (x := yx1140) (P := ys1140.2.2.1) (f := 4000) h (yal_c (yt1139 h) (by decide) yw1139 (yal_c (yt1135 h) (by decide) yw1135 (yal_c (yt769 h) (by decide) yw769 (yal_c (yt1130 h) (by decide) yw1130 (yal_c (yt1133 h) (by decide) yw1133 (yal_c (yt1137 h) (by decide) yw1137 (yal_n))))))) yg264 yk1140
def ys1142 : ySp := (291, 4, (1, [(0, (-1), 5)], [], [], [(0, (2, yc 52, yc 0)), (1, (0, (1, 0, 0), yc 0))], []), [(1, [], [], [], [], [])], [(52, 52, 1000)])
def yx1142 : yCx := ([], ys1142.2.2.2.2, yFP, zm291.2.2.1, zm291.2.2.2.1, zc291, 1, ys1142.2.2.2.1, [(5, (2, [(0, (-1), 5), (1, 0, 6)], [], [], [(0, (2, yc 52, yc 0)), (1, (0, (1, 0, 0), yc 0)), (2, (0, (1, 1, 0), yc 0)), (3, (0, yc 6, yc 0))], []), ([((-1), 1)], 7))], [])
theorem yw1142 : ywf ys1142.2.2.1 = true := by decide +kernel
theorem yk1142 : yver yx1142 ys1142.2.2.1 4000 = true := yverQ_ok (by decide +kernel)
theorem yt1142 {E : zHp → Prop} (h : yEF E yFP) : yTs E 1 ys1142 := yver_s (k := 291) (n := 0) (x := yx1142) (P := ys1142.2.2.1) (f := 4000) h (yal_n) yg291 yk1142
def ys1143 : ySp := (291, 4, (1, [(0, (-1), 5)], [], [], [(0, (2, yc 53, yc 0)), (1, (0, (1, 0, 0), yc 0))], []), [(1, [], [], [], [], [])], [(53, 53, 1000)])
def yx1143 : yCx := ([], ys1143.2.2.2.2, yFP, zm291.2.2.1, zm291.2.2.2.1, zc291, 1, ys1143.2.2.2.1, [(5, (2, [(0, (-1), 5), (1, 0, 6)], [], [], [(0, (2, yc 53, yc 0)), (1, (0, (1, 0, 0), yc 0)), (2, (0, (1, 1, 0), yc 0)), (3, (0, yc 6, yc 0))], []), ([((-1), 1)], 7))], [])
theorem yw1143 : ywf ys1143.2.2.1 = true := by decide +kernel
theorem yk1143 : yver yx1143 ys1143.2.2.1 4000 = true := yverQ_ok (by decide +kernel)
theorem yt1143 {E : zHp → Prop} (h : yEF E yFP) : yTs E 1 ys1143 := yver_s (k := 291) (n := 0) (x := yx1143) (P := ys1143.2.2.1) (f := 4000) h (yal_n) yg291 yk1143
def ys1144 : ySp := (291, 4, (1, [(0, 0, 1)], [], [], [(0, (2, yc 54, yc 0)), (1, (0, (1, 0, 0), yc 0))], []), [(1, [], [], [], [], [])], [(54, 54, 1000)])
def yx1144 : yCx := ([], ys1144.2.2.2.2, yFP, zm291.2.2.1, zm291.2.2.2.1, zc291, 1, ys1144.2.2.2.1, [(5, (2, [(0, 0, 1), (1, 0, 64)], [], [], [(0, (2, yc 54, yc 0)), (1, (0, (1, 0, 0), yc 0)), (2, (0, (1, 1, 0), yc 0)), (3, (0, yc 64, yc 0))], []), ([((-1), 1)], 65))], [])
theorem yw1144 : ywf ys1144.2.2.1 = true := by decide +kernel
theorem yk1144 : yver yx1144 ys1144.2.2.1 4000 = true := yverQ_ok (by decide +kernel)
theorem yt1144 {E : zHp → Prop} (h : yEF E yFP) : yTs E 1 ys1144 := yver_s (k := 291) (n := 0) (x := yx1144) (P := ys1144.2.2.1) (f := 4000) h (yal_n) yg291 yk1144
def ys1145 : ySp := (2, 5, (3, [(0, 0, 6), (1, (-2147483648), 2147483647), (2, 0, 63)], [], [], [(0, (2, yc 51, yc 0)), (1, (0, (1, 0, 0), yc 0)), (2, (0, (1, 1, 0), yc 0)), (3, (0, (1, 2, 0), yc 0))], []), [(3, [], [], [], [], [])], [(52, 52, 1000), (53, 53, 1000)])
def yx1145 : yCx := ([], ys1145.2.2.2.2, yFP, zm2.2.2.1, zm2.2.2.2.1, zc2, 3, ys1145.2.2.2.1, [(3, (4, [(0, 0, 6), (1, (-2147483648), 2147483647), (2, 0, 63), (3, 0, 6)], [], [], [(0, (2, yc 51, yc 0)), (1, (0, (1, 0, 0), yc 0)), (2, (0, (1, 1, 0), yc 0)), (3, (0, (1, 2, 0), yc 0)), (4, (0, (1, 3, 0), yc 0))], []), ([((-1), 3)], 7))], [])
theorem yw1145 : ywf ys1145.2.2.1 = true := by decide +kernel
theorem yk1145 : yver yx1145 ys1145.2.2.1 4000 = true := yverQ_ok (by decide +kernel)
theorem yt1145 {E : zHp → Prop} (h : yEF E yFP) : yTs E 1 ys1145 := yver_s (k := 2) (n := 0) (x := yx1145) (P := ys1145.2.2.1) (f := 4000) h (yal_n) yg2 yk1145
def ys1146 : ySp := (3, 5, (1, [(0, 0, 63)], [], [], [(0, (2, yc 51, yc 0)), (1, (2, yc 11, yc 0)), (2, (0, (1, 0, 0), yc 0))], []), [(1, [], [], [], [], [])], [(54, 54, 1000)])
def yx1146 : yCx := ([ys845, ys684], ys1146.2.2.2.2, yFP, zm3.2.2.1, zm3.2.2.2.1, zc3, 1, ys1146.2.2.2.1, [(5, (3, [(0, 0, 63), (1, 0, 63), (2, 0, 6)], [], [], [(0, (2, yc 51, yc 0)), (1, (2, yc 11, yc 0)), (2, (0, (1, 0, 0), yc 0)), (3, (0, (1, 1, 0), yc 0)), (4, (0, (1, 2, 0), yc 0))], []), ([((-1), 2)], 14)), (52, (4, [(0, 0, 63), (1, 0, 63), (2, 0, 6), (3, 0, 6)], [], [(yc 12, yc 0, (0, (1, 3, 0), yc 0))], [(0, (2, yc 51, yc 0)), (1, (2, yc 11, yc 0)), (2, (0, (1, 0, 0), yc 0)), (3, (0, (1, 1, 0), yc 0)), (4, (0, (1, 2, 0), yc 0))], []), ([((-1), 2)], 7))], [])
theorem yw1146 : ywf ys1146.2.2.1 = true := by decide +kernel
theorem yk1146 : yver yx1146 ys1146.2.2.1 4000 = true := yverQ_ok (by decide +kernel)
theorem yt1146 {E : zHp → Prop} (h : yEF E yFP) : yTs E 2 ys1146 := yver_s (k := 3) (n := 1) (x := yx1146) (P := ys1146.2.2.1) (f := 4000) h (yal_c (yt845 h) (by decide) yw845 (yal_c (yt684 h) (by decide) yw684 (yal_n))) yg3 yk1146
def ys1150 : ySp := (1, 7, (1, [(0, 0, 5)], [], [], [(0, (2, yc 51, yc 0)), (1, (2, yc 11, yc 0)), (2, (0, (1, 0, 0), yc 0))], []), [(1, [], [], [], [], [])], [(52, 52, 1000), (53, 53, 1000), (54, 54, 1000)])
def yx1150 : yCx := ([ys1145, ys1146, ys845, ys698, ys705, ys846, ys1144, ys1142, ys1143], ys1150.2.2.2.2, yFP, zm1.2.2.1, zm1.2.2.2.1, zc1, 1, ys1150.2.2.2.1, [(67, (6, [(0, 0, 5), (1, 0, 5), (2, 0, 63), (3, 1, 64), (4, 0, 64), (5, 0, 6)], [], [(yc 12, yc 0, (0, (1, 5, 0), yc 0))], [(0, (2, yc 51, yc 0)), (1, (2, yc 11, yc 0)), (2, (0, (1, 0, 0), yc 0)), (3, (0, (1, 1, 0), yc 0)), (4, (0, (1, 2, 0), yc 0)), (5, (0, (1, 3, 0), yc 0)), (6, (0, (1, 4, 0), yc 0))], []), ([((-1), 4)], 65))], [])
theorem yw1150 : ywf ys1150.2.2.1 = true := by decide +kernel
theorem yk1150 : yver yx1150 ys1150.2.2.1 4000 = true := yverQ_ok (by decide +kernel)
theorem yt1150 {E : zHp → Prop} (h : yEF E yFP) : yTs E 3 ys1150 := yver_s (k := 1) (n := 2) (x := yx1150) (P := ys1150.2.2.1) (f := 4000) h (yal_c (yt1145 h) (by decide) yw1145 (yal_c (yt1146 h) (by decide) yw1146 (yal_c (yt845 h) (by decide) yw845 (yal_c (yt698 h) (by decide) yw698 (yal_c (yt705 h) (by decide) yw705 (yal_c (yt846 h) (by decide) yw846 (yal_c (yt1144 h) (by decide) yw1144 (yal_c (yt1142 h) (by decide) yw1142 (yal_c (yt1143 h) (by decide) yw1143 (yal_n)))))))))) yg1 yk1150
def ys1151 : ySp := (100, 3, (2, [(0, 0, 5), (1, (-2147483648), 2147483647)], [], [], [(0, (2, yc 11, yc 0)), (1, (0, (1, 0, 0), yc 0)), (2, (0, (1, 1, 0), yc 0))], []), [(2, [(1, 0, 0)], [], [], [], [(0, yc 0, yc 0)]), (3, [(2, 0, 2147483647)], [], [], [], [(0, (1, 2, 0), yc 0)])], [])
def yx1151 : yCx := ([ys707, ys734, ys733, ys736], ys1151.2.2.2.2, yFP, zm100.2.2.1, zm100.2.2.2.1, zc100, 2, ys1151.2.2.2.1, [], [])
theorem yw1151 : ywf ys1151.2.2.1 = true := by decide +kernel
theorem yk1151 : yver yx1151 ys1151.2.2.1 4000 = true := yverQ_ok (by decide +kernel)
theorem yt1151 {E : zHp → Prop} (h : yEF E yFP) : yTs E 3 ys1151 := yver_s (k := 100) (n := 2) (x := yx1151) (P := ys1151.2.2.1) (f := 4000) h (yal_c (yt707 h) (by decide) yw707 (yal_c (yt734 h) (by decide) yw734 (yal_c (yt733 h) (by decide) yw733 (yal_c (yt736 h) (by decide) yw736 (yal_n))))) yg100 yk1151
def ys1152 : ySp := (22, 5, (1, [(0, 0, 5)], [], [], [(0, (2, yc 50, yc 0)), (1, (2, yc 11, yc 0)), (2, (0, (1, 0, 0), yc 0))], []), [(1, [], [], [], [], [])], [(52, 52, 1000), (53, 53, 1000), (54, 54, 1000), (57, 57, 1000)])
def yx1152 : yCx := ([ys1150, ys732, ys755, ys756, ys757, ys1151, ys754], ys1152.2.2.2.2, yFP, zm22.2.2.1, zm22.2.2.2.1, zc22, 1, ys1152.2.2.2.1, [(11, (2, [(0, 0, 5), (1, 0, 6)], [], [], [(0, (2, yc 50, yc 0)), (1, (2, yc 11, yc 0)), (2, (0, (1, 0, 0), yc 0)), (3, (0, (1, 1, 0), yc 0))], []), ([((-1), 1)], 7))], [])
theorem yw1152 : ywf ys1152.2.2.1 = true := by decide +kernel
theorem yk1152 : yver yx1152 ys1152.2.2.1 4000 = true := yverQ_ok (by decide +kernel)
theorem yt1152 {E : zHp → Prop} (h : yEF E yFP) : yTs E 4 ys1152 := yver_s (k := 22) (n := 3) (x := yx1152) (P := ys1152.2.2.1) (f := 4000) h (yal_c (yt1150 h) (by decide) yw1150 (yal_c (yt732 h) (by decide) yw732 (yal_c (yt755 h) (by decide) yw755 (yal_c (yt756 h) (by decide) yw756 (yal_c (yt757 h) (by decide) yw757 (yal_c (yt1151 h) (by decide) yw1151 (yal_c (yt754 h) (by decide) yw754 (yal_n)))))))) yg22 yk1152
def ys1153 : ySp := (21, 4, (1, [(0, (-1), 5)], [], [], [(0, (2, yc 50, yc 0)), (1, (2, yc 11, yc 0)), (2, (0, (1, 0, 0), yc 0))], []), [(1, [], [], [], [], [])], [(52, 52, 1000), (53, 53, 1000), (54, 54, 1000), (57, 57, 1000), (58, 58, 1000)])
def yx1153 : yCx := ([ys1152, ys673, ys759], ys1153.2.2.2.2, yFP, zm21.2.2.1, zm21.2.2.2.1, zc21, 1, ys1153.2.2.2.1, [(2, (2, [(0, (-1), 5), (1, 0, 6)], [], [], [(0, (2, yc 50, yc 0)), (1, (2, yc 11, yc 0)), (2, (0, (1, 0, 0), yc 0)), (3, (0, (1, 1, 0), yc 0))], []), ([((-1), 1)], 14)), (37, (3, [(0, (-1), 5), (1, 0, 6), (2, 0, 6)], [], [(yc 50, yc 1, (0, (1, 2, 0), yc 0))], [(0, (2, yc 50, yc 0)), (1, (2, yc 11, yc 0)), (2, (0, (1, 0, 0), yc 0)), (3, (0, (1, 1, 0), yc 0))], []), ([((-1), 1)], 7))], [])
theorem yw1153 : ywf ys1153.2.2.1 = true := by decide +kernel
theorem yk1153 : yver yx1153 ys1153.2.2.1 4000 = true := yverQ_ok (by decide +kernel)
theorem yt1153 {E : zHp → Prop} (h : yEF E yFP) : yTs E 5 ys1153 := yver_s (k := 21) (n := 4) (x := yx1153) (P := ys1153.2.2.1) (f := 4000) h (yal_c (yt1152 h) (by decide) yw1152 (yal_c (yt673 h) (by decide) yw673 (yal_c (yt759 h) (by decide) yw759 (yal_n)))) yg21 yk1153
def ys1154 : ySp := (291, 4, (2, [(0, 60, 66), (1, 0, 1)], [], [], [(0, (2, (1, 0, 0), yc 0)), (1, (0, (1, 1, 0), yc 0))], []), [(2, [], [], [], [], [])], [(60, 66, 1000)])
def yx1154 : yCx := ([], ys1154.2.2.2.2, yFP, zm291.2.2.1, zm291.2.2.2.1, zc291, 2, ys1154.2.2.2.1, [(5, (3, [(0, 60, 66), (1, 0, 1), (2, 0, 64)], [], [], [(0, (2, (1, 0, 0), yc 0)), (1, (0, (1, 1, 0), yc 0)), (2, (0, (1, 2, 0), yc 0)), (3, (0, yc 64, yc 0))], []), ([((-1), 2)], 65))], [])
theorem yw1154 : ywf ys1154.2.2.1 = true := by decide +kernel
theorem yk1154 : yver yx1154 ys1154.2.2.1 4000 = true := yverQ_ok (by decide +kernel)
theorem yt1154 {E : zHp → Prop} (h : yEF E yFP) : yTs E 1 ys1154 := yver_s (k := 291) (n := 0) (x := yx1154) (P := ys1154.2.2.1) (f := 4000) h (yal_n) yg291 yk1154
def ys1160 : ySp := (20, 6, (2, [(0, 0, 5), (1, 0, 63)], [], [], [(0, (2, yc 50, yc 0)), (1, (0, (1, 0, 0), yc 0)), (2, (0, (1, 1, 0), yc 0))], []), [(3, [(2, (-2147483648), 2147483647)], [], [], [], [(0, (1, 2, 0), yc 0)])], [])
def yx1160 : yCx := ([], ys1160.2.2.2.2, yFP, zm20.2.2.1, zm20.2.2.2.1, zc20, 2, ys1160.2.2.2.1, [(26, (6, [(0, 0, 5), (1, 0, 63), (2, (-2147483648), 2147483647), (3, (-2147483648), 2147483647), (4, 0, 6), (5, (-2147483648), 2147483647)], [], [(yc 57, (1, 0, 0), (0, (1, 5, 0), yc 0))], [(0, (2, yc 50, yc 0)), (1, (0, (1, 0, 0), yc 0)), (2, (0, (1, 1, 0), yc 0)), (3, (0, (1, 2, 0), yc 0)), (4, (0, (1, 3, 0), yc 0)), (5, (0, (1, 4, 0), yc 0))], []), ([((-1), 4)], 7))], [])
theorem yw1160 : ywf ys1160.2.2.1 = true := by decide +kernel
theorem yk1160 : yver yx1160 ys1160.2.2.1 4000 = true := yverQ_ok (by decide +kernel)
theorem yt1160 {E : zHp → Prop} (h : yEF E yFP) : yTs E 1 ys1160 := yver_s (k := 20) (n := 0) (x := yx1160) (P := ys1160.2.2.1) (f := 4000) h (yal_n) yg20 yk1160
def ys1161 : ySp := (19, 6, (1, [(0, (-1), 5)], [], [], [(0, (2, yc 50, yc 0)), (1, (2, yc 11, yc 0)), (2, (0, (1, 0, 0), yc 0))], []), [(2, [(1, (-2147483648), 2147483647)], [], [], [], [(0, (1, 1, 0), yc 0)])], [(50, 50, 1), (52, 52, 1000), (53, 53, 1000), (54, 54, 1000), (57, 57, 1000), (58, 58, 1000), (60, 66, 1000)])
def yx1161 : yCx := ([ys1160, ys1153, ys673, ys711, ys1154], ys1161.2.2.2.2, yFP, zm19.2.2.1, zm19.2.2.2.1, zc19, 1, ys1161.2.2.2.1, [(52, (6, [(0, (-1), 5), (1, 1, 64), (2, (-1), 5), (3, 0, 6), (4, 0, 6), (5, 0, 6)], [], [(yc 12, yc 3, (0, (1, 3, 0), yc 0)), (yc 50, yc 1, (0, (1, 4, 0), yc 0)), (yc 12, yc 2, (0, (1, 5, 0), yc 0))], [(0, (2, yc 50, yc 0)), (1, (2, yc 11, yc 0)), (2, (0, (1, 0, 0), yc 0)), (3, (0, (1, 1, 0), yc 0)), (4, (0, (1, 2, 0), yc 0))], []), ([(67, 2)], 134)), (60, (7, [(0, (-1), 5), (1, 1, 64), (2, 0, 5), (3, 0, 64), (4, 0, 6), (5, 0, 6), (6, 0, 6)], [], [(yc 12, yc 3, (0, (1, 4, 0), yc 0)), (yc 50, yc 1, (0, (1, 5, 0), yc 0)), (yc 12, yc 2, (0, (1, 6, 0), yc 0))], [(0, (2, yc 50, yc 0)), (1, (2, yc 11, yc 0)), (2, (0, (1, 0, 0), yc 0)), (3, (0, (1, 1, 0), yc 0)), (4, (0, (1, 2, 0), yc 0)), (5, (0, (1, 3, 0), yc 0))], []), ([((-1), 3), (67, 2)], 132))], [])
theorem yw1161 : ywf ys1161.2.2.1 = true := by decide +kernel
theorem yk1161 : yver yx1161 ys1161.2.2.1 4000 = true := yverQ_ok (by decide +kernel)
theorem yt1161 {E : zHp → Prop} (h : yEF E yFP) : yTs E 6 ys1161 := yver_s (k := 19) (n := 5) (x := yx1161) (P := ys1161.2.2.1) (f := 4000) h (yal_c (yt1160 h) (by decide) yw1160 (yal_c (yt1153 h) (by decide) yw1153 (yal_c (yt673 h) (by decide) yw673 (yal_c (yt711 h) (by decide) yw711 (yal_c (yt1154 h) (by decide) yw1154 (yal_n)))))) yg19 yk1161
def ys1164 : ySp := (3, 5, (1, [(0, 0, 63)], [], [], [(0, (2, yc 51, yc 0)), (1, (2, yc 9, yc 0)), (2, (0, (1, 0, 0), yc 0))], []), [(1, [], [], [], [], [])], [(54, 54, 1000)])
def yx1164 : yCx := ([ys665, ys1039], ys1164.2.2.2.2, yFP, zm3.2.2.1, zm3.2.2.2.1, zc3, 1, ys1164.2.2.2.1, [(5, (3, [(0, 0, 63), (1, 0, 63), (2, 0, 6)], [], [], [(0, (2, yc 51, yc 0)), (1, (2, yc 9, yc 0)), (2, (0, (1, 0, 0), yc 0)), (3, (0, (1, 1, 0), yc 0)), (4, (0, (1, 2, 0), yc 0))], []), ([((-1), 2)], 14)), (52, (4, [(0, 0, 63), (1, 0, 63), (2, 0, 6), (3, 0, 6)], [], [(yc 10, yc 0, (0, (1, 3, 0), yc 0))], [(0, (2, yc 51, yc 0)), (1, (2, yc 9, yc 0)), (2, (0, (1, 0, 0), yc 0)), (3, (0, (1, 1, 0), yc 0)), (4, (0, (1, 2, 0), yc 0))], []), ([((-1), 2)], 7))], [])
theorem yw1164 : ywf ys1164.2.2.1 = true := by decide +kernel
theorem yk1164 : yver yx1164 ys1164.2.2.1 4000 = true := yverQ_ok (by decide +kernel)
theorem yt1164 {E : zHp → Prop} (h : yEF E yFP) : yTs E 2 ys1164 := yver_s (k := 3) (n := 1) (x := yx1164) (P := ys1164.2.2.1) (f := 4000) h (yal_c (yt665 h) (by decide) yw665 (yal_c (yt1039 h) (by decide) yw1039 (yal_n))) yg3 yk1164
def ys1177 : ySp := (89, 3, (1, [(0, 0, 5)], [], [], [(0, (2, yc 9, yc 0)), (1, (0, (1, 0, 0), yc 0)), (2, (0, yc 0, yc 0))], []), [(2, [(1, 0, 5)], [], [], [], [(0, (1, 1, 0), yc 0)])], [])
def yx1177 : yCx := ([], ys1177.2.2.2.2, yFP, zm89.2.2.1, zm89.2.2.2.1, zc89, 1, ys1177.2.2.2.1, [], [])
theorem yw1177 : ywf ys1177.2.2.1 = true := by decide +kernel
theorem yk1177 : yver yx1177 ys1177.2.2.1 4000 = true := yverQ_ok (by decide +kernel)
theorem yt1177 {E : zHp → Prop} (h : yEF E yFP) : yTs E 1 ys1177 := yver_s (k := 89) (n := 0) (x := yx1177) (P := ys1177.2.2.1) (f := 4000) h (yal_n) yg89 yk1177
def ys1178 : ySp := (89, 3, (1, [(0, 0, 5)], [], [], [(0, (2, yc 9, yc 0)), (1, (0, (1, 0, 0), yc 0)), (2, (0, yc 1, yc 0))], []), [(2, [(1, (-2147483648), 2147483647)], [], [], [], [(0, (1, 1, 0), yc 0)])], [])
def yx1178 : yCx := ([], ys1178.2.2.2.2, yFP, zm89.2.2.1, zm89.2.2.2.1, zc89, 1, ys1178.2.2.2.1, [], [])
theorem yw1178 : ywf ys1178.2.2.1 = true := by decide +kernel
theorem yk1178 : yver yx1178 ys1178.2.2.1 4000 = true := yverQ_ok (by decide +kernel)
theorem yt1178 {E : zHp → Prop} (h : yEF E yFP) : yTs E 1 ys1178 := yver_s (k := 89) (n := 0) (x := yx1178) (P := ys1178.2.2.1) (f := 4000) h (yal_n) yg89 yk1178
def ys1179 : ySp := (89, 3, (1, [(0, 0, 5)], [], [], [(0, (2, yc 9, yc 0)), (1, (0, (1, 0, 0), yc 0)), (2, (0, yc 2, yc 0))], []), [(2, [(1, (-2147483648), 2147483647)], [], [], [], [(0, (1, 1, 0), yc 0)])], [])
def yx1179 : yCx := ([], ys1179.2.2.2.2, yFP, zm89.2.2.1, zm89.2.2.2.1, zc89, 1, ys1179.2.2.2.1, [], [])
theorem yw1179 : ywf ys1179.2.2.1 = true := by decide +kernel
theorem yk1179 : yver yx1179 ys1179.2.2.1 4000 = true := yverQ_ok (by decide +kernel)
theorem yt1179 {E : zHp → Prop} (h : yEF E yFP) : yTs E 1 ys1179 := yver_s (k := 89) (n := 0) (x := yx1179) (P := ys1179.2.2.1) (f := 4000) h (yal_n) yg89 yk1179
def ys1182 : ySp := (89, 3, (1, [(0, 0, 5)], [], [], [(0, (2, yc 9, yc 0)), (1, (0, (1, 0, 0), yc 0)), (2, (0, yc 3, yc 0))], []), [(2, [(1, (-2147483648), 2147483647)], [], [], [], [(0, (1, 1, 0), yc 0)])], [])
def yx1182 : yCx := ([], ys1182.2.2.2.2, yFP, zm89.2.2.1, zm89.2.2.2.1, zc89, 1, ys1182.2.2.2.1, [], [])
theorem yw1182 : ywf ys1182.2.2.1 = true := by decide +kernel
theorem yk1182 : yver yx1182 ys1182.2.2.1 4000 = true := yverQ_ok (by decide +kernel)
theorem yt1182 {E : zHp → Prop} (h : yEF E yFP) : yTs E 1 ys1182 := yver_s (k := 89) (n := 0) (x := yx1182) (P := ys1182.2.2.1) (f := 4000) h (yal_n) yg89 yk1182
def ys1183 : ySp := (1, 7, (1, [(0, 0, 5)], [], [], [(0, (2, yc 51, yc 0)), (1, (2, yc 9, yc 0)), (2, (0, (1, 0, 0), yc 0))], []), [(1, [], [], [], [], [])], [(52, 52, 1000), (53, 53, 1000), (54, 54, 1000)])
def yx1183 : yCx := ([ys1145, ys1164, ys665, ys1035, ys1036, ys846, ys1144, ys1142, ys1143], ys1183.2.2.2.2, yFP, zm1.2.2.1, zm1.2.2.2.1, zc1, 1, ys1183.2.2.2.1, [(67, (6, [(0, 0, 5), (1, 0, 5), (2, 0, 63), (3, 1, 64), (4, 0, 64), (5, 0, 6)], [], [(yc 10, yc 0, (0, (1, 5, 0), yc 0))], [(0, (2, yc 51, yc 0)), (1, (2, yc 9, yc 0)), (2, (0, (1, 0, 0), yc 0)), (3, (0, (1, 1, 0), yc 0)), (4, (0, (1, 2, 0), yc 0)), (5, (0, (1, 3, 0), yc 0)), (6, (0, (1, 4, 0), yc 0))], []), ([((-1), 4)], 65))], [])
theorem yw1183 : ywf ys1183.2.2.1 = true := by decide +kernel
theorem yk1183 : yver yx1183 ys1183.2.2.1 4000 = true := yverQ_ok (by decide +kernel)
theorem yt1183 {E : zHp → Prop} (h : yEF E yFP) : yTs E 3 ys1183 := yver_s (k := 1) (n := 2) (x := yx1183) (P := ys1183.2.2.1) (f := 4000) h (yal_c (yt1145 h) (by decide) yw1145 (yal_c (yt1164 h) (by decide) yw1164 (yal_c (yt665 h) (by decide) yw665 (yal_c (yt1035 h) (by decide) yw1035 (yal_c (yt1036 h) (by decide) yw1036 (yal_c (yt846 h) (by decide) yw846 (yal_c (yt1144 h) (by decide) yw1144 (yal_c (yt1142 h) (by decide) yw1142 (yal_c (yt1143 h) (by decide) yw1143 (yal_n)))))))))) yg1 yk1183
def ys1184 : ySp := (87, 3, (1, [(0, 0, 5)], [], [], [(0, (2, yc 9, yc 0)), (1, (0, (1, 0, 0), yc 0)), (2, (0, yc 1, yc 0))], []), [(2, [(1, (-2147483648), 2147483647)], [], [], [], [(0, (1, 1, 0), yc 0)])], [])
def yx1184 : yCx := ([], ys1184.2.2.2.2, yFP, zm87.2.2.1, zm87.2.2.2.1, zc87, 1, ys1184.2.2.2.1, [], [])
theorem yw1184 : ywf ys1184.2.2.1 = true := by decide +kernel
theorem yk1184 : yver yx1184 ys1184.2.2.1 4000 = true := yverQ_ok (by decide +kernel)
theorem yt1184 {E : zHp → Prop} (h : yEF E yFP) : yTs E 1 ys1184 := yver_s (k := 87) (n := 0) (x := yx1184) (P := ys1184.2.2.1) (f := 4000) h (yal_n) yg87 yk1184
def ys1185 : ySp := (87, 3, (1, [(0, 0, 5)], [], [], [(0, (2, yc 9, yc 0)), (1, (0, (1, 0, 0), yc 0)), (2, (0, yc 2, yc 0))], []), [(2, [(1, (-2147483648), 2147483647)], [], [], [], [(0, (1, 1, 0), yc 0)])], [])
def yx1185 : yCx := ([], ys1185.2.2.2.2, yFP, zm87.2.2.1, zm87.2.2.2.1, zc87, 1, ys1185.2.2.2.1, [], [])
theorem yw1185 : ywf ys1185.2.2.1 = true := by decide +kernel
theorem yk1185 : yver yx1185 ys1185.2.2.1 4000 = true := yverQ_ok (by decide +kernel)
theorem yt1185 {E : zHp → Prop} (h : yEF E yFP) : yTs E 1 ys1185 := yver_s (k := 87) (n := 0) (x := yx1185) (P := ys1185.2.2.1) (f := 4000) h (yal_n) yg87 yk1185
def ys1186 : ySp := (87, 3, (1, [(0, 0, 5)], [], [], [(0, (2, yc 9, yc 0)), (1, (0, (1, 0, 0), yc 0)), (2, (0, yc 5, yc 0))], []), [(2, [(1, (-2147483648), 2147483647)], [], [], [], [(0, (1, 1, 0), yc 0)])], [])
def yx1186 : yCx := ([], ys1186.2.2.2.2, yFP, zm87.2.2.1, zm87.2.2.2.1, zc87, 1, ys1186.2.2.2.1, [], [])
theorem yw1186 : ywf ys1186.2.2.1 = true := by decide +kernel
theorem yk1186 : yver yx1186 ys1186.2.2.1 4000 = true := yverQ_ok (by decide +kernel)
theorem yt1186 {E : zHp → Prop} (h : yEF E yFP) : yTs E 1 ys1186 := yver_s (k := 87) (n := 0) (x := yx1186) (P := ys1186.2.2.1) (f := 4000) h (yal_n) yg87 yk1186
def ys1187 : ySp := (98, 2, (1, [(0, 0, 5)], [], [], [(0, (2, yc 9, yc 0)), (1, (0, (1, 0, 0), yc 0))], []), [(2, [(1, 0, 2147483647)], [], [], [], [(0, (1, 1, 0), yc 0)])], [])
def yx1187 : yCx := ([ys664, ys1186], ys1187.2.2.2.2, yFP, zm98.2.2.1, zm98.2.2.2.1, zc98, 1, ys1187.2.2.2.1, [], [])
theorem yw1187 : ywf ys1187.2.2.1 = true := by decide +kernel
theorem yk1187 : yver yx1187 ys1187.2.2.1 4000 = true := yverQ_ok (by decide +kernel)
theorem yt1187 {E : zHp → Prop} (h : yEF E yFP) : yTs E 2 ys1187 := yver_s (k := 98) (n := 1) (x := yx1187) (P := ys1187.2.2.1) (f := 4000) h (yal_c (yt664 h) (by decide) yw664 (yal_c (yt1186 h) (by decide) yw1186 (yal_n))) yg98 yk1187
def ys1188 : ySp := (100, 3, (2, [(0, 0, 5), (1, (-2147483648), 2147483647)], [], [], [(0, (2, yc 9, yc 0)), (1, (0, (1, 0, 0), yc 0)), (2, (0, (1, 1, 0), yc 0))], []), [(2, [(1, 0, 0)], [], [], [], [(0, yc 0, yc 0)]), (3, [(2, 0, 2147483647)], [], [], [], [(0, (1, 2, 0), yc 0)])], [])
def yx1188 : yCx := ([ys1037, ys1185, ys1066, ys1187], ys1188.2.2.2.2, yFP, zm100.2.2.1, zm100.2.2.2.1, zc100, 2, ys1188.2.2.2.1, [], [])
theorem yw1188 : ywf ys1188.2.2.1 = true := by decide +kernel
theorem yk1188 : yver yx1188 ys1188.2.2.1 4000 = true := yverQ_ok (by decide +kernel)
theorem yt1188 {E : zHp → Prop} (h : yEF E yFP) : yTs E 3 ys1188 := yver_s (k := 100) (n := 2) (x := yx1188) (P := ys1188.2.2.1) (f := 4000) h (yal_c (yt1037 h) (by decide) yw1037 (yal_c (yt1185 h) (by decide) yw1185 (yal_c (yt1066 h) (by decide) yw1066 (yal_c (yt1187 h) (by decide) yw1187 (yal_n))))) yg100 yk1188
def ys1189 : ySp := (22, 5, (1, [(0, 0, 5)], [], [], [(0, (2, yc 50, yc 0)), (1, (2, yc 9, yc 0)), (2, (0, (1, 0, 0), yc 0))], []), [(1, [], [], [], [], [])], [(52, 52, 1000), (53, 53, 1000), (54, 54, 1000), (57, 57, 1000)])
def yx1189 : yCx := ([ys1183, ys1184, ys1177, ys1178, ys1179, ys1188, ys660], ys1189.2.2.2.2, yFP, zm22.2.2.1, zm22.2.2.2.1, zc22, 1, ys1189.2.2.2.1, [(11, (2, [(0, 0, 5), (1, 0, 6)], [], [], [(0, (2, yc 50, yc 0)), (1, (2, yc 9, yc 0)), (2, (0, (1, 0, 0), yc 0)), (3, (0, (1, 1, 0), yc 0))], []), ([((-1), 1)], 7))], [])
theorem yw1189 : ywf ys1189.2.2.1 = true := by decide +kernel
theorem yk1189 : yver yx1189 ys1189.2.2.1 4000 = true := yverQ_ok (by decide +kernel)
theorem yt1189 {E : zHp → Prop} (h : yEF E yFP) : yTs E 4 ys1189 := yver_s (k := 22) (n := 3) (x := yx1189) (P := ys1189.2.2.1) (f := 4000) h (yal_c (yt1183 h) (by decide) yw1183 (yal_c (yt1184 h) (by decide) yw1184 (yal_c (yt1177 h) (by decide) yw1177 (yal_c (yt1178 h) (by decide) yw1178 (yal_c (yt1179 h) (by decide) yw1179 (yal_c (yt1188 h) (by decide) yw1188 (yal_c (yt660 h) (by decide) yw660 (yal_n)))))))) yg22 yk1189
def ys1190 : ySp := (21, 4, (1, [(0, (-1), 5)], [], [], [(0, (2, yc 50, yc 0)), (1, (2, yc 9, yc 0)), (2, (0, (1, 0, 0), yc 0))], []), [(1, [], [], [], [], [])], [(52, 52, 1000), (53, 53, 1000), (54, 54, 1000), (57, 57, 1000), (58, 58, 1000)])
def yx1190 : yCx := ([ys1189, ys663, ys1182], ys1190.2.2.2.2, yFP, zm21.2.2.1, zm21.2.2.2.1, zc21, 1, ys1190.2.2.2.1, [(2, (2, [(0, (-1), 5), (1, 0, 6)], [], [], [(0, (2, yc 50, yc 0)), (1, (2, yc 9, yc 0)), (2, (0, (1, 0, 0), yc 0)), (3, (0, (1, 1, 0), yc 0))], []), ([((-1), 1)], 14)), (37, (3, [(0, (-1), 5), (1, 0, 6), (2, 0, 6)], [], [(yc 50, yc 1, (0, (1, 2, 0), yc 0))], [(0, (2, yc 50, yc 0)), (1, (2, yc 9, yc 0)), (2, (0, (1, 0, 0), yc 0)), (3, (0, (1, 1, 0), yc 0))], []), ([((-1), 1)], 7))], [])
theorem yw1190 : ywf ys1190.2.2.1 = true := by decide +kernel
theorem yk1190 : yver yx1190 ys1190.2.2.1 4000 = true := yverQ_ok (by decide +kernel)
theorem yt1190 {E : zHp → Prop} (h : yEF E yFP) : yTs E 5 ys1190 := yver_s (k := 21) (n := 4) (x := yx1190) (P := ys1190.2.2.1) (f := 4000) h (yal_c (yt1189 h) (by decide) yw1189 (yal_c (yt663 h) (by decide) yw663 (yal_c (yt1182 h) (by decide) yw1182 (yal_n)))) yg21 yk1190
def ys1191 : ySp := (19, 6, (1, [(0, (-1), 5)], [], [], [(0, (2, yc 50, yc 0)), (1, (2, yc 9, yc 0)), (2, (0, (1, 0, 0), yc 0))], []), [(2, [(1, (-2147483648), 2147483647)], [], [], [], [(0, (1, 1, 0), yc 0)])], [(50, 50, 1), (52, 52, 1000), (53, 53, 1000), (54, 54, 1000), (57, 57, 1000), (58, 58, 1000), (60, 66, 1000)])
def yx1191 : yCx := ([ys1160, ys1190, ys663, ys656, ys1154], ys1191.2.2.2.2, yFP, zm19.2.2.1, zm19.2.2.2.1, zc19, 1, ys1191.2.2.2.1, [(52, (6, [(0, (-1), 5), (1, 1, 64), (2, (-1), 5), (3, 0, 6), (4, 0, 6), (5, 0, 6)], [], [(yc 10, yc 3, (0, (1, 3, 0), yc 0)), (yc 50, yc 1, (0, (1, 4, 0), yc 0)), (yc 10, yc 2, (0, (1, 5, 0), yc 0))], [(0, (2, yc 50, yc 0)), (1, (2, yc 9, yc 0)), (2, (0, (1, 0, 0), yc 0)), (3, (0, (1, 1, 0), yc 0)), (4, (0, (1, 2, 0), yc 0))], []), ([(67, 2)], 134)), (60, (7, [(0, (-1), 5), (1, 1, 64), (2, 0, 5), (3, 0, 64), (4, 0, 6), (5, 0, 6), (6, 0, 6)], [], [(yc 10, yc 3, (0, (1, 4, 0), yc 0)), (yc 50, yc 1, (0, (1, 5, 0), yc 0)), (yc 10, yc 2, (0, (1, 6, 0), yc 0))], [(0, (2, yc 50, yc 0)), (1, (2, yc 9, yc 0)), (2, (0, (1, 0, 0), yc 0)), (3, (0, (1, 1, 0), yc 0)), (4, (0, (1, 2, 0), yc 0)), (5, (0, (1, 3, 0), yc 0))], []), ([((-1), 3), (67, 2)], 132))], [])
theorem yw1191 : ywf ys1191.2.2.1 = true := by decide +kernel
theorem yk1191 : yver yx1191 ys1191.2.2.1 4000 = true := yverQ_ok (by decide +kernel)
theorem yt1191 {E : zHp → Prop} (h : yEF E yFP) : yTs E 6 ys1191 := yver_s (k := 19) (n := 5) (x := yx1191) (P := ys1191.2.2.1) (f := 4000) h (yal_c (yt1160 h) (by decide) yw1160 (yal_c (yt1190 h) (by decide) yw1190 (yal_c (yt663 h) (by decide) yw663 (yal_c (yt656 h) (by decide) yw656 (yal_c (yt1154 h) (by decide) yw1154 (yal_n)))))) yg19 yk1191
def ys1192 : ySp := (93, 3, (2, [(0, 0, 5), (1, 0, 5)], [], [], [(0, (2, yc 9, yc 0)), (1, (0, (1, 0, 0), yc 0)), (2, (0, (1, 1, 0), yc 0))], []), [(2, [], [], [], [], [(0, yc 0, yc 0)]), (2, [], [], [], [], [(0, yc 1, yc 0)])], [])
def yx1192 : yCx := ([ys1052], ys1192.2.2.2.2, yFP, zm93.2.2.1, zm93.2.2.2.1, zc93, 2, ys1192.2.2.2.1, [], [])
theorem yw1192 : ywf ys1192.2.2.1 = true := by decide +kernel
theorem yk1192 : yver yx1192 ys1192.2.2.1 4000 = true := yverQ_ok (by decide +kernel)
theorem yt1192 {E : zHp → Prop} (h : yEF E yFP) : yTs E 3 ys1192 := yver_s (k := 93) (n := 2) (x := yx1192) (P := ys1192.2.2.1) (f := 4000) h (yal_c (yt1052 h) (by decide) yw1052 (yal_n)) yg93 yk1192
def ys1193 : ySp := (145, 8, (1, [(0, (-2147483648), 2147483647)], [], [], [(0, (2, yc 0, yc 0)), (1, (0, (1, 0, 0), yc 0))], []), [(1, [], [], [], [], [(0, yc (-1), yc 0)]), (2, [(0, 0, 2), (1, (-2147483648), 2147483647)], [], [], [], [(0, (1, 1, 0), yc 0)])], [(12, 12, 1000), (50, 50, 1), (52, 52, 1000), (53, 53, 1000), (54, 54, 1000), (57, 57, 1000), (58, 58, 1000), (60, 66, 1000)])
def yx1193 : yCx := ([ys1161, ys1191, ys672, ys671, ys665, ys1192, ys859], ys1193.2.2.2.2, yFP, zm145.2.2.1, zm145.2.2.2.1, zc145, 1, ys1193.2.2.2.1, [(33, (5, [(0, 0, 2), (1, (-2), 5), (2, (-2), 5), (3, (-2147483648), 2147483647), (4, 0, 6)], [], [], [(0, (2, yc 0, yc 0)), (1, (0, (1, 0, 0), yc 0)), (2, (0, (1, 1, 0), yc 0)), (3, (0, (1, 2, 0), yc 0)), (4, (0, (1, 3, 0), yc 0)), (5, (0, (1, 4, 0), yc 0))], []), ([((-8), 4)], 56)), (51, (7, [(0, 0, 2), (1, (-2), 5), (2, (-2), 5), (3, (-2147483648), 2147483647), (4, 0, 5), (5, 1, 6), (6, 1, 6)], [], [(yc 10, yc 0, (0, (1, 6, 0), yc 0))], [(0, (2, yc 0, yc 0)), (1, (0, (1, 0, 0), yc 0)), (2, (0, (1, 1, 0), yc 0)), (3, (0, (1, 2, 0), yc 0)), (4, (0, (1, 3, 0), yc 0)), (5, (0, (1, 4, 0), yc 0)), (6, (0, (1, 5, 0), yc 0))], []), ([((-1), 5), ((-8), 4)], 55))], [])
theorem yw1193 : ywf ys1193.2.2.1 = true := by decide +kernel
theorem yk1193 : yver yx1193 ys1193.2.2.1 4000 = true := yverQ_ok (by decide +kernel)
theorem yt1193 {E : zHp → Prop} (h : yEF E yFP) : yTs E 7 ys1193 := yver_s (k := 145) (n := 6) (x := yx1193) (P := ys1193.2.2.1) (f := 4000) h (yal_c (yt1161 h) (by decide) yw1161 (yal_c (yt1191 h) (by decide) yw1191 (yal_c (yt672 h) (by decide) yw672 (yal_c (yt671 h) (by decide) yw671 (yal_c (yt665 h) (by decide) yw665 (yal_c (yt1192 h) (by decide) yw1192 (yal_c (yt859 h) (by decide) yw859 (yal_n)))))))) yg145 yk1193
end
section
def ys1194 : ySp := (158, 6, (1, [(0, 0, 2147483647)], [], [], [(0, (1, (1, 0, 0), yc 0)), (2, (1, yc 0, yc 0)), (4, (1, yc 2, yc 0))], []), [(1, [(0, 3, 2147483647)], [], [], [], [(0, yc 0, yc 0)]), (1, [(0, 0, 2)], [], [], [], [(0, yc 1, yc 0)])], [])
def yx1194 : yCx := ([], ys1194.2.2.2.2, yFP, zm158.2.2.1, zm158.2.2.2.1, zc158, 1, ys1194.2.2.2.1, [], [])
theorem yw1194 : ywf ys1194.2.2.1 = true := by decide +kernel
theorem yk1194 : yver yx1194 ys1194.2.2.1 4000 = true := yverQ_ok (by decide +kernel)
theorem yt1194 {E : zHp → Prop} (h : yEF E yFP) : yTs E 1 ys1194 := yver_s (k := 158) (n := 0) (x := yx1194) (P := ys1194.2.2.1) (f := 4000) h (yal_n) yg158 yk1194
def ys1196 : ySp := (214, 4, (2, [(0, 0, 5), (1, 0, 5)], [], [], [(0, (2, yc 70, yc 0)), (1, (0, (1, 0, 0), yc 0)), (2, (0, (1, 1, 0), yc 0))], []), [(2, [], [], [], [], [(0, yc 0, yc 0)]), (3, [(2, 0, 2147483647)], [], [], [], [(0, (1, 2, 0), yc 0)])], [])
def yx1196 : yCx := ([ys811, ys812, ys810, ys814], ys1196.2.2.2.2, yFP, zm214.2.2.1, zm214.2.2.2.1, zc214, 2, ys1196.2.2.2.1, [], [])
theorem yw1196 : ywf ys1196.2.2.1 = true := by decide +kernel
theorem yk1196 : yver yx1196 ys1196.2.2.1 4000 = true := yverQ_ok (by decide +kernel)
theorem yt1196 {E : zHp → Prop} (h : yEF E yFP) : yTs E 4 ys1196 := yver_s (k := 214) (n := 3) (x := yx1196) (P := ys1196.2.2.1) (f := 4000) h (yal_c (yt811 h) (by decide) yw811 (yal_c (yt812 h) (by decide) yw812 (yal_c (yt810 h) (by decide) yw810 (yal_c (yt814 h) (by decide) yw814 (yal_n))))) yg214 yk1196
def ys1197 : ySp := (253, 6, (1, [(0, (-1), 5)], [], [], [(0, (2, yc 70, yc 0)), (1, (0, (1, 0, 0), yc 0))], []), [(1, [], [], [], [], [])], [(70, 70, 27), (82, 82, 1000)])
def yx1197 : yCx := ([ys809, ys825, ys826, ys827, ys815, ys1196, ys668, ys987], ys1197.2.2.2.2, yFP, zm253.2.2.1, zm253.2.2.2.1, zc253, 1, ys1197.2.2.2.1, [(2, (2, [(0, (-1), 5), (1, 0, 6)], [], [], [(0, (2, yc 70, yc 0)), (1, (0, (1, 0, 0), yc 0)), (2, (0, (1, 1, 0), yc 0))], []), ([((-9), 1)], 63)), (14, (4, [(0, (-1), 5), (1, 0, 5), (2, 0, 6), (3, 1, 6)], [], [(yc 80, yc 2, (0, (1, 3, 0), yc 0))], [(0, (2, yc 70, yc 0)), (1, (0, (1, 0, 0), yc 0)), (2, (0, (1, 1, 0), yc 0)), (3, (0, (1, 2, 0), yc 0))], []), ([((-1), 2), ((-9), 1)], 61))], [])
theorem yw1197 : ywf ys1197.2.2.1 = true := by decide +kernel
theorem yk1197 : yver yx1197 ys1197.2.2.1 4000 = true := yverQ_ok (by decide +kernel)
theorem yt1197 {E : zHp → Prop} (h : yEF E yFP) : yTs E 7 ys1197 := yver_s (k := 253) (n := 6) (x := yx1197) (P := ys1197.2.2.1) (f := 4000) h (yal_c (yt809 h) (by decide) yw809 (yal_c (yt825 h) (by decide) yw825 (yal_c (yt826 h) (by decide) yw826 (yal_c (yt827 h) (by decide) yw827 (yal_c (yt815 h) (by decide) yw815 (yal_c (yt1196 h) (by decide) yw1196 (yal_c (yt668 h) (by decide) yw668 (yal_c (yt987 h) (by decide) yw987 (yal_n))))))))) yg253 yk1197
def ys1198 : ySp := (235, 4, (2, [(0, 1, 7), (1, 0, 6)], [], [], [(0, (0, (1, 0, 0), yc 0)), (1, (0, (1, 1, 0), yc 0))], []), [(2, [(1, 0, 0)], [], [], [], [(0, yc 1, yc 0)]), (3, [(1, 1, 6), (2, 1, 117649)], [], [], [], [(0, (1, 2, 0), yc 0)])], [])
def yq1198_0 : yCu := (4, (2, [(0, 1, 7), (1, 0, 6)], [], [], [(0, (0, (1, 0, 0), yc 0)), (1, (0, (1, 1, 0), yc 0)), (2, (0, yc 1, yc 0)), (3, (0, yc 0, yc 0))], []), ([], 6))
def yq1198_1 : yCu := (4, (2, [(0, 1, 7), (1, 1, 6)], [], [], [(0, (0, (1, 0, 0), yc 0)), (1, (0, (1, 1, 0), yc 0)), (2, (0, (1, 0, 0), yc 0)), (3, (0, yc 1, yc 0))], []), ([], 5))
def yq1198_2 : yCu := (4, (3, [(0, 1, 7), (1, 2, 6), (2, 1, 49)], [], [], [(0, (0, (1, 0, 0), yc 0)), (1, (0, (1, 1, 0), yc 0)), (2, (0, (1, 2, 0), yc 0)), (3, (0, yc 2, yc 0))], []), ([], 4))
def yq1198_3 : yCu := (4, (3, [(0, 1, 7), (1, 3, 6), (2, 1, 343)], [], [], [(0, (0, (1, 0, 0), yc 0)), (1, (0, (1, 1, 0), yc 0)), (2, (0, (1, 2, 0), yc 0)), (3, (0, yc 3, yc 0))], []), ([], 3))
def yq1198_4 : yCu := (4, (3, [(0, 1, 7), (1, 4, 6), (2, 1, 2401)], [], [], [(0, (0, (1, 0, 0), yc 0)), (1, (0, (1, 1, 0), yc 0)), (2, (0, (1, 2, 0), yc 0)), (3, (0, yc 4, yc 0))], []), ([], 2))
def yq1198_5 : yCu := (4, (3, [(0, 1, 7), (1, 5, 6), (2, 1, 16807)], [], [], [(0, (0, (1, 0, 0), yc 0)), (1, (0, (1, 1, 0), yc 0)), (2, (0, (1, 2, 0), yc 0)), (3, (0, yc 5, yc 0))], []), ([], 1))
def yq1198_6 : yCu := (4, (3, [(0, 1, 7), (1, 6, 6), (2, 1, 117649)], [], [], [(0, (0, (1, 0, 0), yc 0)), (1, (0, yc 6, yc 0)), (2, (0, (1, 2, 0), yc 0)), (3, (0, yc 6, yc 0))], []), ([], 0))
def yx1198 : yCx := ([], ys1198.2.2.2.2, yFP, zm235.2.2.1, zm235.2.2.2.1, zc235, 2, ys1198.2.2.2.1, [yq1198_0, yq1198_1, yq1198_2, yq1198_3, yq1198_4, yq1198_5, yq1198_6], [])
theorem yw1198 : ywf ys1198.2.2.1 = true := by decide +kernel
theorem yk1198_e : yver0 yx1198 ys1198.2.2.1 4000 = true := yver0Q_ok (by decide +kernel)
theorem yk1198_0 : ycc yx1198 4000 yq1198_0 = true := yccQ_ok (by decide +kernel)
theorem yk1198_1 : ycc yx1198 4000 yq1198_1 = true := yccQ_ok (by decide +kernel)
theorem yk1198_2 : ycc yx1198 4000 yq1198_2 = true := yccQ_ok (by decide +kernel)
theorem yk1198_3 : ycc yx1198 4000 yq1198_3 = true := yccQ_ok (by decide +kernel)
theorem yk1198_4 : ycc yx1198 4000 yq1198_4 = true := yccQ_ok (by decide +kernel)
theorem yk1198_5 : ycc yx1198 4000 yq1198_5 = true := yccQ_ok (by decide +kernel)
theorem yk1198_6 : ycc yx1198 4000 yq1198_6 = true := yccQ_ok (by decide +kernel)
theorem yk1198 : yver yx1198 ys1198.2.2.1 4000 = true := yver_join yk1198_e (ycc_c yk1198_0 (ycc_c yk1198_1 (ycc_c yk1198_2 (ycc_c yk1198_3 (ycc_c yk1198_4 (ycc_c yk1198_5 (ycc_c yk1198_6 (ycc_n))))))))
theorem yt1198 {E : zHp → Prop} (h : yEF E yFP) : yTs E 1 ys1198 := yver_s (k := 235) (n := 0) (x := yx1198) (P := ys1198.2.2.1) (f := 4000) h (yal_n) yg235 yk1198
def ys1199 : ySp := (235, 4, (2, [(0, 1, 7), (1, (-7), 7)], [], [], [(0, (0, (1, 0, 0), yc 0)), (1, (0, (1, 1, 0), yc 0))], []), [(2, [(1, (-7), 0)], [], [], [], [(0, yc 1, yc 0)]), (3, [(1, 1, 7), (2, 1, 823543)], [], [], [], [(0, (1, 2, 0), yc 0)])], [])
def yq1199_0 : yCu := (4, (2, [(0, 1, 7), (1, (-7), 7)], [], [], [(0, (0, (1, 0, 0), yc 0)), (1, (0, (1, 1, 0), yc 0)), (2, (0, yc 1, yc 0)), (3, (0, yc 0, yc 0))], []), ([], 7))
def yq1199_1 : yCu := (4, (2, [(0, 1, 7), (1, 1, 7)], [], [], [(0, (0, (1, 0, 0), yc 0)), (1, (0, (1, 1, 0), yc 0)), (2, (0, (1, 0, 0), yc 0)), (3, (0, yc 1, yc 0))], []), ([], 6))
def yq1199_2 : yCu := (4, (3, [(0, 1, 7), (1, 2, 7), (2, 1, 49)], [], [], [(0, (0, (1, 0, 0), yc 0)), (1, (0, (1, 1, 0), yc 0)), (2, (0, (1, 2, 0), yc 0)), (3, (0, yc 2, yc 0))], []), ([], 5))
def yq1199_3 : yCu := (4, (3, [(0, 1, 7), (1, 3, 7), (2, 1, 343)], [], [], [(0, (0, (1, 0, 0), yc 0)), (1, (0, (1, 1, 0), yc 0)), (2, (0, (1, 2, 0), yc 0)), (3, (0, yc 3, yc 0))], []), ([], 4))
def yq1199_4 : yCu := (4, (3, [(0, 1, 7), (1, 4, 7), (2, 1, 2401)], [], [], [(0, (0, (1, 0, 0), yc 0)), (1, (0, (1, 1, 0), yc 0)), (2, (0, (1, 2, 0), yc 0)), (3, (0, yc 4, yc 0))], []), ([], 3))
def yq1199_5 : yCu := (4, (3, [(0, 1, 7), (1, 5, 7), (2, 1, 16807)], [], [], [(0, (0, (1, 0, 0), yc 0)), (1, (0, (1, 1, 0), yc 0)), (2, (0, (1, 2, 0), yc 0)), (3, (0, yc 5, yc 0))], []), ([], 2))
def yq1199_6 : yCu := (4, (3, [(0, 1, 7), (1, 6, 7), (2, 1, 117649)], [], [], [(0, (0, (1, 0, 0), yc 0)), (1, (0, (1, 1, 0), yc 0)), (2, (0, (1, 2, 0), yc 0)), (3, (0, yc 6, yc 0))], []), ([], 1))
def yq1199_7 : yCu := (4, (3, [(0, 1, 7), (1, 7, 7), (2, 1, 823543)], [], [], [(0, (0, (1, 0, 0), yc 0)), (1, (0, yc 7, yc 0)), (2, (0, (1, 2, 0), yc 0)), (3, (0, yc 7, yc 0))], []), ([], 0))
def yx1199 : yCx := ([], ys1199.2.2.2.2, yFP, zm235.2.2.1, zm235.2.2.2.1, zc235, 2, ys1199.2.2.2.1, [yq1199_0, yq1199_1, yq1199_2, yq1199_3, yq1199_4, yq1199_5, yq1199_6, yq1199_7], [])
theorem yw1199 : ywf ys1199.2.2.1 = true := by decide +kernel
theorem yk1199_e : yver0 yx1199 ys1199.2.2.1 4000 = true := yver0Q_ok (by decide +kernel)
theorem yk1199_0 : ycc yx1199 4000 yq1199_0 = true := yccQ_ok (by decide +kernel)
theorem yk1199_1 : ycc yx1199 4000 yq1199_1 = true := yccQ_ok (by decide +kernel)
theorem yk1199_2 : ycc yx1199 4000 yq1199_2 = true := yccQ_ok (by decide +kernel)
theorem yk1199_3 : ycc yx1199 4000 yq1199_3 = true := yccQ_ok (by decide +kernel)
theorem yk1199_4 : ycc yx1199 4000 yq1199_4 = true := yccQ_ok (by decide +kernel)
theorem yk1199_5 : ycc yx1199 4000 yq1199_5 = true := yccQ_ok (by decide +kernel)
theorem yk1199_6 : ycc yx1199 4000 yq1199_6 = true := yccQ_ok (by decide +kernel)
theorem yk1199_7 : ycc yx1199 4000 yq1199_7 = true := yccQ_ok (by decide +kernel)
theorem yk1199 : yver yx1199 ys1199.2.2.1 4000 = true := yver_join yk1199_e (ycc_c yk1199_0 (ycc_c yk1199_1 (ycc_c yk1199_2 (ycc_c yk1199_3 (ycc_c yk1199_4 (ycc_c yk1199_5 (ycc_c yk1199_6 (ycc_c yk1199_7 (ycc_n)))))))))
theorem yt1199 {E : zHp → Prop} (h : yEF E yFP) : yTs E 1 ys1199 := yver_s (k := 235) (n := 0) (x := yx1199) (P := ys1199.2.2.1) (f := 4000) h (yal_n) yg235 yk1199
def ys1201 : ySp := (254, 3, (2, [(0, 0, 1), (1, 0, 5)], [], [], [(0, (2, yc 70, yc 0)), (1, (0, (1, 0, 0), yc 0)), (2, (0, (1, 1, 0), yc 0))], []), [(3, [(2, (-1), 0)], [], [], [], [(0, (1, 2, 0), yc 0)])], [])
def yx1201 : yCx := ([ys1199], ys1201.2.2.2.2, yFP, zm254.2.2.1, zm254.2.2.2.1, zc254, 2, ys1201.2.2.2.1, [], [])
theorem yw1201 : ywf ys1201.2.2.1 = true := by decide +kernel
theorem yk1201 : yver yx1201 ys1201.2.2.1 4000 = true := yverQ_ok (by decide +kernel)
theorem yt1201 {E : zHp → Prop} (h : yEF E yFP) : yTs E 2 ys1201 := yver_s (k := 254) (n := 1) (x := yx1201) (P := ys1201.2.2.1) (f := 4000) h (yal_c (yt1199 h) (by decide) yw1199 (yal_n)) yg254 yk1201
def ys1202 : ySp := (255, 6, (1, [(0, 0, 1)], [], [], [(0, (2, yc 70, yc 0)), (1, (0, (1, 0, 0), yc 0))], []), [(1, [], [], [], [], [(0, yc (-1), yc 0)]), (2, [(1, (-2147483648), 2147483647)], [], [], [], [(0, (1, 1, 0), yc 0)])], [])
def yx1202 : yCx := ([ys1135, ys829, ys1201], ys1202.2.2.2.2, yFP, zm255.2.2.1, zm255.2.2.2.1, zc255, 1, ys1202.2.2.2.1, [(7, (4, [(0, 0, 1), (1, (-2147483648), 2147483647), (2, (-2147483648), 2147483647), (3, 0, 6)], [], [], [(0, (2, yc 70, yc 0)), (1, (0, (1, 0, 0), yc 0)), (2, (0, (1, 1, 0), yc 0)), (3, (0, (1, 2, 0), yc 0)), (4, (0, (1, 3, 0), yc 0))], []), ([((-1), 3)], 7))], [])
theorem yw1202 : ywf ys1202.2.2.1 = true := by decide +kernel
theorem yk1202 : yver yx1202 ys1202.2.2.1 4000 = true := yverQ_ok (by decide +kernel)
theorem yt1202 {E : zHp → Prop} (h : yEF E yFP) : yTs E 3 ys1202 := yver_s (k := 255) (n := 2) (x := yx1202) (P := ys1202.2.2.1) (f := 4000) h (yal_c (yt1135 h) (by decide) yw1135 (yal_c (yt829 h) (by decide) yw829 (yal_c (yt1201 h) (by decide) yw1201 (yal_n)))) yg255 yk1202
def ys1219 : ySp := (254, 3, (2, [(0, 0, 2147483647), (1, 0, 5)], [], [], [(0, (2, yc 70, yc 0)), (1, (0, (1, 0, 0), yc 0)), (2, (0, (1, 1, 0), yc 0))], []), [(3, [(2, (-1), 5)], [], [], [], [(0, (1, 2, 0), yc 0)])], [])
def yx1219 : yCx := ([ys1199], ys1219.2.2.2.2, yFP, zm254.2.2.1, zm254.2.2.2.1, zc254, 2, ys1219.2.2.2.1, [], [])
theorem yw1219 : ywf ys1219.2.2.1 = true := by decide +kernel
theorem yk1219 : yver yx1219 ys1219.2.2.1 4000 = true := yverQ_ok (by decide +kernel)
theorem yt1219 {E : zHp → Prop} (h : yEF E yFP) : yTs E 2 ys1219 := yver_s (k := 254) (n := 1) (x := yx1219) (P := ys1219.2.2.1) (f := 4000) h (yal_c (yt1199 h) (by decide) yw1199 (yal_n)) yg254 yk1219
def ys1220 : ySp := (255, 6, (1, [(0, 0, 2147483647)], [], [], [(0, (2, yc 70, yc 0)), (1, (0, (1, 0, 0), yc 0))], []), [(1, [], [], [], [], [(0, yc (-1), yc 0)]), (2, [(1, (-2147483648), 2147483647)], [], [], [], [(0, (1, 1, 0), yc 0)])], [])
def yx1220 : yCx := ([ys881, ys829, ys1219], ys1220.2.2.2.2, yFP, zm255.2.2.1, zm255.2.2.2.1, zc255, 1, ys1220.2.2.2.1, [(7, (4, [(0, 0, 2147483647), (1, 0, 63), (2, (-2147483648), 2147483647), (3, 0, 6)], [], [], [(0, (2, yc 70, yc 0)), (1, (0, (1, 0, 0), yc 0)), (2, (0, (1, 1, 0), yc 0)), (3, (0, (1, 2, 0), yc 0)), (4, (0, (1, 3, 0), yc 0))], []), ([((-1), 3)], 7))], [])
theorem yw1220 : ywf ys1220.2.2.1 = true := by decide +kernel
theorem yk1220 : yver yx1220 ys1220.2.2.1 4000 = true := yverQ_ok (by decide +kernel)
theorem yt1220 {E : zHp → Prop} (h : yEF E yFP) : yTs E 3 ys1220 := yver_s (k := 255) (n := 2) (x := yx1220) (P := ys1220.2.2.1) (f := 4000) h (yal_c (yt881 h) (by decide) yw881 (yal_c (yt829 h) (by decide) yw829 (yal_c (yt1219 h) (by decide) yw1219 (yal_n)))) yg255 yk1220
def ys1221 : ySp := (256, 5, (1, [(0, (-1), 5)], [], [], [(0, (2, yc 70, yc 0)), (1, (0, (1, 0, 0), yc 0))], []), [(2, [(1, (-1), 2147483647)], [], [], [], [(0, (1, 1, 0), yc 0)])], [(70, 70, 27), (70, 70, 30), (82, 82, 1000), (83, 83, 1000)])
def yx1221 : yCx := ([ys1198, ys1197, ys1219, ys1202, ys1220], ys1221.2.2.2.2, yFP, zm256.2.2.1, zm256.2.2.2.1, zc256, 1, ys1221.2.2.2.1, [(14, (4, [(0, (-1), 5), (1, 0, 2147483647), (2, 0, 2147483647), (3, (-1), 2147483647)], [], [(yc 70, yc 30, (0, (1, 3, 0), yc 0))], [(0, (2, yc 70, yc 0)), (1, (0, (1, 0, 0), yc 0)), (2, (0, (1, 1, 0), yc 0)), (3, (0, (1, 2, 0), yc 0))], []), ([((-1), 2)], 2147483655)), (70, (6, [(0, (-1), 5), (1, 0, 2147483647), (2, 0, 6), (3, (-1), 2147483647), (4, 0, 6), (5, 0, 6)], [], [(yc 70, yc 30, (0, (1, 3, 0), yc 0)), (yc 80, yc 2, (0, (1, 4, 0), yc 0)), (yc 80, yc 3, (0, (1, 5, 0), yc 0))], [(0, (2, yc 70, yc 0)), (1, (0, (1, 0, 0), yc 0)), (2, (0, (1, 1, 0), yc 0)), (3, (0, (1, 2, 0), yc 0))], []), ([((-1), 2)], 7))], [])
theorem yw1221 : ywf ys1221.2.2.1 = true := by decide +kernel
theorem yk1221 : yver yx1221 ys1221.2.2.1 4000 = true := yverQ_ok (by decide +kernel)
theorem yt1221 {E : zHp → Prop} (h : yEF E yFP) : yTs E 8 ys1221 := yver_s (k := 256) (n := 7) (x := yx1221) (P := ys1221.2.2.1) (f := 4000) h (yal_c (yt1198 h) (by decide) yw1198 (yal_c (yt1197 h) (by decide) yw1197 (yal_c (yt1219 h) (by decide) yw1219 (yal_c (yt1202 h) (by decide) yw1202 (yal_c (yt1220 h) (by decide) yw1220 (yal_n)))))) yg256 yk1221
def ys1222 : ySp := (262, 9, (1, [(0, 0, 3)], [], [], [(0, (2, yc 70, yc 0)), (1, (0, (1, 0, 0), yc 0))], []), [(1, [], [], [], [], [(0, yc (-1), yc 0)]), (2, [(0, 0, 2), (1, (-2147483648), 2147483647)], [], [], [], [(0, (1, 1, 0), yc 0)])], [(70, 70, 27), (70, 70, 30), (80, 80, 1000), (82, 82, 1000), (83, 83, 1000), (84, 84, 1000)])
def yx1222 : yCx := ([ys1194, ys769, ys777, ys990, ys1221, ys4, ys5], ys1222.2.2.2.2, yFP, zm262.2.2.1, zm262.2.2.2.1, zc262, 1, ys1222.2.2.2.1, [(40, (7, [(0, 0, 2), (1, (-1), 2147483647), (2, (-2), 5), (3, (-2), 5), (4, (-1), 2147483647), (5, 0, 6), (6, 1, 6)], [], [(yc 80, yc 0, (0, (1, 6, 0), yc 0))], [(0, (2, yc 70, yc 0)), (1, (0, (1, 0, 0), yc 0)), (2, (0, (1, 1, 0), yc 0)), (3, (0, (1, 2, 0), yc 0)), (4, (0, (1, 3, 0), yc 0)), (5, (0, (1, 4, 0), yc 0)), (6, (0, (1, 5, 0), yc 0))], []), ([((-8), 5)], 56)), (57, (8, [(0, 0, 2), (1, (-1), 2147483647), (2, (-2), 5), (3, (-2), 5), (4, (-1), 2147483647), (5, 0, 5), (6, 1, 6), (7, 1, 6)], [], [(yc 80, yc 0, (0, (1, 7, 0), yc 0))], [(0, (2, yc 70, yc 0)), (1, (0, (1, 0, 0), yc 0)), (2, (0, (1, 1, 0), yc 0)), (3, (0, (1, 2, 0), yc 0)), (4, (0, (1, 3, 0), yc 0)), (5, (0, (1, 4, 0), yc 0)), (6, (0, (1, 5, 0), yc 0)), (7, (0, (1, 6, 0), yc 0))], []), ([((-1), 6), ((-8), 5)], 55))], [])
theorem yw1222 : ywf ys1222.2.2.1 = true := by decide +kernel
theorem yk1222 : yver yx1222 ys1222.2.2.1 4000 = true := yverQ_ok (by decide +kernel)
theorem yt1222 {E : zHp → Prop} (h : yXt E) : yTs E 9 ys1222 := yver_s (k := 262) (n := 8) (x := yx1222) (P := ys1222.2.2.1) (f := 4000) h.1 (yal_c (yt1194 h.1) (by decide) yw1194 (yal_c (yt769 h.1) (by decide) yw769 (yal_c (yt777 h.1) (by decide) yw777 (yal_c (yt990 h.1) (by decide) yw990 (yal_c (yt1221 h.1) (by decide) yw1221 (yal_c (yl4 h) (by decide) yw4 (yal_c (yl5 h) (by decide) yw5 (yal_n)))))))) yg262 yk1222
def ys1223 : ySp := (158, 6, (1, [(0, (-9223372036854775808), 9223372036854775807)], [], [], [(0, (1, (1, 0, 0), yc 0)), (2, (1, yc 0, yc 0)), (4, (1, yc 2, yc 0))], []), [(1, [(0, (-9223372036854775808), (-1))], [], [], [], [(0, yc 0, yc 0)]), (1, [(0, 3, 9223372036854775807)], [], [], [], [(0, yc 0, yc 0)]), (1, [(0, 0, 2)], [], [], [], [(0, yc 1, yc 0)])], [])
def yx1223 : yCx := ([], ys1223.2.2.2.2, yFP, zm158.2.2.1, zm158.2.2.2.1, zc158, 1, ys1223.2.2.2.1, [], [])
theorem yw1223 : ywf ys1223.2.2.1 = true := by decide +kernel
theorem yk1223 : yver yx1223 ys1223.2.2.1 4000 = true := yverQ_ok (by decide +kernel)
theorem yt1223 {E : zHp → Prop} (h : yEF E yFP) : yTs E 1 ys1223 := yver_s (k := 158) (n := 0) (x := yx1223) (P := ys1223.2.2.1) (f := 4000) h (yal_n) yg158 yk1223
def ys1224 : ySp := (262, 9, (1, [(0, (-2147483648), 2147483647)], [], [], [(0, (2, yc 70, yc 0)), (1, (0, (1, 0, 0), yc 0))], []), [(1, [], [], [], [], [(0, yc (-1), yc 0)]), (2, [(0, 0, 2), (1, (-2147483648), 2147483647)], [], [], [], [(0, (1, 1, 0), yc 0)])], [(70, 70, 27), (70, 70, 30), (80, 80, 1000), (82, 82, 1000), (83, 83, 1000), (84, 84, 1000)])
def yx1224 : yCx := ([ys1223, ys769, ys777, ys990, ys1221, ys4, ys5], ys1224.2.2.2.2, yFP, zm262.2.2.1, zm262.2.2.2.1, zc262, 1, ys1224.2.2.2.1, [(40, (7, [(0, 0, 2), (1, (-1), 2147483647), (2, (-2), 5), (3, (-2), 5), (4, (-1), 2147483647), (5, 0, 6), (6, 1, 6)], [], [(yc 80, yc 0, (0, (1, 6, 0), yc 0))], [(0, (2, yc 70, yc 0)), (1, (0, (1, 0, 0), yc 0)), (2, (0, (1, 1, 0), yc 0)), (3, (0, (1, 2, 0), yc 0)), (4, (0, (1, 3, 0), yc 0)), (5, (0, (1, 4, 0), yc 0)), (6, (0, (1, 5, 0), yc 0))], []), ([((-8), 5)], 56)), (57, (8, [(0, 0, 2), (1, (-1), 2147483647), (2, (-2), 5), (3, (-2), 5), (4, (-1), 2147483647), (5, 0, 5), (6, 1, 6), (7, 1, 6)], [], [(yc 80, yc 0, (0, (1, 7, 0), yc 0))], [(0, (2, yc 70, yc 0)), (1, (0, (1, 0, 0), yc 0)), (2, (0, (1, 1, 0), yc 0)), (3, (0, (1, 2, 0), yc 0)), (4, (0, (1, 3, 0), yc 0)), (5, (0, (1, 4, 0), yc 0)), (6, (0, (1, 5, 0), yc 0)), (7, (0, (1, 6, 0), yc 0))], []), ([((-1), 6), ((-8), 5)], 55))], [])
theorem yw1224 : ywf ys1224.2.2.1 = true := by decide +kernel
theorem yk1224 : yver yx1224 ys1224.2.2.1 4000 = true := yverQ_ok (by decide +kernel)
theorem yt1224 {E : zHp → Prop} (h : yXt E) : yTs E 9 ys1224 := yver_s (k := 262) (n := 8) (x := yx1224) (P := ys1224.2.2.1) (f := 4000) h.1 (yal_c (yt1223 h.1) (by decide) yw1223 (yal_c (yt769 h.1) (by decide) yw769 (yal_c (yt777 h.1) (by decide) yw777 (yal_c (yt990 h.1) (by decide) yw990 (yal_c (yt1221 h.1) (by decide) yw1221 (yal_c (yl4 h) (by decide) yw4 (yal_c (yl5 h) (by decide) yw5 (yal_n)))))))) yg262 yk1224
def ys1225 : ySp := (144, 7, (2, [(0, (-2147483648), 2147483647), (1, (-2147483648), 2147483647)], [], [], [(0, (2, yc 0, yc 0)), (1, (0, (1, 0, 0), yc 0)), (2, (0, (1, 1, 0), yc 0))], []), [(2, [], [], [], [], [(0, yc (-1), yc 0)]), (3, [(0, 0, 5), (1, 0, 1), (2, (-2147483648), 2147483647)], [], [], [], [(0, (1, 2, 0), yc 0)])], [(12, 12, 1000), (50, 50, 1), (52, 52, 1000), (53, 53, 1000), (54, 54, 1000), (57, 57, 1000), (58, 58, 1000), (60, 66, 1000)])
def yx1225 : yCx := ([ys1161, ys1191, ys672, ys665, ys1034, ys1035, ys703], ys1225.2.2.2.2, yFP, zm144.2.2.1, zm144.2.2.2.1, zc144, 2, ys1225.2.2.2.1, [(49, (5, [(0, 0, 5), (1, 0, 1), (2, 0, 5), (3, (-2147483648), 2147483647), (4, 0, 6)], [], [], [(0, (2, yc 0, yc 0)), (1, (0, (1, 0, 0), yc 0)), (2, (0, (1, 1, 0), yc 0)), (3, (0, (1, 2, 0), yc 0)), (4, (0, (1, 3, 0), yc 0)), (5, (0, (1, 4, 0), yc 0))], []), ([((-1), 4)], 7))], [])
theorem yw1225 : ywf ys1225.2.2.1 = true := by decide +kernel
theorem yk1225 : yver yx1225 ys1225.2.2.1 4000 = true := yverQ_ok (by decide +kernel)
theorem yt1225 {E : zHp → Prop} (h : yEF E yFP) : yTs E 7 ys1225 := yver_s (k := 144) (n := 6) (x := yx1225) (P := ys1225.2.2.1) (f := 4000) h (yal_c (yt1161 h) (by decide) yw1161 (yal_c (yt1191 h) (by decide) yw1191 (yal_c (yt672 h) (by decide) yw672 (yal_c (yt665 h) (by decide) yw665 (yal_c (yt1034 h) (by decide) yw1034 (yal_c (yt1035 h) (by decide) yw1035 (yal_c (yt703 h) (by decide) yw703 (yal_n)))))))) yg144 yk1225
def ys1226 : ySp := (206, 2, (2, [(0, 0, 5), (1, 0, 6)], [], [(yc 80, yc 2, (0, (1, 1, 0), yc 0))], [(0, (2, yc 70, yc 0)), (1, (0, (1, 0, 0), yc 0))], []), [(2, [(1, 0, 5)], [([(1, 0), ((-1), 1)], 0)], [(yc 80, yc 2, (0, (1, 1, 0), yc 0))], [], [(0, yc 0, yc 0)]), (2, [(1, 1, 6)], [([(1, 1), ((-1), 0)], (-1))], [(yc 80, yc 2, (0, (1, 1, 0), yc 0))], [], [(0, yc 1, yc 0)])], [])
def yx1226 : yCx := ([], ys1226.2.2.2.2, yFP, zm206.2.2.1, zm206.2.2.2.1, zc206, 2, ys1226.2.2.2.1, [], [])
theorem yw1226 : ywf ys1226.2.2.1 = true := by decide +kernel
theorem yk1226 : yver yx1226 ys1226.2.2.1 4000 = true := yverQ_ok (by decide +kernel)
theorem yt1226 {E : zHp → Prop} (h : yEF E yFP) : yTs E 1 ys1226 := yver_s (k := 206) (n := 0) (x := yx1226) (P := ys1226.2.2.1) (f := 4000) h (yal_n) yg206 yk1226
def ys1229 : ySp := (231, 3, (2, [(0, 0, 5), (1, 0, 5)], [], [], [(0, (2, yc 70, yc 0)), (1, (0, (1, 0, 0), yc 0)), (2, (0, (1, 1, 0), yc 0))], []), [(2, [], [], [], [], [])], [(80, 80, 1000)])
def yx1229 : yCx := ([ys787], ys1229.2.2.2.2, yFP, zm231.2.2.1, zm231.2.2.2.1, zc231, 2, ys1229.2.2.2.1, [], [])
theorem yw1229 : ywf ys1229.2.2.1 = true := by decide +kernel
theorem yk1229 : yver yx1229 ys1229.2.2.1 4000 = true := yverQ_ok (by decide +kernel)
theorem yt1229 {E : zHp → Prop} (h : yEF E yFP) : yTs E 3 ys1229 := yver_s (k := 231) (n := 2) (x := yx1229) (P := ys1229.2.2.1) (f := 4000) h (yal_c (yt787 h) (by decide) yw787 (yal_n)) yg231 yk1229
def ys1230 : ySp := (261, 7, (2, [(0, 0, 5), (1, 0, 1)], [], [], [(0, (2, yc 70, yc 0)), (1, (0, (1, 0, 0), yc 0)), (2, (0, (1, 1, 0), yc 0))], []), [(2, [], [], [], [], [(0, yc (-1), yc 0)]), (3, [(2, (-1), 2147483647)], [], [], [], [(0, (1, 2, 0), yc 0)])], [(70, 70, 27), (70, 70, 30), (80, 80, 1000), (82, 82, 1000), (83, 83, 1000), (84, 84, 1000)])
def yx1230 : yCx := ([ys772, ys1226, ys786, ys1229, ys1221, ys4, ys5], ys1230.2.2.2.2, yFP, zm261.2.2.1, zm261.2.2.2.1, zc261, 2, ys1230.2.2.2.1, [(37, (6, [(0, 0, 5), (1, 0, 1), (2, 0, 5), (3, (-1), 2147483647), (4, 0, 6), (5, 1, 6)], [([(1, 5), ((-1), 0)], (-1))], [(yc 80, yc 2, (0, (1, 5, 0), yc 0))], [(0, (2, yc 70, yc 0)), (1, (0, (1, 0, 0), yc 0)), (2, (0, (1, 1, 0), yc 0)), (3, (0, (1, 2, 0), yc 0)), (4, (0, (1, 3, 0), yc 0)), (5, (0, (1, 4, 0), yc 0))], []), ([((-1), 4)], 7))], [])
theorem yw1230 : ywf ys1230.2.2.1 = true := by decide +kernel
theorem yk1230 : yver yx1230 ys1230.2.2.1 4000 = true := yverQ_ok (by decide +kernel)
theorem yt1230 {E : zHp → Prop} (h : yXt E) : yTs E 9 ys1230 := yver_s (k := 261) (n := 8) (x := yx1230) (P := ys1230.2.2.1) (f := 4000) h.1 (yal_c (yt772 h.1) (by decide) yw772 (yal_c (yt1226 h.1) (by decide) yw1226 (yal_c (yt786 h.1) (by decide) yw786 (yal_c (yt1229 h.1) (by decide) yw1229 (yal_c (yt1221 h.1) (by decide) yw1221 (yal_c (yl4 h) (by decide) yw4 (yal_c (yl5 h) (by decide) yw5 (yal_n)))))))) yg261 yk1230
def ys1231 : ySp := (206, 2, (2, [(0, (-2147483648), 2147483647), (1, 0, 6)], [], [(yc 80, yc 2, (0, (1, 1, 0), yc 0))], [(0, (2, yc 70, yc 0)), (1, (0, (1, 0, 0), yc 0))], []), [(2, [], [], [(yc 80, yc 2, (0, (1, 1, 0), yc 0))], [], [(0, yc 0, yc 0)]), (2, [(0, 0, 5), (1, 1, 6)], [([(1, 1), ((-1), 0)], (-1))], [(yc 80, yc 2, (0, (1, 1, 0), yc 0))], [], [(0, yc 1, yc 0)])], [])
def yx1231 : yCx := ([], ys1231.2.2.2.2, yFP, zm206.2.2.1, zm206.2.2.2.1, zc206, 2, ys1231.2.2.2.1, [], [])
theorem yw1231 : ywf ys1231.2.2.1 = true := by decide +kernel
theorem yk1231 : yver yx1231 ys1231.2.2.1 4000 = true := yverQ_ok (by decide +kernel)
theorem yt1231 {E : zHp → Prop} (h : yEF E yFP) : yTs E 1 ys1231 := yver_s (k := 206) (n := 0) (x := yx1231) (P := ys1231.2.2.1) (f := 4000) h (yal_n) yg206 yk1231
def ys1232 : ySp := (261, 7, (2, [(0, (-2147483648), 2147483647), (1, (-2147483648), 2147483647)], [], [], [(0, (2, yc 70, yc 0)), (1, (0, (1, 0, 0), yc 0)), (2, (0, (1, 1, 0), yc 0))], []), [(2, [], [], [], [], [(0, yc (-1), yc 0)]), (3, [(0, 0, 5), (1, 0, 1), (2, (-1), 2147483647)], [], [], [], [(0, (1, 2, 0), yc 0)])], [(70, 70, 27), (70, 70, 30), (80, 80, 1000), (82, 82, 1000), (83, 83, 1000), (84, 84, 1000)])
def yx1232 : yCx := ([ys836, ys1231, ys786, ys1229, ys1221, ys4, ys5], ys1232.2.2.2.2, yFP, zm261.2.2.1, zm261.2.2.2.1, zc261, 2, ys1232.2.2.2.1, [(37, (6, [(0, 0, 5), (1, 0, 1), (2, 0, 5), (3, (-1), 2147483647), (4, 0, 6), (5, 1, 6)], [([(1, 5), ((-1), 0)], (-1))], [(yc 80, yc 2, (0, (1, 5, 0), yc 0))], [(0, (2, yc 70, yc 0)), (1, (0, (1, 0, 0), yc 0)), (2, (0, (1, 1, 0), yc 0)), (3, (0, (1, 2, 0), yc 0)), (4, (0, (1, 3, 0), yc 0)), (5, (0, (1, 4, 0), yc 0))], []), ([((-1), 4)], 7))], [])
theorem yw1232 : ywf ys1232.2.2.1 = true := by decide +kernel
theorem yk1232 : yver yx1232 ys1232.2.2.1 4000 = true := yverQ_ok (by decide +kernel)
theorem yt1232 {E : zHp → Prop} (h : yXt E) : yTs E 9 ys1232 := yver_s (k := 261) (n := 8) (x := yx1232) (P := ys1232.2.2.1) (f := 4000) h.1 (yal_c (yt836 h.1) (by decide) yw836 (yal_c (yt1231 h.1) (by decide) yw1231 (yal_c (yt786 h.1) (by decide) yw786 (yal_c (yt1229 h.1) (by decide) yw1229 (yal_c (yt1221 h.1) (by decide) yw1221 (yal_c (yl4 h) (by decide) yw4 (yal_c (yl5 h) (by decide) yw5 (yal_n)))))))) yg261 yk1232
def ys1233 : ySp := (143, 2, (1, [(0, (-2147483648), 2147483647)], [], [], [(0, (2, yc 0, yc 0)), (1, (0, (1, 0, 0), yc 0))], []), [(1, [], [], [], [], [(0, yc (-1), yc 0)]), (2, [(0, 0, 5), (1, (-2147483648), 2147483647)], [], [], [], [(0, (1, 1, 0), yc 0)])], [(50, 50, 1), (52, 52, 1000), (53, 53, 1000), (54, 54, 1000), (57, 57, 1000), (58, 58, 1000), (60, 66, 1000)])
def yx1233 : yCx := ([ys1191, ys1034], ys1233.2.2.2.2, yFP, zm143.2.2.1, zm143.2.2.2.1, zc143, 1, ys1233.2.2.2.1, [], [])
theorem yw1233 : ywf ys1233.2.2.1 = true := by decide +kernel
theorem yk1233 : yver yx1233 ys1233.2.2.1 4000 = true := yverQ_ok (by decide +kernel)
theorem yt1233 {E : zHp → Prop} (h : yEF E yFP) : yTs E 7 ys1233 := yver_s (k := 143) (n := 6) (x := yx1233) (P := ys1233.2.2.1) (f := 4000) h (yal_c (yt1191 h) (by decide) yw1191 (yal_c (yt1034 h) (by decide) yw1034 (yal_n))) yg143 yk1233
def ys1234 : ySp := (258, 2, (1, [(0, 0, 5)], [], [], [(0, (2, yc 70, yc 0)), (1, (0, (1, 0, 0), yc 0))], []), [(1, [], [], [], [], [(0, yc (-1), yc 0)]), (2, [(1, (-2147483648), 2147483647)], [], [], [], [(0, (1, 1, 0), yc 0)])], [(70, 70, 27), (70, 70, 30), (82, 82, 1000), (83, 83, 1000)])
def yx1234 : yCx := ([ys1226, ys1221], ys1234.2.2.2.2, yFP, zm258.2.2.1, zm258.2.2.2.1, zc258, 1, ys1234.2.2.2.1, [], [])
theorem yw1234 : ywf ys1234.2.2.1 = true := by decide +kernel
theorem yk1234 : yver yx1234 ys1234.2.2.1 4000 = true := yverQ_ok (by decide +kernel)
theorem yt1234 {E : zHp → Prop} (h : yEF E yFP) : yTs E 9 ys1234 := yver_s (k := 258) (n := 8) (x := yx1234) (P := ys1234.2.2.1) (f := 4000) h (yal_c (yt1226 h) (by decide) yw1226 (yal_c (yt1221 h) (by decide) yw1221 (yal_n))) yg258 yk1234
def ys1235 : ySp := (258, 2, (1, [(0, (-2147483648), 2147483647)], [], [], [(0, (2, yc 70, yc 0)), (1, (0, (1, 0, 0), yc 0))], []), [(1, [], [], [], [], [(0, yc (-1), yc 0)]), (2, [(0, 0, 5), (1, (-2147483648), 2147483647)], [], [], [], [(0, (1, 1, 0), yc 0)])], [(70, 70, 27), (70, 70, 30), (82, 82, 1000), (83, 83, 1000)])
def yx1235 : yCx := ([ys1231, ys1221], ys1235.2.2.2.2, yFP, zm258.2.2.1, zm258.2.2.2.1, zc258, 1, ys1235.2.2.2.1, [], [])
theorem yw1235 : ywf ys1235.2.2.1 = true := by decide +kernel
theorem yk1235 : yver yx1235 ys1235.2.2.1 4000 = true := yverQ_ok (by decide +kernel)
theorem yt1235 {E : zHp → Prop} (h : yEF E yFP) : yTs E 9 ys1235 := yver_s (k := 258) (n := 8) (x := yx1235) (P := ys1235.2.2.1) (f := 4000) h (yal_c (yt1231 h) (by decide) yw1231 (yal_c (yt1221 h) (by decide) yw1221 (yal_n))) yg258 yk1235
def ys1239 : ySp := (24, 5, (2, [(0, 0, 5), (1, 0, 63)], [], [], [(0, (2, yc 50, yc 0)), (1, (0, (1, 0, 0), yc 0)), (2, (0, (1, 1, 0), yc 0))], []), [(2, [], [], [], [], [(0, yc (-1), yc 0)]), (3, [(2, 0, 5)], [], [], [], [(0, (1, 2, 0), yc 0)])], [])
def yx1239 : yCx := ([], ys1239.2.2.2.2, yFP, zm24.2.2.1, zm24.2.2.2.1, zc24, 2, ys1239.2.2.2.1, [(37, (5, [(0, 0, 5), (1, 0, 63), (2, (-2147483648), 2147483647), (3, 0, 6), (4, (-2147483648), 2147483647)], [], [(yc 57, (1, 0, 0), (0, (1, 4, 0), yc 0))], [(0, (2, yc 50, yc 0)), (1, (0, (1, 0, 0), yc 0)), (2, (0, (1, 1, 0), yc 0)), (3, (0, (1, 2, 0), yc 0)), (4, (0, (1, 3, 0), yc 0))], []), ([((-1), 3)], 7))], [])
theorem yw1239 : ywf ys1239.2.2.1 = true := by decide +kernel
theorem yk1239 : yver yx1239 ys1239.2.2.1 4000 = true := yverQ_ok (by decide +kernel)
theorem yt1239 {E : zHp → Prop} (h : yEF E yFP) : yTs E 1 ys1239 := yver_s (k := 24) (n := 0) (x := yx1239) (P := ys1239.2.2.1) (f := 4000) h (yal_n) yg24 yk1239
def ys1240 : ySp := (23, 5, (1, [(0, 0, 5)], [], [], [(0, (2, yc 50, yc 0)), (1, (0, (1, 0, 0), yc 0))], []), [(2, [(1, (-1), 5)], [], [], [], [(0, (1, 1, 0), yc 0)])], [])
def yx1240 : yCx := ([ys1239], ys1240.2.2.2.2, yFP, zm23.2.2.1, zm23.2.2.2.1, zc23, 1, ys1240.2.2.2.1, [(7, (4, [(0, 0, 5), (1, 0, 63), (2, (-1), 5), (3, 0, 6)], [], [], [(0, (2, yc 50, yc 0)), (1, (0, (1, 0, 0), yc 0)), (2, (0, (1, 1, 0), yc 0)), (3, (0, (1, 2, 0), yc 0)), (4, (0, (1, 3, 0), yc 0))], []), ([((-1), 3)], 7))], [])
theorem yw1240 : ywf ys1240.2.2.1 = true := by decide +kernel
theorem yk1240 : yver yx1240 ys1240.2.2.1 4000 = true := yverQ_ok (by decide +kernel)
theorem yt1240 {E : zHp → Prop} (h : yEF E yFP) : yTs E 2 ys1240 := yver_s (k := 23) (n := 1) (x := yx1240) (P := ys1240.2.2.1) (f := 4000) h (yal_c (yt1239 h) (by decide) yw1239 (yal_n)) yg23 yk1240
def ys1241 : ySp := (142, 3, (1, [(0, (-2147483648), 2147483647)], [], [], [(0, (2, yc 0, yc 0)), (1, (0, (1, 0, 0), yc 0))], []), [(2, [(1, (-2147483648), 2147483647)], [], [], [], [(0, (1, 1, 0), yc 0)])], [(50, 50, 1), (52, 52, 1000), (53, 53, 1000), (54, 54, 1000), (57, 57, 1000), (58, 58, 1000), (60, 66, 1000)])
def yx1241 : yCx := ([ys1191, ys1240, ys671, ys656], ys1241.2.2.2.2, yFP, zm142.2.2.1, zm142.2.2.2.1, zc142, 1, ys1241.2.2.2.1, [], [])
theorem yw1241 : ywf ys1241.2.2.1 = true := by decide +kernel
theorem yk1241 : yver yx1241 ys1241.2.2.1 4000 = true := yverQ_ok (by decide +kernel)
theorem yt1241 {E : zHp → Prop} (h : yEF E yFP) : yTs E 7 ys1241 := yver_s (k := 142) (n := 6) (x := yx1241) (P := ys1241.2.2.1) (f := 4000) h (yal_c (yt1191 h) (by decide) yw1191 (yal_c (yt1240 h) (by decide) yw1240 (yal_c (yt671 h) (by decide) yw671 (yal_c (yt656 h) (by decide) yw656 (yal_n))))) yg142 yk1241
def ys1242 : ySp := (158, 6, (1, [(0, (-9223372036854775808), 9223372036854775807)], [], [], [(0, (1, (1, 0, 0), yc 0)), (2, (1, yc 0, yc 0)), (4, (1, yc 6, yc 0))], []), [(1, [(0, (-9223372036854775808), (-1))], [], [], [], [(0, yc 0, yc 0)]), (1, [(0, 7, 9223372036854775807)], [], [], [], [(0, yc 0, yc 0)]), (1, [(0, 0, 6)], [], [], [], [(0, yc 1, yc 0)])], [])
def yx1242 : yCx := ([], ys1242.2.2.2.2, yFP, zm158.2.2.1, zm158.2.2.2.1, zc158, 1, ys1242.2.2.2.1, [], [])
theorem yw1242 : ywf ys1242.2.2.1 = true := by decide +kernel
theorem yk1242 : yver yx1242 ys1242.2.2.1 4000 = true := yverQ_ok (by decide +kernel)
theorem yt1242 {E : zHp → Prop} (h : yEF E yFP) : yTs E 1 ys1242 := yver_s (k := 158) (n := 0) (x := yx1242) (P := ys1242.2.2.1) (f := 4000) h (yal_n) yg158 yk1242
def ys1243 : ySp := (257, 2, (1, [(0, (-2147483648), 2147483647)], [], [], [(0, (2, yc 70, yc 0)), (1, (0, (1, 0, 0), yc 0))], []), [(2, [(1, (-2147483648), 2147483647)], [], [], [], [(0, (1, 1, 0), yc 0)])], [(70, 70, 27), (70, 70, 30), (82, 82, 1000), (83, 83, 1000)])
def yx1243 : yCx := ([ys1242, ys769, ys1221], ys1243.2.2.2.2, yFP, zm257.2.2.1, zm257.2.2.2.1, zc257, 1, ys1243.2.2.2.1, [], [])
theorem yw1243 : ywf ys1243.2.2.1 = true := by decide +kernel
theorem yk1243 : yver yx1243 ys1243.2.2.1 4000 = true := yverQ_ok (by decide +kernel)
theorem yt1243 {E : zHp → Prop} (h : yEF E yFP) : yTs E 9 ys1243 := yver_s (k := 257) (n := 8) (x := yx1243) (P := ys1243.2.2.1) (f := 4000) h (yal_c (yt1242 h) (by decide) yw1242 (yal_c (yt769 h) (by decide) yw769 (yal_c (yt1221 h) (by decide) yw1221 (yal_n)))) yg257 yk1243
def ys1244 : ySp := (3, 5, (1, [(0, 0, 63)], [], [], [(0, (2, yc 44, yc 0)), (1, (2, yc 9, yc 0)), (2, (0, (1, 0, 0), yc 0))], []), [(1, [], [], [], [], [])], [(47, 47, 1000)])
def yx1244 : yCx := ([ys665, ys1039], ys1244.2.2.2.2, yFP, zm3.2.2.1, zm3.2.2.2.1, zc3, 1, ys1244.2.2.2.1, [(5, (3, [(0, 0, 63), (1, 0, 63), (2, 0, 6)], [], [], [(0, (2, yc 44, yc 0)), (1, (2, yc 9, yc 0)), (2, (0, (1, 0, 0), yc 0)), (3, (0, (1, 1, 0), yc 0)), (4, (0, (1, 2, 0), yc 0))], []), ([((-1), 2)], 14)), (52, (4, [(0, 0, 63), (1, 0, 63), (2, 0, 6), (3, 0, 6)], [], [(yc 10, yc 0, (0, (1, 3, 0), yc 0))], [(0, (2, yc 44, yc 0)), (1, (2, yc 9, yc 0)), (2, (0, (1, 0, 0), yc 0)), (3, (0, (1, 1, 0), yc 0)), (4, (0, (1, 2, 0), yc 0))], []), ([((-1), 2)], 7))], [])
theorem yw1244 : ywf ys1244.2.2.1 = true := by decide +kernel
theorem yk1244 : yver yx1244 ys1244.2.2.1 4000 = true := yverQ_ok (by decide +kernel)
theorem yt1244 {E : zHp → Prop} (h : yEF E yFP) : yTs E 2 ys1244 := yver_s (k := 3) (n := 1) (x := yx1244) (P := ys1244.2.2.1) (f := 4000) h (yal_c (yt665 h) (by decide) yw665 (yal_c (yt1039 h) (by decide) yw1039 (yal_n))) yg3 yk1244
def ys1245 : ySp := (1, 7, (1, [(0, 0, 5)], [], [], [(0, (2, yc 44, yc 0)), (1, (2, yc 9, yc 0)), (2, (0, (1, 0, 0), yc 0))], []), [(1, [], [], [], [], [])], [(45, 45, 1000), (46, 46, 1000), (47, 47, 1000)])
def yx1245 : yCx := ([ys847, ys1244, ys665, ys1035, ys1036, ys846, ys844, ys842, ys843], ys1245.2.2.2.2, yFP, zm1.2.2.1, zm1.2.2.2.1, zc1, 1, ys1245.2.2.2.1, [(67, (6, [(0, 0, 5), (1, 0, 5), (2, 0, 63), (3, 1, 64), (4, 0, 64), (5, 0, 6)], [], [(yc 10, yc 0, (0, (1, 5, 0), yc 0))], [(0, (2, yc 44, yc 0)), (1, (2, yc 9, yc 0)), (2, (0, (1, 0, 0), yc 0)), (3, (0, (1, 1, 0), yc 0)), (4, (0, (1, 2, 0), yc 0)), (5, (0, (1, 3, 0), yc 0)), (6, (0, (1, 4, 0), yc 0))], []), ([((-1), 4)], 65))], [])
theorem yw1245 : ywf ys1245.2.2.1 = true := by decide +kernel
theorem yk1245 : yver yx1245 ys1245.2.2.1 4000 = true := yverQ_ok (by decide +kernel)
theorem yt1245 {E : zHp → Prop} (h : yEF E yFP) : yTs E 3 ys1245 := yver_s (k := 1) (n := 2) (x := yx1245) (P := ys1245.2.2.1) (f := 4000) h (yal_c (yt847 h) (by decide) yw847 (yal_c (yt1244 h) (by decide) yw1244 (yal_c (yt665 h) (by decide) yw665 (yal_c (yt1035 h) (by decide) yw1035 (yal_c (yt1036 h) (by decide) yw1036 (yal_c (yt846 h) (by decide) yw846 (yal_c (yt844 h) (by decide) yw844 (yal_c (yt842 h) (by decide) yw842 (yal_c (yt843 h) (by decide) yw843 (yal_n)))))))))) yg1 yk1245
def ys1246 : ySp := (5, 5, (3, [(0, 0, 5), (1, 0, 5), (2, 0, 2147483647)], [], [], [(0, (2, yc 44, yc 0)), (1, (2, yc 9, yc 0)), (2, (0, (1, 0, 0), yc 0)), (3, (0, (1, 1, 0), yc 0)), (4, (0, (1, 2, 0), yc 0))], []), [(3, [], [], [], [], [])], [(44, 44, 3), (44, 44, 5), (44, 44, 6), (44, 44, 8), (44, 44, 9), (44, 44, 10), (48, 48, 1000), (49, 49, 1000)])
def yx1246 : yCx := ([ys1064, ys1035, ys1036], ys1246.2.2.2.2, yFP, zm5.2.2.1, zm5.2.2.2.1, zc5, 3, ys1246.2.2.2.1, [], [])
theorem yw1246 : ywf ys1246.2.2.1 = true := by decide +kernel
theorem yk1246 : yver yx1246 ys1246.2.2.1 4000 = true := yverQ_ok (by decide +kernel)
theorem yt1246 {E : zHp → Prop} (h : yEF E yFP) : yTs E 9 ys1246 := yver_s (k := 5) (n := 8) (x := yx1246) (P := ys1246.2.2.1) (f := 4000) h (yal_c (yt1064 h) (by decide) yw1064 (yal_c (yt1035 h) (by decide) yw1035 (yal_c (yt1036 h) (by decide) yw1036 (yal_n)))) yg5 yk1246
def ys1247 : ySp := (141, 6, (4, [(0, (-2147483648), 2147483647), (1, (-2147483648), 2147483647), (2, 0, 1), (3, (-2147483648), 2147483647)], [], [], [(0, (2, yc 0, yc 0)), (1, (0, (1, 0, 0), yc 0)), (2, (0, (1, 1, 0), yc 0)), (3, (0, (1, 2, 0), yc 0)), (4, (0, (1, 3, 0), yc 0))], []), [(4, [(0, 0, 5), (1, 0, 5), (3, 1, 1)], [], [], [], [(0, yc 0, yc 0)]), (5, [(4, (-2147483648), 2147483647)], [], [], [], [(0, (1, 4, 0), yc 0)])], [(44, 44, 3), (44, 44, 5), (44, 44, 6), (44, 44, 8), (44, 44, 9), (44, 44, 10), (45, 45, 1000), (46, 46, 1000), (47, 47, 1000), (48, 48, 1000), (49, 49, 1000)])
def yx1247 : yCx := ([ys1245, ys1246, ys1034, ys1068, ys1188], ys1247.2.2.2.2, yFP, zm141.2.2.1, zm141.2.2.2.1, zc141, 4, ys1247.2.2.2.1, [], [])
theorem yw1247 : ywf ys1247.2.2.1 = true := by decide +kernel
theorem yk1247 : yver yx1247 ys1247.2.2.1 4000 = true := yverQ_ok (by decide +kernel)
theorem yt1247 {E : zHp → Prop} (h : yEF E yFP) : yTs E 10 ys1247 := yver_s (k := 141) (n := 9) (x := yx1247) (P := ys1247.2.2.1) (f := 4000) h (yal_c (yt1245 h) (by decide) yw1245 (yal_c (yt1246 h) (by decide) yw1246 (yal_c (yt1034 h) (by decide) yw1034 (yal_c (yt1068 h) (by decide) yw1068 (yal_c (yt1188 h) (by decide) yw1188 (yal_n)))))) yg141 yk1247
def ys1248 : ySp := (252, 6, (4, [(0, (-2147483648), 2147483647), (1, (-2147483648), 2147483647), (2, 0, 1), (3, (-2147483648), 2147483647)], [], [], [(0, (2, yc 70, yc 0)), (1, (0, (1, 0, 0), yc 0)), (2, (0, (1, 1, 0), yc 0)), (3, (0, (1, 2, 0), yc 0)), (4, (0, (1, 3, 0), yc 0))], []), [(4, [(0, 0, 5), (1, 0, 5), (3, 0, 1)], [], [], [], [(0, yc 0, yc 0)]), (5, [(4, (-3), 2147483647)], [], [], [], [(0, (1, 4, 0), yc 0)])], [(70, 70, 27)])
def yx1248 : yCx := ([ys1242, ys1076, ys1231, ys786, ys810, ys815, ys1196, ys916, ys987], ys1248.2.2.2.2, yFP, zm252.2.2.1, zm252.2.2.2.1, zc252, 4, ys1248.2.2.2.1, [], [])
theorem yw1248 : ywf ys1248.2.2.1 = true := by decide +kernel
theorem yk1248 : yver yx1248 ys1248.2.2.1 4000 = true := yverQ_ok (by decide +kernel)
theorem yt1248 {E : zHp → Prop} (h : yEF E yFP) : yTs E 7 ys1248 := yver_s (k := 252) (n := 6) (x := yx1248) (P := ys1248.2.2.1) (f := 4000) h (yal_c (yt1242 h) (by decide) yw1242 (yal_c (yt1076 h) (by decide) yw1076 (yal_c (yt1231 h) (by decide) yw1231 (yal_c (yt786 h) (by decide) yw786 (yal_c (yt810 h) (by decide) yw810 (yal_c (yt815 h) (by decide) yw815 (yal_c (yt1196 h) (by decide) yw1196 (yal_c (yt916 h) (by decide) yw916 (yal_c (yt987 h) (by decide) yw987 (yal_n)))))))))) yg252 yk1248
def ys1259 : ySp := (101, 3, (2, [(0, 0, 5), (1, 0, 5)], [], [], [(0, (2, yc 9, yc 0)), (1, (0, (1, 0, 0), yc 0)), (2, (0, (1, 1, 0), yc 0))], []), [(2, [], [], [], [], [(0, yc 0, yc 0)]), (2, [], [], [], [], [(0, yc 1, yc 0)])], [])
def yx1259 : yCx := ([ys1035, ys1036, ys1052], ys1259.2.2.2.2, yFP, zm101.2.2.1, zm101.2.2.2.1, zc101, 2, ys1259.2.2.2.1, [], [])
theorem yw1259 : ywf ys1259.2.2.1 = true := by decide +kernel
theorem yk1259 : yver yx1259 ys1259.2.2.1 4000 = true := yverQ_ok (by decide +kernel)
theorem yt1259 {E : zHp → Prop} (h : yEF E yFP) : yTs E 3 ys1259 := yver_s (k := 101) (n := 2) (x := yx1259) (P := ys1259.2.2.1) (f := 4000) h (yal_c (yt1035 h) (by decide) yw1035 (yal_c (yt1036 h) (by decide) yw1036 (yal_c (yt1052 h) (by decide) yw1052 (yal_n)))) yg101 yk1259
def ys1260 : ySp := (114, 8, (2, [(0, 0, 5), (1, 0, 5)], [], [], [(0, (2, yc 9, yc 0)), (1, (0, (1, 0, 0), yc 0)), (2, (0, (1, 1, 0), yc 0)), (3, (0, yc 3, yc 0)), (4, (0, yc 0, yc 0))], []), [(3, [(2, (-2147483648), 2147483647)], [], [], [], [(0, (1, 2, 0), yc 0)])], [])
def yx1260 : yCx := ([ys656, ys1184, ys659, ys1177, ys1178, ys1182], ys1260.2.2.2.2, yFP, zm114.2.2.1, zm114.2.2.2.1, zc114, 2, ys1260.2.2.2.1, [(6, (4, [(0, 0, 5), (1, 0, 5), (2, (-2147483648), 2147483647), (3, 0, 6)], [], [], [(0, (2, yc 9, yc 0)), (1, (0, (1, 0, 0), yc 0)), (2, (0, (1, 1, 0), yc 0)), (3, (0, yc 3, yc 0)), (4, (0, yc 0, yc 0)), (5, (0, (1, 2, 0), yc 0)), (6, (0, (1, 3, 0), yc 0))], []), ([((-1), 3)], 7))], [])
theorem yw1260 : ywf ys1260.2.2.1 = true := by decide +kernel
theorem yk1260 : yver yx1260 ys1260.2.2.1 4000 = true := yverQ_ok (by decide +kernel)
theorem yt1260 {E : zHp → Prop} (h : yEF E yFP) : yTs E 2 ys1260 := yver_s (k := 114) (n := 1) (x := yx1260) (P := ys1260.2.2.1) (f := 4000) h (yal_c (yt656 h) (by decide) yw656 (yal_c (yt1184 h) (by decide) yw1184 (yal_c (yt659 h) (by decide) yw659 (yal_c (yt1177 h) (by decide) yw1177 (yal_c (yt1178 h) (by decide) yw1178 (yal_c (yt1182 h) (by decide) yw1182 (yal_n))))))) yg114 yk1260
def ys1261 : ySp := (114, 8, (2, [(0, 0, 5), (1, 0, 5)], [], [], [(0, (2, yc 9, yc 0)), (1, (0, (1, 0, 0), yc 0)), (2, (0, (1, 1, 0), yc 0)), (3, (0, yc 2, yc 0)), (4, (0, yc 1, yc 0))], []), [(3, [(2, 0, 2147483647)], [], [], [], [(0, (1, 2, 0), yc 0)])], [])
def yx1261 : yCx := ([ys656, ys1184, ys659, ys1177, ys1178, ys1179], ys1261.2.2.2.2, yFP, zm114.2.2.1, zm114.2.2.2.1, zc114, 2, ys1261.2.2.2.1, [(6, (4, [(0, 0, 5), (1, 0, 5), (2, 0, 2147483647), (3, 0, 6)], [], [], [(0, (2, yc 9, yc 0)), (1, (0, (1, 0, 0), yc 0)), (2, (0, (1, 1, 0), yc 0)), (3, (0, yc 2, yc 0)), (4, (0, yc 1, yc 0)), (5, (0, (1, 2, 0), yc 0)), (6, (0, (1, 3, 0), yc 0))], []), ([((-1), 3)], 7))], [])
theorem yw1261 : ywf ys1261.2.2.1 = true := by decide +kernel
theorem yk1261 : yver yx1261 ys1261.2.2.1 4000 = true := yverQ_ok (by decide +kernel)
theorem yt1261 {E : zHp → Prop} (h : yEF E yFP) : yTs E 2 ys1261 := yver_s (k := 114) (n := 1) (x := yx1261) (P := ys1261.2.2.1) (f := 4000) h (yal_c (yt656 h) (by decide) yw656 (yal_c (yt1184 h) (by decide) yw1184 (yal_c (yt659 h) (by decide) yw659 (yal_c (yt1177 h) (by decide) yw1177 (yal_c (yt1178 h) (by decide) yw1178 (yal_c (yt1179 h) (by decide) yw1179 (yal_n))))))) yg114 yk1261
def ys1262 : ySp := (100, 3, (1, [(0, 0, 5)], [], [], [(0, (2, yc 9, yc 0)), (1, (0, (1, 0, 0), yc 0)), (2, (0, yc 1, yc 0))], []), [(2, [(1, 0, 2147483647)], [], [], [], [(0, (1, 1, 0), yc 0)])], [])
def yx1262 : yCx := ([ys1037, ys1185, ys1187], ys1262.2.2.2.2, yFP, zm100.2.2.1, zm100.2.2.2.1, zc100, 1, ys1262.2.2.2.1, [], [])
theorem yw1262 : ywf ys1262.2.2.1 = true := by decide +kernel
theorem yk1262 : yver yx1262 ys1262.2.2.1 4000 = true := yverQ_ok (by decide +kernel)
theorem yt1262 {E : zHp → Prop} (h : yEF E yFP) : yTs E 3 ys1262 := yver_s (k := 100) (n := 2) (x := yx1262) (P := ys1262.2.2.1) (f := 4000) h (yal_c (yt1037 h) (by decide) yw1037 (yal_c (yt1185 h) (by decide) yw1185 (yal_c (yt1187 h) (by decide) yw1187 (yal_n)))) yg100 yk1262
def ys1263 : ySp := (31, 5, (3, [(0, 0, 63), (1, 0, 5), (2, 0, 5)], [], [], [(0, (0, (1, 0, 0), yc 0)), (1, (2, yc 9, yc 0)), (2, (0, (1, 1, 0), yc 0)), (3, (0, (1, 2, 0), yc 0))], []), [(3, [(0, 12, 63)], [], [], [], [(0, yc 0, yc 0)]), (3, [(0, 12, 63)], [], [], [], [(0, yc 1, yc 0)]), (4, [(0, 0, 11), (3, (-2147483648), 2147483647)], [], [], [], [(0, (1, 3, 0), yc 0)])], [])
def yx1263 : yCx := ([ys649, ys1035, ys1036, ys1037, ys1184, ys1186, ys1052, ys1073, ys1262, ys1260, ys1261], ys1263.2.2.2.2, yFP, zm31.2.2.1, zm31.2.2.2.1, zc31, 3, ys1263.2.2.2.1, [], [])
theorem yw1263 : ywf ys1263.2.2.1 = true := by decide +kernel
theorem yk1263 : yver yx1263 ys1263.2.2.1 4000 = true := yverQ_ok (by decide +kernel)
theorem yt1263 {E : zHp → Prop} (h : yEF E yFP) : yTs E 4 ys1263 := yver_s (k := 31) (n := 3) (x := yx1263) (P := ys1263.2.2.1) (f := 4000) h (yal_c (yt649 h) (by decide) yw649 (yal_c (yt1035 h) (by decide) yw1035 (yal_c (yt1036 h) (by decide) yw1036 (yal_c (yt1037 h) (by decide) yw1037 (yal_c (yt1184 h) (by decide) yw1184 (yal_c (yt1186 h) (by decide) yw1186 (yal_c (yt1052 h) (by decide) yw1052 (yal_c (yt1073 h) (by decide) yw1073 (yal_c (yt1262 h) (by decide) yw1262 (yal_c (yt1260 h) (by decide) yw1260 (yal_c (yt1261 h) (by decide) yw1261 (yal_n)))))))))))) yg31 yk1263
def ys1264 : ySp := (28, 7, (3, [(0, 0, 303), (1, 0, 5), (2, 0, 5)], [], [], [(0, (3, (1, 0, 0), yc 0)), (1, (2, yc 9, yc 0)), (2, (0, (1, 1, 0), yc 0)), (3, (0, (1, 2, 0), yc 0))], []), [(3, [], [], [], [], [(1, yc 0, yc 0)]), (4, [(3, (-9223372036854775808), 9223372036854775807)], [], [], [], [(1, (1, 3, 0), yc 0)])], [(88, 999, 1000)])
def yx1264 : yCx := ([ys1003, ys1263], ys1264.2.2.2.2, yFP, zm28.2.2.1, zm28.2.2.2.1, zc28, 3, ys1264.2.2.2.1, [(6, (5, [(0, 0, 303), (1, 0, 5), (2, 0, 5), (3, 0, 64), (4, 0, 400)], [], [], [(0, (3, (1, 0, 0), yc 0)), (1, (2, yc 9, yc 0)), (2, (0, (1, 1, 0), yc 0)), (3, (0, (1, 2, 0), yc 0)), (4, (0, (1, 3, 0), yc 0)), (5, (0, (1, 4, 0), yc 0))], []), ([((-1), 4)], 401))], [])
theorem yw1264 : ywf ys1264.2.2.1 = true := by decide +kernel
theorem yk1264 : yver yx1264 ys1264.2.2.1 4000 = true := yverQ_ok (by decide +kernel)
theorem yt1264 {E : zHp → Prop} (h : yEF E yFP) : yTs E 5 ys1264 := yver_s (k := 28) (n := 4) (x := yx1264) (P := ys1264.2.2.1) (f := 4000) h (yal_c (yt1003 h) (by decide) yw1003 (yal_c (yt1263 h) (by decide) yw1263 (yal_n))) yg28 yk1264
def ys1265 : ySp := (88, 4, (2, [(0, 0, 5), (1, (-2147483648), 2147483647)], [], [], [(0, (2, yc 9, yc 0)), (1, (0, (1, 0, 0), yc 0)), (2, (0, yc 4, yc 0)), (3, (0, (1, 1, 0), yc 0))], []), [(2, [], [], [], [], [])], [(10, 10, 1000)])
def yx1265 : yCx := ([], ys1265.2.2.2.2, yFP, zm88.2.2.1, zm88.2.2.2.1, zc88, 2, ys1265.2.2.2.1, [], [])
theorem yw1265 : ywf ys1265.2.2.1 = true := by decide +kernel
theorem yk1265 : yver yx1265 ys1265.2.2.1 4000 = true := yverQ_ok (by decide +kernel)
theorem yt1265 {E : zHp → Prop} (h : yEF E yFP) : yTs E 1 ys1265 := yver_s (k := 88) (n := 0) (x := yx1265) (P := ys1265.2.2.1) (f := 4000) h (yal_n) yg88 yk1265
def ys1268 : ySp := (75, 4, (3, [(0, 0, 5), (1, 0, 5), (2, (-2147483648), 2147483647)], [], [], [(0, (2, yc 9, yc 0)), (1, (0, (1, 0, 0), yc 0)), (2, (0, (1, 1, 0), yc 0)), (3, (0, (1, 2, 0), yc 0))], []), [(3, [], [], [], [], [])], [(10, 10, 1000)])
def yx1268 : yCx := ([], ys1268.2.2.2.2, yFP, zm75.2.2.1, zm75.2.2.2.1, zc75, 3, ys1268.2.2.2.1, [], [])
theorem yw1268 : ywf ys1268.2.2.1 = true := by decide +kernel
theorem yk1268 : yver yx1268 ys1268.2.2.1 4000 = true := yverQ_ok (by decide +kernel)
theorem yt1268 {E : zHp → Prop} (h : yEF E yFP) : yTs E 1 ys1268 := yver_s (k := 75) (n := 0) (x := yx1268) (P := ys1268.2.2.1) (f := 4000) h (yal_n) yg75 yk1268
def ys1269 : ySp := (88, 4, (2, [(0, 0, 5), (1, 0, 5)], [], [], [(0, (2, yc 9, yc 0)), (1, (0, (1, 0, 0), yc 0)), (2, (0, yc 3, yc 0)), (3, (0, (1, 1, 0), yc 0))], []), [(2, [], [], [], [], [])], [(10, 10, 1000)])
def yx1269 : yCx := ([], ys1269.2.2.2.2, yFP, zm88.2.2.1, zm88.2.2.2.1, zc88, 2, ys1269.2.2.2.1, [], [])
theorem yw1269 : ywf ys1269.2.2.1 = true := by decide +kernel
theorem yk1269 : yver yx1269 ys1269.2.2.1 4000 = true := yverQ_ok (by decide +kernel)
theorem yt1269 {E : zHp → Prop} (h : yEF E yFP) : yTs E 1 ys1269 := yver_s (k := 88) (n := 0) (x := yx1269) (P := ys1269.2.2.1) (f := 4000) h (yal_n) yg88 yk1269
def ys1270 : ySp := (102, 4, (2, [(0, 0, 5), (1, 0, 5)], [], [], [(0, (2, yc 9, yc 0)), (1, (0, (1, 0, 0), yc 0)), (2, (0, (1, 1, 0), yc 0))], []), [(2, [], [], [], [], [])], [(10, 10, 1000)])
def yx1270 : yCx := ([ys1268, ys1036, ys1037, ys1269, ys1265, ys1073], ys1270.2.2.2.2, yFP, zm102.2.2.1, zm102.2.2.2.1, zc102, 2, ys1270.2.2.2.1, [], [])
theorem yw1270 : ywf ys1270.2.2.1 = true := by decide +kernel
theorem yk1270 : yver yx1270 ys1270.2.2.1 4000 = true := yverQ_ok (by decide +kernel)
theorem yt1270 {E : zHp → Prop} (h : yEF E yFP) : yTs E 2 ys1270 := yver_s (k := 102) (n := 1) (x := yx1270) (P := ys1270.2.2.1) (f := 4000) h (yal_c (yt1268 h) (by decide) yw1268 (yal_c (yt1036 h) (by decide) yw1036 (yal_c (yt1037 h) (by decide) yw1037 (yal_c (yt1269 h) (by decide) yw1269 (yal_c (yt1265 h) (by decide) yw1265 (yal_c (yt1073 h) (by decide) yw1073 (yal_n))))))) yg102 yk1270
def ys1271 : ySp := (27, 9, (1, [(0, 0, 303)], [], [], [(0, (3, (1, 0, 0), yc 0)), (1, (2, yc 9, yc 0))], []), [(1, [], [], [], [], [])], [(10, 10, 1000), (88, 999, 1000)])
def yx1271 : yCx := ([ys1264, ys665, ys663, ys1259, ys1270], ys1271.2.2.2.2, yFP, zm27.2.2.1, zm27.2.2.2.1, zc27, 1, ys1271.2.2.2.1, [(2, (2, [(0, 0, 303), (1, 0, 6)], [], [], [(0, (3, (1, 0, 0), yc 0)), (1, (2, yc 9, yc 0)), (2, (0, (1, 1, 0), yc 0))], []), ([((-9), 1)], 63)), (18, (6, [(0, 0, 303), (1, 0, 5), (2, (-1), 5), (3, 0, 9223372036854775807), (4, 0, 6), (5, 1, 6)], [], [(yc 10, yc 2, (0, (1, 5, 0), yc 0))], [(0, (3, (1, 0, 0), yc 0)), (1, (2, yc 9, yc 0)), (2, (0, (1, 1, 0), yc 0)), (3, (0, (1, 2, 0), yc 0)), (4, (1, (1, 3, 0), yc 0)), (6, (0, (1, 4, 0), yc 0))], []), ([((-1), 4), ((-9), 1)], 61))], [])
theorem yw1271 : ywf ys1271.2.2.1 = true := by decide +kernel
theorem yk1271 : yver yx1271 ys1271.2.2.1 4000 = true := yverQ_ok (by decide +kernel)
theorem yt1271 {E : zHp → Prop} (h : yEF E yFP) : yTs E 6 ys1271 := yver_s (k := 27) (n := 5) (x := yx1271) (P := ys1271.2.2.1) (f := 4000) h (yal_c (yt1264 h) (by decide) yw1264 (yal_c (yt665 h) (by decide) yw665 (yal_c (yt663 h) (by decide) yw663 (yal_c (yt1259 h) (by decide) yw1259 (yal_c (yt1270 h) (by decide) yw1270 (yal_n)))))) yg27 yk1271
def ys1276 : ySp := (100, 3, (1, [(0, 0, 5)], [], [], [(0, (2, yc 9, yc 0)), (1, (0, (1, 0, 0), yc 0)), (2, (0, yc 0, yc 0))], []), [(1, [], [], [], [], [(0, yc 0, yc 0)]), (2, [(1, 0, 2147483647)], [], [], [], [(0, (1, 1, 0), yc 0)])], [])
def yx1276 : yCx := ([ys1037, ys1185, ys1066, ys1187], ys1276.2.2.2.2, yFP, zm100.2.2.1, zm100.2.2.2.1, zc100, 1, ys1276.2.2.2.1, [], [])
theorem yw1276 : ywf ys1276.2.2.1 = true := by decide +kernel
theorem yk1276 : yver yx1276 ys1276.2.2.1 4000 = true := yverQ_ok (by decide +kernel)
theorem yt1276 {E : zHp → Prop} (h : yEF E yFP) : yTs E 3 ys1276 := yver_s (k := 100) (n := 2) (x := yx1276) (P := ys1276.2.2.1) (f := 4000) h (yal_c (yt1037 h) (by decide) yw1037 (yal_c (yt1185 h) (by decide) yw1185 (yal_c (yt1066 h) (by decide) yw1066 (yal_c (yt1187 h) (by decide) yw1187 (yal_n))))) yg100 yk1276
def ys1277 : ySp := (99, 2, (1, [(0, 0, 5)], [], [], [(0, (2, yc 9, yc 0)), (1, (0, (1, 0, 0), yc 0))], []), [(1, [], [], [], [], [(0, yc 0, yc 0)]), (2, [(1, 0, 2147483647)], [], [], [], [(0, (1, 1, 0), yc 0)])], [])
def yx1277 : yCx := ([ys1276], ys1277.2.2.2.2, yFP, zm99.2.2.1, zm99.2.2.2.1, zc99, 1, ys1277.2.2.2.1, [], [])
theorem yw1277 : ywf ys1277.2.2.1 = true := by decide +kernel
theorem yk1277 : yver yx1277 ys1277.2.2.1 4000 = true := yverQ_ok (by decide +kernel)
theorem yt1277 {E : zHp → Prop} (h : yEF E yFP) : yTs E 4 ys1277 := yver_s (k := 99) (n := 3) (x := yx1277) (P := ys1277.2.2.1) (f := 4000) h (yal_c (yt1276 h) (by decide) yw1276 (yal_n)) yg99 yk1277
def ys1284 : ySp := (107, 3, (1, [(0, 0, 5)], [], [], [(0, (2, yc 9, yc 0)), (1, (0, (1, 0, 0), yc 0))], []), [(1, [], [], [], [], [(0, yc 0, yc 0)]), (1, [], [], [], [], [(0, yc 1, yc 0)])], [])
def yx1284 : yCx := ([ys663, ys1036, ys1184, ys1177, ys1178, ys1179, ys1277, ys660], ys1284.2.2.2.2, yFP, zm107.2.2.1, zm107.2.2.2.1, zc107, 1, ys1284.2.2.2.1, [(12, (2, [(0, 0, 5), (1, 0, 6)], [], [], [(0, (2, yc 9, yc 0)), (1, (0, (1, 0, 0), yc 0)), (2, (0, (1, 1, 0), yc 0))], []), ([((-1), 1)], 7))], [])
theorem yw1284 : ywf ys1284.2.2.1 = true := by decide +kernel
theorem yk1284 : yver yx1284 ys1284.2.2.1 4000 = true := yverQ_ok (by decide +kernel)
theorem yt1284 {E : zHp → Prop} (h : yEF E yFP) : yTs E 5 ys1284 := yver_s (k := 107) (n := 4) (x := yx1284) (P := ys1284.2.2.1) (f := 4000) h (yal_c (yt663 h) (by decide) yw663 (yal_c (yt1036 h) (by decide) yw1036 (yal_c (yt1184 h) (by decide) yw1184 (yal_c (yt1177 h) (by decide) yw1177 (yal_c (yt1178 h) (by decide) yw1178 (yal_c (yt1179 h) (by decide) yw1179 (yal_c (yt1277 h) (by decide) yw1277 (yal_c (yt660 h) (by decide) yw660 (yal_n))))))))) yg107 yk1284
def ys1285 : ySp := (90, 4, (2, [(0, 0, 5), (1, (-2147483648), 2147483647)], [], [], [(0, (2, yc 9, yc 0)), (1, (0, (1, 0, 0), yc 0)), (2, (0, yc 4, yc 0)), (3, (0, (1, 1, 0), yc 0))], []), [(2, [], [], [], [], [])], [(10, 10, 1000)])
def yx1285 : yCx := ([], ys1285.2.2.2.2, yFP, zm90.2.2.1, zm90.2.2.2.1, zc90, 2, ys1285.2.2.2.1, [], [])
theorem yw1285 : ywf ys1285.2.2.1 = true := by decide +kernel
theorem yk1285 : yver yx1285 ys1285.2.2.1 4000 = true := yverQ_ok (by decide +kernel)
theorem yt1285 {E : zHp → Prop} (h : yEF E yFP) : yTs E 1 ys1285 := yver_s (k := 90) (n := 0) (x := yx1285) (P := ys1285.2.2.1) (f := 4000) h (yal_n) yg90 yk1285
def ys1286 : ySp := (108, 3, (1, [(0, 0, 5)], [], [], [(0, (2, yc 9, yc 0)), (1, (0, (1, 0, 0), yc 0))], []), [(2, [(1, (-2147483648), 2147483647)], [], [], [], [(0, (1, 1, 0), yc 0)])], [(10, 10, 1000)])
def yx1286 : yCx := ([ys649, ys1182, ys1285], ys1286.2.2.2.2, yFP, zm108.2.2.1, zm108.2.2.2.1, zc108, 1, ys1286.2.2.2.1, [], [])
theorem yw1286 : ywf ys1286.2.2.1 = true := by decide +kernel
theorem yk1286 : yver yx1286 ys1286.2.2.1 4000 = true := yverQ_ok (by decide +kernel)
theorem yt1286 {E : zHp → Prop} (h : yEF E yFP) : yTs E 2 ys1286 := yver_s (k := 108) (n := 1) (x := yx1286) (P := ys1286.2.2.1) (f := 4000) h (yal_c (yt649 h) (by decide) yw649 (yal_c (yt1182 h) (by decide) yw1182 (yal_c (yt1285 h) (by decide) yw1285 (yal_n)))) yg108 yk1286
def ys1287 : ySp := (109, 2, (0, [], [], [], [(0, (2, yc 9, yc 0))], []), [(0, [], [], [], [], [])], [(10, 10, 1000)])
def yx1287 : yCx := ([ys656, ys1284, ys1286], ys1287.2.2.2.2, yFP, zm109.2.2.1, zm109.2.2.2.1, zc109, 0, ys1287.2.2.2.1, [(2, (1, [(0, 0, 6)], [], [], [(0, (2, yc 9, yc 0)), (1, (0, (1, 0, 0), yc 0))], []), ([((-1), 0)], 7))], [])
theorem yw1287 : ywf ys1287.2.2.1 = true := by decide +kernel
theorem yk1287 : yver yx1287 ys1287.2.2.1 4000 = true := yverQ_ok (by decide +kernel)
theorem yt1287 {E : zHp → Prop} (h : yEF E yFP) : yTs E 6 ys1287 := yver_s (k := 109) (n := 5) (x := yx1287) (P := ys1287.2.2.1) (f := 4000) h (yal_c (yt656 h) (by decide) yw656 (yal_c (yt1284 h) (by decide) yw1284 (yal_c (yt1286 h) (by decide) yw1286 (yal_n)))) yg109 yk1287
def ys1290 : ySp := (88, 4, (2, [(0, 0, 5), (1, (-2147483648), 2147483647)], [], [], [(0, (2, yc 9, yc 0)), (1, (0, (1, 0, 0), yc 0)), (2, (0, yc 5, yc 0)), (3, (0, (1, 1, 0), yc 0))], []), [(2, [], [], [], [], [])], [(10, 10, 1000)])
def yx1290 : yCx := ([], ys1290.2.2.2.2, yFP, zm88.2.2.1, zm88.2.2.2.1, zc88, 2, ys1290.2.2.2.1, [], [])
theorem yw1290 : ywf ys1290.2.2.1 = true := by decide +kernel
theorem yk1290 : yver yx1290 ys1290.2.2.1 4000 = true := yverQ_ok (by decide +kernel)
theorem yt1290 {E : zHp → Prop} (h : yEF E yFP) : yTs E 1 ys1290 := yver_s (k := 88) (n := 0) (x := yx1290) (P := ys1290.2.2.1) (f := 4000) h (yal_n) yg88 yk1290
def ys1291 : ySp := (112, 2, (0, [], [], [], [(0, (2, yc 9, yc 0))], []), [(0, [], [], [], [], [])], [(10, 10, 1000)])
def yx1291 : yCx := ([ys663, ys649, ys1186, ys1290, ys1066], ys1291.2.2.2.2, yFP, zm112.2.2.1, zm112.2.2.2.1, zc112, 0, ys1291.2.2.2.1, [(2, (1, [(0, 0, 6)], [], [], [(0, (2, yc 9, yc 0)), (1, (0, (1, 0, 0), yc 0))], []), ([((-1), 0)], 7))], [])
theorem yw1291 : ywf ys1291.2.2.1 = true := by decide +kernel
theorem yk1291 : yver yx1291 ys1291.2.2.1 4000 = true := yverQ_ok (by decide +kernel)
theorem yt1291 {E : zHp → Prop} (h : yEF E yFP) : yTs E 3 ys1291 := yver_s (k := 112) (n := 2) (x := yx1291) (P := ys1291.2.2.1) (f := 4000) h (yal_c (yt663 h) (by decide) yw663 (yal_c (yt649 h) (by decide) yw649 (yal_c (yt1186 h) (by decide) yw1186 (yal_c (yt1290 h) (by decide) yw1290 (yal_c (yt1066 h) (by decide) yw1066 (yal_n)))))) yg112 yk1291
def ys1292 : ySp := (15, 1, (0, [], [], [], [(0, (2, yc 14, yc 0))], []), [(0, [], [], [], [], [])], [(14, 14, 2)])
def yx1292 : yCx := ([], ys1292.2.2.2.2, yFP, zm15.2.2.1, zm15.2.2.2.1, zc15, 0, ys1292.2.2.2.1, [], [])
theorem yw1292 : ywf ys1292.2.2.1 = true := by decide +kernel
theorem yk1292 : yver yx1292 ys1292.2.2.1 4000 = true := yverQ_ok (by decide +kernel)
theorem yt1292 {E : zHp → Prop} (h : yEF E yFP) : yTs E 1 ys1292 := yver_s (k := 15) (n := 0) (x := yx1292) (P := ys1292.2.2.1) (f := 4000) h (yal_n) yg15 yk1292
def ys1293 : ySp := (139, 5, (2, [(0, (-2147483648), 2147483647), (1, (-2147483648), 2147483647)], [], [], [(0, (2, yc 0, yc 0)), (1, (0, (1, 0, 0), yc 0)), (2, (0, (1, 1, 0), yc 0))], []), [(2, [], [], [], [], [(0, yc (-1), yc 0)]), (4, [(0, 0, 5), (1, 1, 60), (2, (-2147483648), 2147483647), (3, 0, 303)], [], [(yc 13, (1, 0, 0), (3, (1, 3, 0), yc 0))], [], [(0, (1, 2, 0), yc 0)])], [(10, 10, 1000), (14, 14, 2), (88, 999, 1000)])
def yx1293 : yCx := ([ys1292, ys1271, ys671, ys649, ys662, ys1287, ys1291, ys995], ys1293.2.2.2.2, yFP, zm139.2.2.1, zm139.2.2.2.1, zc139, 2, ys1293.2.2.2.1, [(57, (5, [(0, 0, 5), (1, 1, 60), (2, (-2147483648), 2147483647), (3, 0, 60), (4, 0, 303)], [], [(yc 13, (1, 0, 0), (3, (1, 4, 0), yc 0))], [(0, (2, yc 0, yc 0)), (1, (0, (1, 0, 0), yc 0)), (2, (0, (1, 1, 0), yc 0)), (3, (0, (1, 2, 0), yc 0)), (4, (0, (1, 3, 0), yc 0))], []), ([((-1), 3)], 61))], [])
theorem yw1293 : ywf ys1293.2.2.1 = true := by decide +kernel
theorem yk1293 : yver yx1293 ys1293.2.2.1 4000 = true := yverQ_ok (by decide +kernel)
theorem yt1293 {E : zHp → Prop} (h : yEF E yFP) : yTs E 7 ys1293 := yver_s (k := 139) (n := 6) (x := yx1293) (P := ys1293.2.2.1) (f := 4000) h (yal_c (yt1292 h) (by decide) yw1292 (yal_c (yt1271 h) (by decide) yw1271 (yal_c (yt671 h) (by decide) yw671 (yal_c (yt649 h) (by decide) yw649 (yal_c (yt662 h) (by decide) yw662 (yal_c (yt1287 h) (by decide) yw1287 (yal_c (yt1291 h) (by decide) yw1291 (yal_c (yt995 h) (by decide) yw995 (yal_n))))))))) yg139 yk1293
def ys1294 : ySp := (248, 5, (2, [(0, 0, 5), (1, 0, 63)], [], [], [(0, (2, yc 70, yc 0)), (1, (0, (1, 0, 0), yc 0)), (2, (0, (1, 1, 0), yc 0))], []), [(2, [], [], [], [], [(0, yc (-1), yc 0)]), (3, [(1, 1, 60), (2, (-2147483648), 2147483647)], [], [], [], [(0, (1, 2, 0), yc 0)])], [(70, 70, 20), (70, 70, 25), (78, 78, 1000), (79, 79, 1000), (80, 80, 1000)])
def yx1294 : yCx := ([ys771, ys1014, ys769, ys1030], ys1294.2.2.2.2, yFP, zm248.2.2.1, zm248.2.2.2.1, zc248, 2, ys1294.2.2.2.1, [(53, (6, [(0, 0, 5), (1, 1, 60), (2, (-2147483648), 2147483647), (3, 0, 60), (4, 0, 6), (5, (-2147483648), 2147483647)], [], [(yc 80, yc 0, (0, (1, 4, 0), yc 0)), (yc 80, yc 4, (0, (1, 5, 0), yc 0)), (yc 70, yc 25, (0, yc 0, yc 0))], [(0, (2, yc 70, yc 0)), (1, (0, (1, 0, 0), yc 0)), (2, (0, (1, 1, 0), yc 0)), (3, (0, (1, 2, 0), yc 0)), (4, (0, (1, 3, 0), yc 0))], []), ([((-1), 3)], 61))], [])
theorem yw1294 : ywf ys1294.2.2.1 = true := by decide +kernel
theorem yk1294 : yver yx1294 ys1294.2.2.1 4000 = true := yverQ_ok (by decide +kernel)
theorem yt1294 {E : zHp → Prop} (h : yXt E) : yTs E 8 ys1294 := yver_s (k := 248) (n := 7) (x := yx1294) (P := ys1294.2.2.1) (f := 4000) h.1 (yal_c (yt771 h.1) (by decide) yw771 (yal_c (yt1014 h.1) (by decide) yw1014 (yal_c (yt769 h.1) (by decide) yw769 (yal_c (yt1030 h) (by decide) yw1030 (yal_n))))) yg248 yk1294
def ys1295 : ySp := (248, 5, (2, [(0, (-2147483648), 2147483647), (1, (-2147483648), 2147483647)], [], [], [(0, (2, yc 70, yc 0)), (1, (0, (1, 0, 0), yc 0)), (2, (0, (1, 1, 0), yc 0))], []), [(2, [], [], [], [], [(0, yc (-1), yc 0)]), (3, [(0, 0, 5), (1, 1, 60), (2, (-2147483648), 2147483647)], [], [], [], [(0, (1, 2, 0), yc 0)])], [(70, 70, 20), (70, 70, 25), (78, 78, 1000), (79, 79, 1000), (80, 80, 1000)])
def yx1295 : yCx := ([ys835, ys1032, ys769, ys1030], ys1295.2.2.2.2, yFP, zm248.2.2.1, zm248.2.2.2.1, zc248, 2, ys1295.2.2.2.1, [(53, (6, [(0, 0, 5), (1, 1, 60), (2, (-2147483648), 2147483647), (3, 0, 60), (4, 0, 6), (5, (-2147483648), 2147483647)], [], [(yc 80, yc 0, (0, (1, 4, 0), yc 0)), (yc 80, yc 4, (0, (1, 5, 0), yc 0)), (yc 70, yc 25, (0, yc 0, yc 0))], [(0, (2, yc 70, yc 0)), (1, (0, (1, 0, 0), yc 0)), (2, (0, (1, 1, 0), yc 0)), (3, (0, (1, 2, 0), yc 0)), (4, (0, (1, 3, 0), yc 0))], []), ([((-1), 3)], 61))], [])
theorem yw1295 : ywf ys1295.2.2.1 = true := by decide +kernel
theorem yk1295 : yver yx1295 ys1295.2.2.1 4000 = true := yverQ_ok (by decide +kernel)
theorem yt1295 {E : zHp → Prop} (h : yXt E) : yTs E 8 ys1295 := yver_s (k := 248) (n := 7) (x := yx1295) (P := ys1295.2.2.1) (f := 4000) h.1 (yal_c (yt835 h.1) (by decide) yw835 (yal_c (yt1032 h.1) (by decide) yw1032 (yal_c (yt769 h.1) (by decide) yw769 (yal_c (yt1030 h) (by decide) yw1030 (yal_n))))) yg248 yk1295
def ys1296 : ySp := (69, 2, (1, [(0, 16, 35)], [], [], [(0, (2, yc 9, yc 0)), (1, (2, (1, 0, 0), yc 0))], []), [(1, [], [], [], [], [])], [(10, 10, 1000)])
def yx1296 : yCx := ([], ys1296.2.2.2.2, yFP, zm69.2.2.1, zm69.2.2.2.1, zc69, 1, ys1296.2.2.2.1, [], [])
theorem yw1296 : ywf ys1296.2.2.1 = true := by decide +kernel
theorem yk1296 : yver yx1296 ys1296.2.2.1 4000 = true := yverQ_ok (by decide +kernel)
theorem yt1296 {E : zHp → Prop} (h : yEF E yFP) : yTs E 1 ys1296 := yver_s (k := 69) (n := 0) (x := yx1296) (P := ys1296.2.2.1) (f := 4000) h (yal_n) yg69 yk1296
def ys1297 : ySp := (17, 2, (0, [], [], [], [(0, (2, yc 14, yc 0)), (1, (2, yc 9, yc 0))], []), [(0, [], [], [], [], [])], [(10, 10, 1000), (14, 14, 1), (14, 14, 2)])
def yx1297 : yCx := ([ys1296], ys1297.2.2.2.2, yFP, zm17.2.2.1, zm17.2.2.2.1, zc17, 0, ys1297.2.2.2.1, [], [])
theorem yw1297 : ywf ys1297.2.2.1 = true := by decide +kernel
theorem yk1297 : yver yx1297 ys1297.2.2.1 4000 = true := yverQ_ok (by decide +kernel)
theorem yt1297 {E : zHp → Prop} (h : yEF E yFP) : yTs E 2 ys1297 := yver_s (k := 17) (n := 1) (x := yx1297) (P := ys1297.2.2.1) (f := 4000) h (yal_c (yt1296 h) (by decide) yw1296 (yal_n)) yg17 yk1297
def ys1298 : ySp := (138, 1, (0, [], [], [], [(0, (2, yc 0, yc 0))], []), [(0, [], [], [], [], [(0, yc (-1), yc 0)]), (1, [(0, 0, 20)], [], [], [], [(0, (1, 0, 0), yc 0)])], [(10, 10, 1000), (14, 14, 1), (14, 14, 2)])
def yx1298 : yCx := ([ys654, ys1297], ys1298.2.2.2.2, yFP, zm138.2.2.1, zm138.2.2.2.1, zc138, 0, ys1298.2.2.2.1, [], [])
theorem yw1298 : ywf ys1298.2.2.1 = true := by decide +kernel
theorem yk1298 : yver yx1298 ys1298.2.2.1 4000 = true := yverQ_ok (by decide +kernel)
theorem yt1298 {E : zHp → Prop} (h : yEF E yFP) : yTs E 3 ys1298 := yver_s (k := 138) (n := 2) (x := yx1298) (P := ys1298.2.2.1) (f := 4000) h (yal_c (yt654 h) (by decide) yw654 (yal_c (yt1297 h) (by decide) yw1297 (yal_n))) yg138 yk1298
def ys1299 : ySp := (68, 2, (1, [(0, 16, 35)], [], [], [(0, (2, yc 9, yc 0)), (1, (2, (1, 0, 0), yc 0))], []), [(1, [], [], [], [], [])], [(16, 35, 1000)])
def yx1299 : yCx := ([], ys1299.2.2.2.2, yFP, zm68.2.2.1, zm68.2.2.2.1, zc68, 1, ys1299.2.2.2.1, [], [])
theorem yw1299 : ywf ys1299.2.2.1 = true := by decide +kernel
theorem yk1299 : yver yx1299 ys1299.2.2.1 4000 = true := yverQ_ok (by decide +kernel)
theorem yt1299 {E : zHp → Prop} (h : yEF E yFP) : yTs E 1 ys1299 := yver_s (k := 68) (n := 0) (x := yx1299) (P := ys1299.2.2.1) (f := 4000) h (yal_n) yg68 yk1299
def ys1300 : ySp := (16, 2, (0, [], [], [], [(0, (2, yc 14, yc 0)), (1, (2, yc 9, yc 0))], []), [(0, [], [], [], [], [])], [(14, 14, 1), (14, 14, 2), (16, 35, 1000)])
def yx1300 : yCx := ([ys1299], ys1300.2.2.2.2, yFP, zm16.2.2.1, zm16.2.2.2.1, zc16, 0, ys1300.2.2.2.1, [], [])
theorem yw1300 : ywf ys1300.2.2.1 = true := by decide +kernel
theorem yk1300 : yver yx1300 ys1300.2.2.1 4000 = true := yverQ_ok (by decide +kernel)
theorem yt1300 {E : zHp → Prop} (h : yEF E yFP) : yTs E 2 ys1300 := yver_s (k := 16) (n := 1) (x := yx1300) (P := ys1300.2.2.1) (f := 4000) h (yal_c (yt1299 h) (by decide) yw1299 (yal_n)) yg16 yk1300
def ys1301 : ySp := (113, 3, (0, [], [], [], [(0, (2, yc 9, yc 0))], []), [(1, [(0, (-2147483648), 2147483647)], [], [], [], [(0, (1, 0, 0), yc 0)])], [])
def yx1301 : yCx := ([ys663, ys1187], ys1301.2.2.2.2, yFP, zm113.2.2.1, zm113.2.2.2.1, zc113, 0, ys1301.2.2.2.1, [(4, (2, [(0, (-2147483648), 2147483647), (1, 0, 6)], [], [], [(0, (2, yc 9, yc 0)), (1, (0, (1, 0, 0), yc 0)), (2, (0, (1, 1, 0), yc 0))], []), ([((-1), 1)], 7))], [])
theorem yw1301 : ywf ys1301.2.2.1 = true := by decide +kernel
theorem yk1301 : yver yx1301 ys1301.2.2.1 4000 = true := yverQ_ok (by decide +kernel)
theorem yt1301 {E : zHp → Prop} (h : yEF E yFP) : yTs E 3 ys1301 := yver_s (k := 113) (n := 2) (x := yx1301) (P := ys1301.2.2.1) (f := 4000) h (yal_c (yt663 h) (by decide) yw663 (yal_c (yt1187 h) (by decide) yw1187 (yal_n))) yg113 yk1301
def ys1302 : ySp := (137, 1, (0, [], [], [], [(0, (2, yc 0, yc 0))], []), [(0, [], [], [], [], [(0, yc (-1), yc 0)]), (1, [(0, (-2147483648), 2147483647)], [], [], [], [(0, (1, 0, 0), yc 0)])], [(10, 10, 1000), (14, 14, 1), (14, 14, 2), (16, 35, 1000)])
def yx1302 : yCx := ([ys1300, ys671, ys649, ys1291, ys1301], ys1302.2.2.2.2, yFP, zm137.2.2.1, zm137.2.2.2.1, zc137, 0, ys1302.2.2.2.1, [], [])
theorem yw1302 : ywf ys1302.2.2.1 = true := by decide +kernel
theorem yk1302 : yver yx1302 ys1302.2.2.1 4000 = true := yverQ_ok (by decide +kernel)
theorem yt1302 {E : zHp → Prop} (h : yEF E yFP) : yTs E 4 ys1302 := yver_s (k := 137) (n := 3) (x := yx1302) (P := ys1302.2.2.1) (f := 4000) h (yal_c (yt1300 h) (by decide) yw1300 (yal_c (yt671 h) (by decide) yw671 (yal_c (yt649 h) (by decide) yw649 (yal_c (yt1291 h) (by decide) yw1291 (yal_c (yt1301 h) (by decide) yw1301 (yal_n)))))) yg137 yk1302
end
