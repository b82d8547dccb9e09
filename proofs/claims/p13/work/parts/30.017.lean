section
def ys573 : ySp := (60, 3, (1, [(0, 0, 2147483647)], [], [(yc 2, yc 0, (2, yc 1, yc 0)), (yc 2, yc 4, (0, (1, 0, 0), yc 0))], [(0, (2, yc 2, yc 0)), (1, (2, yc 1004, yc 0))], []), [(4, [(1, 0, 400), (2, 0, 400), (3, 1, 2147483647)], [], [(yc 2, yc 0, (2, yc 1, yc 0)), (yc 2, yc 2, (0, (1, 1, 0), yc 0)), (yc 2, yc 1, (0, (1, 2, 0), yc 0)), (yc 2, yc 4, (0, (1, 3, 0), yc 0))], [], [(0, yc (-1), yc 0)]), (3, [(1, 0, 400), (2, 0, 400)], [], [(yc 2, yc 0, (2, yc 1, yc 0)), (yc 2, yc 4, (0, (1, 0, 0), yc 0)), (yc 2, yc 1, (0, (1, 1, 0), yc 0)), (yc 2, yc 2, (0, (1, 2, 0), yc 0))], [], [(0, yc 0, yc 0)]), (3, [(1, 0, 400), (2, 0, 400)], [], [(yc 2, yc 0, (2, yc 1, yc 0)), (yc 2, yc 4, (0, (1, 0, 0), yc 0)), (yc 2, yc 1, (0, (1, 1, 0), yc 0)), (yc 2, yc 2, (0, (1, 2, 0), yc 0))], [], [(0, yc 1, yc 0)]), (4, [(1, 2, 12), (2, 0, 400), (3, 0, 400)], [], [(yc 2, yc 0, (2, yc 1, yc 0)), (yc 2, yc 4, (0, (1, 0, 0), yc 0)), (yc 2, yc 1, (0, (1, 2, 0), yc 0)), (yc 2, yc 2, (0, (1, 3, 0), yc 0))], [], [(0, (1, 1, 0), yc 0)])], [(2, 2, 2), (2, 2, 3), (2, 2, 4)])
def yx573 : yCx := ([ys273, ys572], ys573.2.2.2.2, yFP, zm60.2.2.1, zm60.2.2.2.1, zc60, 1, ys573.2.2.2.1, [], [])
theorem yw573 : ywf ys573.2.2.1 = true := by decide +kernel
theorem yk573 : yver yx573 ys573.2.2.1 4000 = true := yverQ_ok (by decide +kernel)
theorem yt573 {E : zHp → Prop} (h : yEF E yFP) : yTs E 6 ys573 := yver_s (k := 60) (n := 5) (x := yx573) (P := ys573.2.2.1) (f := 4000) h (yal_c (yt273 h) (by decide) yw273 (yal_c (yt572 h) (by decide) yw572 (yal_n))) yg60 yk573
def ys574 : ySp := (56, 1, (1, [(0, (-1), 5)], [], [], [(0, (0, (1, 0, 0), yc 0))], []), [(1, [], [], [], [], [(0, yc 0, yc 0)])], [])
def yx574 : yCx := ([], ys574.2.2.2.2, yFP, zm56.2.2.1, zm56.2.2.2.1, zc56, 1, ys574.2.2.2.1, [], [])
theorem yw574 : ywf ys574.2.2.1 = true := by decide +kernel
theorem yk574 : yver yx574 ys574.2.2.1 4000 = true := yverQ_ok (by decide +kernel)
theorem yt574 {E : zHp → Prop} (h : yEF E yFP) : yTs E 1 ys574 := yver_s (k := 56) (n := 0) (x := yx574) (P := ys574.2.2.1) (f := 4000) h (yal_n) yg56 yk574
def ys575 : ySp := (36, 2, (1, [(0, 0, 2147483647)], [], [(yc 2, yc 0, (2, yc 1, yc 0)), (yc 2, yc 4, (0, (1, 0, 0), yc 0))], [(0, (2, yc 6, yc 0)), (1, (2, yc 2, yc 0))], []), [(4, [(1, 0, 400), (2, 0, 400), (3, 0, 2147483647)], [], [(yc 2, yc 2, (0, (1, 1, 0), yc 0)), (yc 2, yc 1, (0, (1, 2, 0), yc 0)), (yc 2, yc 0, (2, yc 1, yc 0)), (yc 2, yc 4, (0, (1, 3, 0), yc 0))], [], [])], [(2, 2, 2), (2, 2, 3), (2, 2, 4), (6, 6, 1), (6, 6, 5), (6, 6, 8), (7, 7, 1000)])
def yx575 : yCx := ([ys303, ys302, ys304, ys247, ys574, ys300, ys301, ys573], ys575.2.2.2.2, yFP, zm36.2.2.1, zm36.2.2.2.1, zc36, 1, ys575.2.2.2.1, [], [])
theorem yw575 : ywf ys575.2.2.1 = true := by decide +kernel
theorem yk575 : yver yx575 ys575.2.2.1 4000 = true := yverQ_ok (by decide +kernel)
theorem yt575 {E : zHp → Prop} (h : yEF E yFP) : yTs E 7 ys575 := yver_s (k := 36) (n := 6) (x := yx575) (P := ys575.2.2.1) (f := 4000) h (yal_c (yt303 h) (by decide) yw303 (yal_c (yt302 h) (by decide) yw302 (yal_c (yt304 h) (by decide) yw304 (yal_c (yt247 h) (by decide) yw247 (yal_c (yt574 h) (by decide) yw574 (yal_c (yt300 h) (by decide) yw300 (yal_c (yt301 h) (by decide) yw301 (yal_c (yt573 h) (by decide) yw573 (yal_n))))))))) yg36 yk575
def ys576 : ySp := (35, 4, (1, [(0, 0, 2147483647)], [], [(yc 2, yc 0, (2, yc 1, yc 0)), (yc 2, yc 4, (0, (1, 0, 0), yc 0))], [(0, (2, yc 6, yc 0)), (1, (2, yc 2, yc 0))], []), [(4, [(1, 0, 400), (2, 0, 2147483647), (3, 0, 400)], [], [(yc 2, yc 0, (2, yc 1, yc 0)), (yc 2, yc 1, (0, (1, 1, 0), yc 0)), (yc 2, yc 4, (0, (1, 2, 0), yc 0)), (yc 2, yc 2, (0, (1, 3, 0), yc 0))], [], [])], [(2, 2, 2), (2, 2, 3), (2, 2, 4), (6, 6, 1), (6, 6, 3), (6, 6, 5), (6, 6, 6), (6, 6, 7), (6, 6, 8), (6, 6, 9), (7, 7, 1000), (8, 8, 1000)])
def yx576 : yCx := ([ys575, ys278, ys299, ys275, ys247, ys277, ys298], ys576.2.2.2.2, yFP, zm35.2.2.1, zm35.2.2.2.1, zc35, 1, ys576.2.2.2.1, [], [])
theorem yw576 : ywf ys576.2.2.1 = true := by decide +kernel
theorem yk576 : yver yx576 ys576.2.2.1 4000 = true := yverQ_ok (by decide +kernel)
theorem yt576 {E : zHp → Prop} (h : yEF E yFP) : yTs E 8 ys576 := yver_s (k := 35) (n := 7) (x := yx576) (P := ys576.2.2.1) (f := 4000) h (yal_c (yt575 h) (by decide) yw575 (yal_c (yt278 h) (by decide) yw278 (yal_c (yt299 h) (by decide) yw299 (yal_c (yt275 h) (by decide) yw275 (yal_c (yt247 h) (by decide) yw247 (yal_c (yt277 h) (by decide) yw277 (yal_c (yt298 h) (by decide) yw298 (yal_n)))))))) yg35 yk576
def ys577 : ySp := (283, 1, (0, [], [], [], [(0, (2, yc 1006, yc 0))], []), [(0, [], [], [], [], [(0, yc 0, yc 0)])], [])
def yx577 : yCx := ([], ys577.2.2.2.2, yFP, zm283.2.2.1, zm283.2.2.2.1, zc283, 0, ys577.2.2.2.1, [], [])
theorem yw577 : ywf ys577.2.2.1 = true := by decide +kernel
theorem yk577 : yver yx577 ys577.2.2.1 4000 = true := yverQ_ok (by decide +kernel)
theorem yt577 {E : zHp → Prop} (h : yEF E yFP) : yTs E 1 ys577 := yver_s (k := 283) (n := 0) (x := yx577) (P := ys577.2.2.1) (f := 4000) h (yal_n) yg283 yk577
def ys578 : ySp := (281, 1, (0, [], [], [], [(0, (2, yc 1006, yc 0))], []), [(0, [], [], [], [], [(0, yc 7, yc 0)])], [])
def yx578 : yCx := ([ys577], ys578.2.2.2.2, yFP, zm281.2.2.1, zm281.2.2.2.1, zc281, 0, ys578.2.2.2.1, [], [])
theorem yw578 : ywf ys578.2.2.1 = true := by decide +kernel
theorem yk578 : yver yx578 ys578.2.2.1 4000 = true := yverQ_ok (by decide +kernel)
theorem yt578 {E : zHp → Prop} (h : yEF E yFP) : yTs E 2 ys578 := yver_s (k := 281) (n := 1) (x := yx578) (P := ys578.2.2.1) (f := 4000) h (yal_c (yt577 h) (by decide) yw577 (yal_n)) yg281 yk578
def ys579 : ySp := (284, 1, (0, [], [], [], [(0, (2, yc 1006, yc 0))], []), [(0, [], [], [], [], [(0, yc 1, yc 0)])], [])
def yx579 : yCx := ([], ys579.2.2.2.2, yFP, zm284.2.2.1, zm284.2.2.2.1, zc284, 0, ys579.2.2.2.1, [], [])
theorem yw579 : ywf ys579.2.2.1 = true := by decide +kernel
theorem yk579 : yver yx579 ys579.2.2.1 4000 = true := yverQ_ok (by decide +kernel)
theorem yt579 {E : zHp → Prop} (h : yEF E yFP) : yTs E 1 ys579 := yver_s (k := 284) (n := 0) (x := yx579) (P := ys579.2.2.1) (f := 4000) h (yal_n) yg284 yk579
def ys580 : ySp := (293, 3, (0, [], [], [], [(0, (0, yc 0, yc 0)), (1, (0, yc 7, yc 0)), (2, (7, yc 0, yc 0))], []), [(0, [], [], [], [], [(0, yc 0, yc 0)])], [])
def yx580 : yCx := ([], ys580.2.2.2.2, yFP, zm293.2.2.1, zm293.2.2.2.1, zc293, 0, ys580.2.2.2.1, [], [])
theorem yw580 : ywf ys580.2.2.1 = true := by decide +kernel
theorem yk580 : yver yx580 ys580.2.2.1 4000 = true := yverQ_ok (by decide +kernel)
theorem yt580 {E : zHp → Prop} (h : yEF E yFP) : yTs E 1 ys580 := yver_s (k := 293) (n := 0) (x := yx580) (P := ys580.2.2.1) (f := 4000) h (yal_n) yg293 yk580
def ys581 : ySp := (285, 2, (0, [], [], [], [(0, (0, yc 0, yc 0)), (1, (0, yc 7, yc 0))], []), [(0, [], [], [], [], [])], [])
def yx581 : yCx := ([ys580], ys581.2.2.2.2, yFP, zm285.2.2.1, zm285.2.2.2.1, zc285, 0, ys581.2.2.2.1, [], [])
theorem yw581 : ywf ys581.2.2.1 = true := by decide +kernel
theorem yk581 : yver yx581 ys581.2.2.1 4000 = true := yverQ_ok (by decide +kernel)
theorem yt581 {E : zHp → Prop} (h : yEF E yFP) : yTs E 2 ys581 := yver_s (k := 285) (n := 1) (x := yx581) (P := ys581.2.2.1) (f := 4000) h (yal_c (yt580 h) (by decide) yw580 (yal_n)) yg285 yk581
def ys582 : ySp := (286, 2, (0, [], [], [], [(0, (2, yc 1025, yc 0)), (1, (0, yc 0, yc 0))], []), [(0, [], [], [], [], [(0, yc 97, yc 0)])], [])
def yx582 : yCx := ([ys581], ys582.2.2.2.2, yFP, zm286.2.2.1, zm286.2.2.2.1, zc286, 0, ys582.2.2.2.1, [], [])
theorem yw582 : ywf ys582.2.2.1 = true := by decide +kernel
theorem yk582 : yver yx582 ys582.2.2.1 4000 = true := yverQ_ok (by decide +kernel)
theorem yt582 {E : zHp → Prop} (h : yEF E yFP) : yTs E 3 ys582 := yver_s (k := 286) (n := 2) (x := yx582) (P := ys582.2.2.1) (f := 4000) h (yal_c (yt581 h) (by decide) yw581 (yal_n)) yg286 yk582
def ys583 : ySp := (282, 2, (0, [], [], [], [(0, (2, yc 1006, yc 0)), (1, (0, yc 0, yc 0))], []), [(0, [], [], [], [], [(0, yc 97, yc 0)])], [])
def yx583 : yCx := ([ys579, ys582], ys583.2.2.2.2, yFP, zm282.2.2.1, zm282.2.2.2.1, zc282, 0, ys583.2.2.2.1, [], [])
theorem yw583 : ywf ys583.2.2.1 = true := by decide +kernel
theorem yk583 : yver yx583 ys583.2.2.1 4000 = true := yverQ_ok (by decide +kernel)
theorem yt583 {E : zHp → Prop} (h : yEF E yFP) : yTs E 4 ys583 := yver_s (k := 282) (n := 3) (x := yx583) (P := ys583.2.2.1) (f := 4000) h (yal_c (yt579 h) (by decide) yw579 (yal_c (yt582 h) (by decide) yw582 (yal_n))) yg282 yk583
def ys584 : ySp := (293, 3, (0, [], [], [], [(0, (0, yc 1, yc 0)), (1, (0, yc 7, yc 0)), (2, (7, yc 0, yc 0))], []), [(0, [], [], [], [], [(0, yc 1, yc 0)])], [])
def yx584 : yCx := ([], ys584.2.2.2.2, yFP, zm293.2.2.1, zm293.2.2.2.1, zc293, 0, ys584.2.2.2.1, [], [])
theorem yw584 : ywf ys584.2.2.1 = true := by decide +kernel
theorem yk584 : yver yx584 ys584.2.2.1 4000 = true := yverQ_ok (by decide +kernel)
theorem yt584 {E : zHp → Prop} (h : yEF E yFP) : yTs E 1 ys584 := yver_s (k := 293) (n := 0) (x := yx584) (P := ys584.2.2.1) (f := 4000) h (yal_n) yg293 yk584
def ys585 : ySp := (285, 2, (0, [], [], [], [(0, (0, yc 1, yc 0)), (1, (0, yc 7, yc 0))], []), [(0, [], [], [], [], [])], [])
def yx585 : yCx := ([ys584], ys585.2.2.2.2, yFP, zm285.2.2.1, zm285.2.2.2.1, zc285, 0, ys585.2.2.2.1, [], [])
theorem yw585 : ywf ys585.2.2.1 = true := by decide +kernel
theorem yk585 : yver yx585 ys585.2.2.1 4000 = true := yverQ_ok (by decide +kernel)
theorem yt585 {E : zHp → Prop} (h : yEF E yFP) : yTs E 2 ys585 := yver_s (k := 285) (n := 1) (x := yx585) (P := ys585.2.2.1) (f := 4000) h (yal_c (yt584 h) (by decide) yw584 (yal_n)) yg285 yk585
def ys586 : ySp := (286, 2, (0, [], [], [], [(0, (2, yc 1025, yc 0)), (1, (0, yc 1, yc 0))], []), [(0, [], [], [], [], [(0, yc 110, yc 0)])], [])
def yx586 : yCx := ([ys585], ys586.2.2.2.2, yFP, zm286.2.2.1, zm286.2.2.2.1, zc286, 0, ys586.2.2.2.1, [], [])
theorem yw586 : ywf ys586.2.2.1 = true := by decide +kernel
theorem yk586 : yver yx586 ys586.2.2.1 4000 = true := yverQ_ok (by decide +kernel)
theorem yt586 {E : zHp → Prop} (h : yEF E yFP) : yTs E 3 ys586 := yver_s (k := 286) (n := 2) (x := yx586) (P := ys586.2.2.1) (f := 4000) h (yal_c (yt585 h) (by decide) yw585 (yal_n)) yg286 yk586
def ys587 : ySp := (282, 2, (0, [], [], [], [(0, (2, yc 1006, yc 0)), (1, (0, yc 1, yc 0))], []), [(0, [], [], [], [], [(0, yc 110, yc 0)])], [])
def yx587 : yCx := ([ys579, ys586], ys587.2.2.2.2, yFP, zm282.2.2.1, zm282.2.2.2.1, zc282, 0, ys587.2.2.2.1, [], [])
theorem yw587 : ywf ys587.2.2.1 = true := by decide +kernel
theorem yk587 : yver yx587 ys587.2.2.1 4000 = true := yverQ_ok (by decide +kernel)
theorem yt587 {E : zHp → Prop} (h : yEF E yFP) : yTs E 4 ys587 := yver_s (k := 282) (n := 3) (x := yx587) (P := ys587.2.2.1) (f := 4000) h (yal_c (yt579 h) (by decide) yw579 (yal_c (yt586 h) (by decide) yw586 (yal_n))) yg282 yk587
def ys588 : ySp := (293, 3, (0, [], [], [], [(0, (0, yc 2, yc 0)), (1, (0, yc 7, yc 0)), (2, (7, yc 0, yc 0))], []), [(0, [], [], [], [], [(0, yc 2, yc 0)])], [])
def yx588 : yCx := ([], ys588.2.2.2.2, yFP, zm293.2.2.1, zm293.2.2.2.1, zc293, 0, ys588.2.2.2.1, [], [])
theorem yw588 : ywf ys588.2.2.1 = true := by decide +kernel
theorem yk588 : yver yx588 ys588.2.2.1 4000 = true := yverQ_ok (by decide +kernel)
theorem yt588 {E : zHp → Prop} (h : yEF E yFP) : yTs E 1 ys588 := yver_s (k := 293) (n := 0) (x := yx588) (P := ys588.2.2.1) (f := 4000) h (yal_n) yg293 yk588
def ys589 : ySp := (285, 2, (0, [], [], [], [(0, (0, yc 2, yc 0)), (1, (0, yc 7, yc 0))], []), [(0, [], [], [], [], [])], [])
def yx589 : yCx := ([ys588], ys589.2.2.2.2, yFP, zm285.2.2.1, zm285.2.2.2.1, zc285, 0, ys589.2.2.2.1, [], [])
theorem yw589 : ywf ys589.2.2.1 = true := by decide +kernel
theorem yk589 : yver yx589 ys589.2.2.1 4000 = true := yverQ_ok (by decide +kernel)
theorem yt589 {E : zHp → Prop} (h : yEF E yFP) : yTs E 2 ys589 := yver_s (k := 285) (n := 1) (x := yx589) (P := ys589.2.2.1) (f := 4000) h (yal_c (yt588 h) (by decide) yw588 (yal_n)) yg285 yk589
def ys590 : ySp := (286, 2, (0, [], [], [], [(0, (2, yc 1025, yc 0)), (1, (0, yc 2, yc 0))], []), [(0, [], [], [], [], [(0, yc 100, yc 0)])], [])
def yx590 : yCx := ([ys589], ys590.2.2.2.2, yFP, zm286.2.2.1, zm286.2.2.2.1, zc286, 0, ys590.2.2.2.1, [], [])
theorem yw590 : ywf ys590.2.2.1 = true := by decide +kernel
theorem yk590 : yver yx590 ys590.2.2.1 4000 = true := yverQ_ok (by decide +kernel)
theorem yt590 {E : zHp → Prop} (h : yEF E yFP) : yTs E 3 ys590 := yver_s (k := 286) (n := 2) (x := yx590) (P := ys590.2.2.1) (f := 4000) h (yal_c (yt589 h) (by decide) yw589 (yal_n)) yg286 yk590
def ys591 : ySp := (282, 2, (0, [], [], [], [(0, (2, yc 1006, yc 0)), (1, (0, yc 2, yc 0))], []), [(0, [], [], [], [], [(0, yc 100, yc 0)])], [])
def yx591 : yCx := ([ys579, ys590], ys591.2.2.2.2, yFP, zm282.2.2.1, zm282.2.2.2.1, zc282, 0, ys591.2.2.2.1, [], [])
theorem yw591 : ywf ys591.2.2.1 = true := by decide +kernel
theorem yk591 : yver yx591 ys591.2.2.1 4000 = true := yverQ_ok (by decide +kernel)
theorem yt591 {E : zHp → Prop} (h : yEF E yFP) : yTs E 4 ys591 := yver_s (k := 282) (n := 3) (x := yx591) (P := ys591.2.2.1) (f := 4000) h (yal_c (yt579 h) (by decide) yw579 (yal_c (yt590 h) (by decide) yw590 (yal_n))) yg282 yk591
def ys592 : ySp := (293, 3, (0, [], [], [], [(0, (0, yc 3, yc 0)), (1, (0, yc 7, yc 0)), (2, (7, yc 0, yc 0))], []), [(0, [], [], [], [], [(0, yc 3, yc 0)])], [])
def yx592 : yCx := ([], ys592.2.2.2.2, yFP, zm293.2.2.1, zm293.2.2.2.1, zc293, 0, ys592.2.2.2.1, [], [])
theorem yw592 : ywf ys592.2.2.1 = true := by decide +kernel
theorem yk592 : yver yx592 ys592.2.2.1 4000 = true := yverQ_ok (by decide +kernel)
theorem yt592 {E : zHp → Prop} (h : yEF E yFP) : yTs E 1 ys592 := yver_s (k := 293) (n := 0) (x := yx592) (P := ys592.2.2.1) (f := 4000) h (yal_n) yg293 yk592
def ys593 : ySp := (285, 2, (0, [], [], [], [(0, (0, yc 3, yc 0)), (1, (0, yc 7, yc 0))], []), [(0, [], [], [], [], [])], [])
def yx593 : yCx := ([ys592], ys593.2.2.2.2, yFP, zm285.2.2.1, zm285.2.2.2.1, zc285, 0, ys593.2.2.2.1, [], [])
theorem yw593 : ywf ys593.2.2.1 = true := by decide +kernel
theorem yk593 : yver yx593 ys593.2.2.1 4000 = true := yverQ_ok (by decide +kernel)
theorem yt593 {E : zHp → Prop} (h : yEF E yFP) : yTs E 2 ys593 := yver_s (k := 285) (n := 1) (x := yx593) (P := ys593.2.2.1) (f := 4000) h (yal_c (yt592 h) (by decide) yw592 (yal_n)) yg285 yk593
def ys594 : ySp := (286, 2, (0, [], [], [], [(0, (2, yc 1025, yc 0)), (1, (0, yc 3, yc 0))], []), [(0, [], [], [], [], [(0, yc 32, yc 0)])], [])
def yx594 : yCx := ([ys593], ys594.2.2.2.2, yFP, zm286.2.2.1, zm286.2.2.2.1, zc286, 0, ys594.2.2.2.1, [], [])
theorem yw594 : ywf ys594.2.2.1 = true := by decide +kernel
theorem yk594 : yver yx594 ys594.2.2.1 4000 = true := yverQ_ok (by decide +kernel)
theorem yt594 {E : zHp → Prop} (h : yEF E yFP) : yTs E 3 ys594 := yver_s (k := 286) (n := 2) (x := yx594) (P := ys594.2.2.1) (f := 4000) h (yal_c (yt593 h) (by decide) yw593 (yal_n)) yg286 yk594
def ys595 : ySp := (282, 2, (0, [], [], [], [(0, (2, yc 1006, yc 0)), (1, (0, yc 3, yc 0))], []), [(0, [], [], [], [], [(0, yc 32, yc 0)])], [])
def yx595 : yCx := ([ys579, ys594], ys595.2.2.2.2, yFP, zm282.2.2.1, zm282.2.2.2.1, zc282, 0, ys595.2.2.2.1, [], [])
theorem yw595 : ywf ys595.2.2.1 = true := by decide +kernel
theorem yk595 : yver yx595 ys595.2.2.1 4000 = true := yverQ_ok (by decide +kernel)
theorem yt595 {E : zHp → Prop} (h : yEF E yFP) : yTs E 4 ys595 := yver_s (k := 282) (n := 3) (x := yx595) (P := ys595.2.2.1) (f := 4000) h (yal_c (yt579 h) (by decide) yw579 (yal_c (yt594 h) (by decide) yw594 (yal_n))) yg282 yk595
def ys596 : ySp := (293, 3, (0, [], [], [], [(0, (0, yc 4, yc 0)), (1, (0, yc 7, yc 0)), (2, (7, yc 0, yc 0))], []), [(0, [], [], [], [], [(0, yc 4, yc 0)])], [])
def yx596 : yCx := ([], ys596.2.2.2.2, yFP, zm293.2.2.1, zm293.2.2.2.1, zc293, 0, ys596.2.2.2.1, [], [])
theorem yw596 : ywf ys596.2.2.1 = true := by decide +kernel
theorem yk596 : yver yx596 ys596.2.2.1 4000 = true := yverQ_ok (by decide +kernel)
theorem yt596 {E : zHp → Prop} (h : yEF E yFP) : yTs E 1 ys596 := yver_s (k := 293) (n := 0) (x := yx596) (P := ys596.2.2.1) (f := 4000) h (yal_n) yg293 yk596
def ys597 : ySp := (285, 2, (0, [], [], [], [(0, (0, yc 4, yc 0)), (1, (0, yc 7, yc 0))], []), [(0, [], [], [], [], [])], [])
def yx597 : yCx := ([ys596], ys597.2.2.2.2, yFP, zm285.2.2.1, zm285.2.2.2.1, zc285, 0, ys597.2.2.2.1, [], [])
theorem yw597 : ywf ys597.2.2.1 = true := by decide +kernel
theorem yk597 : yver yx597 ys597.2.2.1 4000 = true := yverQ_ok (by decide +kernel)
theorem yt597 {E : zHp → Prop} (h : yEF E yFP) : yTs E 2 ys597 := yver_s (k := 285) (n := 1) (x := yx597) (P := ys597.2.2.1) (f := 4000) h (yal_c (yt596 h) (by decide) yw596 (yal_n)) yg285 yk597
def ys598 : ySp := (286, 2, (0, [], [], [], [(0, (2, yc 1025, yc 0)), (1, (0, yc 4, yc 0))], []), [(0, [], [], [], [], [(0, yc 111, yc 0)])], [])
def yx598 : yCx := ([ys597], ys598.2.2.2.2, yFP, zm286.2.2.1, zm286.2.2.2.1, zc286, 0, ys598.2.2.2.1, [], [])
theorem yw598 : ywf ys598.2.2.1 = true := by decide +kernel
theorem yk598 : yver yx598 ys598.2.2.1 4000 = true := yverQ_ok (by decide +kernel)
theorem yt598 {E : zHp → Prop} (h : yEF E yFP) : yTs E 3 ys598 := yver_s (k := 286) (n := 2) (x := yx598) (P := ys598.2.2.1) (f := 4000) h (yal_c (yt597 h) (by decide) yw597 (yal_n)) yg286 yk598
def ys599 : ySp := (282, 2, (0, [], [], [], [(0, (2, yc 1006, yc 0)), (1, (0, yc 4, yc 0))], []), [(0, [], [], [], [], [(0, yc 111, yc 0)])], [])
def yx599 : yCx := ([ys579, ys598], ys599.2.2.2.2, yFP, zm282.2.2.1, zm282.2.2.2.1, zc282, 0, ys599.2.2.2.1, [], [])
theorem yw599 : ywf ys599.2.2.1 = true := by decide +kernel
theorem yk599 : yver yx599 ys599.2.2.1 4000 = true := yverQ_ok (by decide +kernel)
theorem yt599 {E : zHp → Prop} (h : yEF E yFP) : yTs E 4 ys599 := yver_s (k := 282) (n := 3) (x := yx599) (P := ys599.2.2.1) (f := 4000) h (yal_c (yt579 h) (by decide) yw579 (yal_c (yt598 h) (by decide) yw598 (yal_n))) yg282 yk599
def ys600 : ySp := (293, 3, (0, [], [], [], [(0, (0, yc 5, yc 0)), (1, (0, yc 7, yc 0)), (2, (7, yc 0, yc 0))], []), [(0, [], [], [], [], [(0, yc 5, yc 0)])], [])
def yx600 : yCx := ([], ys600.2.2.2.2, yFP, zm293.2.2.1, zm293.2.2.2.1, zc293, 0, ys600.2.2.2.1, [], [])
theorem yw600 : ywf ys600.2.2.1 = true := by decide +kernel
theorem yk600 : yver yx600 ys600.2.2.1 4000 = true := yverQ_ok (by decide +kernel)
theorem yt600 {E : zHp → Prop} (h : yEF E yFP) : yTs E 1 ys600 := yver_s (k := 293) (n := 0) (x := yx600) (P := ys600.2.2.1) (f := 4000) h (yal_n) yg293 yk600
def ys601 : ySp := (285, 2, (0, [], [], [], [(0, (0, yc 5, yc 0)), (1, (0, yc 7, yc 0))], []), [(0, [], [], [], [], [])], [])
def yx601 : yCx := ([ys600], ys601.2.2.2.2, yFP, zm285.2.2.1, zm285.2.2.2.1, zc285, 0, ys601.2.2.2.1, [], [])
theorem yw601 : ywf ys601.2.2.1 = true := by decide +kernel
theorem yk601 : yver yx601 ys601.2.2.1 4000 = true := yverQ_ok (by decide +kernel)
theorem yt601 {E : zHp → Prop} (h : yEF E yFP) : yTs E 2 ys601 := yver_s (k := 285) (n := 1) (x := yx601) (P := ys601.2.2.1) (f := 4000) h (yal_c (yt600 h) (by decide) yw600 (yal_n)) yg285 yk601
def ys602 : ySp := (286, 2, (0, [], [], [], [(0, (2, yc 1025, yc 0)), (1, (0, yc 5, yc 0))], []), [(0, [], [], [], [], [(0, yc 114, yc 0)])], [])
def yx602 : yCx := ([ys601], ys602.2.2.2.2, yFP, zm286.2.2.1, zm286.2.2.2.1, zc286, 0, ys602.2.2.2.1, [], [])
theorem yw602 : ywf ys602.2.2.1 = true := by decide +kernel
theorem yk602 : yver yx602 ys602.2.2.1 4000 = true := yverQ_ok (by decide +kernel)
theorem yt602 {E : zHp → Prop} (h : yEF E yFP) : yTs E 3 ys602 := yver_s (k := 286) (n := 2) (x := yx602) (P := ys602.2.2.1) (f := 4000) h (yal_c (yt601 h) (by decide) yw601 (yal_n)) yg286 yk602
def ys603 : ySp := (282, 2, (0, [], [], [], [(0, (2, yc 1006, yc 0)), (1, (0, yc 5, yc 0))], []), [(0, [], [], [], [], [(0, yc 114, yc 0)])], [])
def yx603 : yCx := ([ys579, ys602], ys603.2.2.2.2, yFP, zm282.2.2.1, zm282.2.2.2.1, zc282, 0, ys603.2.2.2.1, [], [])
theorem yw603 : ywf ys603.2.2.1 = true := by decide +kernel
theorem yk603 : yver yx603 ys603.2.2.1 4000 = true := yverQ_ok (by decide +kernel)
theorem yt603 {E : zHp → Prop} (h : yEF E yFP) : yTs E 4 ys603 := yver_s (k := 282) (n := 3) (x := yx603) (P := ys603.2.2.1) (f := 4000) h (yal_c (yt579 h) (by decide) yw579 (yal_c (yt602 h) (by decide) yw602 (yal_n))) yg282 yk603
def ys604 : ySp := (293, 3, (0, [], [], [], [(0, (0, yc 6, yc 0)), (1, (0, yc 7, yc 0)), (2, (7, yc 0, yc 0))], []), [(0, [], [], [], [], [(0, yc 6, yc 0)])], [])
def yx604 : yCx := ([], ys604.2.2.2.2, yFP, zm293.2.2.1, zm293.2.2.2.1, zc293, 0, ys604.2.2.2.1, [], [])
theorem yw604 : ywf ys604.2.2.1 = true := by decide +kernel
theorem yk604 : yver yx604 ys604.2.2.1 4000 = true := yverQ_ok (by decide +kernel)
theorem yt604 {E : zHp → Prop} (h : yEF E yFP) : yTs E 1 ys604 := yver_s (k := 293) (n := 0) (x := yx604) (P := ys604.2.2.1) (f := 4000) h (yal_n) yg293 yk604
def ys605 : ySp := (285, 2, (0, [], [], [], [(0, (0, yc 6, yc 0)), (1, (0, yc 7, yc 0))], []), [(0, [], [], [], [], [])], [])
def yx605 : yCx := ([ys604], ys605.2.2.2.2, yFP, zm285.2.2.1, zm285.2.2.2.1, zc285, 0, ys605.2.2.2.1, [], [])
theorem yw605 : ywf ys605.2.2.1 = true := by decide +kernel
theorem yk605 : yver yx605 ys605.2.2.1 4000 = true := yverQ_ok (by decide +kernel)
theorem yt605 {E : zHp → Prop} (h : yEF E yFP) : yTs E 2 ys605 := yver_s (k := 285) (n := 1) (x := yx605) (P := ys605.2.2.1) (f := 4000) h (yal_c (yt604 h) (by decide) yw604 (yal_n)) yg285 yk605
def ys606 : ySp := (286, 2, (0, [], [], [], [(0, (2, yc 1025, yc 0)), (1, (0, yc 6, yc 0))], []), [(0, [], [], [], [], [(0, yc 32, yc 0)])], [])
def yx606 : yCx := ([ys605], ys606.2.2.2.2, yFP, zm286.2.2.1, zm286.2.2.2.1, zc286, 0, ys606.2.2.2.1, [], [])
theorem yw606 : ywf ys606.2.2.1 = true := by decide +kernel
theorem yk606 : yver yx606 ys606.2.2.1 4000 = true := yverQ_ok (by decide +kernel)
theorem yt606 {E : zHp → Prop} (h : yEF E yFP) : yTs E 3 ys606 := yver_s (k := 286) (n := 2) (x := yx606) (P := ys606.2.2.1) (f := 4000) h (yal_c (yt605 h) (by decide) yw605 (yal_n)) yg286 yk606
def ys607 : ySp := (282, 2, (0, [], [], [], [(0, (2, yc 1006, yc 0)), (1, (0, yc 6, yc 0))], []), [(0, [], [], [], [], [(0, yc 32, yc 0)])], [])
def yx607 : yCx := ([ys579, ys606], ys607.2.2.2.2, yFP, zm282.2.2.1, zm282.2.2.2.1, zc282, 0, ys607.2.2.2.1, [], [])
theorem yw607 : ywf ys607.2.2.1 = true := by decide +kernel
theorem yk607 : yver yx607 ys607.2.2.1 4000 = true := yverQ_ok (by decide +kernel)
theorem yt607 {E : zHp → Prop} (h : yEF E yFP) : yTs E 4 ys607 := yver_s (k := 282) (n := 3) (x := yx607) (P := ys607.2.2.1) (f := 4000) h (yal_c (yt579 h) (by decide) yw579 (yal_c (yt606 h) (by decide) yw606 (yal_n))) yg282 yk607
def ys608 : ySp := (59, 6, (1, [(0, 0, 2147483647)], [], [(yc 2, yc 0, (2, yc 1, yc 0)), (yc 2, yc 4, (0, (1, 0, 0), yc 0))], [(0, (2, yc 2, yc 0)), (1, (2, yc 1006, yc 0))], []), [(3, [(1, 0, 400), (2, 0, 400)], [], [(yc 2, yc 0, (2, yc 1, yc 0)), (yc 2, yc 4, (0, (1, 0, 0), yc 0)), (yc 2, yc 2, (0, (1, 1, 0), yc 0)), (yc 2, yc 1, (0, (1, 2, 0), yc 0))], [], [(0, yc (-1), yc 0)]), (3, [(1, 0, 400), (2, 0, 400)], [], [(yc 2, yc 0, (2, yc 1, yc 0)), (yc 2, yc 4, (0, (1, 0, 0), yc 0)), (yc 2, yc 1, (0, (1, 1, 0), yc 0)), (yc 2, yc 2, (0, (1, 2, 0), yc 0))], [], [(0, yc 0, yc 0)]), (3, [(1, 0, 400), (2, 0, 400)], [], [(yc 2, yc 0, (2, yc 1, yc 0)), (yc 2, yc 4, (0, (1, 0, 0), yc 0)), (yc 2, yc 1, (0, (1, 1, 0), yc 0)), (yc 2, yc 2, (0, (1, 2, 0), yc 0))], [], [(0, yc 1, yc 0)])], [(2, 2, 2), (2, 2, 3)])
def yq608_0 : yCu := (18, (4, [(0, 0, 2147483647), (1, 0, 400), (2, 0, 400), (3, 0, 400)], [], [(yc 2, yc 0, (2, yc 1, yc 0)), (yc 2, yc 4, (0, (1, 0, 0), yc 0)), (yc 2, yc 2, (0, (1, 2, 0), yc 0)), (yc 2, yc 1, (0, (1, 3, 0), yc 0)), (yc 2, yc 3, (0, (1, 2, 0), yc 0))], [(0, (2, yc 2, yc 0)), (1, (2, yc 1006, yc 0)), (2, (0, (1, 1, 0), yc 0))], []), ([((-1), 1)], 408))
def yq608_1 : yCu := (55, (4, [(0, 0, 2147483647), (1, 0, 400), (2, 0, 400), (3, 0, 400)], [], [(yc 2, yc 0, (2, yc 1, yc 0)), (yc 2, yc 4, (0, (1, 0, 0), yc 0)), (yc 2, yc 2, (0, (1, 2, 0), yc 0)), (yc 2, yc 1, (0, (1, 3, 0), yc 0)), (yc 2, yc 3, (0, (1, 2, 0), yc 0))], [(0, (2, yc 2, yc 0)), (1, (2, yc 1006, yc 0)), (2, (0, (1, 1, 0), yc 0)), (3, (0, yc 0, yc 0)), (4, (0, (1, 2, 0), yc 0)), (5, (0, yc 0, yc 0))], []), ([], 7))
def yq608_2 : yCu := (55, (5, [(0, 0, 2147483647), (1, 0, 400), (2, (-1), 400), (3, 0, 400), (4, 0, 400)], [([(1, 1), ((-1), 2)], 0)], [(yc 2, yc 0, (2, yc 1, yc 0)), (yc 2, yc 4, (0, (1, 0, 0), yc 0)), (yc 2, yc 2, (0, (1, 3, 0), yc 0)), (yc 2, yc 1, (0, (1, 4, 0), yc 0)), (yc 2, yc 3, (0, (1, 3, 0), yc 0))], [(0, (2, yc 2, yc 0)), (1, (2, yc 1006, yc 0)), (2, (0, (1, 1, 0), yc 0)), (3, (0, yc 0, yc 0)), (4, (0, (1, 2, 0), yc 0)), (5, (0, yc 1, yc 0))], []), ([], 6))
def yq608_3 : yCu := (55, (5, [(0, 0, 2147483647), (1, 0, 400), (2, (-1), 400), (3, 0, 400), (4, 0, 400)], [([(1, 1), ((-1), 2)], 1), ([(1, 1), ((-1), 2)], 0)], [(yc 2, yc 0, (2, yc 1, yc 0)), (yc 2, yc 4, (0, (1, 0, 0), yc 0)), (yc 2, yc 2, (0, (1, 3, 0), yc 0)), (yc 2, yc 1, (0, (1, 4, 0), yc 0)), (yc 2, yc 3, (0, (1, 3, 0), yc 0))], [(0, (2, yc 2, yc 0)), (1, (2, yc 1006, yc 0)), (2, (0, (1, 1, 0), yc 0)), (3, (0, yc 0, yc 0)), (4, (0, (1, 2, 0), yc 0)), (5, (0, yc 2, yc 0))], []), ([], 5))
def yq608_4 : yCu := (55, (5, [(0, 0, 2147483647), (1, 0, 400), (2, (-1), 400), (3, 0, 400), (4, 0, 400)], [([(1, 1), ((-1), 2)], 2), ([(1, 1), ((-1), 2)], 1), ([(1, 1), ((-1), 2)], 0)], [(yc 2, yc 0, (2, yc 1, yc 0)), (yc 2, yc 4, (0, (1, 0, 0), yc 0)), (yc 2, yc 2, (0, (1, 3, 0), yc 0)), (yc 2, yc 1, (0, (1, 4, 0), yc 0)), (yc 2, yc 3, (0, (1, 3, 0), yc 0))], [(0, (2, yc 2, yc 0)), (1, (2, yc 1006, yc 0)), (2, (0, (1, 1, 0), yc 0)), (3, (0, yc 0, yc 0)), (4, (0, (1, 2, 0), yc 0)), (5, (0, yc 3, yc 0))], []), ([], 4))
def yq608_5 : yCu := (55, (4, [(0, 0, 2147483647), (1, 0, 400), (2, 0, 400), (3, 0, 400)], [], [(yc 2, yc 0, (2, yc 1, yc 0)), (yc 2, yc 4, (0, (1, 0, 0), yc 0)), (yc 2, yc 2, (0, (1, 2, 0), yc 0)), (yc 2, yc 1, (0, (1, 3, 0), yc 0)), (yc 2, yc 3, (0, (1, 2, 0), yc 0))], [(0, (2, yc 2, yc 0)), (1, (2, yc 1006, yc 0)), (2, (0, (1, 1, 0), yc 0)), (3, (0, yc 1, yc 0)), (4, (0, (1, 2, 0), yc 0)), (5, (0, yc 4, yc 0))], []), ([], 3))
def yq608_6 : yCu := (55, (5, [(0, 0, 2147483647), (1, 0, 400), (2, (-1), 400), (3, 0, 400), (4, 0, 400)], [([(1, 1), ((-1), 2)], 0)], [(yc 2, yc 0, (2, yc 1, yc 0)), (yc 2, yc 4, (0, (1, 0, 0), yc 0)), (yc 2, yc 2, (0, (1, 3, 0), yc 0)), (yc 2, yc 1, (0, (1, 4, 0), yc 0)), (yc 2, yc 3, (0, (1, 3, 0), yc 0))], [(0, (2, yc 2, yc 0)), (1, (2, yc 1006, yc 0)), (2, (0, (1, 1, 0), yc 0)), (3, (0, yc 1, yc 0)), (4, (0, (1, 2, 0), yc 0)), (5, (0, yc 5, yc 0))], []), ([], 2))
def yq608_7 : yCu := (55, (5, [(0, 0, 2147483647), (1, 0, 400), (2, (-1), 400), (3, 0, 400), (4, 0, 400)], [([(1, 1), ((-1), 2)], 1), ([(1, 1), ((-1), 2)], 0)], [(yc 2, yc 0, (2, yc 1, yc 0)), (yc 2, yc 4, (0, (1, 0, 0), yc 0)), (yc 2, yc 2, (0, (1, 3, 0), yc 0)), (yc 2, yc 1, (0, (1, 4, 0), yc 0)), (yc 2, yc 3, (0, (1, 3, 0), yc 0))], [(0, (2, yc 2, yc 0)), (1, (2, yc 1006, yc 0)), (2, (0, (1, 1, 0), yc 0)), (3, (0, yc 1, yc 0)), (4, (0, (1, 2, 0), yc 0)), (5, (0, yc 6, yc 0))], []), ([], 1))
def yq608_8 : yCu := (55, (4, [(0, 0, 2147483647), (1, 0, 400), (2, 0, 400), (3, 0, 400)], [], [(yc 2, yc 0, (2, yc 1, yc 0)), (yc 2, yc 4, (0, (1, 0, 0), yc 0)), (yc 2, yc 2, (0, (1, 2, 0), yc 0)), (yc 2, yc 1, (0, (1, 3, 0), yc 0)), (yc 2, yc 3, (0, (1, 2, 0), yc 0))], [(0, (2, yc 2, yc 0)), (1, (2, yc 1006, yc 0)), (2, (0, (1, 1, 0), yc 0)), (3, (0, yc 2, yc 0)), (4, (0, (1, 2, 0), yc 0)), (5, (0, yc 7, yc 0))], []), ([], 0))
def yx608 : yCx := ([ys247, ys248, ys578, ys583, ys587, ys591, ys595, ys599, ys603, ys607], ys608.2.2.2.2, yFP, zm59.2.2.1, zm59.2.2.2.1, zc59, 1, ys608.2.2.2.1, [yq608_0, yq608_1, yq608_2, yq608_3, yq608_4, yq608_5, yq608_6, yq608_7, yq608_8], [])
theorem yw608 : ywf ys608.2.2.1 = true := by decide +kernel
theorem yk608_e : yver0 yx608 ys608.2.2.1 4000 = true := yver0Q_ok (by decide +kernel)
theorem yk608_0 : ycc yx608 4000 yq608_0 = true := yccQ_ok (by decide +kernel)
theorem yk608_1 : ycc yx608 4000 yq608_1 = true := yccQ_ok (by decide +kernel)
theorem yk608_2 : ycc yx608 4000 yq608_2 = true := yccQ_ok (by decide +kernel)
theorem yk608_3 : ycc yx608 4000 yq608_3 = true := yccQ_ok (by decide +kernel)
theorem yk608_4 : ycc yx608 4000 yq608_4 = true := yccQ_ok (by decide +kernel)
theorem yk608_5 : ycc yx608 4000 yq608_5 = true := yccQ_ok (by decide +kernel)
theorem yk608_6 : ycc yx608 4000 yq608_6 = true := yccQ_ok (by decide +kernel)
theorem yk608_7 : ycc yx608 4000 yq608_7 = true := yccQ_ok (by decide +kernel)
theorem yk608_8 : ycc yx608 4000 yq608_8 = true := yccQ_ok (by decide +kernel)
theorem yk608 : yver yx608 ys608.2.2.1 4000 = true := yver_join yk608_e (ycc_c yk608_0 (ycc_c yk608_1 (ycc_c yk608_2 (ycc_c yk608_3 (ycc_c yk608_4 (ycc_c yk608_5 (ycc_c yk608_6 (ycc_c yk608_7 (ycc_c yk608_8 (ycc_n))))))))))
theorem yt608 {E : zHp → Prop} (h : yEF E yFP) : yTs E 5 ys608 := yver_s (k := 59) (n := 4) (x := yx608) (P := ys608.2.2.1) (f := 4000) h (yal_c (yt247 h) (by decide) yw247 (yal_c (yt248 h) (by decide) yw248 (yal_c (yt578 h) (by decide) yw578 (yal_c (yt583 h) (by decide) yw583 (yal_c (yt587 h) (by decide) yw587 (yal_c (yt591 h) (by decide) yw591 (yal_c (yt595 h) (by decide) yw595 (yal_c (yt599 h) (by decide) yw599 (yal_c (yt603 h) (by decide) yw603 (yal_c (yt607 h) (by decide) yw607 (yal_n))))))))))) yg59 yk608
def ys609 : ySp := (26, 1, (1, [(0, (-2147483648), 2147483647)], [], [], [(0, (0, (1, 0, 0), yc 0))], []), [(2, [(1, (-2147483648), 11)], [], [], [], [(0, (1, 1, 0), yc 0)])], [])
def yx609 : yCx := ([], ys609.2.2.2.2, yFP, zm26.2.2.1, zm26.2.2.2.1, zc26, 1, ys609.2.2.2.1, [], [])
theorem yw609 : ywf ys609.2.2.1 = true := by decide +kernel
theorem yk609 : yver yx609 ys609.2.2.1 4000 = true := yverQ_ok (by decide +kernel)
theorem yt609 {E : zHp → Prop} (h : yEF E yFP) : yTs E 1 ys609 := yver_s (k := 26) (n := 0) (x := yx609) (P := ys609.2.2.1) (f := 4000) h (yal_n) yg26 yk609
def ys610 : ySp := (46, 2, (1, [(0, 0, 1)], [], [], [(0, (2, yc 6, yc 0)), (1, (0, (1, 0, 0), yc 0))], []), [(1, [], [], [], [], [])], [(6, 6, 1), (6, 6, 3), (6, 6, 6), (7, 7, 1000)])
def yx610 : yCx := ([ys609, ys304], ys610.2.2.2.2, yFP, zm46.2.2.1, zm46.2.2.2.1, zc46, 1, ys610.2.2.2.1, [(0, (2, [(0, 0, 1), (1, 0, 400)], [], [(yc 6, yc 3, (0, (1, 1, 0), yc 0))], [(0, (2, yc 6, yc 0)), (1, (0, (1, 0, 0), yc 0))], []), ([(1, 1)], 1))], [])
theorem yw610 : ywf ys610.2.2.1 = true := by decide +kernel
theorem yk610 : yver yx610 ys610.2.2.1 4000 = true := yverQ_ok (by decide +kernel)
theorem yt610 {E : zHp → Prop} (h : yEF E yFP) : yTs E 2 ys610 := yver_s (k := 46) (n := 1) (x := yx610) (P := ys610.2.2.1) (f := 4000) h (yal_c (yt609 h) (by decide) yw609 (yal_c (yt304 h) (by decide) yw304 (yal_n))) yg46 yk610
def ys611 : ySp := (45, 2, (1, [(0, 0, 1)], [], [], [(0, (2, yc 6, yc 0)), (1, (0, (1, 0, 0), yc 0))], []), [(1, [], [], [], [], [])], [(6, 6, 1), (6, 6, 3), (6, 6, 6), (7, 7, 1000), (8, 8, 1000)])
def yx611 : yCx := ([ys610, ys278], ys611.2.2.2.2, yFP, zm45.2.2.1, zm45.2.2.2.1, zc45, 1, ys611.2.2.2.1, [], [])
theorem yw611 : ywf ys611.2.2.1 = true := by decide +kernel
theorem yk611 : yver yx611 ys611.2.2.1 4000 = true := yverQ_ok (by decide +kernel)
theorem yt611 {E : zHp → Prop} (h : yEF E yFP) : yTs E 3 ys611 := yver_s (k := 45) (n := 2) (x := yx611) (P := ys611.2.2.1) (f := 4000) h (yal_c (yt610 h) (by decide) yw610 (yal_c (yt278 h) (by decide) yw278 (yal_n))) yg45 yk611
def ys612 : ySp := (46, 2, (1, [(0, 0, 3)], [], [], [(0, (2, yc 6, yc 0)), (1, (0, (1, 0, 0), yc 0))], []), [(1, [], [], [], [], [])], [(6, 6, 1), (6, 6, 3), (6, 6, 6), (7, 7, 1000)])
def yx612 : yCx := ([ys609, ys304], ys612.2.2.2.2, yFP, zm46.2.2.1, zm46.2.2.2.1, zc46, 1, ys612.2.2.2.1, [(0, (2, [(0, 0, 3), (1, 0, 400)], [], [(yc 6, yc 3, (0, (1, 1, 0), yc 0))], [(0, (2, yc 6, yc 0)), (1, (0, (1, 0, 0), yc 0))], []), ([(1, 1)], 1))], [])
theorem yw612 : ywf ys612.2.2.1 = true := by decide +kernel
theorem yk612 : yver yx612 ys612.2.2.1 4000 = true := yverQ_ok (by decide +kernel)
theorem yt612 {E : zHp → Prop} (h : yEF E yFP) : yTs E 2 ys612 := yver_s (k := 46) (n := 1) (x := yx612) (P := ys612.2.2.1) (f := 4000) h (yal_c (yt609 h) (by decide) yw609 (yal_c (yt304 h) (by decide) yw304 (yal_n))) yg46 yk612
def ys613 : ySp := (45, 2, (1, [(0, 0, 3)], [], [], [(0, (2, yc 6, yc 0)), (1, (0, (1, 0, 0), yc 0))], []), [(1, [], [], [], [], [])], [(6, 6, 1), (6, 6, 3), (6, 6, 6), (7, 7, 1000), (8, 8, 1000)])
def yx613 : yCx := ([ys612, ys299], ys613.2.2.2.2, yFP, zm45.2.2.1, zm45.2.2.2.1, zc45, 1, ys613.2.2.2.1, [], [])
theorem yw613 : ywf ys613.2.2.1 = true := by decide +kernel
theorem yk613 : yver yx613 ys613.2.2.1 4000 = true := yverQ_ok (by decide +kernel)
theorem yt613 {E : zHp → Prop} (h : yEF E yFP) : yTs E 3 ys613 := yver_s (k := 45) (n := 2) (x := yx613) (P := ys613.2.2.1) (f := 4000) h (yal_c (yt612 h) (by decide) yw612 (yal_c (yt299 h) (by decide) yw299 (yal_n))) yg45 yk613
def ys614 : ySp := (51, 1, (1, [(0, 0, 2147483647)], [], [(yc 2, yc 4, (0, (1, 0, 0), yc 0))], [(0, (2, yc 2, yc 0))], []), [(1, [(0, 1, 2147483647)], [], [(yc 2, yc 4, (0, (1, 0, 0), yc 0))], [], [(0, yc 0, yc 0)]), (1, [(0, 0, 0)], [], [(yc 2, yc 4, (0, yc 0, yc 0))], [], [(0, yc 1, yc 0)])], [])
def yx614 : yCx := ([], ys614.2.2.2.2, yFP, zm51.2.2.1, zm51.2.2.2.1, zc51, 1, ys614.2.2.2.1, [], [])
theorem yw614 : ywf ys614.2.2.1 = true := by decide +kernel
theorem yk614 : yver yx614 ys614.2.2.1 4000 = true := yverQ_ok (by decide +kernel)
theorem yt614 {E : zHp → Prop} (h : yEF E yFP) : yTs E 1 ys614 := yver_s (k := 51) (n := 0) (x := yx614) (P := ys614.2.2.1) (f := 4000) h (yal_n) yg51 yk614
def ys615 : ySp := (61, 2, (1, [(0, 0, 2147483647)], [], [(yc 2, yc 0, (2, yc 1, yc 0)), (yc 2, yc 4, (0, (1, 0, 0), yc 0))], [(0, (2, yc 2, yc 0))], []), [(3, [(0, 0, 0), (1, 0, 400), (2, 0, 400)], [([(1, 1), ((-1), 2)], 0)], [(yc 2, yc 0, (2, yc 1, yc 0)), (yc 2, yc 4, (0, yc 0, yc 0)), (yc 2, yc 2, (0, (1, 1, 0), yc 0)), (yc 2, yc 1, (0, (1, 2, 0), yc 0))], [], [(0, yc 0, yc 0)]), (4, [(1, 0, 400), (2, 0, 400), (3, 1, 2147483647)], [], [(yc 2, yc 0, (2, yc 1, yc 0)), (yc 2, yc 2, (0, (1, 1, 0), yc 0)), (yc 2, yc 1, (0, (1, 2, 0), yc 0)), (yc 2, yc 4, (0, (1, 3, 0), yc 0))], [], [(0, yc 0, yc 0)]), (3, [(0, 0, 0), (1, 1, 400), (2, 1, 400)], [([(1, 1), ((-1), 2)], 0)], [(yc 2, yc 0, (2, yc 1, yc 0)), (yc 2, yc 4, (0, yc 0, yc 0)), (yc 2, yc 1, (0, (1, 1, 0), yc 0)), (yc 2, yc 2, (0, (1, 2, 0), yc 0))], [], [(0, yc 1, yc 0)])], [(2, 2, 2), (2, 2, 4)])
def yx615 : yCx := ([ys614, ys273, ys247, ys277], ys615.2.2.2.2, yFP, zm61.2.2.1, zm61.2.2.2.1, zc61, 1, ys615.2.2.2.1, [], [])
theorem yw615 : ywf ys615.2.2.1 = true := by decide +kernel
theorem yk615 : yver yx615 ys615.2.2.1 4000 = true := yverQ_ok (by decide +kernel)
theorem yt615 {E : zHp → Prop} (h : yEF E yFP) : yTs E 2 ys615 := yver_s (k := 61) (n := 1) (x := yx615) (P := ys615.2.2.1) (f := 4000) h (yal_c (yt614 h) (by decide) yw614 (yal_c (yt273 h) (by decide) yw273 (yal_c (yt247 h) (by decide) yw247 (yal_c (yt277 h) (by decide) yw277 (yal_n))))) yg61 yk615
def ys616 : ySp := (44, 3, (2, [(0, 0, 63), (1, 0, 2147483647)], [], [(yc 2, yc 0, (2, yc 1, yc 0)), (yc 2, yc 4, (0, (1, 1, 0), yc 0))], [(0, (2, yc 6, yc 0)), (1, (2, yc 2, yc 0)), (2, (0, (1, 0, 0), yc 0))], []), [(5, [(2, 0, 2147483647), (3, 0, 400), (4, 0, 400)], [], [(yc 2, yc 0, (2, yc 1, yc 0)), (yc 2, yc 4, (0, (1, 2, 0), yc 0)), (yc 2, yc 1, (0, (1, 3, 0), yc 0)), (yc 2, yc 2, (0, (1, 4, 0), yc 0))], [], [])], [(2, 2, 2), (2, 2, 4), (6, 6, 1), (6, 6, 3), (6, 6, 6), (6, 6, 8), (7, 7, 1000)])
def yx616 : yCx := ([ys610, ys302, ys615], ys616.2.2.2.2, yFP, zm44.2.2.1, zm44.2.2.2.1, zc44, 2, ys616.2.2.2.1, [], [])
theorem yw616 : ywf ys616.2.2.1 = true := by decide +kernel
theorem yk616 : yver yx616 ys616.2.2.1 4000 = true := yverQ_ok (by decide +kernel)
theorem yt616 {E : zHp → Prop} (h : yEF E yFP) : yTs E 3 ys616 := yver_s (k := 44) (n := 2) (x := yx616) (P := ys616.2.2.1) (f := 4000) h (yal_c (yt610 h) (by decide) yw610 (yal_c (yt302 h) (by decide) yw302 (yal_c (yt615 h) (by decide) yw615 (yal_n)))) yg44 yk616
def ys617 : ySp := (43, 1, (0, [], [], [], [(0, (2, yc 6, yc 0))], []), [(0, [], [], [], [], [])], [(6, 6, 1), (6, 6, 3), (6, 6, 6), (6, 6, 7), (6, 6, 9), (7, 7, 1000)])
def yx617 : yCx := ([ys610], ys617.2.2.2.2, yFP, zm43.2.2.1, zm43.2.2.2.1, zc43, 0, ys617.2.2.2.1, [], [])
theorem yw617 : ywf ys617.2.2.1 = true := by decide +kernel
theorem yk617 : yver yx617 ys617.2.2.1 4000 = true := yverQ_ok (by decide +kernel)
theorem yt617 {E : zHp → Prop} (h : yEF E yFP) : yTs E 3 ys617 := yver_s (k := 43) (n := 2) (x := yx617) (P := ys617.2.2.1) (f := 4000) h (yal_c (yt610 h) (by decide) yw610 (yal_n)) yg43 yk617
def ys618 : ySp := (42, 3, (1, [(0, 0, 2147483647)], [], [(yc 2, yc 0, (2, yc 1, yc 0)), (yc 2, yc 4, (0, (1, 0, 0), yc 0))], [(0, (2, yc 6, yc 0)), (1, (2, yc 2, yc 0))], []), [(4, [(1, 0, 2147483647), (2, 0, 400), (3, 0, 400)], [], [(yc 2, yc 0, (2, yc 1, yc 0)), (yc 2, yc 4, (0, (1, 1, 0), yc 0)), (yc 2, yc 1, (0, (1, 2, 0), yc 0)), (yc 2, yc 2, (0, (1, 3, 0), yc 0))], [], [])], [(2, 2, 2), (2, 2, 3), (2, 2, 4), (6, 6, 1), (6, 6, 3), (6, 6, 6), (6, 6, 7), (6, 6, 8), (6, 6, 9), (7, 7, 1000), (8, 8, 1000)])
def yx618 : yCx := ([ys617, ys616, ys611, ys613, ys273, ys247, ys277, ys608], ys618.2.2.2.2, yFP, zm42.2.2.1, zm42.2.2.2.1, zc42, 1, ys618.2.2.2.1, [], [])
theorem yw618 : ywf ys618.2.2.1 = true := by decide +kernel
theorem yk618 : yver yx618 ys618.2.2.1 4000 = true := yverQ_ok (by decide +kernel)
theorem yt618 {E : zHp → Prop} (h : yEF E yFP) : yTs E 6 ys618 := yver_s (k := 42) (n := 5) (x := yx618) (P := ys618.2.2.1) (f := 4000) h (yal_c (yt617 h) (by decide) yw617 (yal_c (yt616 h) (by decide) yw616 (yal_c (yt611 h) (by decide) yw611 (yal_c (yt613 h) (by decide) yw613 (yal_c (yt273 h) (by decide) yw273 (yal_c (yt247 h) (by decide) yw247 (yal_c (yt277 h) (by decide) yw277 (yal_c (yt608 h) (by decide) yw608 (yal_n))))))))) yg42 yk618
def ys619 : ySp := (39, 1, (1, [(0, 0, 255)], [], [], [(0, (0, (1, 0, 0), yc 0))], []), [(1, [], [], [], [], [(0, yc (-1), yc 0)]), (2, [(0, 37, 47), (1, 9, 13)], [], [], [], [(0, (1, 1, 0), yc 0)])], [])
def yx619 : yCx := ([], ys619.2.2.2.2, yFP, zm39.2.2.1, zm39.2.2.2.1, zc39, 1, ys619.2.2.2.1, [], [])
theorem yw619 : ywf ys619.2.2.1 = true := by decide +kernel
theorem yk619 : yver yx619 ys619.2.2.1 4000 = true := yverQ_ok (by decide +kernel)
theorem yt619 {E : zHp → Prop} (h : yEF E yFP) : yTs E 1 ys619 := yver_s (k := 39) (n := 0) (x := yx619) (P := ys619.2.2.1) (f := 4000) h (yal_n) yg39 yk619
def ys620 : ySp := (46, 2, (1, [(0, 0, 63)], [], [], [(0, (2, yc 6, yc 0)), (1, (0, (1, 0, 0), yc 0))], []), [(1, [], [], [], [], [])], [(6, 6, 1), (6, 6, 3), (6, 6, 6), (7, 7, 1000)])
def yx620 : yCx := ([ys609, ys304], ys620.2.2.2.2, yFP, zm46.2.2.1, zm46.2.2.2.1, zc46, 1, ys620.2.2.2.1, [(0, (2, [(0, 0, 63), (1, 0, 400)], [], [(yc 6, yc 3, (0, (1, 1, 0), yc 0))], [(0, (2, yc 6, yc 0)), (1, (0, (1, 0, 0), yc 0))], []), ([(1, 1)], 1))], [])
theorem yw620 : ywf ys620.2.2.1 = true := by decide +kernel
theorem yk620 : yver yx620 ys620.2.2.1 4000 = true := yverQ_ok (by decide +kernel)
theorem yt620 {E : zHp → Prop} (h : yEF E yFP) : yTs E 2 ys620 := yver_s (k := 46) (n := 1) (x := yx620) (P := ys620.2.2.1) (f := 4000) h (yal_c (yt609 h) (by decide) yw609 (yal_c (yt304 h) (by decide) yw304 (yal_n))) yg46 yk620
def ys621 : ySp := (47, 2, (1, [(0, 0, 63)], [], [], [(0, (2, yc 6, yc 0)), (1, (0, (1, 0, 0), yc 0))], []), [(1, [], [], [], [], [])], [(6, 6, 3), (8, 8, 1000)])
def yx621 : yCx := ([], ys621.2.2.2.2, yFP, zm47.2.2.1, zm47.2.2.2.1, zc47, 1, ys621.2.2.2.1, [], [])
theorem yw621 : ywf ys621.2.2.1 = true := by decide +kernel
theorem yk621 : yver yx621 ys621.2.2.1 4000 = true := yverQ_ok (by decide +kernel)
theorem yt621 {E : zHp → Prop} (h : yEF E yFP) : yTs E 1 ys621 := yver_s (k := 47) (n := 0) (x := yx621) (P := ys621.2.2.1) (f := 4000) h (yal_n) yg47 yk621
def ys622 : ySp := (45, 2, (1, [(0, 0, 63)], [], [], [(0, (2, yc 6, yc 0)), (1, (0, (1, 0, 0), yc 0))], []), [(1, [], [], [], [], [])], [(6, 6, 1), (6, 6, 3), (6, 6, 6), (7, 7, 1000), (8, 8, 1000)])
def yx622 : yCx := ([ys620, ys621], ys622.2.2.2.2, yFP, zm45.2.2.1, zm45.2.2.2.1, zc45, 1, ys622.2.2.2.1, [], [])
theorem yw622 : ywf ys622.2.2.1 = true := by decide +kernel
theorem yk622 : yver yx622 ys622.2.2.1 4000 = true := yverQ_ok (by decide +kernel)
theorem yt622 {E : zHp → Prop} (h : yEF E yFP) : yTs E 3 ys622 := yver_s (k := 45) (n := 2) (x := yx622) (P := ys622.2.2.1) (f := 4000) h (yal_c (yt620 h) (by decide) yw620 (yal_c (yt621 h) (by decide) yw621 (yal_n))) yg45 yk622
def ys623 : ySp := (283, 1, (0, [], [], [], [(0, (2, yc 1005, yc 0))], []), [(0, [], [], [], [], [(0, yc 0, yc 0)])], [])
def yx623 : yCx := ([], ys623.2.2.2.2, yFP, zm283.2.2.1, zm283.2.2.2.1, zc283, 0, ys623.2.2.2.1, [], [])
theorem yw623 : ywf ys623.2.2.1 = true := by decide +kernel
theorem yk623 : yver yx623 ys623.2.2.1 4000 = true := yverQ_ok (by decide +kernel)
theorem yt623 {E : zHp → Prop} (h : yEF E yFP) : yTs E 1 ys623 := yver_s (k := 283) (n := 0) (x := yx623) (P := ys623.2.2.1) (f := 4000) h (yal_n) yg283 yk623
def ys624 : ySp := (281, 1, (0, [], [], [], [(0, (2, yc 1005, yc 0))], []), [(0, [], [], [], [], [(0, yc 3, yc 0)])], [])
def yx624 : yCx := ([ys623], ys624.2.2.2.2, yFP, zm281.2.2.1, zm281.2.2.2.1, zc281, 0, ys624.2.2.2.1, [], [])
theorem yw624 : ywf ys624.2.2.1 = true := by decide +kernel
theorem yk624 : yver yx624 ys624.2.2.1 4000 = true := yverQ_ok (by decide +kernel)
theorem yt624 {E : zHp → Prop} (h : yEF E yFP) : yTs E 2 ys624 := yver_s (k := 281) (n := 1) (x := yx624) (P := ys624.2.2.1) (f := 4000) h (yal_c (yt623 h) (by decide) yw623 (yal_n)) yg281 yk624
def ys625 : ySp := (284, 1, (0, [], [], [], [(0, (2, yc 1005, yc 0))], []), [(0, [], [], [], [], [(0, yc 1, yc 0)])], [])
def yx625 : yCx := ([], ys625.2.2.2.2, yFP, zm284.2.2.1, zm284.2.2.2.1, zc284, 0, ys625.2.2.2.1, [], [])
theorem yw625 : ywf ys625.2.2.1 = true := by decide +kernel
theorem yk625 : yver yx625 ys625.2.2.1 4000 = true := yverQ_ok (by decide +kernel)
theorem yt625 {E : zHp → Prop} (h : yEF E yFP) : yTs E 1 ys625 := yver_s (k := 284) (n := 0) (x := yx625) (P := ys625.2.2.1) (f := 4000) h (yal_n) yg284 yk625
def ys626 : ySp := (293, 3, (0, [], [], [], [(0, (0, yc 0, yc 0)), (1, (0, yc 3, yc 0)), (2, (7, yc 0, yc 0))], []), [(0, [], [], [], [], [(0, yc 0, yc 0)])], [])
def yx626 : yCx := ([], ys626.2.2.2.2, yFP, zm293.2.2.1, zm293.2.2.2.1, zc293, 0, ys626.2.2.2.1, [], [])
theorem yw626 : ywf ys626.2.2.1 = true := by decide +kernel
theorem yk626 : yver yx626 ys626.2.2.1 4000 = true := yverQ_ok (by decide +kernel)
theorem yt626 {E : zHp → Prop} (h : yEF E yFP) : yTs E 1 ys626 := yver_s (k := 293) (n := 0) (x := yx626) (P := ys626.2.2.1) (f := 4000) h (yal_n) yg293 yk626
def ys627 : ySp := (285, 2, (0, [], [], [], [(0, (0, yc 0, yc 0)), (1, (0, yc 3, yc 0))], []), [(0, [], [], [], [], [])], [])
def yx627 : yCx := ([ys626], ys627.2.2.2.2, yFP, zm285.2.2.1, zm285.2.2.2.1, zc285, 0, ys627.2.2.2.1, [], [])
theorem yw627 : ywf ys627.2.2.1 = true := by decide +kernel
theorem yk627 : yver yx627 ys627.2.2.1 4000 = true := yverQ_ok (by decide +kernel)
theorem yt627 {E : zHp → Prop} (h : yEF E yFP) : yTs E 2 ys627 := yver_s (k := 285) (n := 1) (x := yx627) (P := ys627.2.2.1) (f := 4000) h (yal_c (yt626 h) (by decide) yw626 (yal_n)) yg285 yk627
def ys628 : ySp := (286, 2, (0, [], [], [], [(0, (2, yc 1024, yc 0)), (1, (0, yc 0, yc 0))], []), [(0, [], [], [], [], [(0, yc 105, yc 0)])], [])
def yx628 : yCx := ([ys627], ys628.2.2.2.2, yFP, zm286.2.2.1, zm286.2.2.2.1, zc286, 0, ys628.2.2.2.1, [], [])
theorem yw628 : ywf ys628.2.2.1 = true := by decide +kernel
theorem yk628 : yver yx628 ys628.2.2.1 4000 = true := yverQ_ok (by decide +kernel)
theorem yt628 {E : zHp → Prop} (h : yEF E yFP) : yTs E 3 ys628 := yver_s (k := 286) (n := 2) (x := yx628) (P := ys628.2.2.1) (f := 4000) h (yal_c (yt627 h) (by decide) yw627 (yal_n)) yg286 yk628
def ys629 : ySp := (282, 2, (0, [], [], [], [(0, (2, yc 1005, yc 0)), (1, (0, yc 0, yc 0))], []), [(0, [], [], [], [], [(0, yc 105, yc 0)])], [])
def yx629 : yCx := ([ys625, ys628], ys629.2.2.2.2, yFP, zm282.2.2.1, zm282.2.2.2.1, zc282, 0, ys629.2.2.2.1, [], [])
theorem yw629 : ywf ys629.2.2.1 = true := by decide +kernel
theorem yk629 : yver yx629 ys629.2.2.1 4000 = true := yverQ_ok (by decide +kernel)
theorem yt629 {E : zHp → Prop} (h : yEF E yFP) : yTs E 4 ys629 := yver_s (k := 282) (n := 3) (x := yx629) (P := ys629.2.2.1) (f := 4000) h (yal_c (yt625 h) (by decide) yw625 (yal_c (yt628 h) (by decide) yw628 (yal_n))) yg282 yk629
def ys630 : ySp := (293, 3, (0, [], [], [], [(0, (0, yc 1, yc 0)), (1, (0, yc 3, yc 0)), (2, (7, yc 0, yc 0))], []), [(0, [], [], [], [], [(0, yc 1, yc 0)])], [])
def yx630 : yCx := ([], ys630.2.2.2.2, yFP, zm293.2.2.1, zm293.2.2.2.1, zc293, 0, ys630.2.2.2.1, [], [])
theorem yw630 : ywf ys630.2.2.1 = true := by decide +kernel
theorem yk630 : yver yx630 ys630.2.2.1 4000 = true := yverQ_ok (by decide +kernel)
theorem yt630 {E : zHp → Prop} (h : yEF E yFP) : yTs E 1 ys630 := yver_s (k := 293) (n := 0) (x := yx630) (P := ys630.2.2.1) (f := 4000) h (yal_n) yg293 yk630
def ys631 : ySp := (285, 2, (0, [], [], [], [(0, (0, yc 1, yc 0)), (1, (0, yc 3, yc 0))], []), [(0, [], [], [], [], [])], [])
def yx631 : yCx := ([ys630], ys631.2.2.2.2, yFP, zm285.2.2.1, zm285.2.2.2.1, zc285, 0, ys631.2.2.2.1, [], [])
theorem yw631 : ywf ys631.2.2.1 = true := by decide +kernel
theorem yk631 : yver yx631 ys631.2.2.1 4000 = true := yverQ_ok (by decide +kernel)
theorem yt631 {E : zHp → Prop} (h : yEF E yFP) : yTs E 2 ys631 := yver_s (k := 285) (n := 1) (x := yx631) (P := ys631.2.2.1) (f := 4000) h (yal_c (yt630 h) (by decide) yw630 (yal_n)) yg285 yk631
def ys632 : ySp := (286, 2, (0, [], [], [], [(0, (2, yc 1024, yc 0)), (1, (0, yc 1, yc 0))], []), [(0, [], [], [], [], [(0, yc 102, yc 0)])], [])
def yx632 : yCx := ([ys631], ys632.2.2.2.2, yFP, zm286.2.2.1, zm286.2.2.2.1, zc286, 0, ys632.2.2.2.1, [], [])
theorem yw632 : ywf ys632.2.2.1 = true := by decide +kernel
theorem yk632 : yver yx632 ys632.2.2.1 4000 = true := yverQ_ok (by decide +kernel)
theorem yt632 {E : zHp → Prop} (h : yEF E yFP) : yTs E 3 ys632 := yver_s (k := 286) (n := 2) (x := yx632) (P := ys632.2.2.1) (f := 4000) h (yal_c (yt631 h) (by decide) yw631 (yal_n)) yg286 yk632
def ys633 : ySp := (282, 2, (0, [], [], [], [(0, (2, yc 1005, yc 0)), (1, (0, yc 1, yc 0))], []), [(0, [], [], [], [], [(0, yc 102, yc 0)])], [])
def yx633 : yCx := ([ys625, ys632], ys633.2.2.2.2, yFP, zm282.2.2.1, zm282.2.2.2.1, zc282, 0, ys633.2.2.2.1, [], [])
theorem yw633 : ywf ys633.2.2.1 = true := by decide +kernel
theorem yk633 : yver yx633 ys633.2.2.1 4000 = true := yverQ_ok (by decide +kernel)
theorem yt633 {E : zHp → Prop} (h : yEF E yFP) : yTs E 4 ys633 := yver_s (k := 282) (n := 3) (x := yx633) (P := ys633.2.2.1) (f := 4000) h (yal_c (yt625 h) (by decide) yw625 (yal_c (yt632 h) (by decide) yw632 (yal_n))) yg282 yk633
def ys634 : ySp := (293, 3, (0, [], [], [], [(0, (0, yc 2, yc 0)), (1, (0, yc 3, yc 0)), (2, (7, yc 0, yc 0))], []), [(0, [], [], [], [], [(0, yc 2, yc 0)])], [])
def yx634 : yCx := ([], ys634.2.2.2.2, yFP, zm293.2.2.1, zm293.2.2.2.1, zc293, 0, ys634.2.2.2.1, [], [])
theorem yw634 : ywf ys634.2.2.1 = true := by decide +kernel
theorem yk634 : yver yx634 ys634.2.2.1 4000 = true := yverQ_ok (by decide +kernel)
theorem yt634 {E : zHp → Prop} (h : yEF E yFP) : yTs E 1 ys634 := yver_s (k := 293) (n := 0) (x := yx634) (P := ys634.2.2.1) (f := 4000) h (yal_n) yg293 yk634
end
section
def ys635 : ySp := (285, 2, (0, [], [], [], [(0, (0, yc 2, yc 0)), (1, (0, yc 3, yc 0))], []), [(0, [], [], [], [], [])], [])
def yx635 : yCx := ([ys634], ys635.2.2.2.2, yFP, zm285.2.2.1, zm285.2.2.2.1, zc285, 0, ys635.2.2.2.1, [], [])
theorem yw635 : ywf ys635.2.2.1 = true := by decide +kernel
theorem yk635 : yver yx635 ys635.2.2.1 4000 = true := yverQ_ok (by decide +kernel)
theorem yt635 {E : zHp → Prop} (h : yEF E yFP) : yTs E 2 ys635 := yver_s (k := 285) (n := 1) (x := yx635) (P := ys635.2.2.1) (f := 4000) h (yal_c (yt634 h) (by decide) yw634 (yal_n)) yg285 yk635
def ys636 : ySp := (286, 2, (0, [], [], [], [(0, (2, yc 1024, yc 0)), (1, (0, yc 2, yc 0))], []), [(0, [], [], [], [], [(0, yc 32, yc 0)])], [])
def yx636 : yCx := ([ys635], ys636.2.2.2.2, yFP, zm286.2.2.1, zm286.2.2.2.1, zc286, 0, ys636.2.2.2.1, [], [])
theorem yw636 : ywf ys636.2.2.1 = true := by decide +kernel
theorem yk636 : yver yx636 ys636.2.2.1 4000 = true := yverQ_ok (by decide +kernel)
theorem yt636 {E : zHp → Prop} (h : yEF E yFP) : yTs E 3 ys636 := yver_s (k := 286) (n := 2) (x := yx636) (P := ys636.2.2.1) (f := 4000) h (yal_c (yt635 h) (by decide) yw635 (yal_n)) yg286 yk636
def ys637 : ySp := (282, 2, (0, [], [], [], [(0, (2, yc 1005, yc 0)), (1, (0, yc 2, yc 0))], []), [(0, [], [], [], [], [(0, yc 32, yc 0)])], [])
def yx637 : yCx := ([ys625, ys636], ys637.2.2.2.2, yFP, zm282.2.2.1, zm282.2.2.2.1, zc282, 0, ys637.2.2.2.1, [], [])
theorem yw637 : ywf ys637.2.2.1 = true := by decide +kernel
theorem yk637 : yver yx637 ys637.2.2.1 4000 = true := yverQ_ok (by decide +kernel)
theorem yt637 {E : zHp → Prop} (h : yEF E yFP) : yTs E 4 ys637 := yver_s (k := 282) (n := 3) (x := yx637) (P := ys637.2.2.1) (f := 4000) h (yal_c (yt625 h) (by decide) yw625 (yal_c (yt636 h) (by decide) yw636 (yal_n))) yg282 yk637
def ys638 : ySp := (59, 6, (1, [(0, 0, 2147483647)], [], [(yc 2, yc 0, (2, yc 1, yc 0)), (yc 2, yc 4, (0, (1, 0, 0), yc 0))], [(0, (2, yc 2, yc 0)), (1, (2, yc 1005, yc 0))], []), [(3, [(1, 0, 400), (2, 0, 400)], [], [(yc 2, yc 0, (2, yc 1, yc 0)), (yc 2, yc 4, (0, (1, 0, 0), yc 0)), (yc 2, yc 2, (0, (1, 1, 0), yc 0)), (yc 2, yc 1, (0, (1, 2, 0), yc 0))], [], [(0, yc (-1), yc 0)]), (3, [(1, 0, 400), (2, 0, 400)], [], [(yc 2, yc 0, (2, yc 1, yc 0)), (yc 2, yc 4, (0, (1, 0, 0), yc 0)), (yc 2, yc 1, (0, (1, 1, 0), yc 0)), (yc 2, yc 2, (0, (1, 2, 0), yc 0))], [], [(0, yc 0, yc 0)])], [(2, 2, 2), (2, 2, 3)])
def yx638 : yCx := ([ys247, ys248, ys624, ys629, ys633, ys637], ys638.2.2.2.2, yFP, zm59.2.2.1, zm59.2.2.2.1, zc59, 1, ys638.2.2.2.1, [(18, (4, [(0, 0, 2147483647), (1, 0, 400), (2, 0, 400), (3, 0, 400)], [], [(yc 2, yc 0, (2, yc 1, yc 0)), (yc 2, yc 4, (0, (1, 0, 0), yc 0)), (yc 2, yc 2, (0, (1, 2, 0), yc 0)), (yc 2, yc 1, (0, (1, 3, 0), yc 0)), (yc 2, yc 3, (0, (1, 2, 0), yc 0))], [(0, (2, yc 2, yc 0)), (1, (2, yc 1005, yc 0)), (2, (0, (1, 1, 0), yc 0))], []), ([((-1), 1)], 404)), (55, (4, [(0, 0, 2147483647), (1, 0, 400), (2, 0, 400), (3, 0, 400)], [], [(yc 2, yc 0, (2, yc 1, yc 0)), (yc 2, yc 4, (0, (1, 0, 0), yc 0)), (yc 2, yc 2, (0, (1, 2, 0), yc 0)), (yc 2, yc 1, (0, (1, 3, 0), yc 0)), (yc 2, yc 3, (0, (1, 2, 0), yc 0))], [(0, (2, yc 2, yc 0)), (1, (2, yc 1005, yc 0)), (2, (0, (1, 1, 0), yc 0)), (3, (0, yc 0, yc 0)), (4, (0, (1, 2, 0), yc 0)), (5, (0, yc 0, yc 0))], []), ([], 3)), (55, (5, [(0, 0, 2147483647), (1, 0, 400), (2, (-1), 400), (3, 0, 400), (4, 0, 400)], [([(1, 1), ((-1), 2)], 0)], [(yc 2, yc 0, (2, yc 1, yc 0)), (yc 2, yc 4, (0, (1, 0, 0), yc 0)), (yc 2, yc 2, (0, (1, 3, 0), yc 0)), (yc 2, yc 1, (0, (1, 4, 0), yc 0)), (yc 2, yc 3, (0, (1, 3, 0), yc 0))], [(0, (2, yc 2, yc 0)), (1, (2, yc 1005, yc 0)), (2, (0, (1, 1, 0), yc 0)), (3, (0, yc 0, yc 0)), (4, (0, (1, 2, 0), yc 0)), (5, (0, yc 1, yc 0))], []), ([], 2)), (55, (5, [(0, 0, 2147483647), (1, 0, 400), (2, (-1), 400), (3, 0, 400), (4, 0, 400)], [([(1, 1), ((-1), 2)], 1), ([(1, 1), ((-1), 2)], 0)], [(yc 2, yc 0, (2, yc 1, yc 0)), (yc 2, yc 4, (0, (1, 0, 0), yc 0)), (yc 2, yc 2, (0, (1, 3, 0), yc 0)), (yc 2, yc 1, (0, (1, 4, 0), yc 0)), (yc 2, yc 3, (0, (1, 3, 0), yc 0))], [(0, (2, yc 2, yc 0)), (1, (2, yc 1005, yc 0)), (2, (0, (1, 1, 0), yc 0)), (3, (0, yc 0, yc 0)), (4, (0, (1, 2, 0), yc 0)), (5, (0, yc 2, yc 0))], []), ([], 1)), (55, (4, [(0, 0, 2147483647), (1, 0, 400), (2, 0, 400), (3, 0, 400)], [], [(yc 2, yc 0, (2, yc 1, yc 0)), (yc 2, yc 4, (0, (1, 0, 0), yc 0)), (yc 2, yc 2, (0, (1, 2, 0), yc 0)), (yc 2, yc 1, (0, (1, 3, 0), yc 0)), (yc 2, yc 3, (0, (1, 2, 0), yc 0))], [(0, (2, yc 2, yc 0)), (1, (2, yc 1005, yc 0)), (2, (0, (1, 1, 0), yc 0)), (3, (0, yc 1, yc 0)), (4, (0, (1, 2, 0), yc 0)), (5, (0, yc 3, yc 0))], []), ([], 0))], [])
theorem yw638 : ywf ys638.2.2.1 = true := by decide +kernel
theorem yk638 : yver yx638 ys638.2.2.1 4000 = true := yverQ_ok (by decide +kernel)
theorem yt638 {E : zHp → Prop} (h : yEF E yFP) : yTs E 5 ys638 := yver_s (k := 59) (n := 4) (x := yx638) (P := ys638.2.2.1) (f := 4000) h (yal_c (yt247 h) (by decide) yw247 (yal_c (yt248 h) (by decide) yw248 (yal_c (yt624 h) (by decide) yw624 (yal_c (yt629 h) (by decide) yw629 (yal_c (yt633 h) (by decide) yw633 (yal_c (yt637 h) (by decide) yw637 (yal_n))))))) yg59 yk638
def ys639 : ySp := (40, 2, (1, [(0, 0, 2147483647)], [], [(yc 2, yc 0, (2, yc 1, yc 0)), (yc 2, yc 4, (0, (1, 0, 0), yc 0))], [(0, (2, yc 6, yc 0)), (1, (2, yc 2, yc 0))], []), [(4, [(1, 0, 2147483647), (2, 0, 400), (3, 0, 400)], [], [(yc 2, yc 0, (2, yc 1, yc 0)), (yc 2, yc 4, (0, (1, 1, 0), yc 0)), (yc 2, yc 1, (0, (1, 2, 0), yc 0)), (yc 2, yc 2, (0, (1, 3, 0), yc 0))], [], [])], [(2, 2, 2), (2, 2, 3), (2, 2, 4), (6, 6, 1), (6, 6, 3), (6, 6, 6), (6, 6, 8), (7, 7, 1000)])
def yx639 : yCx := ([ys616, ys610, ys638], ys639.2.2.2.2, yFP, zm40.2.2.1, zm40.2.2.2.1, zc40, 1, ys639.2.2.2.1, [], [])
theorem yw639 : ywf ys639.2.2.1 = true := by decide +kernel
theorem yk639 : yver yx639 ys639.2.2.1 4000 = true := yverQ_ok (by decide +kernel)
theorem yt639 {E : zHp → Prop} (h : yEF E yFP) : yTs E 6 ys639 := yver_s (k := 40) (n := 5) (x := yx639) (P := ys639.2.2.1) (f := 4000) h (yal_c (yt616 h) (by decide) yw616 (yal_c (yt610 h) (by decide) yw610 (yal_c (yt638 h) (by decide) yw638 (yal_n)))) yg40 yk639
def ys640 : ySp := (55, 2, (2, [(0, 0, 63), (1, 0, 2147483647)], [], [(yc 2, yc 0, (2, yc 1, yc 0)), (yc 2, yc 4, (0, (1, 1, 0), yc 0))], [(0, (2, yc 2, yc 0)), (1, (0, (1, 0, 0), yc 0))], []), [(4, [(2, 0, 400), (3, 0, 400)], [], [(yc 2, yc 0, (2, yc 1, yc 0)), (yc 2, yc 4, (0, (1, 1, 0), yc 0)), (yc 2, yc 2, (0, (1, 2, 0), yc 0)), (yc 2, yc 1, (0, (1, 3, 0), yc 0))], [], [(0, yc 0, yc 0)]), (4, [(2, 1, 400), (3, 1, 400)], [([(1, 2), ((-1), 3)], 0)], [(yc 2, yc 0, (2, yc 1, yc 0)), (yc 2, yc 4, (0, (1, 1, 0), yc 0)), (yc 2, yc 1, (0, (1, 2, 0), yc 0)), (yc 2, yc 2, (0, (1, 3, 0), yc 0))], [], [(0, yc 1, yc 0)])], [(2, 2, 2)])
def yx640 : yCx := ([], ys640.2.2.2.2, yFP, zm55.2.2.1, zm55.2.2.2.1, zc55, 2, ys640.2.2.2.1, [], [])
theorem yw640 : ywf ys640.2.2.1 = true := by decide +kernel
theorem yk640 : yver yx640 ys640.2.2.1 4000 = true := yverQ_ok (by decide +kernel)
theorem yt640 {E : zHp → Prop} (h : yEF E yFP) : yTs E 1 ys640 := yver_s (k := 55) (n := 0) (x := yx640) (P := ys640.2.2.1) (f := 4000) h (yal_n) yg55 yk640
def ys641 : ySp := (41, 4, (1, [(0, 0, 2147483647)], [], [(yc 2, yc 0, (2, yc 1, yc 0)), (yc 2, yc 4, (0, (1, 0, 0), yc 0))], [(0, (2, yc 6, yc 0)), (1, (2, yc 2, yc 0))], []), [(4, [(1, 0, 400), (2, 0, 400), (3, 0, 2147483647)], [], [(yc 2, yc 0, (2, yc 1, yc 0)), (yc 2, yc 2, (0, (1, 1, 0), yc 0)), (yc 2, yc 1, (0, (1, 2, 0), yc 0)), (yc 2, yc 4, (0, (1, 3, 0), yc 0))], [], [])], [(2, 2, 2), (2, 2, 4), (6, 6, 1), (6, 6, 3), (6, 6, 5), (6, 6, 6), (6, 6, 8), (6, 6, 9), (7, 7, 1000), (8, 8, 1000)])
def yx641 : yCx := ([ys303, ys622, ys273, ys247, ys277, ys640], ys641.2.2.2.2, yFP, zm41.2.2.1, zm41.2.2.2.1, zc41, 1, ys641.2.2.2.1, [], [])
theorem yw641 : ywf ys641.2.2.1 = true := by decide +kernel
theorem yk641 : yver yx641 ys641.2.2.1 4000 = true := yverQ_ok (by decide +kernel)
theorem yt641 {E : zHp → Prop} (h : yEF E yFP) : yTs E 4 ys641 := yver_s (k := 41) (n := 3) (x := yx641) (P := ys641.2.2.1) (f := 4000) h (yal_c (yt303 h) (by decide) yw303 (yal_c (yt622 h) (by decide) yw622 (yal_c (yt273 h) (by decide) yw273 (yal_c (yt247 h) (by decide) yw247 (yal_c (yt277 h) (by decide) yw277 (yal_c (yt640 h) (by decide) yw640 (yal_n))))))) yg41 yk641
def ys642 : ySp := (39, 1, (1, [(0, (-1), 5)], [], [], [(0, (0, (1, 0, 0), yc 0))], []), [(1, [], [], [], [], [(0, yc (-1), yc 0)])], [])
def yx642 : yCx := ([], ys642.2.2.2.2, yFP, zm39.2.2.1, zm39.2.2.2.1, zc39, 1, ys642.2.2.2.1, [], [])
theorem yw642 : ywf ys642.2.2.1 = true := by decide +kernel
theorem yk642 : yver yx642 ys642.2.2.1 4000 = true := yverQ_ok (by decide +kernel)
theorem yt642 {E : zHp → Prop} (h : yEF E yFP) : yTs E 1 ys642 := yver_s (k := 39) (n := 0) (x := yx642) (P := ys642.2.2.1) (f := 4000) h (yal_n) yg39 yk642
def ys643 : ySp := (38, 3, (1, [(0, 0, 2147483647)], [], [(yc 2, yc 0, (2, yc 1, yc 0)), (yc 2, yc 4, (0, (1, 0, 0), yc 0))], [(0, (2, yc 6, yc 0)), (1, (2, yc 2, yc 0))], []), [(4, [(1, 0, 2147483647), (2, 0, 400), (3, 0, 400)], [], [(yc 2, yc 0, (2, yc 1, yc 0)), (yc 2, yc 4, (0, (1, 1, 0), yc 0)), (yc 2, yc 1, (0, (1, 2, 0), yc 0)), (yc 2, yc 2, (0, (1, 3, 0), yc 0))], [], [])], [(2, 2, 2), (2, 2, 3), (2, 2, 4), (6, 6, 1), (6, 6, 3), (6, 6, 5), (6, 6, 6), (6, 6, 7), (6, 6, 8), (6, 6, 9), (7, 7, 1000), (8, 8, 1000)])
def yx643 : yCx := ([ys642, ys619, ys639, ys641, ys618, ys622, ys247, ys277], ys643.2.2.2.2, yFP, zm38.2.2.1, zm38.2.2.2.1, zc38, 1, ys643.2.2.2.1, [], [])
theorem yw643 : ywf ys643.2.2.1 = true := by decide +kernel
theorem yk643 : yver yx643 ys643.2.2.1 4000 = true := yverQ_ok (by decide +kernel)
theorem yt643 {E : zHp → Prop} (h : yEF E yFP) : yTs E 7 ys643 := yver_s (k := 38) (n := 6) (x := yx643) (P := ys643.2.2.1) (f := 4000) h (yal_c (yt642 h) (by decide) yw642 (yal_c (yt619 h) (by decide) yw619 (yal_c (yt639 h) (by decide) yw639 (yal_c (yt641 h) (by decide) yw641 (yal_c (yt618 h) (by decide) yw618 (yal_c (yt622 h) (by decide) yw622 (yal_c (yt247 h) (by decide) yw247 (yal_c (yt277 h) (by decide) yw277 (yal_n))))))))) yg38 yk643
def ys644 : ySp := (50, 3, (1, [(0, 0, 400)], [], [], [(0, (2, yc 2, yc 0)), (1, (2, yc 1, yc 0)), (2, (0, (1, 0, 0), yc 0))], []), [(2, [(1, 0, 400)], [], [(yc 2, yc 0, (2, yc 1, yc 0)), (yc 2, yc 1, (0, (1, 1, 0), yc 0)), (yc 2, yc 2, (0, yc 0, yc 0)), (yc 2, yc 4, (0, yc 0, yc 0))], [], [])], [(2, 2, 0), (2, 2, 1), (2, 2, 2), (2, 2, 4)])
def yx644 : yCx := ([], ys644.2.2.2.2, yFP, zm50.2.2.1, zm50.2.2.2.1, zc50, 1, ys644.2.2.2.1, [], [])
theorem yw644 : ywf ys644.2.2.1 = true := by decide +kernel
theorem yk644 : yver yx644 ys644.2.2.1 4000 = true := yverQ_ok (by decide +kernel)
theorem yt644 {E : zHp → Prop} (h : yEF E yFP) : yTs E 1 ys644 := yver_s (k := 50) (n := 0) (x := yx644) (P := ys644.2.2.1) (f := 4000) h (yal_n) yg50 yk644
def ys645 : ySp := (127, 1, (0, [], [], [], [(0, (2, yc 0, yc 0))], []), [(1, [(0, 0, 400)], [], [(yc 2, yc 0, (2, yc 1, yc 0)), (yc 2, yc 1, (0, (1, 0, 0), yc 0)), (yc 2, yc 2, (0, yc 0, yc 0)), (yc 2, yc 4, (0, yc 0, yc 0))], [], [])], [(0, 0, 1), (2, 2, 0), (2, 2, 1), (2, 2, 2), (2, 2, 4)])
def yx645 : yCx := ([ys644], ys645.2.2.2.2, yFP, zm127.2.2.1, zm127.2.2.2.1, zc127, 0, ys645.2.2.2.1, [], [])
theorem yw645 : ywf ys645.2.2.1 = true := by decide +kernel
theorem yk645 : yver yx645 ys645.2.2.1 4000 = true := yverQ_ok (by decide +kernel)
theorem yt645 {E : zHp → Prop} (h : yEF E yFP) : yTs E 2 ys645 := yver_s (k := 127) (n := 1) (x := yx645) (P := ys645.2.2.1) (f := 4000) h (yal_c (yt644 h) (by decide) yw644 (yal_n)) yg127 yk645
def ys648 : ySp := (68, 2, (0, [], [], [], [(0, (2, yc 9, yc 0)), (1, (2, yc 40, yc 0))], []), [(0, [], [], [], [], [])], [(40, 40, 1000)])
def yx648 : yCx := ([], ys648.2.2.2.2, yFP, zm68.2.2.1, zm68.2.2.2.1, zc68, 0, ys648.2.2.2.1, [], [])
theorem yw648 : ywf ys648.2.2.1 = true := by decide +kernel
theorem yk648 : yver yx648 ys648.2.2.1 4000 = true := yverQ_ok (by decide +kernel)
theorem yt648 {E : zHp → Prop} (h : yEF E yFP) : yTs E 1 ys648 := yver_s (k := 68) (n := 0) (x := yx648) (P := ys648.2.2.1) (f := 4000) h (yal_n) yg68 yk648
def ys649 : ySp := (81, 1, (0, [], [], [], [(0, (2, yc 9, yc 0))], []), [(1, [(0, (-2147483648), 2147483647)], [], [], [], [(0, (1, 0, 0), yc 0)])], [])
def yx649 : yCx := ([], ys649.2.2.2.2, yFP, zm81.2.2.1, zm81.2.2.2.1, zc81, 0, ys649.2.2.2.1, [], [])
theorem yw649 : ywf ys649.2.2.1 = true := by decide +kernel
theorem yk649 : yver yx649 ys649.2.2.1 4000 = true := yverQ_ok (by decide +kernel)
theorem yt649 {E : zHp → Prop} (h : yEF E yFP) : yTs E 1 ys649 := yver_s (k := 81) (n := 0) (x := yx649) (P := ys649.2.2.1) (f := 4000) h (yal_n) yg81 yk649
def ys650 : ySp := (68, 2, (0, [], [], [], [(0, (2, yc 9, yc 0)), (1, (2, yc 39, yc 0))], []), [(0, [], [], [], [], [])], [(39, 39, 1000)])
def yx650 : yCx := ([], ys650.2.2.2.2, yFP, zm68.2.2.1, zm68.2.2.2.1, zc68, 0, ys650.2.2.2.1, [], [])
theorem yw650 : ywf ys650.2.2.1 = true := by decide +kernel
theorem yk650 : yver yx650 ys650.2.2.1 4000 = true := yverQ_ok (by decide +kernel)
theorem yt650 {E : zHp → Prop} (h : yEF E yFP) : yTs E 1 ys650 := yver_s (k := 68) (n := 0) (x := yx650) (P := ys650.2.2.1) (f := 4000) h (yal_n) yg68 yk650
def ys651 : ySp := (68, 2, (0, [], [], [], [(0, (2, yc 9, yc 0)), (1, (2, yc 38, yc 0))], []), [(0, [], [], [], [], [])], [(38, 38, 1000)])
def yx651 : yCx := ([], ys651.2.2.2.2, yFP, zm68.2.2.1, zm68.2.2.2.1, zc68, 0, ys651.2.2.2.1, [], [])
theorem yw651 : ywf ys651.2.2.1 = true := by decide +kernel
theorem yk651 : yver yx651 ys651.2.2.1 4000 = true := yverQ_ok (by decide +kernel)
theorem yt651 {E : zHp → Prop} (h : yEF E yFP) : yTs E 1 ys651 := yver_s (k := 68) (n := 0) (x := yx651) (P := ys651.2.2.1) (f := 4000) h (yal_n) yg68 yk651
def ys652 : ySp := (68, 2, (0, [], [], [], [(0, (2, yc 9, yc 0)), (1, (2, yc 37, yc 0))], []), [(0, [], [], [], [], [])], [(37, 37, 1000)])
def yx652 : yCx := ([], ys652.2.2.2.2, yFP, zm68.2.2.1, zm68.2.2.2.1, zc68, 0, ys652.2.2.2.1, [], [])
theorem yw652 : ywf ys652.2.2.1 = true := by decide +kernel
theorem yk652 : yver yx652 ys652.2.2.1 4000 = true := yverQ_ok (by decide +kernel)
theorem yt652 {E : zHp → Prop} (h : yEF E yFP) : yTs E 1 ys652 := yver_s (k := 68) (n := 0) (x := yx652) (P := ys652.2.2.1) (f := 4000) h (yal_n) yg68 yk652
def ys654 : ySp := (14, 1, (0, [], [], [], [(0, (2, yc 14, yc 0))], []), [(1, [(0, 0, 20)], [], [], [], [(0, (1, 0, 0), yc 0)])], [])
def yx654 : yCx := ([], ys654.2.2.2.2, yFP, zm14.2.2.1, zm14.2.2.2.1, zc14, 0, ys654.2.2.2.1, [], [])
theorem yw654 : ywf ys654.2.2.1 = true := by decide +kernel
theorem yk654 : yver yx654 ys654.2.2.1 4000 = true := yverQ_ok (by decide +kernel)
theorem yt654 {E : zHp → Prop} (h : yEF E yFP) : yTs E 1 ys654 := yver_s (k := 14) (n := 0) (x := yx654) (P := ys654.2.2.1) (f := 4000) h (yal_n) yg14 yk654
def ys655 : ySp := (96, 3, (0, [], [], [], [(0, (2, yc 9, yc 0))], []), [(1, [(0, (-2147483648), 2147483647)], [], [], [], [(0, (1, 0, 0), yc 0)])], [])
def yx655 : yCx := ([], ys655.2.2.2.2, yFP, zm96.2.2.1, zm96.2.2.2.1, zc96, 0, ys655.2.2.2.1, [(5, (2, [(0, (-2147483648), 2147483647), (1, 78, 114)], [], [], [(0, (2, yc 9, yc 0)), (1, (0, (1, 0, 0), yc 0)), (2, (0, (1, 1, 0), yc 0))], []), ([((-1), 1)], 115))], [])
theorem yw655 : ywf ys655.2.2.1 = true := by decide +kernel
theorem yk655 : yver yx655 ys655.2.2.1 4000 = true := yverQ_ok (by decide +kernel)
theorem yt655 {E : zHp → Prop} (h : yEF E yFP) : yTs E 1 ys655 := yver_s (k := 96) (n := 0) (x := yx655) (P := ys655.2.2.1) (f := 4000) h (yal_n) yg96 yk655
def ys656 : ySp := (80, 1, (1, [(0, 0, 6)], [], [(yc 10, yc 3, (0, (1, 0, 0), yc 0))], [(0, (2, yc 9, yc 0))], []), [(1, [], [], [(yc 10, yc 3, (0, (1, 0, 0), yc 0))], [], [(0, (1, 0, 0), yc 0)])], [])
def yx656 : yCx := ([], ys656.2.2.2.2, yFP, zm80.2.2.1, zm80.2.2.2.1, zc80, 1, ys656.2.2.2.1, [], [])
theorem yw656 : ywf ys656.2.2.1 = true := by decide +kernel
theorem yk656 : yver yx656 ys656.2.2.1 4000 = true := yverQ_ok (by decide +kernel)
theorem yt656 {E : zHp → Prop} (h : yEF E yFP) : yTs E 1 ys656 := yver_s (k := 80) (n := 0) (x := yx656) (P := ys656.2.2.1) (f := 4000) h (yal_n) yg80 yk656
def ys659 : ySp := (89, 3, (1, [(0, 0, 5)], [], [], [(0, (2, yc 9, yc 0)), (1, (0, (1, 0, 0), yc 0)), (2, (0, yc 4, yc 0))], []), [(2, [(1, (-2147483648), 2147483647)], [], [], [], [(0, (1, 1, 0), yc 0)])], [])
def yx659 : yCx := ([], ys659.2.2.2.2, yFP, zm89.2.2.1, zm89.2.2.2.1, zc89, 1, ys659.2.2.2.1, [], [])
theorem yw659 : ywf ys659.2.2.1 = true := by decide +kernel
theorem yk659 : yver yx659 ys659.2.2.1 4000 = true := yverQ_ok (by decide +kernel)
theorem yt659 {E : zHp → Prop} (h : yEF E yFP) : yTs E 1 ys659 := yver_s (k := 89) (n := 0) (x := yx659) (P := ys659.2.2.1) (f := 4000) h (yal_n) yg89 yk659
def ys660 : ySp := (106, 2, (1, [(0, 0, 5)], [], [], [(0, (2, yc 9, yc 0)), (1, (0, (1, 0, 0), yc 0))], []), [(1, [], [], [], [], [(0, yc 0, yc 0)]), (1, [], [], [], [], [(0, yc 1, yc 0)])], [])
def yx660 : yCx := ([ys659], ys660.2.2.2.2, yFP, zm106.2.2.1, zm106.2.2.2.1, zc106, 1, ys660.2.2.2.1, [], [])
theorem yw660 : ywf ys660.2.2.1 = true := by decide +kernel
theorem yk660 : yver yx660 ys660.2.2.1 4000 = true := yverQ_ok (by decide +kernel)
theorem yt660 {E : zHp → Prop} (h : yEF E yFP) : yTs E 2 ys660 := yver_s (k := 106) (n := 1) (x := yx660) (P := ys660.2.2.1) (f := 4000) h (yal_c (yt659 h) (by decide) yw659 (yal_n)) yg106 yk660
def ys661 : ySp := (110, 3, (0, [], [], [], [(0, (2, yc 9, yc 0))], []), [(1, [(0, (-2147483648), 2147483647)], [], [], [], [(0, (1, 0, 0), yc 0)])], [])
def yx661 : yCx := ([ys656, ys660], ys661.2.2.2.2, yFP, zm110.2.2.1, zm110.2.2.2.1, zc110, 0, ys661.2.2.2.1, [(4, (2, [(0, (-2147483648), 2147483647), (1, 0, 6)], [], [], [(0, (2, yc 9, yc 0)), (1, (0, (1, 0, 0), yc 0)), (2, (0, (1, 1, 0), yc 0))], []), ([((-1), 1)], 7))], [])
theorem yw661 : ywf ys661.2.2.1 = true := by decide +kernel
theorem yk661 : yver yx661 ys661.2.2.1 4000 = true := yverQ_ok (by decide +kernel)
theorem yt661 {E : zHp → Prop} (h : yEF E yFP) : yTs E 3 ys661 := yver_s (k := 110) (n := 2) (x := yx661) (P := ys661.2.2.1) (f := 4000) h (yal_c (yt656 h) (by decide) yw656 (yal_c (yt660 h) (by decide) yw660 (yal_n))) yg110 yk661
def ys662 : ySp := (82, 1, (0, [], [], [], [(0, (2, yc 9, yc 0))], []), [(1, [(0, (-2147483648), 2147483647)], [], [], [], [(0, (1, 0, 0), yc 0)])], [])
def yx662 : yCx := ([], ys662.2.2.2.2, yFP, zm82.2.2.1, zm82.2.2.2.1, zc82, 0, ys662.2.2.2.1, [], [])
theorem yw662 : ywf ys662.2.2.1 = true := by decide +kernel
theorem yk662 : yver yx662 ys662.2.2.1 4000 = true := yverQ_ok (by decide +kernel)
theorem yt662 {E : zHp → Prop} (h : yEF E yFP) : yTs E 1 ys662 := yver_s (k := 82) (n := 0) (x := yx662) (P := ys662.2.2.1) (f := 4000) h (yal_n) yg82 yk662
def ys663 : ySp := (79, 1, (1, [(0, 0, 6)], [], [(yc 10, yc 2, (0, (1, 0, 0), yc 0))], [(0, (2, yc 9, yc 0))], []), [(1, [], [], [(yc 10, yc 2, (0, (1, 0, 0), yc 0))], [], [(0, (1, 0, 0), yc 0)])], [])
def yx663 : yCx := ([], ys663.2.2.2.2, yFP, zm79.2.2.1, zm79.2.2.2.1, zc79, 1, ys663.2.2.2.1, [], [])
theorem yw663 : ywf ys663.2.2.1 = true := by decide +kernel
theorem yk663 : yver yx663 ys663.2.2.1 4000 = true := yverQ_ok (by decide +kernel)
theorem yt663 {E : zHp → Prop} (h : yEF E yFP) : yTs E 1 ys663 := yver_s (k := 79) (n := 0) (x := yx663) (P := ys663.2.2.1) (f := 4000) h (yal_n) yg79 yk663
def ys664 : ySp := (78, 1, (0, [], [], [], [(0, (2, yc 9, yc 0))], []), [(1, [(0, (-2147483648), 2147483647)], [], [], [], [(0, (1, 0, 0), yc 0)])], [])
def yx664 : yCx := ([], ys664.2.2.2.2, yFP, zm78.2.2.1, zm78.2.2.2.1, zc78, 0, ys664.2.2.2.1, [], [])
theorem yw664 : ywf ys664.2.2.1 = true := by decide +kernel
theorem yk664 : yver yx664 ys664.2.2.1 4000 = true := yverQ_ok (by decide +kernel)
theorem yt664 {E : zHp → Prop} (h : yEF E yFP) : yTs E 1 ys664 := yver_s (k := 78) (n := 0) (x := yx664) (P := ys664.2.2.1) (f := 4000) h (yal_n) yg78 yk664
def ys665 : ySp := (77, 1, (1, [(0, 0, 6)], [], [(yc 10, yc 0, (0, (1, 0, 0), yc 0))], [(0, (2, yc 9, yc 0))], []), [(1, [], [], [(yc 10, yc 0, (0, (1, 0, 0), yc 0))], [], [(0, (1, 0, 0), yc 0)])], [])
def yx665 : yCx := ([], ys665.2.2.2.2, yFP, zm77.2.2.1, zm77.2.2.2.1, zc77, 1, ys665.2.2.2.1, [], [])
theorem yw665 : ywf ys665.2.2.1 = true := by decide +kernel
theorem yk665 : yver yx665 ys665.2.2.1 4000 = true := yverQ_ok (by decide +kernel)
theorem yt665 {E : zHp → Prop} (h : yEF E yFP) : yTs E 1 ys665 := yver_s (k := 77) (n := 0) (x := yx665) (P := ys665.2.2.1) (f := 4000) h (yal_n) yg77 yk665
def ys666 : ySp := (154, 2, (1, [(0, (-2147483648), 2147483647)], [], [], [(0, (2, yc 0, yc 0)), (1, (0, (1, 0, 0), yc 0))], []), [(1, [], [], [], [], [(0, yc (-1), yc 0)]), (2, [(0, 0, 11), (1, (-2147483648), 2147483647)], [], [], [], [(0, (1, 1, 0), yc 0)])], [])
def yx666 : yCx := ([ys654, ys665, ys664, ys663, ys656, ys649, ys662, ys655, ys661], ys666.2.2.2.2, yFP, zm154.2.2.1, zm154.2.2.2.1, zc154, 1, ys666.2.2.2.1, [], [])
theorem yw666 : ywf ys666.2.2.1 = true := by decide +kernel
theorem yk666 : yver yx666 ys666.2.2.1 4000 = true := yverQ_ok (by decide +kernel)
theorem yt666 {E : zHp → Prop} (h : yEF E yFP) : yTs E 4 ys666 := yver_s (k := 154) (n := 3) (x := yx666) (P := ys666.2.2.1) (f := 4000) h (yal_c (yt654 h) (by decide) yw654 (yal_c (yt665 h) (by decide) yw665 (yal_c (yt664 h) (by decide) yw664 (yal_c (yt663 h) (by decide) yw663 (yal_c (yt656 h) (by decide) yw656 (yal_c (yt649 h) (by decide) yw649 (yal_c (yt662 h) (by decide) yw662 (yal_c (yt655 h) (by decide) yw655 (yal_c (yt661 h) (by decide) yw661 (yal_n)))))))))) yg154 yk666
def ys668 : ySp := (215, 2, (1, [(0, 0, 5)], [], [], [(0, (2, yc 70, yc 0)), (1, (0, (1, 0, 0), yc 0))], []), [(1, [], [], [], [], [(0, yc 0, yc 0)]), (1, [], [], [], [], [(0, yc 1, yc 0)])], [])
def yx668 : yCx := ([], ys668.2.2.2.2, yFP, zm215.2.2.1, zm215.2.2.2.1, zc215, 1, ys668.2.2.2.1, [], [])
theorem yw668 : ywf ys668.2.2.1 = true := by decide +kernel
theorem yk668 : yver yx668 ys668.2.2.1 4000 = true := yverQ_ok (by decide +kernel)
theorem yt668 {E : zHp → Prop} (h : yEF E yFP) : yTs E 1 ys668 := yver_s (k := 215) (n := 0) (x := yx668) (P := ys668.2.2.1) (f := 4000) h (yal_n) yg215 yk668
def ys669 : ySp := (277, 4, (1, [(0, 0, 63)], [], [], [(0, (2, yc 70, yc 0)), (1, (0, (1, 0, 0), yc 0))], []), [(1, [(0, 12, 63)], [], [], [], [(0, yc (-1), yc 0)]), (3, [(0, 0, 11), (1, (-2147483648), 2147483647), (2, 0, 400)], [], [(yc 70, yc 1, (0, (1, 2, 0), yc 0))], [], [(0, (1, 1, 0), yc 0)])], [])
def yx669 : yCx := ([ys668], ys669.2.2.2.2, yFP, zm277.2.2.1, zm277.2.2.2.1, zc277, 1, ys669.2.2.2.1, [(130, (3, [(0, 8, 8), (1, (-2147483648), 2147483647), (2, 0, 40)], [], [], [(0, (2, yc 70, yc 0)), (1, (0, yc 8, yc 0)), (2, (0, (1, 1, 0), yc 0)), (3, (0, (1, 2, 0), yc 0))], []), ([((-1), 2)], 41)), (92, (3, [(0, 7, 7), (1, (-2147483648), 2147483647), (2, 0, 6)], [], [], [(0, (2, yc 70, yc 0)), (1, (0, yc 7, yc 0)), (2, (0, (1, 1, 0), yc 0)), (3, (0, (1, 2, 0), yc 0))], []), ([((-1), 2)], 48))], [])
theorem yw669 : ywf ys669.2.2.1 = true := by decide +kernel
theorem yk669 : yver yx669 ys669.2.2.1 4000 = true := yverQ_ok (by decide +kernel)
theorem yt669 {E : zHp → Prop} (h : yEF E yFP) : yTs E 2 ys669 := yver_s (k := 277) (n := 1) (x := yx669) (P := ys669.2.2.1) (f := 4000) h (yal_c (yt668 h) (by decide) yw668 (yal_n)) yg277 yk669
def ys670 : ySp := (277, 4, (1, [(0, (-2147483648), 2147483647)], [], [], [(0, (2, yc 70, yc 0)), (1, (0, (1, 0, 0), yc 0))], []), [(1, [], [], [], [], [(0, yc (-1), yc 0)]), (3, [(0, 0, 11), (1, (-2147483648), 2147483647), (2, 0, 400)], [], [(yc 70, yc 1, (0, (1, 2, 0), yc 0))], [], [(0, (1, 1, 0), yc 0)])], [])
def yx670 : yCx := ([ys668], ys670.2.2.2.2, yFP, zm277.2.2.1, zm277.2.2.2.1, zc277, 1, ys670.2.2.2.1, [(130, (3, [(0, 8, 8), (1, (-2147483648), 2147483647), (2, 0, 40)], [], [], [(0, (2, yc 70, yc 0)), (1, (0, yc 8, yc 0)), (2, (0, (1, 1, 0), yc 0)), (3, (0, (1, 2, 0), yc 0))], []), ([((-1), 2)], 41)), (92, (3, [(0, 7, 7), (1, (-2147483648), 2147483647), (2, 0, 6)], [], [], [(0, (2, yc 70, yc 0)), (1, (0, yc 7, yc 0)), (2, (0, (1, 1, 0), yc 0)), (3, (0, (1, 2, 0), yc 0))], []), ([((-1), 2)], 48))], [])
theorem yw670 : ywf ys670.2.2.1 = true := by decide +kernel
theorem yk670 : yver yx670 ys670.2.2.1 4000 = true := yverQ_ok (by decide +kernel)
theorem yt670 {E : zHp → Prop} (h : yEF E yFP) : yTs E 2 ys670 := yver_s (k := 277) (n := 1) (x := yx670) (P := ys670.2.2.1) (f := 4000) h (yal_c (yt668 h) (by decide) yw668 (yal_n)) yg277 yk670
def ys671 : ySp := (76, 1, (0, [], [], [], [(0, (2, yc 9, yc 0))], []), [(0, [], [], [], [], [(0, yc 0, yc 0)]), (0, [], [], [], [], [(0, yc 1, yc 0)])], [])
def yx671 : yCx := ([ys665], ys671.2.2.2.2, yFP, zm76.2.2.1, zm76.2.2.2.1, zc76, 0, ys671.2.2.2.1, [], [])
theorem yw671 : ywf ys671.2.2.1 = true := by decide +kernel
theorem yk671 : yver yx671 ys671.2.2.1 4000 = true := yverQ_ok (by decide +kernel)
theorem yt671 {E : zHp → Prop} (h : yEF E yFP) : yTs E 2 ys671 := yver_s (k := 76) (n := 1) (x := yx671) (P := ys671.2.2.1) (f := 4000) h (yal_c (yt665 h) (by decide) yw665 (yal_n)) yg76 yk671
def ys672 : ySp := (70, 2, (0, [], [], [], [(0, (2, yc 11, yc 0)), (1, (2, yc 9, yc 0))], []), [(0, [], [], [], [], [])], [(12, 12, 1000)])
def yx672 : yCx := ([], ys672.2.2.2.2, yFP, zm70.2.2.1, zm70.2.2.2.1, zc70, 0, ys672.2.2.2.1, [], [])
theorem yw672 : ywf ys672.2.2.1 = true := by decide +kernel
theorem yk672 : yver yx672 ys672.2.2.1 4000 = true := yverQ_ok (by decide +kernel)
theorem yt672 {E : zHp → Prop} (h : yEF E yFP) : yTs E 1 ys672 := yver_s (k := 70) (n := 0) (x := yx672) (P := ys672.2.2.1) (f := 4000) h (yal_n) yg70 yk672
def ys673 : ySp := (79, 1, (1, [(0, 0, 6)], [], [(yc 12, yc 2, (0, (1, 0, 0), yc 0))], [(0, (2, yc 11, yc 0))], []), [(1, [], [], [(yc 12, yc 2, (0, (1, 0, 0), yc 0))], [], [(0, (1, 0, 0), yc 0)])], [])
def yx673 : yCx := ([], ys673.2.2.2.2, yFP, zm79.2.2.1, zm79.2.2.2.1, zc79, 1, ys673.2.2.2.1, [], [])
theorem yw673 : ywf ys673.2.2.1 = true := by decide +kernel
theorem yk673 : yver yx673 ys673.2.2.1 4000 = true := yverQ_ok (by decide +kernel)
theorem yt673 {E : zHp → Prop} (h : yEF E yFP) : yTs E 1 ys673 := yver_s (k := 79) (n := 0) (x := yx673) (P := ys673.2.2.1) (f := 4000) h (yal_n) yg79 yk673
def ys674 : ySp := (11, 1, (0, [], [], [], [(0, (2, yc 43, yc 0))], []), [(1, [(0, 0, 2147483647)], [], [], [], [(0, (1, 0, 0), yc 0)])], [(43, 43, 0)])
def yx674 : yCx := ([], ys674.2.2.2.2, yFP, zm11.2.2.1, zm11.2.2.2.1, zc11, 0, ys674.2.2.2.1, [], [])
theorem yw674 : ywf ys674.2.2.1 = true := by decide +kernel
theorem yk674 : yver yx674 ys674.2.2.1 4000 = true := yverQ_ok (by decide +kernel)
theorem yt674 {E : zHp → Prop} (h : yEF E yFP) : yTs E 1 ys674 := yver_s (k := 11) (n := 0) (x := yx674) (P := ys674.2.2.1) (f := 4000) h (yal_n) yg11 yk674
def ys675 : ySp := (77, 1, (0, [], [], [(yc 12, yc 0, (0, yc 6, yc 0))], [(0, (2, yc 11, yc 0))], []), [(0, [], [], [(yc 12, yc 0, (0, yc 6, yc 0))], [], [(0, yc 6, yc 0)])], [])
def yx675 : yCx := ([], ys675.2.2.2.2, yFP, zm77.2.2.1, zm77.2.2.2.1, zc77, 0, ys675.2.2.2.1, [], [])
theorem yw675 : ywf ys675.2.2.1 = true := by decide +kernel
theorem yk675 : yver yx675 ys675.2.2.1 4000 = true := yverQ_ok (by decide +kernel)
theorem yt675 {E : zHp → Prop} (h : yEF E yFP) : yTs E 1 ys675 := yver_s (k := 77) (n := 0) (x := yx675) (P := ys675.2.2.1) (f := 4000) h (yal_n) yg77 yk675
def ys684 : ySp := (91, 2, (1, [(0, 0, 5)], [], [], [(0, (2, yc 11, yc 0)), (1, (0, (1, 0, 0), yc 0))], []), [(2, [(1, 0, 63)], [], [], [], [(0, (1, 1, 0), yc 0)])], [])
def yx684 : yCx := ([], ys684.2.2.2.2, yFP, zm91.2.2.1, zm91.2.2.2.1, zc91, 1, ys684.2.2.2.1, [], [])
theorem yw684 : ywf ys684.2.2.1 = true := by decide +kernel
theorem yk684 : yver yx684 ys684.2.2.1 4000 = true := yverQ_ok (by decide +kernel)
theorem yt684 {E : zHp → Prop} (h : yEF E yFP) : yTs E 1 ys684 := yver_s (k := 91) (n := 0) (x := yx684) (P := ys684.2.2.1) (f := 4000) h (yal_n) yg91 yk684
def ys685 : ySp := (92, 3, (2, [(0, 0, 5), (1, 0, 5)], [], [], [(0, (2, yc 11, yc 0)), (1, (0, (1, 0, 0), yc 0)), (2, (0, (1, 1, 0), yc 0))], []), [(2, [], [], [], [], [(0, yc 0, yc 0)]), (2, [], [], [], [], [(0, yc 1, yc 0)])], [])
def yx685 : yCx := ([ys684], ys685.2.2.2.2, yFP, zm92.2.2.1, zm92.2.2.2.1, zc92, 2, ys685.2.2.2.1, [], [])
theorem yw685 : ywf ys685.2.2.1 = true := by decide +kernel
theorem yk685 : yver yx685 ys685.2.2.1 4000 = true := yverQ_ok (by decide +kernel)
theorem yt685 {E : zHp → Prop} (h : yEF E yFP) : yTs E 2 ys685 := yver_s (k := 92) (n := 1) (x := yx685) (P := ys685.2.2.1) (f := 4000) h (yal_c (yt684 h) (by decide) yw684 (yal_n)) yg92 yk685
def ys687 : ySp := (94, 3, (2, [(0, 0, 5), (1, 0, 5)], [], [], [(0, (2, yc 11, yc 0)), (1, (0, (1, 0, 0), yc 0)), (2, (0, (1, 1, 0), yc 0))], []), [(3, [(2, (-2147483648), 2147483647)], [], [], [], [(0, (1, 2, 0), yc 0)])], [])
def yx687 : yCx := ([], ys687.2.2.2.2, yFP, zm94.2.2.1, zm94.2.2.2.1, zc94, 2, ys687.2.2.2.1, [], [])
theorem yw687 : ywf ys687.2.2.1 = true := by decide +kernel
theorem yk687 : yver yx687 ys687.2.2.1 4000 = true := yverQ_ok (by decide +kernel)
theorem yt687 {E : zHp → Prop} (h : yEF E yFP) : yTs E 1 ys687 := yver_s (k := 94) (n := 0) (x := yx687) (P := ys687.2.2.1) (f := 4000) h (yal_n) yg94 yk687
def ys688 : ySp := (75, 4, (3, [(0, 0, 5), (1, 0, 5), (2, (-2147483648), 2147483647)], [], [], [(0, (2, yc 11, yc 0)), (1, (0, (1, 0, 0), yc 0)), (2, (0, (1, 1, 0), yc 0)), (3, (0, (1, 2, 0), yc 0))], []), [(3, [], [], [], [], [])], [(12, 12, 1000)])
def yx688 : yCx := ([], ys688.2.2.2.2, yFP, zm75.2.2.1, zm75.2.2.2.1, zc75, 3, ys688.2.2.2.1, [], [])
theorem yw688 : ywf ys688.2.2.1 = true := by decide +kernel
theorem yk688 : yver yx688 ys688.2.2.1 4000 = true := yverQ_ok (by decide +kernel)
theorem yt688 {E : zHp → Prop} (h : yEF E yFP) : yTs E 1 ys688 := yver_s (k := 75) (n := 0) (x := yx688) (P := ys688.2.2.1) (f := 4000) h (yal_n) yg75 yk688
def ys692 : ySp := (77, 1, (0, [], [], [(yc 12, yc 0, (0, yc 5, yc 0))], [(0, (2, yc 11, yc 0))], []), [(0, [], [], [(yc 12, yc 0, (0, yc 5, yc 0))], [], [(0, yc 5, yc 0)])], [])
def yx692 : yCx := ([], ys692.2.2.2.2, yFP, zm77.2.2.1, zm77.2.2.2.1, zc77, 0, ys692.2.2.2.1, [], [])
theorem yw692 : ywf ys692.2.2.1 = true := by decide +kernel
theorem yk692 : yver yx692 ys692.2.2.1 4000 = true := yverQ_ok (by decide +kernel)
theorem yt692 {E : zHp → Prop} (h : yEF E yFP) : yTs E 1 ys692 := yver_s (k := 77) (n := 0) (x := yx692) (P := ys692.2.2.1) (f := 4000) h (yal_n) yg77 yk692
def ys693 : ySp := (77, 1, (0, [], [], [(yc 12, yc 0, (0, yc 4, yc 0))], [(0, (2, yc 11, yc 0))], []), [(0, [], [], [(yc 12, yc 0, (0, yc 4, yc 0))], [], [(0, yc 4, yc 0)])], [])
def yx693 : yCx := ([], ys693.2.2.2.2, yFP, zm77.2.2.1, zm77.2.2.2.1, zc77, 0, ys693.2.2.2.1, [], [])
theorem yw693 : ywf ys693.2.2.1 = true := by decide +kernel
theorem yk693 : yver yx693 ys693.2.2.1 4000 = true := yverQ_ok (by decide +kernel)
theorem yt693 {E : zHp → Prop} (h : yEF E yFP) : yTs E 1 ys693 := yver_s (k := 77) (n := 0) (x := yx693) (P := ys693.2.2.1) (f := 4000) h (yal_n) yg77 yk693
def ys694 : ySp := (77, 1, (0, [], [], [(yc 12, yc 0, (0, yc 3, yc 0))], [(0, (2, yc 11, yc 0))], []), [(0, [], [], [(yc 12, yc 0, (0, yc 3, yc 0))], [], [(0, yc 3, yc 0)])], [])
def yx694 : yCx := ([], ys694.2.2.2.2, yFP, zm77.2.2.1, zm77.2.2.2.1, zc77, 0, ys694.2.2.2.1, [], [])
theorem yw694 : ywf ys694.2.2.1 = true := by decide +kernel
theorem yk694 : yver yx694 ys694.2.2.1 4000 = true := yverQ_ok (by decide +kernel)
theorem yt694 {E : zHp → Prop} (h : yEF E yFP) : yTs E 1 ys694 := yver_s (k := 77) (n := 0) (x := yx694) (P := ys694.2.2.1) (f := 4000) h (yal_n) yg77 yk694
def ys695 : ySp := (77, 1, (0, [], [], [(yc 12, yc 0, (0, yc 2, yc 0))], [(0, (2, yc 11, yc 0))], []), [(0, [], [], [(yc 12, yc 0, (0, yc 2, yc 0))], [], [(0, yc 2, yc 0)])], [])
def yx695 : yCx := ([], ys695.2.2.2.2, yFP, zm77.2.2.1, zm77.2.2.2.1, zc77, 0, ys695.2.2.2.1, [], [])
theorem yw695 : ywf ys695.2.2.1 = true := by decide +kernel
theorem yk695 : yver yx695 ys695.2.2.1 4000 = true := yverQ_ok (by decide +kernel)
theorem yt695 {E : zHp → Prop} (h : yEF E yFP) : yTs E 1 ys695 := yver_s (k := 77) (n := 0) (x := yx695) (P := ys695.2.2.1) (f := 4000) h (yal_n) yg77 yk695
def ys696 : ySp := (77, 1, (0, [], [], [(yc 12, yc 0, (0, yc 1, yc 0))], [(0, (2, yc 11, yc 0))], []), [(0, [], [], [(yc 12, yc 0, (0, yc 1, yc 0))], [], [(0, yc 1, yc 0)])], [])
def yx696 : yCx := ([], ys696.2.2.2.2, yFP, zm77.2.2.1, zm77.2.2.2.1, zc77, 0, ys696.2.2.2.1, [], [])
theorem yw696 : ywf ys696.2.2.1 = true := by decide +kernel
theorem yk696 : yver yx696 ys696.2.2.1 4000 = true := yverQ_ok (by decide +kernel)
theorem yt696 {E : zHp → Prop} (h : yEF E yFP) : yTs E 1 ys696 := yver_s (k := 77) (n := 0) (x := yx696) (P := ys696.2.2.1) (f := 4000) h (yal_n) yg77 yk696
def ys697 : ySp := (77, 1, (0, [], [], [(yc 12, yc 0, (0, yc 0, yc 0))], [(0, (2, yc 11, yc 0))], []), [(0, [], [], [(yc 12, yc 0, (0, yc 0, yc 0))], [], [(0, yc 0, yc 0)])], [])
def yx697 : yCx := ([], ys697.2.2.2.2, yFP, zm77.2.2.1, zm77.2.2.2.1, zc77, 0, ys697.2.2.2.1, [], [])
theorem yw697 : ywf ys697.2.2.1 = true := by decide +kernel
theorem yk697 : yver yx697 ys697.2.2.1 4000 = true := yverQ_ok (by decide +kernel)
theorem yt697 {E : zHp → Prop} (h : yEF E yFP) : yTs E 1 ys697 := yver_s (k := 77) (n := 0) (x := yx697) (P := ys697.2.2.1) (f := 4000) h (yal_n) yg77 yk697
def ys698 : ySp := (87, 3, (1, [(0, 0, 5)], [], [], [(0, (2, yc 11, yc 0)), (1, (0, (1, 0, 0), yc 0)), (2, (0, yc 0, yc 0))], []), [(2, [(1, 0, 5)], [], [], [], [(0, (1, 1, 0), yc 0)])], [])
def yx698 : yCx := ([], ys698.2.2.2.2, yFP, zm87.2.2.1, zm87.2.2.2.1, zc87, 1, ys698.2.2.2.1, [], [])
theorem yw698 : ywf ys698.2.2.1 = true := by decide +kernel
theorem yk698 : yver yx698 ys698.2.2.1 4000 = true := yverQ_ok (by decide +kernel)
theorem yt698 {E : zHp → Prop} (h : yEF E yFP) : yTs E 1 ys698 := yver_s (k := 87) (n := 0) (x := yx698) (P := ys698.2.2.1) (f := 4000) h (yal_n) yg87 yk698
def ys699 : ySp := (88, 4, (2, [(0, 0, 5), (1, 0, 5)], [], [], [(0, (2, yc 11, yc 0)), (1, (0, (1, 0, 0), yc 0)), (2, (0, yc 0, yc 0)), (3, (0, (1, 1, 0), yc 0))], []), [(2, [], [], [], [], [])], [(12, 12, 1000)])
def yx699 : yCx := ([], ys699.2.2.2.2, yFP, zm88.2.2.1, zm88.2.2.2.1, zc88, 2, ys699.2.2.2.1, [], [])
theorem yw699 : ywf ys699.2.2.1 = true := by decide +kernel
theorem yk699 : yver yx699 ys699.2.2.1 4000 = true := yverQ_ok (by decide +kernel)
theorem yt699 {E : zHp → Prop} (h : yEF E yFP) : yTs E 1 ys699 := yver_s (k := 88) (n := 0) (x := yx699) (P := ys699.2.2.1) (f := 4000) h (yal_n) yg88 yk699
def ys700 : ySp := (88, 4, (2, [(0, 0, 5), (1, 0, 5)], [], [], [(0, (2, yc 11, yc 0)), (1, (0, (1, 0, 0), yc 0)), (2, (0, yc 3, yc 0)), (3, (0, (1, 1, 0), yc 0))], []), [(2, [], [], [], [], [])], [(12, 12, 1000)])
def yx700 : yCx := ([], ys700.2.2.2.2, yFP, zm88.2.2.1, zm88.2.2.2.1, zc88, 2, ys700.2.2.2.1, [], [])
theorem yw700 : ywf ys700.2.2.1 = true := by decide +kernel
theorem yk700 : yver yx700 ys700.2.2.1 4000 = true := yverQ_ok (by decide +kernel)
theorem yt700 {E : zHp → Prop} (h : yEF E yFP) : yTs E 1 ys700 := yver_s (k := 88) (n := 0) (x := yx700) (P := ys700.2.2.1) (f := 4000) h (yal_n) yg88 yk700
def ys701 : ySp := (88, 4, (2, [(0, 0, 5), (1, 0, 1)], [], [], [(0, (2, yc 11, yc 0)), (1, (0, (1, 0, 0), yc 0)), (2, (0, yc 4, yc 0)), (3, (0, (1, 1, 0), yc 0))], []), [(2, [], [], [], [], [])], [(12, 12, 1000)])
def yx701 : yCx := ([], ys701.2.2.2.2, yFP, zm88.2.2.1, zm88.2.2.2.1, zc88, 2, ys701.2.2.2.1, [], [])
theorem yw701 : ywf ys701.2.2.1 = true := by decide +kernel
theorem yk701 : yver yx701 ys701.2.2.1 4000 = true := yverQ_ok (by decide +kernel)
theorem yt701 {E : zHp → Prop} (h : yEF E yFP) : yTs E 1 ys701 := yver_s (k := 88) (n := 0) (x := yx701) (P := ys701.2.2.1) (f := 4000) h (yal_n) yg88 yk701
def ys702 : ySp := (88, 4, (2, [(0, 0, 5), (1, 0, 1)], [], [], [(0, (2, yc 11, yc 0)), (1, (0, (1, 0, 0), yc 0)), (2, (0, yc 5, yc 0)), (3, (0, (1, 1, 0), yc 0))], []), [(2, [], [], [], [], [])], [(12, 12, 1000)])
def yx702 : yCx := ([], ys702.2.2.2.2, yFP, zm88.2.2.1, zm88.2.2.2.1, zc88, 2, ys702.2.2.2.1, [], [])
theorem yw702 : ywf ys702.2.2.1 = true := by decide +kernel
theorem yk702 : yver yx702 ys702.2.2.1 4000 = true := yverQ_ok (by decide +kernel)
theorem yt702 {E : zHp → Prop} (h : yEF E yFP) : yTs E 1 ys702 := yver_s (k := 88) (n := 0) (x := yx702) (P := ys702.2.2.1) (f := 4000) h (yal_n) yg88 yk702
def ys703 : ySp := (104, 3, (2, [(0, 0, 5), (1, 0, 5)], [], [], [(0, (2, yc 11, yc 0)), (1, (0, (1, 0, 0), yc 0)), (2, (0, (1, 1, 0), yc 0))], []), [(2, [], [], [], [], [])], [(12, 12, 1000)])
def yx703 : yCx := ([ys701, ys702, ys699, ys700], ys703.2.2.2.2, yFP, zm104.2.2.1, zm104.2.2.2.1, zc104, 2, ys703.2.2.2.1, [], [])
theorem yw703 : ywf ys703.2.2.1 = true := by decide +kernel
theorem yk703 : yver yx703 ys703.2.2.1 4000 = true := yverQ_ok (by decide +kernel)
theorem yt703 {E : zHp → Prop} (h : yEF E yFP) : yTs E 2 ys703 := yver_s (k := 104) (n := 1) (x := yx703) (P := ys703.2.2.1) (f := 4000) h (yal_c (yt701 h) (by decide) yw701 (yal_c (yt702 h) (by decide) yw702 (yal_c (yt699 h) (by decide) yw699 (yal_c (yt700 h) (by decide) yw700 (yal_n))))) yg104 yk703
def ys704 : ySp := (103, 2, (1, [(0, 0, 5)], [], [], [(0, (2, yc 11, yc 0)), (1, (0, (1, 0, 0), yc 0))], []), [(1, [], [], [], [], [])], [(12, 12, 1000)])
def yx704 : yCx := ([ys698, ys703], ys704.2.2.2.2, yFP, zm103.2.2.1, zm103.2.2.2.1, zc103, 1, ys704.2.2.2.1, [], [])
theorem yw704 : ywf ys704.2.2.1 = true := by decide +kernel
theorem yk704 : yver yx704 ys704.2.2.1 4000 = true := yverQ_ok (by decide +kernel)
theorem yt704 {E : zHp → Prop} (h : yEF E yFP) : yTs E 3 ys704 := yver_s (k := 103) (n := 2) (x := yx704) (P := ys704.2.2.1) (f := 4000) h (yal_c (yt698 h) (by decide) yw698 (yal_c (yt703 h) (by decide) yw703 (yal_n))) yg103 yk704
def ys705 : ySp := (87, 3, (1, [(0, 0, 5)], [], [], [(0, (2, yc 11, yc 0)), (1, (0, (1, 0, 0), yc 0)), (2, (0, yc 3, yc 0))], []), [(2, [(1, 0, 5)], [], [], [], [(0, (1, 1, 0), yc 0)])], [])
def yx705 : yCx := ([], ys705.2.2.2.2, yFP, zm87.2.2.1, zm87.2.2.2.1, zc87, 1, ys705.2.2.2.1, [], [])
theorem yw705 : ywf ys705.2.2.1 = true := by decide +kernel
theorem yk705 : yver yx705 ys705.2.2.1 4000 = true := yverQ_ok (by decide +kernel)
theorem yt705 {E : zHp → Prop} (h : yEF E yFP) : yTs E 1 ys705 := yver_s (k := 87) (n := 0) (x := yx705) (P := ys705.2.2.1) (f := 4000) h (yal_n) yg87 yk705
def ys706 : ySp := (101, 3, (2, [(0, 0, 5), (1, 0, 5)], [], [], [(0, (2, yc 11, yc 0)), (1, (0, (1, 0, 0), yc 0)), (2, (0, (1, 1, 0), yc 0))], []), [(2, [], [], [], [], [(0, yc 0, yc 0)]), (2, [], [], [], [], [(0, yc 1, yc 0)])], [])
def yx706 : yCx := ([ys698, ys705, ys685], ys706.2.2.2.2, yFP, zm101.2.2.1, zm101.2.2.2.1, zc101, 2, ys706.2.2.2.1, [], [])
theorem yw706 : ywf ys706.2.2.1 = true := by decide +kernel
theorem yk706 : yver yx706 ys706.2.2.1 4000 = true := yverQ_ok (by decide +kernel)
theorem yt706 {E : zHp → Prop} (h : yEF E yFP) : yTs E 3 ys706 := yver_s (k := 101) (n := 2) (x := yx706) (P := ys706.2.2.1) (f := 4000) h (yal_c (yt698 h) (by decide) yw698 (yal_c (yt705 h) (by decide) yw705 (yal_c (yt685 h) (by decide) yw685 (yal_n)))) yg101 yk706
def ys707 : ySp := (87, 3, (1, [(0, 0, 5)], [], [], [(0, (2, yc 11, yc 0)), (1, (0, (1, 0, 0), yc 0)), (2, (0, yc 4, yc 0))], []), [(2, [(1, (-2147483648), 2147483647)], [], [], [], [(0, (1, 1, 0), yc 0)])], [])
def yx707 : yCx := ([], ys707.2.2.2.2, yFP, zm87.2.2.1, zm87.2.2.2.1, zc87, 1, ys707.2.2.2.1, [], [])
theorem yw707 : ywf ys707.2.2.1 = true := by decide +kernel
theorem yk707 : yver yx707 ys707.2.2.1 4000 = true := yverQ_ok (by decide +kernel)
theorem yt707 {E : zHp → Prop} (h : yEF E yFP) : yTs E 1 ys707 := yver_s (k := 87) (n := 0) (x := yx707) (P := ys707.2.2.1) (f := 4000) h (yal_n) yg87 yk707
def ys708 : ySp := (88, 4, (2, [(0, 0, 5), (1, (-2147483648), 2147483647)], [], [], [(0, (2, yc 11, yc 0)), (1, (0, (1, 0, 0), yc 0)), (2, (0, yc 4, yc 0)), (3, (0, (1, 1, 0), yc 0))], []), [(2, [], [], [], [], [])], [(12, 12, 1000)])
def yx708 : yCx := ([], ys708.2.2.2.2, yFP, zm88.2.2.1, zm88.2.2.2.1, zc88, 2, ys708.2.2.2.1, [], [])
theorem yw708 : ywf ys708.2.2.1 = true := by decide +kernel
theorem yk708 : yver yx708 ys708.2.2.1 4000 = true := yverQ_ok (by decide +kernel)
theorem yt708 {E : zHp → Prop} (h : yEF E yFP) : yTs E 1 ys708 := yver_s (k := 88) (n := 0) (x := yx708) (P := ys708.2.2.1) (f := 4000) h (yal_n) yg88 yk708
def ys709 : ySp := (102, 4, (2, [(0, 0, 5), (1, 0, 5)], [], [], [(0, (2, yc 11, yc 0)), (1, (0, (1, 0, 0), yc 0)), (2, (0, (1, 1, 0), yc 0))], []), [(2, [], [], [], [], [])], [(12, 12, 1000)])
def yx709 : yCx := ([ys688, ys705, ys707, ys700, ys708, ys687], ys709.2.2.2.2, yFP, zm102.2.2.1, zm102.2.2.2.1, zc102, 2, ys709.2.2.2.1, [], [])
theorem yw709 : ywf ys709.2.2.1 = true := by decide +kernel
theorem yk709 : yver yx709 ys709.2.2.1 4000 = true := yverQ_ok (by decide +kernel)
theorem yt709 {E : zHp → Prop} (h : yEF E yFP) : yTs E 2 ys709 := yver_s (k := 102) (n := 1) (x := yx709) (P := ys709.2.2.1) (f := 4000) h (yal_c (yt688 h) (by decide) yw688 (yal_c (yt705 h) (by decide) yw705 (yal_c (yt707 h) (by decide) yw707 (yal_c (yt700 h) (by decide) yw700 (yal_c (yt708 h) (by decide) yw708 (yal_c (yt687 h) (by decide) yw687 (yal_n))))))) yg102 yk709
def ys710 : ySp := (12, 5, (0, [], [], [], [(0, (2, yc 43, yc 0)), (1, (2, yc 11, yc 0))], []), [(1, [(0, (-2147483648), 2147483647)], [], [], [], [(0, (1, 0, 0), yc 0)])], [(12, 12, 1000), (43, 43, 0)])
def yx710 : yCx := ([ys674, ys675, ys692, ys693, ys694, ys695, ys696, ys697, ys673, ys706, ys709, ys704], ys710.2.2.2.2, yFP, zm12.2.2.1, zm12.2.2.2.1, zc12, 0, ys710.2.2.2.1, [(4, (2, [(0, (-2147483648), 2147483647), (1, 0, 6)], [], [], [(0, (2, yc 43, yc 0)), (1, (2, yc 11, yc 0)), (2, (0, (1, 0, 0), yc 0)), (3, (0, (1, 1, 0), yc 0))], []), ([((-1), 1)], 7))], [(12, 1, 12, 0)])
theorem yw710 : ywf ys710.2.2.1 = true := by decide +kernel
theorem yk710 : yver yx710 ys710.2.2.1 4000 = true := yverQ_ok (by decide +kernel)
theorem yt710 {E : zHp → Prop} (h : yEF E yFP) : yTs E 4 ys710 := yver_s (k := 12) (n := 3) (x := yx710) (P := ys710.2.2.1) (f := 4000) h (yal_c (yt674 h) (by decide) yw674 (yal_c (yt675 h) (by decide) yw675 (yal_c (yt692 h) (by decide) yw692 (yal_c (yt693 h) (by decide) yw693 (yal_c (yt694 h) (by decide) yw694 (yal_c (yt695 h) (by decide) yw695 (yal_c (yt696 h) (by decide) yw696 (yal_c (yt697 h) (by decide) yw697 (yal_c (yt673 h) (by decide) yw673 (yal_c (yt706 h) (by decide) yw706 (yal_c (yt709 h) (by decide) yw709 (yal_c (yt704 h) (by decide) yw704 (yal_n))))))))))))) yg12 yk710
def ys711 : ySp := (80, 1, (1, [(0, 0, 6)], [], [(yc 12, yc 3, (0, (1, 0, 0), yc 0))], [(0, (2, yc 11, yc 0))], []), [(1, [], [], [(yc 12, yc 3, (0, (1, 0, 0), yc 0))], [], [(0, (1, 0, 0), yc 0)])], [])
def yx711 : yCx := ([], ys711.2.2.2.2, yFP, zm80.2.2.1, zm80.2.2.2.1, zc80, 1, ys711.2.2.2.1, [], [])
theorem yw711 : ywf ys711.2.2.1 = true := by decide +kernel
theorem yk711 : yver yx711 ys711.2.2.1 4000 = true := yverQ_ok (by decide +kernel)
theorem yt711 {E : zHp → Prop} (h : yEF E yFP) : yTs E 1 ys711 := yver_s (k := 80) (n := 0) (x := yx711) (P := ys711.2.2.1) (f := 4000) h (yal_n) yg80 yk711
def ys720 : ySp := (78, 1, (0, [], [], [], [(0, (2, yc 11, yc 0))], []), [(1, [(0, (-2147483648), 2147483647)], [], [], [], [(0, (1, 0, 0), yc 0)])], [])
def yx720 : yCx := ([], ys720.2.2.2.2, yFP, zm78.2.2.1, zm78.2.2.2.1, zc78, 0, ys720.2.2.2.1, [], [])
theorem yw720 : ywf ys720.2.2.1 = true := by decide +kernel
theorem yk720 : yver yx720 ys720.2.2.1 4000 = true := yverQ_ok (by decide +kernel)
theorem yt720 {E : zHp → Prop} (h : yEF E yFP) : yTs E 1 ys720 := yver_s (k := 78) (n := 0) (x := yx720) (P := ys720.2.2.1) (f := 4000) h (yal_n) yg78 yk720
def ys732 : ySp := (87, 3, (1, [(0, 0, 5)], [], [], [(0, (2, yc 11, yc 0)), (1, (0, (1, 0, 0), yc 0)), (2, (0, yc 1, yc 0))], []), [(2, [(1, (-2147483648), 2147483647)], [], [], [], [(0, (1, 1, 0), yc 0)])], [])
def yx732 : yCx := ([], ys732.2.2.2.2, yFP, zm87.2.2.1, zm87.2.2.2.1, zc87, 1, ys732.2.2.2.1, [], [])
theorem yw732 : ywf ys732.2.2.1 = true := by decide +kernel
theorem yk732 : yver yx732 ys732.2.2.1 4000 = true := yverQ_ok (by decide +kernel)
theorem yt732 {E : zHp → Prop} (h : yEF E yFP) : yTs E 1 ys732 := yver_s (k := 87) (n := 0) (x := yx732) (P := ys732.2.2.1) (f := 4000) h (yal_n) yg87 yk732
def ys733 : ySp := (97, 2, (1, [(0, 0, 5)], [], [], [(0, (2, yc 11, yc 0)), (1, (0, (1, 0, 0), yc 0))], []), [(1, [], [], [], [], [(0, yc 0, yc 0)]), (1, [], [], [], [], [(0, yc 1, yc 0)])], [])
def yx733 : yCx := ([ys698, ys705], ys733.2.2.2.2, yFP, zm97.2.2.1, zm97.2.2.2.1, zc97, 1, ys733.2.2.2.1, [], [])
theorem yw733 : ywf ys733.2.2.1 = true := by decide +kernel
theorem yk733 : yver yx733 ys733.2.2.1 4000 = true := yverQ_ok (by decide +kernel)
theorem yt733 {E : zHp → Prop} (h : yEF E yFP) : yTs E 2 ys733 := yver_s (k := 97) (n := 1) (x := yx733) (P := ys733.2.2.1) (f := 4000) h (yal_c (yt698 h) (by decide) yw698 (yal_c (yt705 h) (by decide) yw705 (yal_n))) yg97 yk733
end
section
def ys734 : ySp := (87, 3, (1, [(0, 0, 5)], [], [], [(0, (2, yc 11, yc 0)), (1, (0, (1, 0, 0), yc 0)), (2, (0, yc 2, yc 0))], []), [(2, [(1, (-2147483648), 2147483647)], [], [], [], [(0, (1, 1, 0), yc 0)])], [])
def yx734 : yCx := ([], ys734.2.2.2.2, yFP, zm87.2.2.1, zm87.2.2.2.1, zc87, 1, ys734.2.2.2.1, [], [])
theorem yw734 : ywf ys734.2.2.1 = true := by decide +kernel
theorem yk734 : yver yx734 ys734.2.2.1 4000 = true := yverQ_ok (by decide +kernel)
theorem yt734 {E : zHp → Prop} (h : yEF E yFP) : yTs E 1 ys734 := yver_s (k := 87) (n := 0) (x := yx734) (P := ys734.2.2.1) (f := 4000) h (yal_n) yg87 yk734
def ys735 : ySp := (87, 3, (1, [(0, 0, 5)], [], [], [(0, (2, yc 11, yc 0)), (1, (0, (1, 0, 0), yc 0)), (2, (0, yc 5, yc 0))], []), [(2, [(1, (-2147483648), 2147483647)], [], [], [], [(0, (1, 1, 0), yc 0)])], [])
def yx735 : yCx := ([], ys735.2.2.2.2, yFP, zm87.2.2.1, zm87.2.2.2.1, zc87, 1, ys735.2.2.2.1, [], [])
theorem yw735 : ywf ys735.2.2.1 = true := by decide +kernel
theorem yk735 : yver yx735 ys735.2.2.1 4000 = true := yverQ_ok (by decide +kernel)
theorem yt735 {E : zHp → Prop} (h : yEF E yFP) : yTs E 1 ys735 := yver_s (k := 87) (n := 0) (x := yx735) (P := ys735.2.2.1) (f := 4000) h (yal_n) yg87 yk735
def ys736 : ySp := (98, 2, (1, [(0, 0, 5)], [], [], [(0, (2, yc 11, yc 0)), (1, (0, (1, 0, 0), yc 0))], []), [(2, [(1, 0, 2147483647)], [], [], [], [(0, (1, 1, 0), yc 0)])], [])
def yx736 : yCx := ([ys720, ys735], ys736.2.2.2.2, yFP, zm98.2.2.1, zm98.2.2.2.1, zc98, 1, ys736.2.2.2.1, [], [])
theorem yw736 : ywf ys736.2.2.1 = true := by decide +kernel
theorem yk736 : yver yx736 ys736.2.2.1 4000 = true := yverQ_ok (by decide +kernel)
theorem yt736 {E : zHp → Prop} (h : yEF E yFP) : yTs E 2 ys736 := yver_s (k := 98) (n := 1) (x := yx736) (P := ys736.2.2.1) (f := 4000) h (yal_c (yt720 h) (by decide) yw720 (yal_c (yt735 h) (by decide) yw735 (yal_n))) yg98 yk736
def ys737 : ySp := (100, 3, (1, [(0, 0, 5)], [], [], [(0, (2, yc 11, yc 0)), (1, (0, (1, 0, 0), yc 0)), (2, (0, yc 0, yc 0))], []), [(1, [], [], [], [], [(0, yc 0, yc 0)]), (2, [(1, 0, 2147483647)], [], [], [], [(0, (1, 1, 0), yc 0)])], [])
def yx737 : yCx := ([ys707, ys734, ys733, ys736], ys737.2.2.2.2, yFP, zm100.2.2.1, zm100.2.2.2.1, zc100, 1, ys737.2.2.2.1, [], [])
theorem yw737 : ywf ys737.2.2.1 = true := by decide +kernel
theorem yk737 : yver yx737 ys737.2.2.1 4000 = true := yverQ_ok (by decide +kernel)
theorem yt737 {E : zHp → Prop} (h : yEF E yFP) : yTs E 3 ys737 := yver_s (k := 100) (n := 2) (x := yx737) (P := ys737.2.2.1) (f := 4000) h (yal_c (yt707 h) (by decide) yw707 (yal_c (yt734 h) (by decide) yw734 (yal_c (yt733 h) (by decide) yw733 (yal_c (yt736 h) (by decide) yw736 (yal_n))))) yg100 yk737
def ys738 : ySp := (99, 2, (1, [(0, 0, 5)], [], [], [(0, (2, yc 11, yc 0)), (1, (0, (1, 0, 0), yc 0))], []), [(1, [], [], [], [], [(0, yc 0, yc 0)]), (2, [(1, 0, 2147483647)], [], [], [], [(0, (1, 1, 0), yc 0)])], [])
def yx738 : yCx := ([ys737], ys738.2.2.2.2, yFP, zm99.2.2.1, zm99.2.2.2.1, zc99, 1, ys738.2.2.2.1, [], [])
theorem yw738 : ywf ys738.2.2.1 = true := by decide +kernel
theorem yk738 : yver yx738 ys738.2.2.1 4000 = true := yverQ_ok (by decide +kernel)
theorem yt738 {E : zHp → Prop} (h : yEF E yFP) : yTs E 4 ys738 := yver_s (k := 99) (n := 3) (x := yx738) (P := ys738.2.2.1) (f := 4000) h (yal_c (yt737 h) (by decide) yw737 (yal_n)) yg99 yk738
def ys741 : ySp := (81, 1, (0, [], [], [], [(0, (2, yc 11, yc 0))], []), [(1, [(0, (-2147483648), 2147483647)], [], [], [], [(0, (1, 0, 0), yc 0)])], [])
def yx741 : yCx := ([], ys741.2.2.2.2, yFP, zm81.2.2.1, zm81.2.2.2.1, zc81, 0, ys741.2.2.2.1, [], [])
theorem yw741 : ywf ys741.2.2.1 = true := by decide +kernel
theorem yk741 : yver yx741 ys741.2.2.1 4000 = true := yverQ_ok (by decide +kernel)
theorem yt741 {E : zHp → Prop} (h : yEF E yFP) : yTs E 1 ys741 := yver_s (k := 81) (n := 0) (x := yx741) (P := ys741.2.2.1) (f := 4000) h (yal_n) yg81 yk741
def ys753 : ySp := (89, 3, (1, [(0, 0, 5)], [], [], [(0, (2, yc 11, yc 0)), (1, (0, (1, 0, 0), yc 0)), (2, (0, yc 4, yc 0))], []), [(2, [(1, (-2147483648), 2147483647)], [], [], [], [(0, (1, 1, 0), yc 0)])], [])
def yx753 : yCx := ([], ys753.2.2.2.2, yFP, zm89.2.2.1, zm89.2.2.2.1, zc89, 1, ys753.2.2.2.1, [], [])
theorem yw753 : ywf ys753.2.2.1 = true := by decide +kernel
theorem yk753 : yver yx753 ys753.2.2.1 4000 = true := yverQ_ok (by decide +kernel)
theorem yt753 {E : zHp → Prop} (h : yEF E yFP) : yTs E 1 ys753 := yver_s (k := 89) (n := 0) (x := yx753) (P := ys753.2.2.1) (f := 4000) h (yal_n) yg89 yk753
def ys754 : ySp := (106, 2, (1, [(0, 0, 5)], [], [], [(0, (2, yc 11, yc 0)), (1, (0, (1, 0, 0), yc 0))], []), [(1, [], [], [], [], [(0, yc 0, yc 0)]), (1, [], [], [], [], [(0, yc 1, yc 0)])], [])
def yx754 : yCx := ([ys753], ys754.2.2.2.2, yFP, zm106.2.2.1, zm106.2.2.2.1, zc106, 1, ys754.2.2.2.1, [], [])
theorem yw754 : ywf ys754.2.2.1 = true := by decide +kernel
theorem yk754 : yver yx754 ys754.2.2.1 4000 = true := yverQ_ok (by decide +kernel)
theorem yt754 {E : zHp → Prop} (h : yEF E yFP) : yTs E 2 ys754 := yver_s (k := 106) (n := 1) (x := yx754) (P := ys754.2.2.1) (f := 4000) h (yal_c (yt753 h) (by decide) yw753 (yal_n)) yg106 yk754
def ys755 : ySp := (89, 3, (1, [(0, 0, 5)], [], [], [(0, (2, yc 11, yc 0)), (1, (0, (1, 0, 0), yc 0)), (2, (0, yc 1, yc 0))], []), [(2, [(1, (-2147483648), 2147483647)], [], [], [], [(0, (1, 1, 0), yc 0)])], [])
def yx755 : yCx := ([], ys755.2.2.2.2, yFP, zm89.2.2.1, zm89.2.2.2.1, zc89, 1, ys755.2.2.2.1, [], [])
theorem yw755 : ywf ys755.2.2.1 = true := by decide +kernel
theorem yk755 : yver yx755 ys755.2.2.1 4000 = true := yverQ_ok (by decide +kernel)
theorem yt755 {E : zHp → Prop} (h : yEF E yFP) : yTs E 1 ys755 := yver_s (k := 89) (n := 0) (x := yx755) (P := ys755.2.2.1) (f := 4000) h (yal_n) yg89 yk755
def ys756 : ySp := (89, 3, (1, [(0, 0, 5)], [], [], [(0, (2, yc 11, yc 0)), (1, (0, (1, 0, 0), yc 0)), (2, (0, yc 0, yc 0))], []), [(2, [(1, 0, 5)], [], [], [], [(0, (1, 1, 0), yc 0)])], [])
def yx756 : yCx := ([], ys756.2.2.2.2, yFP, zm89.2.2.1, zm89.2.2.2.1, zc89, 1, ys756.2.2.2.1, [], [])
theorem yw756 : ywf ys756.2.2.1 = true := by decide +kernel
theorem yk756 : yver yx756 ys756.2.2.1 4000 = true := yverQ_ok (by decide +kernel)
theorem yt756 {E : zHp → Prop} (h : yEF E yFP) : yTs E 1 ys756 := yver_s (k := 89) (n := 0) (x := yx756) (P := ys756.2.2.1) (f := 4000) h (yal_n) yg89 yk756
def ys757 : ySp := (89, 3, (1, [(0, 0, 5)], [], [], [(0, (2, yc 11, yc 0)), (1, (0, (1, 0, 0), yc 0)), (2, (0, yc 2, yc 0))], []), [(2, [(1, (-2147483648), 2147483647)], [], [], [], [(0, (1, 1, 0), yc 0)])], [])
def yx757 : yCx := ([], ys757.2.2.2.2, yFP, zm89.2.2.1, zm89.2.2.2.1, zc89, 1, ys757.2.2.2.1, [], [])
theorem yw757 : ywf ys757.2.2.1 = true := by decide +kernel
theorem yk757 : yver yx757 ys757.2.2.1 4000 = true := yverQ_ok (by decide +kernel)
theorem yt757 {E : zHp → Prop} (h : yEF E yFP) : yTs E 1 ys757 := yver_s (k := 89) (n := 0) (x := yx757) (P := ys757.2.2.1) (f := 4000) h (yal_n) yg89 yk757
def ys758 : ySp := (107, 3, (1, [(0, 0, 5)], [], [], [(0, (2, yc 11, yc 0)), (1, (0, (1, 0, 0), yc 0))], []), [(1, [], [], [], [], [(0, yc 0, yc 0)]), (1, [], [], [], [], [(0, yc 1, yc 0)])], [])
def yx758 : yCx := ([ys673, ys705, ys732, ys755, ys756, ys757, ys738, ys754], ys758.2.2.2.2, yFP, zm107.2.2.1, zm107.2.2.2.1, zc107, 1, ys758.2.2.2.1, [(12, (2, [(0, 0, 5), (1, 0, 6)], [], [], [(0, (2, yc 11, yc 0)), (1, (0, (1, 0, 0), yc 0)), (2, (0, (1, 1, 0), yc 0))], []), ([((-1), 1)], 7))], [])
theorem yw758 : ywf ys758.2.2.1 = true := by decide +kernel
theorem yk758 : yver yx758 ys758.2.2.1 4000 = true := yverQ_ok (by decide +kernel)
theorem yt758 {E : zHp → Prop} (h : yEF E yFP) : yTs E 5 ys758 := yver_s (k := 107) (n := 4) (x := yx758) (P := ys758.2.2.1) (f := 4000) h (yal_c (yt673 h) (by decide) yw673 (yal_c (yt705 h) (by decide) yw705 (yal_c (yt732 h) (by decide) yw732 (yal_c (yt755 h) (by decide) yw755 (yal_c (yt756 h) (by decide) yw756 (yal_c (yt757 h) (by decide) yw757 (yal_c (yt738 h) (by decide) yw738 (yal_c (yt754 h) (by decide) yw754 (yal_n))))))))) yg107 yk758
def ys759 : ySp := (89, 3, (1, [(0, 0, 5)], [], [], [(0, (2, yc 11, yc 0)), (1, (0, (1, 0, 0), yc 0)), (2, (0, yc 3, yc 0))], []), [(2, [(1, (-2147483648), 2147483647)], [], [], [], [(0, (1, 1, 0), yc 0)])], [])
def yx759 : yCx := ([], ys759.2.2.2.2, yFP, zm89.2.2.1, zm89.2.2.2.1, zc89, 1, ys759.2.2.2.1, [], [])
theorem yw759 : ywf ys759.2.2.1 = true := by decide +kernel
theorem yk759 : yver yx759 ys759.2.2.1 4000 = true := yverQ_ok (by decide +kernel)
theorem yt759 {E : zHp → Prop} (h : yEF E yFP) : yTs E 1 ys759 := yver_s (k := 89) (n := 0) (x := yx759) (P := ys759.2.2.1) (f := 4000) h (yal_n) yg89 yk759
def ys760 : ySp := (90, 4, (2, [(0, 0, 5), (1, (-2147483648), 2147483647)], [], [], [(0, (2, yc 11, yc 0)), (1, (0, (1, 0, 0), yc 0)), (2, (0, yc 4, yc 0)), (3, (0, (1, 1, 0), yc 0))], []), [(2, [], [], [], [], [])], [(12, 12, 1000)])
def yx760 : yCx := ([], ys760.2.2.2.2, yFP, zm90.2.2.1, zm90.2.2.2.1, zc90, 2, ys760.2.2.2.1, [], [])
theorem yw760 : ywf ys760.2.2.1 = true := by decide +kernel
theorem yk760 : yver yx760 ys760.2.2.1 4000 = true := yverQ_ok (by decide +kernel)
theorem yt760 {E : zHp → Prop} (h : yEF E yFP) : yTs E 1 ys760 := yver_s (k := 90) (n := 0) (x := yx760) (P := ys760.2.2.1) (f := 4000) h (yal_n) yg90 yk760
def ys761 : ySp := (108, 3, (1, [(0, 0, 5)], [], [], [(0, (2, yc 11, yc 0)), (1, (0, (1, 0, 0), yc 0))], []), [(2, [(1, (-2147483648), 2147483647)], [], [], [], [(0, (1, 1, 0), yc 0)])], [(12, 12, 1000)])
def yx761 : yCx := ([ys741, ys759, ys760], ys761.2.2.2.2, yFP, zm108.2.2.1, zm108.2.2.2.1, zc108, 1, ys761.2.2.2.1, [], [])
theorem yw761 : ywf ys761.2.2.1 = true := by decide +kernel
theorem yk761 : yver yx761 ys761.2.2.1 4000 = true := yverQ_ok (by decide +kernel)
theorem yt761 {E : zHp → Prop} (h : yEF E yFP) : yTs E 2 ys761 := yver_s (k := 108) (n := 1) (x := yx761) (P := ys761.2.2.1) (f := 4000) h (yal_c (yt741 h) (by decide) yw741 (yal_c (yt759 h) (by decide) yw759 (yal_c (yt760 h) (by decide) yw760 (yal_n)))) yg108 yk761
def ys762 : ySp := (109, 2, (0, [], [], [], [(0, (2, yc 11, yc 0))], []), [(0, [], [], [], [], [])], [(12, 12, 1000)])
def yx762 : yCx := ([ys711, ys758, ys761], ys762.2.2.2.2, yFP, zm109.2.2.1, zm109.2.2.2.1, zc109, 0, ys762.2.2.2.1, [(2, (1, [(0, 0, 6)], [], [], [(0, (2, yc 11, yc 0)), (1, (0, (1, 0, 0), yc 0))], []), ([((-1), 0)], 7))], [])
theorem yw762 : ywf ys762.2.2.1 = true := by decide +kernel
theorem yk762 : yver yx762 ys762.2.2.1 4000 = true := yverQ_ok (by decide +kernel)
theorem yt762 {E : zHp → Prop} (h : yEF E yFP) : yTs E 6 ys762 := yver_s (k := 109) (n := 5) (x := yx762) (P := ys762.2.2.1) (f := 4000) h (yal_c (yt711 h) (by decide) yw711 (yal_c (yt758 h) (by decide) yw758 (yal_c (yt761 h) (by decide) yw761 (yal_n)))) yg109 yk762
def ys765 : ySp := (88, 4, (2, [(0, 0, 5), (1, (-2147483648), 2147483647)], [], [], [(0, (2, yc 11, yc 0)), (1, (0, (1, 0, 0), yc 0)), (2, (0, yc 5, yc 0)), (3, (0, (1, 1, 0), yc 0))], []), [(2, [], [], [], [], [])], [(12, 12, 1000)])
def yx765 : yCx := ([], ys765.2.2.2.2, yFP, zm88.2.2.1, zm88.2.2.2.1, zc88, 2, ys765.2.2.2.1, [], [])
theorem yw765 : ywf ys765.2.2.1 = true := by decide +kernel
theorem yk765 : yver yx765 ys765.2.2.1 4000 = true := yverQ_ok (by decide +kernel)
theorem yt765 {E : zHp → Prop} (h : yEF E yFP) : yTs E 1 ys765 := yver_s (k := 88) (n := 0) (x := yx765) (P := ys765.2.2.1) (f := 4000) h (yal_n) yg88 yk765
def ys766 : ySp := (112, 2, (0, [], [], [], [(0, (2, yc 11, yc 0))], []), [(0, [], [], [], [], [])], [(12, 12, 1000)])
def yx766 : yCx := ([ys673, ys741, ys735, ys765, ys733], ys766.2.2.2.2, yFP, zm112.2.2.1, zm112.2.2.2.1, zc112, 0, ys766.2.2.2.1, [(2, (1, [(0, 0, 6)], [], [], [(0, (2, yc 11, yc 0)), (1, (0, (1, 0, 0), yc 0))], []), ([((-1), 0)], 7))], [])
theorem yw766 : ywf ys766.2.2.1 = true := by decide +kernel
theorem yk766 : yver yx766 ys766.2.2.1 4000 = true := yverQ_ok (by decide +kernel)
theorem yt766 {E : zHp → Prop} (h : yEF E yFP) : yTs E 3 ys766 := yver_s (k := 112) (n := 2) (x := yx766) (P := ys766.2.2.1) (f := 4000) h (yal_c (yt673 h) (by decide) yw673 (yal_c (yt741 h) (by decide) yw741 (yal_c (yt735 h) (by decide) yw735 (yal_c (yt765 h) (by decide) yw765 (yal_c (yt733 h) (by decide) yw733 (yal_n)))))) yg112 yk766
def ys767 : ySp := (82, 1, (0, [], [], [], [(0, (2, yc 11, yc 0))], []), [(1, [(0, (-2147483648), 2147483647)], [], [], [], [(0, (1, 0, 0), yc 0)])], [])
def yx767 : yCx := ([], ys767.2.2.2.2, yFP, zm82.2.2.1, zm82.2.2.2.1, zc82, 0, ys767.2.2.2.1, [], [])
theorem yw767 : ywf ys767.2.2.1 = true := by decide +kernel
theorem yk767 : yver yx767 ys767.2.2.1 4000 = true := yverQ_ok (by decide +kernel)
theorem yt767 {E : zHp → Prop} (h : yEF E yFP) : yTs E 1 ys767 := yver_s (k := 82) (n := 0) (x := yx767) (P := ys767.2.2.1) (f := 4000) h (yal_n) yg82 yk767
def ys769 : ySp := (204, 1, (1, [(0, 0, 6)], [], [(yc 80, yc 0, (0, (1, 0, 0), yc 0))], [(0, (2, yc 70, yc 0))], []), [(1, [(0, 0, 0)], [], [(yc 80, yc 0, (0, yc 0, yc 0))], [], [(0, yc 0, yc 0)]), (1, [(0, 1, 6)], [], [(yc 80, yc 0, (0, (1, 0, 0), yc 0))], [], [(0, yc 1, yc 0)])], [])
def yx769 : yCx := ([], ys769.2.2.2.2, yFP, zm204.2.2.1, zm204.2.2.2.1, zc204, 1, ys769.2.2.2.1, [], [])
theorem yw769 : ywf ys769.2.2.1 = true := by decide +kernel
theorem yk769 : yver yx769 ys769.2.2.1 4000 = true := yverQ_ok (by decide +kernel)
theorem yt769 {E : zHp → Prop} (h : yEF E yFP) : yTs E 1 ys769 := yver_s (k := 204) (n := 0) (x := yx769) (P := ys769.2.2.1) (f := 4000) h (yal_n) yg204 yk769
def ys770 : ySp := (158, 6, (1, [(0, 0, 2147483647)], [], [], [(0, (1, (1, 0, 0), yc 0)), (2, (1, yc 1, yc 0)), (4, (1, yc 10, yc 0))], []), [(1, [(0, 0, 0)], [], [], [], [(0, yc 0, yc 0)]), (1, [(0, 11, 2147483647)], [], [], [], [(0, yc 0, yc 0)]), (1, [(0, 1, 10)], [], [], [], [(0, yc 1, yc 0)])], [])
def yx770 : yCx := ([], ys770.2.2.2.2, yFP, zm158.2.2.1, zm158.2.2.2.1, zc158, 1, ys770.2.2.2.1, [], [])
theorem yw770 : ywf ys770.2.2.1 = true := by decide +kernel
theorem yk770 : yver yx770 ys770.2.2.1 4000 = true := yverQ_ok (by decide +kernel)
theorem yt770 {E : zHp → Prop} (h : yEF E yFP) : yTs E 1 ys770 := yver_s (k := 158) (n := 0) (x := yx770) (P := ys770.2.2.1) (f := 4000) h (yal_n) yg158 yk770
def ys771 : ySp := (158, 6, (1, [(0, 0, 2147483647)], [], [], [(0, (1, (1, 0, 0), yc 0)), (2, (1, yc 1, yc 0)), (4, (1, yc 60, yc 0))], []), [(1, [(0, 0, 0)], [], [], [], [(0, yc 0, yc 0)]), (1, [(0, 61, 2147483647)], [], [], [], [(0, yc 0, yc 0)]), (1, [(0, 1, 60)], [], [], [], [(0, yc 1, yc 0)])], [])
def yx771 : yCx := ([], ys771.2.2.2.2, yFP, zm158.2.2.1, zm158.2.2.2.1, zc158, 1, ys771.2.2.2.1, [], [])
theorem yw771 : ywf ys771.2.2.1 = true := by decide +kernel
theorem yk771 : yver yx771 ys771.2.2.1 4000 = true := yverQ_ok (by decide +kernel)
theorem yt771 {E : zHp → Prop} (h : yEF E yFP) : yTs E 1 ys771 := yver_s (k := 158) (n := 0) (x := yx771) (P := ys771.2.2.1) (f := 4000) h (yal_n) yg158 yk771
def ys772 : ySp := (158, 6, (1, [(0, 0, 2147483647)], [], [], [(0, (1, (1, 0, 0), yc 0)), (2, (1, yc 0, yc 0)), (4, (1, yc 1, yc 0))], []), [(1, [(0, 2, 2147483647)], [], [], [], [(0, yc 0, yc 0)]), (1, [(0, 0, 1)], [], [], [], [(0, yc 1, yc 0)])], [])
def yx772 : yCx := ([], ys772.2.2.2.2, yFP, zm158.2.2.1, zm158.2.2.2.1, zc158, 1, ys772.2.2.2.1, [], [])
theorem yw772 : ywf ys772.2.2.1 = true := by decide +kernel
theorem yk772 : yver yx772 ys772.2.2.1 4000 = true := yverQ_ok (by decide +kernel)
theorem yt772 {E : zHp → Prop} (h : yEF E yFP) : yTs E 1 ys772 := yver_s (k := 158) (n := 0) (x := yx772) (P := ys772.2.2.1) (f := 4000) h (yal_n) yg158 yk772
def ys773 : ySp := (274, 2, (0, [], [], [], [(0, (2, yc 70, yc 0)), (1, (0, yc 7, yc 0))], []), [(1, [(0, 0, 6)], [], [], [], [(0, (1, 0, 0), yc 0)])], [(70, 70, 35)])
def yx773 : yCx := ([], ys773.2.2.2.2, yFP, zm274.2.2.1, zm274.2.2.2.1, zc274, 0, ys773.2.2.2.1, [], [])
theorem yw773 : ywf ys773.2.2.1 = true := by decide +kernel
theorem yk773 : yver yx773 ys773.2.2.1 4000 = true := yverQ_ok (by decide +kernel)
theorem yt773 {E : zHp → Prop} (h : yEF E yFP) : yTs E 1 ys773 := yver_s (k := 274) (n := 0) (x := yx773) (P := ys773.2.2.1) (f := 4000) h (yal_n) yg274 yk773
def ys777 : ySp := (210, 3, (2, [(0, 0, 5), (1, 0, 5)], [], [], [(0, (2, yc 70, yc 0)), (1, (0, (1, 0, 0), yc 0)), (2, (0, (1, 1, 0), yc 0))], []), [(2, [], [], [], [], [(0, yc 0, yc 0)]), (2, [], [], [], [], [(0, yc 1, yc 0)])], [])
def yx777 : yCx := ([], ys777.2.2.2.2, yFP, zm210.2.2.1, zm210.2.2.2.1, zc210, 2, ys777.2.2.2.1, [], [])
theorem yw777 : ywf ys777.2.2.1 = true := by decide +kernel
theorem yk777 : yver yx777 ys777.2.2.1 4000 = true := yverQ_ok (by decide +kernel)
theorem yt777 {E : zHp → Prop} (h : yEF E yFP) : yTs E 1 ys777 := yver_s (k := 210) (n := 0) (x := yx777) (P := ys777.2.2.1) (f := 4000) h (yal_n) yg210 yk777
def ys780 : ySp := (274, 2, (0, [], [], [], [(0, (2, yc 70, yc 0)), (1, (0, yc 6, yc 0))], []), [(1, [(0, 0, 5)], [], [], [], [(0, (1, 0, 0), yc 0)])], [(70, 70, 35)])
def yx780 : yCx := ([], ys780.2.2.2.2, yFP, zm274.2.2.1, zm274.2.2.2.1, zc274, 0, ys780.2.2.2.1, [], [])
theorem yw780 : ywf ys780.2.2.1 = true := by decide +kernel
theorem yk780 : yver yx780 ys780.2.2.1 4000 = true := yverQ_ok (by decide +kernel)
theorem yt780 {E : zHp → Prop} (h : yEF E yFP) : yTs E 1 ys780 := yver_s (k := 274) (n := 0) (x := yx780) (P := ys780.2.2.1) (f := 4000) h (yal_n) yg274 yk780
def ys781 : ySp := (274, 2, (0, [], [], [], [(0, (2, yc 70, yc 0)), (1, (0, yc 5, yc 0))], []), [(1, [(0, 0, 4)], [], [], [], [(0, (1, 0, 0), yc 0)])], [(70, 70, 35)])
def yx781 : yCx := ([], ys781.2.2.2.2, yFP, zm274.2.2.1, zm274.2.2.2.1, zc274, 0, ys781.2.2.2.1, [], [])
theorem yw781 : ywf ys781.2.2.1 = true := by decide +kernel
theorem yk781 : yver yx781 ys781.2.2.1 4000 = true := yverQ_ok (by decide +kernel)
theorem yt781 {E : zHp → Prop} (h : yEF E yFP) : yTs E 1 ys781 := yver_s (k := 274) (n := 0) (x := yx781) (P := ys781.2.2.1) (f := 4000) h (yal_n) yg274 yk781
def ys782 : ySp := (274, 2, (0, [], [], [], [(0, (2, yc 70, yc 0)), (1, (0, yc 4, yc 0))], []), [(1, [(0, 0, 3)], [], [], [], [(0, (1, 0, 0), yc 0)])], [(70, 70, 35)])
def yx782 : yCx := ([], ys782.2.2.2.2, yFP, zm274.2.2.1, zm274.2.2.2.1, zc274, 0, ys782.2.2.2.1, [], [])
theorem yw782 : ywf ys782.2.2.1 = true := by decide +kernel
theorem yk782 : yver yx782 ys782.2.2.1 4000 = true := yverQ_ok (by decide +kernel)
theorem yt782 {E : zHp → Prop} (h : yEF E yFP) : yTs E 1 ys782 := yver_s (k := 274) (n := 0) (x := yx782) (P := ys782.2.2.1) (f := 4000) h (yal_n) yg274 yk782
def ys783 : ySp := (274, 2, (0, [], [], [], [(0, (2, yc 70, yc 0)), (1, (0, yc 3, yc 0))], []), [(1, [(0, 0, 2)], [], [], [], [(0, (1, 0, 0), yc 0)])], [(70, 70, 35)])
def yx783 : yCx := ([], ys783.2.2.2.2, yFP, zm274.2.2.1, zm274.2.2.2.1, zc274, 0, ys783.2.2.2.1, [], [])
theorem yw783 : ywf ys783.2.2.1 = true := by decide +kernel
theorem yk783 : yver yx783 ys783.2.2.1 4000 = true := yverQ_ok (by decide +kernel)
theorem yt783 {E : zHp → Prop} (h : yEF E yFP) : yTs E 1 ys783 := yver_s (k := 274) (n := 0) (x := yx783) (P := ys783.2.2.1) (f := 4000) h (yal_n) yg274 yk783
def ys784 : ySp := (274, 2, (0, [], [], [], [(0, (2, yc 70, yc 0)), (1, (0, yc 2, yc 0))], []), [(1, [(0, 0, 1)], [], [], [], [(0, (1, 0, 0), yc 0)])], [(70, 70, 35)])
def yx784 : yCx := ([], ys784.2.2.2.2, yFP, zm274.2.2.1, zm274.2.2.2.1, zc274, 0, ys784.2.2.2.1, [], [])
theorem yw784 : ywf ys784.2.2.1 = true := by decide +kernel
theorem yk784 : yver yx784 ys784.2.2.1 4000 = true := yverQ_ok (by decide +kernel)
theorem yt784 {E : zHp → Prop} (h : yEF E yFP) : yTs E 1 ys784 := yver_s (k := 274) (n := 0) (x := yx784) (P := ys784.2.2.1) (f := 4000) h (yal_n) yg274 yk784
def ys785 : ySp := (274, 2, (0, [], [], [], [(0, (2, yc 70, yc 0)), (1, (0, yc 1, yc 0))], []), [(0, [], [], [], [], [(0, yc 0, yc 0)])], [(70, 70, 35)])
def yx785 : yCx := ([], ys785.2.2.2.2, yFP, zm274.2.2.1, zm274.2.2.2.1, zc274, 0, ys785.2.2.2.1, [], [])
theorem yw785 : ywf ys785.2.2.1 = true := by decide +kernel
theorem yk785 : yver yx785 ys785.2.2.1 4000 = true := yverQ_ok (by decide +kernel)
theorem yt785 {E : zHp → Prop} (h : yEF E yFP) : yTs E 1 ys785 := yver_s (k := 274) (n := 0) (x := yx785) (P := ys785.2.2.1) (f := 4000) h (yal_n) yg274 yk785
def ys786 : ySp := (208, 3, (1, [(0, 0, 5)], [], [], [(0, (2, yc 70, yc 0)), (1, (0, (1, 0, 0), yc 0)), (2, (0, yc 0, yc 0))], []), [(2, [(1, 0, 5)], [], [], [], [(0, (1, 1, 0), yc 0)])], [])
def yx786 : yCx := ([], ys786.2.2.2.2, yFP, zm208.2.2.1, zm208.2.2.2.1, zc208, 1, ys786.2.2.2.1, [], [])
theorem yw786 : ywf ys786.2.2.1 = true := by decide +kernel
theorem yk786 : yver yx786 ys786.2.2.1 4000 = true := yverQ_ok (by decide +kernel)
theorem yt786 {E : zHp → Prop} (h : yEF E yFP) : yTs E 1 ys786 := yver_s (k := 208) (n := 0) (x := yx786) (P := ys786.2.2.1) (f := 4000) h (yal_n) yg208 yk786
def ys787 : ySp := (224, 2, (1, [(0, 0, 5)], [], [], [(0, (2, yc 70, yc 0)), (1, (0, (1, 0, 0), yc 0))], []), [(1, [], [], [], [], [])], [(80, 80, 1000)])
def yx787 : yCx := ([ys786], ys787.2.2.2.2, yFP, zm224.2.2.1, zm224.2.2.2.1, zc224, 1, ys787.2.2.2.1, [], [])
theorem yw787 : ywf ys787.2.2.1 = true := by decide +kernel
theorem yk787 : yver yx787 ys787.2.2.1 4000 = true := yverQ_ok (by decide +kernel)
theorem yt787 {E : zHp → Prop} (h : yEF E yFP) : yTs E 2 ys787 := yver_s (k := 224) (n := 1) (x := yx787) (P := ys787.2.2.1) (f := 4000) h (yal_c (yt786 h) (by decide) yw786 (yal_n)) yg224 yk787
def ys788 : ySp := (208, 3, (1, [(0, 0, 5)], [], [], [(0, (2, yc 70, yc 0)), (1, (0, (1, 0, 0), yc 0)), (2, (0, yc 3, yc 0))], []), [(2, [(1, 0, 5)], [], [], [], [(0, (1, 1, 0), yc 0)])], [])
def yx788 : yCx := ([], ys788.2.2.2.2, yFP, zm208.2.2.1, zm208.2.2.2.1, zc208, 1, ys788.2.2.2.1, [], [])
theorem yw788 : ywf ys788.2.2.1 = true := by decide +kernel
theorem yk788 : yver yx788 ys788.2.2.1 4000 = true := yverQ_ok (by decide +kernel)
theorem yt788 {E : zHp → Prop} (h : yEF E yFP) : yTs E 1 ys788 := yver_s (k := 208) (n := 0) (x := yx788) (P := ys788.2.2.1) (f := 4000) h (yal_n) yg208 yk788
def ys789 : ySp := (222, 4, (2, [(0, 0, 5), (1, 0, 5)], [], [], [(0, (2, yc 70, yc 0)), (1, (0, (1, 0, 0), yc 0)), (2, (0, (1, 1, 0), yc 0))], []), [(2, [], [], [], [], [(0, yc 0, yc 0)]), (2, [], [], [], [], [(0, yc 1, yc 0)])], [])
def yx789 : yCx := ([ys786, ys788, ys777], ys789.2.2.2.2, yFP, zm222.2.2.1, zm222.2.2.2.1, zc222, 2, ys789.2.2.2.1, [], [])
theorem yw789 : ywf ys789.2.2.1 = true := by decide +kernel
theorem yk789 : yver yx789 ys789.2.2.1 4000 = true := yverQ_ok (by decide +kernel)
theorem yt789 {E : zHp → Prop} (h : yEF E yFP) : yTs E 2 ys789 := yver_s (k := 222) (n := 1) (x := yx789) (P := ys789.2.2.1) (f := 4000) h (yal_c (yt786 h) (by decide) yw786 (yal_c (yt788 h) (by decide) yw788 (yal_c (yt777 h) (by decide) yw777 (yal_n)))) yg222 yk789
def ys790 : ySp := (223, 4, (2, [(0, 0, 5), (1, 0, 5)], [], [], [(0, (2, yc 70, yc 0)), (1, (0, (1, 0, 0), yc 0)), (2, (0, (1, 1, 0), yc 0))], []), [(2, [], [], [], [], [])], [(80, 80, 1000)])
def yx790 : yCx := ([ys788], ys790.2.2.2.2, yFP, zm223.2.2.1, zm223.2.2.2.1, zc223, 2, ys790.2.2.2.1, [], [])
theorem yw790 : ywf ys790.2.2.1 = true := by decide +kernel
theorem yk790 : yver yx790 ys790.2.2.1 4000 = true := yverQ_ok (by decide +kernel)
theorem yt790 {E : zHp → Prop} (h : yEF E yFP) : yTs E 2 ys790 := yver_s (k := 223) (n := 1) (x := yx790) (P := ys790.2.2.1) (f := 4000) h (yal_c (yt788 h) (by decide) yw788 (yal_n)) yg223 yk790
def ys791 : ySp := (275, 4, (0, [], [], [], [(0, (2, yc 70, yc 0))], []), [(1, [(0, (-2147483648), 2147483647)], [], [], [], [(0, (1, 0, 0), yc 0)])], [(70, 70, 35), (80, 80, 1000)])
def yx791 : yCx := ([ys789, ys790, ys787, ys773, ys780, ys781, ys782, ys783, ys784, ys785], ys791.2.2.2.2, yFP, zm275.2.2.1, zm275.2.2.2.1, zc275, 0, ys791.2.2.2.1, [(4, (2, [(0, (-2147483648), 2147483647), (1, 0, 6)], [], [], [(0, (2, yc 70, yc 0)), (1, (0, (1, 0, 0), yc 0)), (2, (0, (1, 1, 0), yc 0))], []), ([((-1), 1)], 7))], [(14, 1, 80, 0)])
theorem yw791 : ywf ys791.2.2.1 = true := by decide +kernel
theorem yk791 : yver yx791 ys791.2.2.1 4000 = true := yverQ_ok (by decide +kernel)
theorem yt791 {E : zHp → Prop} (h : yEF E yFP) : yTs E 3 ys791 := yver_s (k := 275) (n := 2) (x := yx791) (P := ys791.2.2.1) (f := 4000) h (yal_c (yt789 h) (by decide) yw789 (yal_c (yt790 h) (by decide) yw790 (yal_c (yt787 h) (by decide) yw787 (yal_c (yt773 h) (by decide) yw773 (yal_c (yt780 h) (by decide) yw780 (yal_c (yt781 h) (by decide) yw781 (yal_c (yt782 h) (by decide) yw782 (yal_c (yt783 h) (by decide) yw783 (yal_c (yt784 h) (by decide) yw784 (yal_c (yt785 h) (by decide) yw785 (yal_n))))))))))) yg275 yk791
def ys809 : ySp := (208, 3, (1, [(0, 0, 5)], [], [], [(0, (2, yc 70, yc 0)), (1, (0, (1, 0, 0), yc 0)), (2, (0, yc 1, yc 0))], []), [(2, [(1, (-2147483648), 2147483647)], [], [], [], [(0, (1, 1, 0), yc 0)])], [])
def yx809 : yCx := ([], ys809.2.2.2.2, yFP, zm208.2.2.1, zm208.2.2.2.1, zc208, 1, ys809.2.2.2.1, [], [])
theorem yw809 : ywf ys809.2.2.1 = true := by decide +kernel
theorem yk809 : yver yx809 ys809.2.2.1 4000 = true := yverQ_ok (by decide +kernel)
theorem yt809 {E : zHp → Prop} (h : yEF E yFP) : yTs E 1 ys809 := yver_s (k := 208) (n := 0) (x := yx809) (P := ys809.2.2.1) (f := 4000) h (yal_n) yg208 yk809
def ys810 : ySp := (212, 2, (1, [(0, 0, 5)], [], [], [(0, (2, yc 70, yc 0)), (1, (0, (1, 0, 0), yc 0))], []), [(1, [], [], [], [], [(0, yc 0, yc 0)]), (1, [], [], [], [], [(0, yc 1, yc 0)])], [])
def yx810 : yCx := ([ys786, ys788], ys810.2.2.2.2, yFP, zm212.2.2.1, zm212.2.2.2.1, zc212, 1, ys810.2.2.2.1, [], [])
theorem yw810 : ywf ys810.2.2.1 = true := by decide +kernel
theorem yk810 : yver yx810 ys810.2.2.1 4000 = true := yverQ_ok (by decide +kernel)
theorem yt810 {E : zHp → Prop} (h : yEF E yFP) : yTs E 2 ys810 := yver_s (k := 212) (n := 1) (x := yx810) (P := ys810.2.2.1) (f := 4000) h (yal_c (yt786 h) (by decide) yw786 (yal_c (yt788 h) (by decide) yw788 (yal_n))) yg212 yk810
def ys811 : ySp := (208, 3, (1, [(0, 0, 5)], [], [], [(0, (2, yc 70, yc 0)), (1, (0, (1, 0, 0), yc 0)), (2, (0, yc 2, yc 0))], []), [(2, [(1, (-2147483648), 2147483647)], [], [], [], [(0, (1, 1, 0), yc 0)])], [])
def yx811 : yCx := ([], ys811.2.2.2.2, yFP, zm208.2.2.1, zm208.2.2.2.1, zc208, 1, ys811.2.2.2.1, [], [])
theorem yw811 : ywf ys811.2.2.1 = true := by decide +kernel
theorem yk811 : yver yx811 ys811.2.2.1 4000 = true := yverQ_ok (by decide +kernel)
theorem yt811 {E : zHp → Prop} (h : yEF E yFP) : yTs E 1 ys811 := yver_s (k := 208) (n := 0) (x := yx811) (P := ys811.2.2.1) (f := 4000) h (yal_n) yg208 yk811
def ys812 : ySp := (208, 3, (1, [(0, 0, 5)], [], [], [(0, (2, yc 70, yc 0)), (1, (0, (1, 0, 0), yc 0)), (2, (0, yc 4, yc 0))], []), [(2, [(1, (-2147483648), 2147483647)], [], [], [], [(0, (1, 1, 0), yc 0)])], [])
def yx812 : yCx := ([], ys812.2.2.2.2, yFP, zm208.2.2.1, zm208.2.2.2.1, zc208, 1, ys812.2.2.2.1, [], [])
theorem yw812 : ywf ys812.2.2.1 = true := by decide +kernel
theorem yk812 : yver yx812 ys812.2.2.1 4000 = true := yverQ_ok (by decide +kernel)
theorem yt812 {E : zHp → Prop} (h : yEF E yFP) : yTs E 1 ys812 := yver_s (k := 208) (n := 0) (x := yx812) (P := ys812.2.2.1) (f := 4000) h (yal_n) yg208 yk812
def ys813 : ySp := (208, 3, (1, [(0, 0, 5)], [], [], [(0, (2, yc 70, yc 0)), (1, (0, (1, 0, 0), yc 0)), (2, (0, yc 5, yc 0))], []), [(2, [(1, (-2147483648), 2147483647)], [], [], [], [(0, (1, 1, 0), yc 0)])], [])
def yx813 : yCx := ([], ys813.2.2.2.2, yFP, zm208.2.2.1, zm208.2.2.2.1, zc208, 1, ys813.2.2.2.1, [], [])
theorem yw813 : ywf ys813.2.2.1 = true := by decide +kernel
theorem yk813 : yver yx813 ys813.2.2.1 4000 = true := yverQ_ok (by decide +kernel)
theorem yt813 {E : zHp → Prop} (h : yEF E yFP) : yTs E 1 ys813 := yver_s (k := 208) (n := 0) (x := yx813) (P := ys813.2.2.1) (f := 4000) h (yal_n) yg208 yk813
def ys814 : ySp := (213, 3, (1, [(0, 0, 5)], [], [], [(0, (2, yc 70, yc 0)), (1, (0, (1, 0, 0), yc 0))], []), [(1, [], [], [], [], [(0, yc 0, yc 0)]), (2, [(1, 0, 2147483647)], [], [], [], [(0, (1, 1, 0), yc 0)])], [])
def yx814 : yCx := ([ys813, ys810], ys814.2.2.2.2, yFP, zm213.2.2.1, zm213.2.2.2.1, zc213, 1, ys814.2.2.2.1, [], [])
theorem yw814 : ywf ys814.2.2.1 = true := by decide +kernel
theorem yk814 : yver yx814 ys814.2.2.1 4000 = true := yverQ_ok (by decide +kernel)
theorem yt814 {E : zHp → Prop} (h : yEF E yFP) : yTs E 3 ys814 := yver_s (k := 213) (n := 2) (x := yx814) (P := ys814.2.2.1) (f := 4000) h (yal_c (yt813 h) (by decide) yw813 (yal_c (yt810 h) (by decide) yw810 (yal_n))) yg213 yk814
def ys815 : ySp := (214, 4, (1, [(0, 0, 5)], [], [], [(0, (2, yc 70, yc 0)), (1, (0, (1, 0, 0), yc 0)), (2, (0, yc 0, yc 0))], []), [(1, [], [], [], [], [(0, yc 0, yc 0)]), (2, [(1, 0, 2147483647)], [], [], [], [(0, (1, 1, 0), yc 0)])], [])
def yx815 : yCx := ([ys811, ys812, ys810, ys814], ys815.2.2.2.2, yFP, zm214.2.2.1, zm214.2.2.2.1, zc214, 1, ys815.2.2.2.1, [], [])
theorem yw815 : ywf ys815.2.2.1 = true := by decide +kernel
theorem yk815 : yver yx815 ys815.2.2.1 4000 = true := yverQ_ok (by decide +kernel)
theorem yt815 {E : zHp → Prop} (h : yEF E yFP) : yTs E 4 ys815 := yver_s (k := 214) (n := 3) (x := yx815) (P := ys815.2.2.1) (f := 4000) h (yal_c (yt811 h) (by decide) yw811 (yal_c (yt812 h) (by decide) yw812 (yal_c (yt810 h) (by decide) yw810 (yal_c (yt814 h) (by decide) yw814 (yal_n))))) yg214 yk815
def ys825 : ySp := (209, 3, (1, [(0, 0, 5)], [], [], [(0, (2, yc 70, yc 0)), (1, (0, (1, 0, 0), yc 0)), (2, (0, yc 1, yc 0))], []), [(2, [(1, (-2147483648), 2147483647)], [], [], [], [(0, (1, 1, 0), yc 0)])], [])
def yx825 : yCx := ([], ys825.2.2.2.2, yFP, zm209.2.2.1, zm209.2.2.2.1, zc209, 1, ys825.2.2.2.1, [], [])
theorem yw825 : ywf ys825.2.2.1 = true := by decide +kernel
theorem yk825 : yver yx825 ys825.2.2.1 4000 = true := yverQ_ok (by decide +kernel)
theorem yt825 {E : zHp → Prop} (h : yEF E yFP) : yTs E 1 ys825 := yver_s (k := 209) (n := 0) (x := yx825) (P := ys825.2.2.1) (f := 4000) h (yal_n) yg209 yk825
def ys826 : ySp := (209, 3, (1, [(0, 0, 5)], [], [], [(0, (2, yc 70, yc 0)), (1, (0, (1, 0, 0), yc 0)), (2, (0, yc 0, yc 0))], []), [(2, [(1, 0, 5)], [], [], [], [(0, (1, 1, 0), yc 0)])], [])
def yx826 : yCx := ([], ys826.2.2.2.2, yFP, zm209.2.2.1, zm209.2.2.2.1, zc209, 1, ys826.2.2.2.1, [], [])
theorem yw826 : ywf ys826.2.2.1 = true := by decide +kernel
theorem yk826 : yver yx826 ys826.2.2.1 4000 = true := yverQ_ok (by decide +kernel)
theorem yt826 {E : zHp → Prop} (h : yEF E yFP) : yTs E 1 ys826 := yver_s (k := 209) (n := 0) (x := yx826) (P := ys826.2.2.1) (f := 4000) h (yal_n) yg209 yk826
def ys827 : ySp := (209, 3, (1, [(0, 0, 5)], [], [], [(0, (2, yc 70, yc 0)), (1, (0, (1, 0, 0), yc 0)), (2, (0, yc 2, yc 0))], []), [(2, [(1, (-2147483648), 2147483647)], [], [], [], [(0, (1, 1, 0), yc 0)])], [])
def yx827 : yCx := ([], ys827.2.2.2.2, yFP, zm209.2.2.1, zm209.2.2.2.1, zc209, 1, ys827.2.2.2.1, [], [])
theorem yw827 : ywf ys827.2.2.1 = true := by decide +kernel
theorem yk827 : yver yx827 ys827.2.2.1 4000 = true := yverQ_ok (by decide +kernel)
theorem yt827 {E : zHp → Prop} (h : yEF E yFP) : yTs E 1 ys827 := yver_s (k := 209) (n := 0) (x := yx827) (P := ys827.2.2.1) (f := 4000) h (yal_n) yg209 yk827
def ys828 : ySp := (216, 3, (1, [(0, 0, 5)], [], [], [(0, (2, yc 70, yc 0)), (1, (0, (1, 0, 0), yc 0))], []), [(1, [], [], [], [], [(0, yc 0, yc 0)]), (1, [], [], [], [], [(0, yc 1, yc 0)])], [])
def yx828 : yCx := ([ys788, ys809, ys825, ys826, ys827, ys815, ys668], ys828.2.2.2.2, yFP, zm216.2.2.1, zm216.2.2.2.1, zc216, 1, ys828.2.2.2.1, [(12, (2, [(0, 0, 5), (1, 0, 6)], [], [], [(0, (2, yc 70, yc 0)), (1, (0, (1, 0, 0), yc 0)), (2, (0, (1, 1, 0), yc 0))], []), ([((-1), 1)], 7))], [])
theorem yw828 : ywf ys828.2.2.1 = true := by decide +kernel
theorem yk828 : yver yx828 ys828.2.2.1 4000 = true := yverQ_ok (by decide +kernel)
theorem yt828 {E : zHp → Prop} (h : yEF E yFP) : yTs E 5 ys828 := yver_s (k := 216) (n := 4) (x := yx828) (P := ys828.2.2.1) (f := 4000) h (yal_c (yt788 h) (by decide) yw788 (yal_c (yt809 h) (by decide) yw809 (yal_c (yt825 h) (by decide) yw825 (yal_c (yt826 h) (by decide) yw826 (yal_c (yt827 h) (by decide) yw827 (yal_c (yt815 h) (by decide) yw815 (yal_c (yt668 h) (by decide) yw668 (yal_n)))))))) yg216 yk828
def ys829 : ySp := (209, 3, (1, [(0, 0, 5)], [], [], [(0, (2, yc 70, yc 0)), (1, (0, (1, 0, 0), yc 0)), (2, (0, yc 3, yc 0))], []), [(2, [(1, (-2147483648), 2147483647)], [], [], [], [(0, (1, 1, 0), yc 0)])], [])
def yx829 : yCx := ([], ys829.2.2.2.2, yFP, zm209.2.2.1, zm209.2.2.2.1, zc209, 1, ys829.2.2.2.1, [], [])
theorem yw829 : ywf ys829.2.2.1 = true := by decide +kernel
theorem yk829 : yver yx829 ys829.2.2.1 4000 = true := yverQ_ok (by decide +kernel)
theorem yt829 {E : zHp → Prop} (h : yEF E yFP) : yTs E 1 ys829 := yver_s (k := 209) (n := 0) (x := yx829) (P := ys829.2.2.1) (f := 4000) h (yal_n) yg209 yk829
def ys830 : ySp := (225, 2, (1, [(0, 0, 5)], [], [], [(0, (2, yc 70, yc 0)), (1, (0, (1, 0, 0), yc 0))], []), [(2, [(1, (-2147483648), 2147483647)], [], [], [], [(0, (1, 1, 0), yc 0)])], [(80, 80, 1000)])
def yx830 : yCx := ([ys829], ys830.2.2.2.2, yFP, zm225.2.2.1, zm225.2.2.2.1, zc225, 1, ys830.2.2.2.1, [], [])
theorem yw830 : ywf ys830.2.2.1 = true := by decide +kernel
theorem yk830 : yver yx830 ys830.2.2.1 4000 = true := yverQ_ok (by decide +kernel)
theorem yt830 {E : zHp → Prop} (h : yEF E yFP) : yTs E 2 ys830 := yver_s (k := 225) (n := 1) (x := yx830) (P := ys830.2.2.1) (f := 4000) h (yal_c (yt829 h) (by decide) yw829 (yal_n)) yg225 yk830
def ys831 : ySp := (246, 3, (0, [], [], [], [(0, (2, yc 70, yc 0))], []), [(1, [(0, (-2147483648), 2147483647)], [], [], [], [(0, (1, 0, 0), yc 0)])], [(80, 80, 1000)])
def yx831 : yCx := ([ys828, ys830], ys831.2.2.2.2, yFP, zm246.2.2.1, zm246.2.2.2.1, zc246, 0, ys831.2.2.2.1, [(4, (2, [(0, (-2147483648), 2147483647), (1, 0, 6)], [], [], [(0, (2, yc 70, yc 0)), (1, (0, (1, 0, 0), yc 0)), (2, (0, (1, 1, 0), yc 0))], []), ([((-1), 1)], 7))], [])
theorem yw831 : ywf ys831.2.2.1 = true := by decide +kernel
theorem yk831 : yver yx831 ys831.2.2.1 4000 = true := yverQ_ok (by decide +kernel)
theorem yt831 {E : zHp → Prop} (h : yEF E yFP) : yTs E 6 ys831 := yver_s (k := 246) (n := 5) (x := yx831) (P := ys831.2.2.1) (f := 4000) h (yal_c (yt828 h) (by decide) yw828 (yal_c (yt830 h) (by decide) yw830 (yal_n))) yg246 yk831
def ys832 : ySp := (233, 3, (0, [], [], [], [(0, (2, yc 70, yc 0))], []), [(1, [(0, (-2147483648), 2147483647)], [], [], [], [(0, (1, 0, 0), yc 0)])], [(80, 80, 1000)])
def yx832 : yCx := ([ys813, ys810], ys832.2.2.2.2, yFP, zm233.2.2.1, zm233.2.2.2.1, zc233, 0, ys832.2.2.2.1, [(4, (2, [(0, (-2147483648), 2147483647), (1, 0, 6)], [], [], [(0, (2, yc 70, yc 0)), (1, (0, (1, 0, 0), yc 0)), (2, (0, (1, 1, 0), yc 0))], []), ([((-1), 1)], 7))], [])
theorem yw832 : ywf ys832.2.2.1 = true := by decide +kernel
theorem yk832 : yver yx832 ys832.2.2.1 4000 = true := yverQ_ok (by decide +kernel)
theorem yt832 {E : zHp → Prop} (h : yEF E yFP) : yTs E 3 ys832 := yver_s (k := 233) (n := 2) (x := yx832) (P := ys832.2.2.1) (f := 4000) h (yal_c (yt813 h) (by decide) yw813 (yal_c (yt810 h) (by decide) yw810 (yal_n))) yg233 yk832
def ys833 : ySp := (276, 8, (3, [(0, 0, 63), (1, 0, 63), (2, 0, 1)], [], [], [(0, (2, yc 70, yc 0)), (1, (0, (1, 0, 0), yc 0)), (2, (0, (1, 1, 0), yc 0)), (3, (0, (1, 2, 0), yc 0))], []), [(3, [], [], [], [], [(0, yc (-1), yc 0)]), (4, [(0, 1, 10), (1, 1, 60), (3, (-2147483648), 2147483647)], [], [], [], [(0, (1, 3, 0), yc 0)])], [(70, 70, 35), (80, 80, 1000), (84, 84, 1000)])
def yx833 : yCx := ([ys770, ys771, ys772, ys769, ys832, ys831, ys4, ys5, ys791], ys833.2.2.2.2, yFP, zm276.2.2.1, zm276.2.2.2.1, zc276, 3, ys833.2.2.2.1, [(65, (11, [(0, 1, 10), (1, 1, 60), (2, 0, 1), (3, 1, 60), (4, (-2147483648), 2147483647), (5, (-2147483648), 2147483647), (6, 0, 40), (7, 0, 2147483647), (8, 0, 2147483647), (9, 1, 6), (10, 0, 6)], [], [(yc 70, yc 23, (0, (1, 7, 0), yc 0)), (yc 70, yc 35, (1, (1, 8, 0), yc 0)), (yc 80, yc 0, (0, (1, 9, 0), yc 0)), (yc 80, yc 2, (0, (1, 10, 0), yc 0)), (yc 84, yc 0, (0, (1, 9, 0), yc 0)), (yc 84, yc 2, (0, (1, 10, 0), yc 0))], [(0, (2, yc 70, yc 0)), (1, (0, (1, 0, 0), yc 0)), (2, (0, (1, 3, 0), yc 0)), (3, (0, (1, 2, 0), yc 0)), (4, (0, (1, 4, 0), yc 0)), (5, (0, (1, 5, 0), yc 0)), (6, (0, (1, 6, 0), yc 0))], []), ([((-63), 6)], 2583)), (74, (14, [(0, 1, 10), (1, 1, 60), (2, 0, 1), (3, 1, 60), (4, (-2147483648), 2147483647), (5, (-2147483648), 2147483647), (6, 0, 20), (7, 0, 60), (8, 0, 2147483647), (9, 0, 2147483647), (10, 0, 6), (11, 0, 6), (12, 1, 6), (13, 0, 6)], [], [(yc 70, yc 23, (0, (1, 8, 0), yc 0)), (yc 70, yc 35, (1, (1, 9, 0), yc 0)), (yc 80, yc 0, (0, (1, 10, 0), yc 0)), (yc 80, yc 2, (0, (1, 11, 0), yc 0)), (yc 84, yc 0, (0, (1, 12, 0), yc 0)), (yc 84, yc 2, (0, (1, 13, 0), yc 0))], [(0, (2, yc 70, yc 0)), (1, (0, (1, 0, 0), yc 0)), (2, (0, (1, 3, 0), yc 0)), (3, (0, (1, 2, 0), yc 0)), (4, (0, (1, 4, 0), yc 0)), (5, (0, (1, 5, 0), yc 0)), (6, (0, (1, 6, 0), yc 0)), (7, (0, (1, 7, 0), yc 0))], []), ([((-1), 7), ((-63), 6)], 2581))], [])
theorem yw833 : ywf ys833.2.2.1 = true := by decide +kernel
theorem yk833 : yver yx833 ys833.2.2.1 4000 = true := yverQ_ok (by decide +kernel)
theorem yt833 {E : zHp → Prop} (h : yXt E) : yTs E 7 ys833 := yver_s (k := 276) (n := 6) (x := yx833) (P := ys833.2.2.1) (f := 4000) h.1 (yal_c (yt770 h.1) (by decide) yw770 (yal_c (yt771 h.1) (by decide) yw771 (yal_c (yt772 h.1) (by decide) yw772 (yal_c (yt769 h.1) (by decide) yw769 (yal_c (yt832 h.1) (by decide) yw832 (yal_c (yt831 h.1) (by decide) yw831 (yal_c (yl4 h) (by decide) yw4 (yal_c (yl5 h) (by decide) yw5 (yal_c (yt791 h.1) (by decide) yw791 (yal_n)))))))))) yg276 yk833
def ys834 : ySp := (158, 6, (1, [(0, (-9223372036854775808), 9223372036854775807)], [], [], [(0, (1, (1, 0, 0), yc 0)), (2, (1, yc 1, yc 0)), (4, (1, yc 10, yc 0))], []), [(1, [(0, (-9223372036854775808), 0)], [], [], [], [(0, yc 0, yc 0)]), (1, [(0, 11, 9223372036854775807)], [], [], [], [(0, yc 0, yc 0)]), (1, [(0, 1, 10)], [], [], [], [(0, yc 1, yc 0)])], [])
def yx834 : yCx := ([], ys834.2.2.2.2, yFP, zm158.2.2.1, zm158.2.2.2.1, zc158, 1, ys834.2.2.2.1, [], [])
theorem yw834 : ywf ys834.2.2.1 = true := by decide +kernel
theorem yk834 : yver yx834 ys834.2.2.1 4000 = true := yverQ_ok (by decide +kernel)
theorem yt834 {E : zHp → Prop} (h : yEF E yFP) : yTs E 1 ys834 := yver_s (k := 158) (n := 0) (x := yx834) (P := ys834.2.2.1) (f := 4000) h (yal_n) yg158 yk834
def ys835 : ySp := (158, 6, (1, [(0, (-9223372036854775808), 9223372036854775807)], [], [], [(0, (1, (1, 0, 0), yc 0)), (2, (1, yc 1, yc 0)), (4, (1, yc 60, yc 0))], []), [(1, [(0, (-9223372036854775808), 0)], [], [], [], [(0, yc 0, yc 0)]), (1, [(0, 61, 9223372036854775807)], [], [], [], [(0, yc 0, yc 0)]), (1, [(0, 1, 60)], [], [], [], [(0, yc 1, yc 0)])], [])
def yx835 : yCx := ([], ys835.2.2.2.2, yFP, zm158.2.2.1, zm158.2.2.2.1, zc158, 1, ys835.2.2.2.1, [], [])
theorem yw835 : ywf ys835.2.2.1 = true := by decide +kernel
theorem yk835 : yver yx835 ys835.2.2.1 4000 = true := yverQ_ok (by decide +kernel)
theorem yt835 {E : zHp → Prop} (h : yEF E yFP) : yTs E 1 ys835 := yver_s (k := 158) (n := 0) (x := yx835) (P := ys835.2.2.1) (f := 4000) h (yal_n) yg158 yk835
def ys836 : ySp := (158, 6, (1, [(0, (-9223372036854775808), 9223372036854775807)], [], [], [(0, (1, (1, 0, 0), yc 0)), (2, (1, yc 0, yc 0)), (4, (1, yc 1, yc 0))], []), [(1, [(0, (-9223372036854775808), (-1))], [], [], [], [(0, yc 0, yc 0)]), (1, [(0, 2, 9223372036854775807)], [], [], [], [(0, yc 0, yc 0)]), (1, [(0, 0, 1)], [], [], [], [(0, yc 1, yc 0)])], [])
def yx836 : yCx := ([], ys836.2.2.2.2, yFP, zm158.2.2.1, zm158.2.2.2.1, zc158, 1, ys836.2.2.2.1, [], [])
theorem yw836 : ywf ys836.2.2.1 = true := by decide +kernel
theorem yk836 : yver yx836 ys836.2.2.1 4000 = true := yverQ_ok (by decide +kernel)
theorem yt836 {E : zHp → Prop} (h : yEF E yFP) : yTs E 1 ys836 := yver_s (k := 158) (n := 0) (x := yx836) (P := ys836.2.2.1) (f := 4000) h (yal_n) yg158 yk836
def ys837 : ySp := (276, 8, (3, [(0, (-2147483648), 2147483647), (1, (-2147483648), 2147483647), (2, (-2147483648), 2147483647)], [], [], [(0, (2, yc 70, yc 0)), (1, (0, (1, 0, 0), yc 0)), (2, (0, (1, 1, 0), yc 0)), (3, (0, (1, 2, 0), yc 0))], []), [(3, [], [], [], [], [(0, yc (-1), yc 0)]), (4, [(0, 1, 10), (1, 1, 60), (2, 0, 1), (3, (-2147483648), 2147483647)], [], [], [], [(0, (1, 3, 0), yc 0)])], [(70, 70, 35), (80, 80, 1000), (84, 84, 1000)])
def yx837 : yCx := ([ys834, ys835, ys836, ys769, ys832, ys831, ys4, ys5, ys791], ys837.2.2.2.2, yFP, zm276.2.2.1, zm276.2.2.2.1, zc276, 3, ys837.2.2.2.1, [(65, (11, [(0, 1, 10), (1, 1, 60), (2, 0, 1), (3, 1, 60), (4, (-2147483648), 2147483647), (5, (-2147483648), 2147483647), (6, 0, 40), (7, 0, 2147483647), (8, 0, 2147483647), (9, 1, 6), (10, 0, 6)], [], [(yc 70, yc 23, (0, (1, 7, 0), yc 0)), (yc 70, yc 35, (1, (1, 8, 0), yc 0)), (yc 80, yc 0, (0, (1, 9, 0), yc 0)), (yc 80, yc 2, (0, (1, 10, 0), yc 0)), (yc 84, yc 0, (0, (1, 9, 0), yc 0)), (yc 84, yc 2, (0, (1, 10, 0), yc 0))], [(0, (2, yc 70, yc 0)), (1, (0, (1, 0, 0), yc 0)), (2, (0, (1, 3, 0), yc 0)), (3, (0, (1, 2, 0), yc 0)), (4, (0, (1, 4, 0), yc 0)), (5, (0, (1, 5, 0), yc 0)), (6, (0, (1, 6, 0), yc 0))], []), ([((-63), 6)], 2583)), (74, (14, [(0, 1, 10), (1, 1, 60), (2, 0, 1), (3, 1, 60), (4, (-2147483648), 2147483647), (5, (-2147483648), 2147483647), (6, 0, 20), (7, 0, 60), (8, 0, 2147483647), (9, 0, 2147483647), (10, 0, 6), (11, 0, 6), (12, 1, 6), (13, 0, 6)], [], [(yc 70, yc 23, (0, (1, 8, 0), yc 0)), (yc 70, yc 35, (1, (1, 9, 0), yc 0)), (yc 80, yc 0, (0, (1, 10, 0), yc 0)), (yc 80, yc 2, (0, (1, 11, 0), yc 0)), (yc 84, yc 0, (0, (1, 12, 0), yc 0)), (yc 84, yc 2, (0, (1, 13, 0), yc 0))], [(0, (2, yc 70, yc 0)), (1, (0, (1, 0, 0), yc 0)), (2, (0, (1, 3, 0), yc 0)), (3, (0, (1, 2, 0), yc 0)), (4, (0, (1, 4, 0), yc 0)), (5, (0, (1, 5, 0), yc 0)), (6, (0, (1, 6, 0), yc 0)), (7, (0, (1, 7, 0), yc 0))], []), ([((-1), 7), ((-63), 6)], 2581))], [])
theorem yw837 : ywf ys837.2.2.1 = true := by decide +kernel
theorem yk837 : yver yx837 ys837.2.2.1 4000 = true := yverQ_ok (by decide +kernel)
theorem yt837 {E : zHp → Prop} (h : yXt E) : yTs E 7 ys837 := yver_s (k := 276) (n := 6) (x := yx837) (P := ys837.2.2.1) (f := 4000) h.1 (yal_c (yt834 h.1) (by decide) yw834 (yal_c (yt835 h.1) (by decide) yw835 (yal_c (yt836 h.1) (by decide) yw836 (yal_c (yt769 h.1) (by decide) yw769 (yal_c (yt832 h.1) (by decide) yw832 (yal_c (yt831 h.1) (by decide) yw831 (yal_c (yl4 h) (by decide) yw4 (yal_c (yl5 h) (by decide) yw5 (yal_c (yt791 h.1) (by decide) yw791 (yal_n)))))))))) yg276 yk837
def ys842 : ySp := (291, 4, (1, [(0, (-1), 5)], [], [], [(0, (2, yc 45, yc 0)), (1, (0, (1, 0, 0), yc 0))], []), [(1, [], [], [], [], [])], [(45, 45, 1000)])
def yx842 : yCx := ([], ys842.2.2.2.2, yFP, zm291.2.2.1, zm291.2.2.2.1, zc291, 1, ys842.2.2.2.1, [(5, (2, [(0, (-1), 5), (1, 0, 6)], [], [], [(0, (2, yc 45, yc 0)), (1, (0, (1, 0, 0), yc 0)), (2, (0, (1, 1, 0), yc 0)), (3, (0, yc 6, yc 0))], []), ([((-1), 1)], 7))], [])
theorem yw842 : ywf ys842.2.2.1 = true := by decide +kernel
theorem yk842 : yver yx842 ys842.2.2.1 4000 = true := yverQ_ok (by decide +kernel)
theorem yt842 {E : zHp → Prop} (h : yEF E yFP) : yTs E 1 ys842 := yver_s (k := 291) (n := 0) (x := yx842) (P := ys842.2.2.1) (f := 4000) h (yal_n) yg291 yk842
def ys843 : ySp := (291, 4, (1, [(0, (-1), 5)], [], [], [(0, (2, yc 46, yc 0)), (1, (0, (1, 0, 0), yc 0))], []), [(1, [], [], [], [], [])], [(46, 46, 1000)])
def yx843 : yCx := ([], ys843.2.2.2.2, yFP, zm291.2.2.1, zm291.2.2.2.1, zc291, 1, ys843.2.2.2.1, [(5, (2, [(0, (-1), 5), (1, 0, 6)], [], [], [(0, (2, yc 46, yc 0)), (1, (0, (1, 0, 0), yc 0)), (2, (0, (1, 1, 0), yc 0)), (3, (0, yc 6, yc 0))], []), ([((-1), 1)], 7))], [])
theorem yw843 : ywf ys843.2.2.1 = true := by decide +kernel
theorem yk843 : yver yx843 ys843.2.2.1 4000 = true := yverQ_ok (by decide +kernel)
theorem yt843 {E : zHp → Prop} (h : yEF E yFP) : yTs E 1 ys843 := yver_s (k := 291) (n := 0) (x := yx843) (P := ys843.2.2.1) (f := 4000) h (yal_n) yg291 yk843
def ys844 : ySp := (291, 4, (1, [(0, 0, 1)], [], [], [(0, (2, yc 47, yc 0)), (1, (0, (1, 0, 0), yc 0))], []), [(1, [], [], [], [], [])], [(47, 47, 1000)])
def yx844 : yCx := ([], ys844.2.2.2.2, yFP, zm291.2.2.1, zm291.2.2.2.1, zc291, 1, ys844.2.2.2.1, [(5, (2, [(0, 0, 1), (1, 0, 64)], [], [], [(0, (2, yc 47, yc 0)), (1, (0, (1, 0, 0), yc 0)), (2, (0, (1, 1, 0), yc 0)), (3, (0, yc 64, yc 0))], []), ([((-1), 1)], 65))], [])
theorem yw844 : ywf ys844.2.2.1 = true := by decide +kernel
theorem yk844 : yver yx844 ys844.2.2.1 4000 = true := yverQ_ok (by decide +kernel)
theorem yt844 {E : zHp → Prop} (h : yEF E yFP) : yTs E 1 ys844 := yver_s (k := 291) (n := 0) (x := yx844) (P := ys844.2.2.1) (f := 4000) h (yal_n) yg291 yk844
def ys845 : ySp := (77, 1, (1, [(0, 0, 6)], [], [(yc 12, yc 0, (0, (1, 0, 0), yc 0))], [(0, (2, yc 11, yc 0))], []), [(1, [], [], [(yc 12, yc 0, (0, (1, 0, 0), yc 0))], [], [(0, (1, 0, 0), yc 0)])], [])
def yx845 : yCx := ([], ys845.2.2.2.2, yFP, zm77.2.2.1, zm77.2.2.2.1, zc77, 1, ys845.2.2.2.1, [], [])
theorem yw845 : ywf ys845.2.2.1 = true := by decide +kernel
theorem yk845 : yver yx845 ys845.2.2.1 4000 = true := yverQ_ok (by decide +kernel)
theorem yt845 {E : zHp → Prop} (h : yEF E yFP) : yTs E 1 ys845 := yver_s (k := 77) (n := 0) (x := yx845) (P := ys845.2.2.1) (f := 4000) h (yal_n) yg77 yk845
def ys846 : ySp := (280, 1, (1, [(0, (-2147483648), 2147483647)], [], [], [(0, (0, (1, 0, 0), yc 0))], []), [(2, [(1, 0, 63)], [], [], [], [(0, (1, 1, 0), yc 0)])], [])
def yx846 : yCx := ([], ys846.2.2.2.2, yFP, zm280.2.2.1, zm280.2.2.2.1, zc280, 1, ys846.2.2.2.1, [], [])
theorem yw846 : ywf ys846.2.2.1 = true := by decide +kernel
theorem yk846 : yver yx846 ys846.2.2.1 4000 = true := yverQ_ok (by decide +kernel)
theorem yt846 {E : zHp → Prop} (h : yEF E yFP) : yTs E 1 ys846 := yver_s (k := 280) (n := 0) (x := yx846) (P := ys846.2.2.1) (f := 4000) h (yal_n) yg280 yk846
end
