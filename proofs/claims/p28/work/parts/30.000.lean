def ys10 : ySp := (123, 3, (1, [(0, (-2147483648), 2147483647)], [], [], [(0, (2, yc 0, yc 0)), (1, (0, (1, 0, 0), yc 0))], []), [(1, [], [], [], [], [])], [(0, 0, 1), (1, 1, 1000)])
def yx10 : yCx := ([], ys10.2.2.2.2, yFP, zm123.2.2.1, zm123.2.2.2.1, zc123, 1, ys10.2.2.2.1, [(3, (2, [(0, (-2147483648), 2147483647), (1, (-128), 24)], [], [], [(0, (2, yc 0, yc 0)), (1, (0, (1, 0, 0), yc 0)), (2, (0, (1, 1, 0), yc 0))], []), ([(1, 1)], 128))], [])
theorem yw10 : ywf ys10.2.2.1 = true := by decide +kernel
theorem yk10 : yver yx10 ys10.2.2.1 4000 = true := by decide +kernel
theorem yt10 {E : zHp → Prop} (h : yXt E) : yTs E ys10 := yver_s (x := yx10) h.1 (yal_n) yg123 yk10
def ys11 : ySp := (122, 6, (5, [(0, (-2147483648), 2147483647), (1, (-2147483648), 2147483647), (2, (-2147483648), 2147483647), (3, (-2147483648), 2147483647), (4, (-2147483648), 2147483647)], [], [], [(0, (2, yc 0, yc 0)), (1, (0, (1, 0, 0), yc 0)), (2, (0, (1, 1, 0), yc 0)), (3, (0, (1, 2, 0), yc 0)), (4, (0, (1, 3, 0), yc 0)), (5, (0, (1, 4, 0), yc 0))], []), [(5, [], [], [], [], [(0, yc (-1), yc 0)]), (6, [(5, 0, 400)], [], [], [], [(0, (1, 5, 0), yc 0)])], [(0, 0, 1), (1, 1, 1000)])
def yx11 : yCx := ([ys10], ys11.2.2.2.2, yFP, zm122.2.2.1, zm122.2.2.2.1, zc122, 5, ys11.2.2.2.1, [], [])
theorem yw11 : ywf ys11.2.2.1 = true := by decide +kernel
theorem yk11 : yver yx11 ys11.2.2.1 4000 = true := by decide +kernel
theorem yt11 {E : zHp → Prop} (h : yXt E) : yTs E ys11 := yver_s (x := yx11) h.1 (yal_c (yt10 h) yw10 (yal_n)) yg122 yk11
def ys12 : ySp := (124, 2, (1, [(0, (-2147483648), 2147483647)], [], [], [(0, (2, yc 0, yc 0)), (1, (0, (1, 0, 0), yc 0))], []), [(1, [], [], [], [], [(0, yc (-1), yc 0)]), (1, [(0, 0, 400)], [], [], [], [(0, (1, 0, 0), yc 0)])], [(0, 0, 1)])
def yx12 : yCx := ([], ys12.2.2.2.2, yFP, zm124.2.2.1, zm124.2.2.2.1, zc124, 1, ys12.2.2.2.1, [], [])
theorem yw12 : ywf ys12.2.2.1 = true := by decide +kernel
theorem yk12 : yver yx12 ys12.2.2.1 4000 = true := by decide +kernel
theorem yt12 {E : zHp → Prop} (h : yXt E) : yTs E ys12 := yver_s (x := yx12) h.1 (yal_n) yg124 yk12
def ys13 : ySp := (50, 3, (1, [(0, 0, 400)], [], [], [(0, (2, yc 2, yc 0)), (1, (2, yc 1, yc 0)), (2, (0, (1, 0, 0), yc 0))], []), [(2, [(1, 0, 400)], [], [(yc 2, yc 0, (2, yc 1, yc 0)), (yc 2, yc 1, (0, (1, 1, 0), yc 0)), (yc 2, yc 2, (0, yc 0, yc 0)), (yc 2, yc 4, (0, yc 0, yc 0))], [], [])], [(2, 2, 0), (2, 2, 1), (2, 2, 2), (2, 2, 4)])
def yx13 : yCx := ([], ys13.2.2.2.2, yFP, zm50.2.2.1, zm50.2.2.2.1, zc50, 1, ys13.2.2.2.1, [], [])
theorem yw13 : ywf ys13.2.2.1 = true := by decide +kernel
theorem yk13 : yver yx13 ys13.2.2.1 4000 = true := by decide +kernel
theorem yt13 {E : zHp → Prop} (h : yXt E) : yTs E ys13 := yver_s (x := yx13) h.1 (yal_n) yg50 yk13
def ys14 : ySp := (127, 1, (0, [], [], [], [(0, (2, yc 0, yc 0))], []), [(1, [(0, 0, 400)], [], [(yc 2, yc 0, (2, yc 1, yc 0)), (yc 2, yc 1, (0, (1, 0, 0), yc 0)), (yc 2, yc 2, (0, yc 0, yc 0)), (yc 2, yc 4, (0, yc 0, yc 0))], [], [])], [(0, 0, 1), (2, 2, 0), (2, 2, 1), (2, 2, 2), (2, 2, 4)])
def yx14 : yCx := ([ys13], ys14.2.2.2.2, yFP, zm127.2.2.1, zm127.2.2.2.1, zc127, 0, ys14.2.2.2.1, [], [])
theorem yw14 : ywf ys14.2.2.1 = true := by decide +kernel
theorem yk14 : yver yx14 ys14.2.2.1 4000 = true := by decide +kernel
theorem yt14 {E : zHp → Prop} (h : yXt E) : yTs E ys14 := yver_s (x := yx14) h.1 (yal_c (yt13 h) yw13 (yal_n)) yg127 yk14
def ys15 : ySp := (53, 1, (0, [], [], [(yc 2, yc 0, (2, yc 1, yc 0)), (yc 2, yc 4, (0, yc 0, yc 0))], [(0, (2, yc 2, yc 0))], []), [(2, [(0, 0, 400), (1, 0, 400)], [([(1, 0), ((-1), 1)], 0)], [(yc 2, yc 0, (2, yc 1, yc 0)), (yc 2, yc 4, (0, yc 0, yc 0)), (yc 2, yc 2, (0, (1, 0, 0), yc 0)), (yc 2, yc 1, (0, (1, 1, 0), yc 0))], [], [(0, yc (-1), yc 0)]), (3, [(0, 0, 255), (1, 0, 399), (2, 1, 400)], [([(1, 2), ((-1), 1)], (-1))], [(yc 2, yc 0, (2, yc 1, yc 0)), (yc 2, yc 4, (0, yc 0, yc 0)), (yc 2, yc 2, (0, (1, 1, 0), yc 0)), (yc 2, yc 1, (0, (1, 2, 0), yc 0))], [], [(0, (1, 0, 0), yc 0)])], [(2, 2, 2)])
def yx15 : yCx := ([], ys15.2.2.2.2, yFP, zm53.2.2.1, zm53.2.2.2.1, zc53, 0, ys15.2.2.2.1, [(0, (1, [(0, 0, 400)], [], [(yc 2, yc 0, (2, yc 1, yc 0)), (yc 2, yc 4, (0, yc 0, yc 0)), (yc 2, yc 2, (0, (1, 0, 0), yc 0))], [(0, (2, yc 2, yc 0))], []), ([((-1), 0)], 400))], [])
theorem yw15 : ywf ys15.2.2.1 = true := by decide +kernel
theorem yk15 : yver yx15 ys15.2.2.1 4000 = true := by decide +kernel
theorem yt15 {E : zHp → Prop} (h : yXt E) : yTs E ys15 := yver_s (x := yx15) h.1 (yal_n) yg53 yk15
def ys16 : ySp := (57, 1, (1, [(0, 0, 255)], [], [], [(0, (0, (1, 0, 0), yc 0))], []), [(1, [], [], [], [], [(0, yc 0, yc 0)]), (1, [(0, 97, 122)], [], [], [], [(0, yc 1, yc 0)])], [])
def yx16 : yCx := ([], ys16.2.2.2.2, yFP, zm57.2.2.1, zm57.2.2.2.1, zc57, 1, ys16.2.2.2.1, [], [])
theorem yw16 : ywf ys16.2.2.1 = true := by decide +kernel
theorem yk16 : yver yx16 ys16.2.2.1 4000 = true := by decide +kernel
theorem yt16 {E : zHp → Prop} (h : yXt E) : yTs E ys16 := yver_s (x := yx16) h.1 (yal_n) yg57 yk16
def ys17 : ySp := (283, 1, (0, [], [], [], [(0, (2, yc 1001, yc 0))], []), [(0, [], [], [], [], [(0, yc 0, yc 0)])], [])
def yx17 : yCx := ([], ys17.2.2.2.2, yFP, zm283.2.2.1, zm283.2.2.2.1, zc283, 0, ys17.2.2.2.1, [], [])
theorem yw17 : ywf ys17.2.2.1 = true := by decide +kernel
theorem yk17 : yver yx17 ys17.2.2.1 4000 = true := by decide +kernel
theorem yt17 {E : zHp → Prop} (h : yXt E) : yTs E ys17 := yver_s (x := yx17) h.1 (yal_n) yg283 yk17
def ys18 : ySp := (281, 1, (0, [], [], [], [(0, (2, yc 1001, yc 0))], []), [(0, [], [], [], [], [(0, yc 31, yc 0)])], [])
def yx18 : yCx := ([ys17], ys18.2.2.2.2, yFP, zm281.2.2.1, zm281.2.2.2.1, zc281, 0, ys18.2.2.2.1, [], [])
theorem yw18 : ywf ys18.2.2.1 = true := by decide +kernel
theorem yk18 : yver yx18 ys18.2.2.1 4000 = true := by decide +kernel
theorem yt18 {E : zHp → Prop} (h : yXt E) : yTs E ys18 := yver_s (x := yx18) h.1 (yal_c (yt17 h) yw17 (yal_n)) yg281 yk18
def ys19 : ySp := (284, 1, (0, [], [], [], [(0, (2, yc 1001, yc 0))], []), [(0, [], [], [], [], [(0, yc 1, yc 0)])], [])
def yx19 : yCx := ([], ys19.2.2.2.2, yFP, zm284.2.2.1, zm284.2.2.2.1, zc284, 0, ys19.2.2.2.1, [], [])
theorem yw19 : ywf ys19.2.2.1 = true := by decide +kernel
theorem yk19 : yver yx19 ys19.2.2.1 4000 = true := by decide +kernel
theorem yt19 {E : zHp → Prop} (h : yXt E) : yTs E ys19 := yver_s (x := yx19) h.1 (yal_n) yg284 yk19
def ys20 : ySp := (293, 3, (0, [], [], [], [(0, (0, yc 0, yc 0)), (1, (0, yc 31, yc 0)), (2, (7, yc 0, yc 0))], []), [(0, [], [], [], [], [(0, yc 0, yc 0)])], [])
def yx20 : yCx := ([], ys20.2.2.2.2, yFP, zm293.2.2.1, zm293.2.2.2.1, zc293, 0, ys20.2.2.2.1, [], [])
theorem yw20 : ywf ys20.2.2.1 = true := by decide +kernel
theorem yk20 : yver yx20 ys20.2.2.1 4000 = true := by decide +kernel
theorem yt20 {E : zHp → Prop} (h : yXt E) : yTs E ys20 := yver_s (x := yx20) h.1 (yal_n) yg293 yk20
def ys21 : ySp := (285, 2, (0, [], [], [], [(0, (0, yc 0, yc 0)), (1, (0, yc 31, yc 0))], []), [(0, [], [], [], [], [])], [])
def yx21 : yCx := ([ys20], ys21.2.2.2.2, yFP, zm285.2.2.1, zm285.2.2.2.1, zc285, 0, ys21.2.2.2.1, [], [])
theorem yw21 : ywf ys21.2.2.1 = true := by decide +kernel
theorem yk21 : yver yx21 ys21.2.2.1 4000 = true := by decide +kernel
theorem yt21 {E : zHp → Prop} (h : yXt E) : yTs E ys21 := yver_s (x := yx21) h.1 (yal_c (yt20 h) yw20 (yal_n)) yg285 yk21
def ys22 : ySp := (286, 2, (0, [], [], [], [(0, (2, yc 1020, yc 0)), (1, (0, yc 0, yc 0))], []), [(0, [], [], [], [], [(0, yc 118, yc 0)])], [])
def yx22 : yCx := ([ys21], ys22.2.2.2.2, yFP, zm286.2.2.1, zm286.2.2.2.1, zc286, 0, ys22.2.2.2.1, [], [])
theorem yw22 : ywf ys22.2.2.1 = true := by decide +kernel
theorem yk22 : yver yx22 ys22.2.2.1 4000 = true := by decide +kernel
theorem yt22 {E : zHp → Prop} (h : yXt E) : yTs E ys22 := yver_s (x := yx22) h.1 (yal_c (yt21 h) yw21 (yal_n)) yg286 yk22
def ys23 : ySp := (282, 2, (0, [], [], [], [(0, (2, yc 1001, yc 0)), (1, (0, yc 0, yc 0))], []), [(0, [], [], [], [], [(0, yc 118, yc 0)])], [])
def yx23 : yCx := ([ys19, ys22], ys23.2.2.2.2, yFP, zm282.2.2.1, zm282.2.2.2.1, zc282, 0, ys23.2.2.2.1, [], [])
theorem yw23 : ywf ys23.2.2.1 = true := by decide +kernel
theorem yk23 : yver yx23 ys23.2.2.1 4000 = true := by decide +kernel
theorem yt23 {E : zHp → Prop} (h : yXt E) : yTs E ys23 := yver_s (x := yx23) h.1 (yal_c (yt19 h) yw19 (yal_c (yt22 h) yw22 (yal_n))) yg282 yk23
def ys24 : ySp := (293, 3, (0, [], [], [], [(0, (0, yc 1, yc 0)), (1, (0, yc 31, yc 0)), (2, (7, yc 0, yc 0))], []), [(0, [], [], [], [], [(0, yc 1, yc 0)])], [])
def yx24 : yCx := ([], ys24.2.2.2.2, yFP, zm293.2.2.1, zm293.2.2.2.1, zc293, 0, ys24.2.2.2.1, [], [])
theorem yw24 : ywf ys24.2.2.1 = true := by decide +kernel
theorem yk24 : yver yx24 ys24.2.2.1 4000 = true := by decide +kernel
theorem yt24 {E : zHp → Prop} (h : yXt E) : yTs E ys24 := yver_s (x := yx24) h.1 (yal_n) yg293 yk24
def ys25 : ySp := (285, 2, (0, [], [], [], [(0, (0, yc 1, yc 0)), (1, (0, yc 31, yc 0))], []), [(0, [], [], [], [], [])], [])
def yx25 : yCx := ([ys24], ys25.2.2.2.2, yFP, zm285.2.2.1, zm285.2.2.2.1, zc285, 0, ys25.2.2.2.1, [], [])
theorem yw25 : ywf ys25.2.2.1 = true := by decide +kernel
theorem yk25 : yver yx25 ys25.2.2.1 4000 = true := by decide +kernel
theorem yt25 {E : zHp → Prop} (h : yXt E) : yTs E ys25 := yver_s (x := yx25) h.1 (yal_c (yt24 h) yw24 (yal_n)) yg285 yk25
def ys26 : ySp := (286, 2, (0, [], [], [], [(0, (2, yc 1020, yc 0)), (1, (0, yc 1, yc 0))], []), [(0, [], [], [], [], [(0, yc 105, yc 0)])], [])
def yx26 : yCx := ([ys25], ys26.2.2.2.2, yFP, zm286.2.2.1, zm286.2.2.2.1, zc286, 0, ys26.2.2.2.1, [], [])
theorem yw26 : ywf ys26.2.2.1 = true := by decide +kernel
theorem yk26 : yver yx26 ys26.2.2.1 4000 = true := by decide +kernel
theorem yt26 {E : zHp → Prop} (h : yXt E) : yTs E ys26 := yver_s (x := yx26) h.1 (yal_c (yt25 h) yw25 (yal_n)) yg286 yk26
def ys27 : ySp := (282, 2, (0, [], [], [], [(0, (2, yc 1001, yc 0)), (1, (0, yc 1, yc 0))], []), [(0, [], [], [], [], [(0, yc 105, yc 0)])], [])
def yx27 : yCx := ([ys19, ys26], ys27.2.2.2.2, yFP, zm282.2.2.1, zm282.2.2.2.1, zc282, 0, ys27.2.2.2.1, [], [])
theorem yw27 : ywf ys27.2.2.1 = true := by decide +kernel
theorem yk27 : yver yx27 ys27.2.2.1 4000 = true := by decide +kernel
theorem yt27 {E : zHp → Prop} (h : yXt E) : yTs E ys27 := yver_s (x := yx27) h.1 (yal_c (yt19 h) yw19 (yal_c (yt26 h) yw26 (yal_n))) yg282 yk27
def ys28 : ySp := (293, 3, (0, [], [], [], [(0, (0, yc 2, yc 0)), (1, (0, yc 31, yc 0)), (2, (7, yc 0, yc 0))], []), [(0, [], [], [], [], [(0, yc 2, yc 0)])], [])
def yx28 : yCx := ([], ys28.2.2.2.2, yFP, zm293.2.2.1, zm293.2.2.2.1, zc293, 0, ys28.2.2.2.1, [], [])
theorem yw28 : ywf ys28.2.2.1 = true := by decide +kernel
theorem yk28 : yver yx28 ys28.2.2.1 4000 = true := by decide +kernel
theorem yt28 {E : zHp → Prop} (h : yXt E) : yTs E ys28 := yver_s (x := yx28) h.1 (yal_n) yg293 yk28
def ys29 : ySp := (285, 2, (0, [], [], [], [(0, (0, yc 2, yc 0)), (1, (0, yc 31, yc 0))], []), [(0, [], [], [], [], [])], [])
def yx29 : yCx := ([ys28], ys29.2.2.2.2, yFP, zm285.2.2.1, zm285.2.2.2.1, zc285, 0, ys29.2.2.2.1, [], [])
theorem yw29 : ywf ys29.2.2.1 = true := by decide +kernel
theorem yk29 : yver yx29 ys29.2.2.1 4000 = true := by decide +kernel
theorem yt29 {E : zHp → Prop} (h : yXt E) : yTs E ys29 := yver_s (x := yx29) h.1 (yal_c (yt28 h) yw28 (yal_n)) yg285 yk29
def ys30 : ySp := (286, 2, (0, [], [], [], [(0, (2, yc 1020, yc 0)), (1, (0, yc 2, yc 0))], []), [(0, [], [], [], [], [(0, yc 108, yc 0)])], [])
def yx30 : yCx := ([ys29], ys30.2.2.2.2, yFP, zm286.2.2.1, zm286.2.2.2.1, zc286, 0, ys30.2.2.2.1, [], [])
theorem yw30 : ywf ys30.2.2.1 = true := by decide +kernel
theorem yk30 : yver yx30 ys30.2.2.1 4000 = true := by decide +kernel
theorem yt30 {E : zHp → Prop} (h : yXt E) : yTs E ys30 := yver_s (x := yx30) h.1 (yal_c (yt29 h) yw29 (yal_n)) yg286 yk30
def ys31 : ySp := (282, 2, (0, [], [], [], [(0, (2, yc 1001, yc 0)), (1, (0, yc 2, yc 0))], []), [(0, [], [], [], [], [(0, yc 108, yc 0)])], [])
def yx31 : yCx := ([ys19, ys30], ys31.2.2.2.2, yFP, zm282.2.2.1, zm282.2.2.2.1, zc282, 0, ys31.2.2.2.1, [], [])
theorem yw31 : ywf ys31.2.2.1 = true := by decide +kernel
theorem yk31 : yver yx31 ys31.2.2.1 4000 = true := by decide +kernel
theorem yt31 {E : zHp → Prop} (h : yXt E) : yTs E ys31 := yver_s (x := yx31) h.1 (yal_c (yt19 h) yw19 (yal_c (yt30 h) yw30 (yal_n))) yg282 yk31
def ys32 : ySp := (293, 3, (0, [], [], [], [(0, (0, yc 3, yc 0)), (1, (0, yc 31, yc 0)), (2, (7, yc 0, yc 0))], []), [(0, [], [], [], [], [(0, yc 3, yc 0)])], [])
def yx32 : yCx := ([], ys32.2.2.2.2, yFP, zm293.2.2.1, zm293.2.2.2.1, zc293, 0, ys32.2.2.2.1, [], [])
theorem yw32 : ywf ys32.2.2.1 = true := by decide +kernel
theorem yk32 : yver yx32 ys32.2.2.1 4000 = true := by decide +kernel
theorem yt32 {E : zHp → Prop} (h : yXt E) : yTs E ys32 := yver_s (x := yx32) h.1 (yal_n) yg293 yk32
def ys33 : ySp := (285, 2, (0, [], [], [], [(0, (0, yc 3, yc 0)), (1, (0, yc 31, yc 0))], []), [(0, [], [], [], [], [])], [])
def yx33 : yCx := ([ys32], ys33.2.2.2.2, yFP, zm285.2.2.1, zm285.2.2.2.1, zc285, 0, ys33.2.2.2.1, [], [])
theorem yw33 : ywf ys33.2.2.1 = true := by decide +kernel
theorem yk33 : yver yx33 ys33.2.2.1 4000 = true := by decide +kernel
theorem yt33 {E : zHp → Prop} (h : yXt E) : yTs E ys33 := yver_s (x := yx33) h.1 (yal_c (yt32 h) yw32 (yal_n)) yg285 yk33
def ys34 : ySp := (286, 2, (0, [], [], [], [(0, (2, yc 1020, yc 0)), (1, (0, yc 3, yc 0))], []), [(0, [], [], [], [], [(0, yc 108, yc 0)])], [])
def yx34 : yCx := ([ys33], ys34.2.2.2.2, yFP, zm286.2.2.1, zm286.2.2.2.1, zc286, 0, ys34.2.2.2.1, [], [])
theorem yw34 : ywf ys34.2.2.1 = true := by decide +kernel
theorem yk34 : yver yx34 ys34.2.2.1 4000 = true := by decide +kernel
theorem yt34 {E : zHp → Prop} (h : yXt E) : yTs E ys34 := yver_s (x := yx34) h.1 (yal_c (yt33 h) yw33 (yal_n)) yg286 yk34
def ys35 : ySp := (282, 2, (0, [], [], [], [(0, (2, yc 1001, yc 0)), (1, (0, yc 3, yc 0))], []), [(0, [], [], [], [], [(0, yc 108, yc 0)])], [])
def yx35 : yCx := ([ys19, ys34], ys35.2.2.2.2, yFP, zm282.2.2.1, zm282.2.2.2.1, zc282, 0, ys35.2.2.2.1, [], [])
theorem yw35 : ywf ys35.2.2.1 = true := by decide +kernel
theorem yk35 : yver yx35 ys35.2.2.1 4000 = true := by decide +kernel
theorem yt35 {E : zHp → Prop} (h : yXt E) : yTs E ys35 := yver_s (x := yx35) h.1 (yal_c (yt19 h) yw19 (yal_c (yt34 h) yw34 (yal_n))) yg282 yk35
def ys36 : ySp := (293, 3, (0, [], [], [], [(0, (0, yc 4, yc 0)), (1, (0, yc 31, yc 0)), (2, (7, yc 0, yc 0))], []), [(0, [], [], [], [], [(0, yc 4, yc 0)])], [])
def yx36 : yCx := ([], ys36.2.2.2.2, yFP, zm293.2.2.1, zm293.2.2.2.1, zc293, 0, ys36.2.2.2.1, [], [])
theorem yw36 : ywf ys36.2.2.1 = true := by decide +kernel
theorem yk36 : yver yx36 ys36.2.2.1 4000 = true := by decide +kernel
theorem yt36 {E : zHp → Prop} (h : yXt E) : yTs E ys36 := yver_s (x := yx36) h.1 (yal_n) yg293 yk36
def ys37 : ySp := (285, 2, (0, [], [], [], [(0, (0, yc 4, yc 0)), (1, (0, yc 31, yc 0))], []), [(0, [], [], [], [], [])], [])
def yx37 : yCx := ([ys36], ys37.2.2.2.2, yFP, zm285.2.2.1, zm285.2.2.2.1, zc285, 0, ys37.2.2.2.1, [], [])
theorem yw37 : ywf ys37.2.2.1 = true := by decide +kernel
theorem yk37 : yver yx37 ys37.2.2.1 4000 = true := by decide +kernel
theorem yt37 {E : zHp → Prop} (h : yXt E) : yTs E ys37 := yver_s (x := yx37) h.1 (yal_c (yt36 h) yw36 (yal_n)) yg285 yk37
def ys38 : ySp := (286, 2, (0, [], [], [], [(0, (2, yc 1020, yc 0)), (1, (0, yc 4, yc 0))], []), [(0, [], [], [], [], [(0, yc 97, yc 0)])], [])
def yx38 : yCx := ([ys37], ys38.2.2.2.2, yFP, zm286.2.2.1, zm286.2.2.2.1, zc286, 0, ys38.2.2.2.1, [], [])
theorem yw38 : ywf ys38.2.2.1 = true := by decide +kernel
theorem yk38 : yver yx38 ys38.2.2.1 4000 = true := by decide +kernel
theorem yt38 {E : zHp → Prop} (h : yXt E) : yTs E ys38 := yver_s (x := yx38) h.1 (yal_c (yt37 h) yw37 (yal_n)) yg286 yk38
def ys39 : ySp := (282, 2, (0, [], [], [], [(0, (2, yc 1001, yc 0)), (1, (0, yc 4, yc 0))], []), [(0, [], [], [], [], [(0, yc 97, yc 0)])], [])
def yx39 : yCx := ([ys19, ys38], ys39.2.2.2.2, yFP, zm282.2.2.1, zm282.2.2.2.1, zc282, 0, ys39.2.2.2.1, [], [])
theorem yw39 : ywf ys39.2.2.1 = true := by decide +kernel
theorem yk39 : yver yx39 ys39.2.2.1 4000 = true := by decide +kernel
theorem yt39 {E : zHp → Prop} (h : yXt E) : yTs E ys39 := yver_s (x := yx39) h.1 (yal_c (yt19 h) yw19 (yal_c (yt38 h) yw38 (yal_n))) yg282 yk39
def ys40 : ySp := (293, 3, (0, [], [], [], [(0, (0, yc 5, yc 0)), (1, (0, yc 31, yc 0)), (2, (7, yc 0, yc 0))], []), [(0, [], [], [], [], [(0, yc 5, yc 0)])], [])
def yx40 : yCx := ([], ys40.2.2.2.2, yFP, zm293.2.2.1, zm293.2.2.2.1, zc293, 0, ys40.2.2.2.1, [], [])
theorem yw40 : ywf ys40.2.2.1 = true := by decide +kernel
theorem yk40 : yver yx40 ys40.2.2.1 4000 = true := by decide +kernel
theorem yt40 {E : zHp → Prop} (h : yXt E) : yTs E ys40 := yver_s (x := yx40) h.1 (yal_n) yg293 yk40
def ys41 : ySp := (285, 2, (0, [], [], [], [(0, (0, yc 5, yc 0)), (1, (0, yc 31, yc 0))], []), [(0, [], [], [], [], [])], [])
def yx41 : yCx := ([ys40], ys41.2.2.2.2, yFP, zm285.2.2.1, zm285.2.2.2.1, zc285, 0, ys41.2.2.2.1, [], [])
theorem yw41 : ywf ys41.2.2.1 = true := by decide +kernel
theorem yk41 : yver yx41 ys41.2.2.1 4000 = true := by decide +kernel
theorem yt41 {E : zHp → Prop} (h : yXt E) : yTs E ys41 := yver_s (x := yx41) h.1 (yal_c (yt40 h) yw40 (yal_n)) yg285 yk41
def ys42 : ySp := (286, 2, (0, [], [], [], [(0, (2, yc 1020, yc 0)), (1, (0, yc 5, yc 0))], []), [(0, [], [], [], [], [(0, yc 103, yc 0)])], [])
def yx42 : yCx := ([ys41], ys42.2.2.2.2, yFP, zm286.2.2.1, zm286.2.2.2.1, zc286, 0, ys42.2.2.2.1, [], [])
theorem yw42 : ywf ys42.2.2.1 = true := by decide +kernel
theorem yk42 : yver yx42 ys42.2.2.1 4000 = true := by decide +kernel
theorem yt42 {E : zHp → Prop} (h : yXt E) : yTs E ys42 := yver_s (x := yx42) h.1 (yal_c (yt41 h) yw41 (yal_n)) yg286 yk42
def ys43 : ySp := (282, 2, (0, [], [], [], [(0, (2, yc 1001, yc 0)), (1, (0, yc 5, yc 0))], []), [(0, [], [], [], [], [(0, yc 103, yc 0)])], [])
def yx43 : yCx := ([ys19, ys42], ys43.2.2.2.2, yFP, zm282.2.2.1, zm282.2.2.2.1, zc282, 0, ys43.2.2.2.1, [], [])
theorem yw43 : ywf ys43.2.2.1 = true := by decide +kernel
theorem yk43 : yver yx43 ys43.2.2.1 4000 = true := by decide +kernel
theorem yt43 {E : zHp → Prop} (h : yXt E) : yTs E ys43 := yver_s (x := yx43) h.1 (yal_c (yt19 h) yw19 (yal_c (yt42 h) yw42 (yal_n))) yg282 yk43
def ys44 : ySp := (293, 3, (0, [], [], [], [(0, (0, yc 6, yc 0)), (1, (0, yc 31, yc 0)), (2, (7, yc 0, yc 0))], []), [(0, [], [], [], [], [(0, yc 6, yc 0)])], [])
def yx44 : yCx := ([], ys44.2.2.2.2, yFP, zm293.2.2.1, zm293.2.2.2.1, zc293, 0, ys44.2.2.2.1, [], [])
theorem yw44 : ywf ys44.2.2.1 = true := by decide +kernel
theorem yk44 : yver yx44 ys44.2.2.1 4000 = true := by decide +kernel
theorem yt44 {E : zHp → Prop} (h : yXt E) : yTs E ys44 := yver_s (x := yx44) h.1 (yal_n) yg293 yk44
def ys45 : ySp := (285, 2, (0, [], [], [], [(0, (0, yc 6, yc 0)), (1, (0, yc 31, yc 0))], []), [(0, [], [], [], [], [])], [])
def yx45 : yCx := ([ys44], ys45.2.2.2.2, yFP, zm285.2.2.1, zm285.2.2.2.1, zc285, 0, ys45.2.2.2.1, [], [])
theorem yw45 : ywf ys45.2.2.1 = true := by decide +kernel
theorem yk45 : yver yx45 ys45.2.2.1 4000 = true := by decide +kernel
theorem yt45 {E : zHp → Prop} (h : yXt E) : yTs E ys45 := yver_s (x := yx45) h.1 (yal_c (yt44 h) yw44 (yal_n)) yg285 yk45
def ys46 : ySp := (286, 2, (0, [], [], [], [(0, (2, yc 1020, yc 0)), (1, (0, yc 6, yc 0))], []), [(0, [], [], [], [], [(0, yc 101, yc 0)])], [])
def yx46 : yCx := ([ys45], ys46.2.2.2.2, yFP, zm286.2.2.1, zm286.2.2.2.1, zc286, 0, ys46.2.2.2.1, [], [])
theorem yw46 : ywf ys46.2.2.1 = true := by decide +kernel
theorem yk46 : yver yx46 ys46.2.2.1 4000 = true := by decide +kernel
theorem yt46 {E : zHp → Prop} (h : yXt E) : yTs E ys46 := yver_s (x := yx46) h.1 (yal_c (yt45 h) yw45 (yal_n)) yg286 yk46
def ys47 : ySp := (282, 2, (0, [], [], [], [(0, (2, yc 1001, yc 0)), (1, (0, yc 6, yc 0))], []), [(0, [], [], [], [], [(0, yc 101, yc 0)])], [])
def yx47 : yCx := ([ys19, ys46], ys47.2.2.2.2, yFP, zm282.2.2.1, zm282.2.2.2.1, zc282, 0, ys47.2.2.2.1, [], [])
theorem yw47 : ywf ys47.2.2.1 = true := by decide +kernel
theorem yk47 : yver yx47 ys47.2.2.1 4000 = true := by decide +kernel
theorem yt47 {E : zHp → Prop} (h : yXt E) : yTs E ys47 := yver_s (x := yx47) h.1 (yal_c (yt19 h) yw19 (yal_c (yt46 h) yw46 (yal_n))) yg282 yk47
def ys48 : ySp := (293, 3, (0, [], [], [], [(0, (0, yc 7, yc 0)), (1, (0, yc 31, yc 0)), (2, (7, yc 0, yc 0))], []), [(0, [], [], [], [], [(0, yc 7, yc 0)])], [])
def yx48 : yCx := ([], ys48.2.2.2.2, yFP, zm293.2.2.1, zm293.2.2.2.1, zc293, 0, ys48.2.2.2.1, [], [])
theorem yw48 : ywf ys48.2.2.1 = true := by decide +kernel
theorem yk48 : yver yx48 ys48.2.2.1 4000 = true := by decide +kernel
theorem yt48 {E : zHp → Prop} (h : yXt E) : yTs E ys48 := yver_s (x := yx48) h.1 (yal_n) yg293 yk48
def ys49 : ySp := (285, 2, (0, [], [], [], [(0, (0, yc 7, yc 0)), (1, (0, yc 31, yc 0))], []), [(0, [], [], [], [], [])], [])
def yx49 : yCx := ([ys48], ys49.2.2.2.2, yFP, zm285.2.2.1, zm285.2.2.2.1, zc285, 0, ys49.2.2.2.1, [], [])
theorem yw49 : ywf ys49.2.2.1 = true := by decide +kernel
theorem yk49 : yver yx49 ys49.2.2.1 4000 = true := by decide +kernel
theorem yt49 {E : zHp → Prop} (h : yXt E) : yTs E ys49 := yver_s (x := yx49) h.1 (yal_c (yt48 h) yw48 (yal_n)) yg285 yk49
def ys50 : ySp := (286, 2, (0, [], [], [], [(0, (2, yc 1020, yc 0)), (1, (0, yc 7, yc 0))], []), [(0, [], [], [], [], [(0, yc 32, yc 0)])], [])
def yx50 : yCx := ([ys49], ys50.2.2.2.2, yFP, zm286.2.2.1, zm286.2.2.2.1, zc286, 0, ys50.2.2.2.1, [], [])
theorem yw50 : ywf ys50.2.2.1 = true := by decide +kernel
theorem yk50 : yver yx50 ys50.2.2.1 4000 = true := by decide +kernel
theorem yt50 {E : zHp → Prop} (h : yXt E) : yTs E ys50 := yver_s (x := yx50) h.1 (yal_c (yt49 h) yw49 (yal_n)) yg286 yk50
def ys51 : ySp := (282, 2, (0, [], [], [], [(0, (2, yc 1001, yc 0)), (1, (0, yc 7, yc 0))], []), [(0, [], [], [], [], [(0, yc 32, yc 0)])], [])
def yx51 : yCx := ([ys19, ys50], ys51.2.2.2.2, yFP, zm282.2.2.1, zm282.2.2.2.1, zc282, 0, ys51.2.2.2.1, [], [])
theorem yw51 : ywf ys51.2.2.1 = true := by decide +kernel
theorem yk51 : yver yx51 ys51.2.2.1 4000 = true := by decide +kernel
theorem yt51 {E : zHp → Prop} (h : yXt E) : yTs E ys51 := yver_s (x := yx51) h.1 (yal_c (yt19 h) yw19 (yal_c (yt50 h) yw50 (yal_n))) yg282 yk51
def ys52 : ySp := (293, 3, (0, [], [], [], [(0, (0, yc 8, yc 0)), (1, (0, yc 31, yc 0)), (2, (7, yc 0, yc 0))], []), [(0, [], [], [], [], [(0, yc 8, yc 0)])], [])
def yx52 : yCx := ([], ys52.2.2.2.2, yFP, zm293.2.2.1, zm293.2.2.2.1, zc293, 0, ys52.2.2.2.1, [], [])
theorem yw52 : ywf ys52.2.2.1 = true := by decide +kernel
theorem yk52 : yver yx52 ys52.2.2.1 4000 = true := by decide +kernel
theorem yt52 {E : zHp → Prop} (h : yXt E) : yTs E ys52 := yver_s (x := yx52) h.1 (yal_n) yg293 yk52
def ys53 : ySp := (285, 2, (0, [], [], [], [(0, (0, yc 8, yc 0)), (1, (0, yc 31, yc 0))], []), [(0, [], [], [], [], [])], [])
def yx53 : yCx := ([ys52], ys53.2.2.2.2, yFP, zm285.2.2.1, zm285.2.2.2.1, zc285, 0, ys53.2.2.2.1, [], [])
theorem yw53 : ywf ys53.2.2.1 = true := by decide +kernel
theorem yk53 : yver yx53 ys53.2.2.1 4000 = true := by decide +kernel
theorem yt53 {E : zHp → Prop} (h : yXt E) : yTs E ys53 := yver_s (x := yx53) h.1 (yal_c (yt52 h) yw52 (yal_n)) yg285 yk53
def ys54 : ySp := (286, 2, (0, [], [], [], [(0, (2, yc 1020, yc 0)), (1, (0, yc 8, yc 0))], []), [(0, [], [], [], [], [(0, yc 116, yc 0)])], [])
def yx54 : yCx := ([ys53], ys54.2.2.2.2, yFP, zm286.2.2.1, zm286.2.2.2.1, zc286, 0, ys54.2.2.2.1, [], [])
theorem yw54 : ywf ys54.2.2.1 = true := by decide +kernel
theorem yk54 : yver yx54 ys54.2.2.1 4000 = true := by decide +kernel
theorem yt54 {E : zHp → Prop} (h : yXt E) : yTs E ys54 := yver_s (x := yx54) h.1 (yal_c (yt53 h) yw53 (yal_n)) yg286 yk54
def ys55 : ySp := (282, 2, (0, [], [], [], [(0, (2, yc 1001, yc 0)), (1, (0, yc 8, yc 0))], []), [(0, [], [], [], [], [(0, yc 116, yc 0)])], [])
def yx55 : yCx := ([ys19, ys54], ys55.2.2.2.2, yFP, zm282.2.2.1, zm282.2.2.2.1, zc282, 0, ys55.2.2.2.1, [], [])
theorem yw55 : ywf ys55.2.2.1 = true := by decide +kernel
theorem yk55 : yver yx55 ys55.2.2.1 4000 = true := by decide +kernel
theorem yt55 {E : zHp → Prop} (h : yXt E) : yTs E ys55 := yver_s (x := yx55) h.1 (yal_c (yt19 h) yw19 (yal_c (yt54 h) yw54 (yal_n))) yg282 yk55
def ys56 : ySp := (293, 3, (0, [], [], [], [(0, (0, yc 9, yc 0)), (1, (0, yc 31, yc 0)), (2, (7, yc 0, yc 0))], []), [(0, [], [], [], [], [(0, yc 9, yc 0)])], [])
def yx56 : yCx := ([], ys56.2.2.2.2, yFP, zm293.2.2.1, zm293.2.2.2.1, zc293, 0, ys56.2.2.2.1, [], [])
theorem yw56 : ywf ys56.2.2.1 = true := by decide +kernel
theorem yk56 : yver yx56 ys56.2.2.1 4000 = true := by decide +kernel
theorem yt56 {E : zHp → Prop} (h : yXt E) : yTs E ys56 := yver_s (x := yx56) h.1 (yal_n) yg293 yk56
def ys57 : ySp := (285, 2, (0, [], [], [], [(0, (0, yc 9, yc 0)), (1, (0, yc 31, yc 0))], []), [(0, [], [], [], [], [])], [])
def yx57 : yCx := ([ys56], ys57.2.2.2.2, yFP, zm285.2.2.1, zm285.2.2.2.1, zc285, 0, ys57.2.2.2.1, [], [])
theorem yw57 : ywf ys57.2.2.1 = true := by decide +kernel
theorem yk57 : yver yx57 ys57.2.2.1 4000 = true := by decide +kernel
theorem yt57 {E : zHp → Prop} (h : yXt E) : yTs E ys57 := yver_s (x := yx57) h.1 (yal_c (yt56 h) yw56 (yal_n)) yg285 yk57
def ys58 : ySp := (286, 2, (0, [], [], [], [(0, (2, yc 1020, yc 0)), (1, (0, yc 9, yc 0))], []), [(0, [], [], [], [], [(0, yc 111, yc 0)])], [])
def yx58 : yCx := ([ys57], ys58.2.2.2.2, yFP, zm286.2.2.1, zm286.2.2.2.1, zc286, 0, ys58.2.2.2.1, [], [])
theorem yw58 : ywf ys58.2.2.1 = true := by decide +kernel
theorem yk58 : yver yx58 ys58.2.2.1 4000 = true := by decide +kernel
theorem yt58 {E : zHp → Prop} (h : yXt E) : yTs E ys58 := yver_s (x := yx58) h.1 (yal_c (yt57 h) yw57 (yal_n)) yg286 yk58
def ys59 : ySp := (282, 2, (0, [], [], [], [(0, (2, yc 1001, yc 0)), (1, (0, yc 9, yc 0))], []), [(0, [], [], [], [], [(0, yc 111, yc 0)])], [])
def yx59 : yCx := ([ys19, ys58], ys59.2.2.2.2, yFP, zm282.2.2.1, zm282.2.2.2.1, zc282, 0, ys59.2.2.2.1, [], [])
theorem yw59 : ywf ys59.2.2.1 = true := by decide +kernel
theorem yk59 : yver yx59 ys59.2.2.1 4000 = true := by decide +kernel
theorem yt59 {E : zHp → Prop} (h : yXt E) : yTs E ys59 := yver_s (x := yx59) h.1 (yal_c (yt19 h) yw19 (yal_c (yt58 h) yw58 (yal_n))) yg282 yk59
def ys60 : ySp := (293, 3, (0, [], [], [], [(0, (0, yc 10, yc 0)), (1, (0, yc 31, yc 0)), (2, (7, yc 0, yc 0))], []), [(0, [], [], [], [], [(0, yc 10, yc 0)])], [])
def yx60 : yCx := ([], ys60.2.2.2.2, yFP, zm293.2.2.1, zm293.2.2.2.1, zc293, 0, ys60.2.2.2.1, [], [])
theorem yw60 : ywf ys60.2.2.1 = true := by decide +kernel
theorem yk60 : yver yx60 ys60.2.2.1 4000 = true := by decide +kernel
theorem yt60 {E : zHp → Prop} (h : yXt E) : yTs E ys60 := yver_s (x := yx60) h.1 (yal_n) yg293 yk60
def ys61 : ySp := (285, 2, (0, [], [], [], [(0, (0, yc 10, yc 0)), (1, (0, yc 31, yc 0))], []), [(0, [], [], [], [], [])], [])
def yx61 : yCx := ([ys60], ys61.2.2.2.2, yFP, zm285.2.2.1, zm285.2.2.2.1, zc285, 0, ys61.2.2.2.1, [], [])
theorem yw61 : ywf ys61.2.2.1 = true := by decide +kernel
theorem yk61 : yver yx61 ys61.2.2.1 4000 = true := by decide +kernel
theorem yt61 {E : zHp → Prop} (h : yXt E) : yTs E ys61 := yver_s (x := yx61) h.1 (yal_c (yt60 h) yw60 (yal_n)) yg285 yk61
def ys62 : ySp := (286, 2, (0, [], [], [], [(0, (2, yc 1020, yc 0)), (1, (0, yc 10, yc 0))], []), [(0, [], [], [], [], [(0, yc 111, yc 0)])], [])
def yx62 : yCx := ([ys61], ys62.2.2.2.2, yFP, zm286.2.2.1, zm286.2.2.2.1, zc286, 0, ys62.2.2.2.1, [], [])
theorem yw62 : ywf ys62.2.2.1 = true := by decide +kernel
theorem yk62 : yver yx62 ys62.2.2.1 4000 = true := by decide +kernel
theorem yt62 {E : zHp → Prop} (h : yXt E) : yTs E ys62 := yver_s (x := yx62) h.1 (yal_c (yt61 h) yw61 (yal_n)) yg286 yk62
def ys63 : ySp := (282, 2, (0, [], [], [], [(0, (2, yc 1001, yc 0)), (1, (0, yc 10, yc 0))], []), [(0, [], [], [], [], [(0, yc 111, yc 0)])], [])
def yx63 : yCx := ([ys19, ys62], ys63.2.2.2.2, yFP, zm282.2.2.1, zm282.2.2.2.1, zc282, 0, ys63.2.2.2.1, [], [])
theorem yw63 : ywf ys63.2.2.1 = true := by decide +kernel
theorem yk63 : yver yx63 ys63.2.2.1 4000 = true := by decide +kernel
theorem yt63 {E : zHp → Prop} (h : yXt E) : yTs E ys63 := yver_s (x := yx63) h.1 (yal_c (yt19 h) yw19 (yal_c (yt62 h) yw62 (yal_n))) yg282 yk63
def ys64 : ySp := (293, 3, (0, [], [], [], [(0, (0, yc 11, yc 0)), (1, (0, yc 31, yc 0)), (2, (7, yc 0, yc 0))], []), [(0, [], [], [], [], [(0, yc 11, yc 0)])], [])
def yx64 : yCx := ([], ys64.2.2.2.2, yFP, zm293.2.2.1, zm293.2.2.2.1, zc293, 0, ys64.2.2.2.1, [], [])
theorem yw64 : ywf ys64.2.2.1 = true := by decide +kernel
theorem yk64 : yver yx64 ys64.2.2.1 4000 = true := by decide +kernel
theorem yt64 {E : zHp → Prop} (h : yXt E) : yTs E ys64 := yver_s (x := yx64) h.1 (yal_n) yg293 yk64
def ys65 : ySp := (285, 2, (0, [], [], [], [(0, (0, yc 11, yc 0)), (1, (0, yc 31, yc 0))], []), [(0, [], [], [], [], [])], [])
def yx65 : yCx := ([ys64], ys65.2.2.2.2, yFP, zm285.2.2.1, zm285.2.2.2.1, zc285, 0, ys65.2.2.2.1, [], [])
theorem yw65 : ywf ys65.2.2.1 = true := by decide +kernel
theorem yk65 : yver yx65 ys65.2.2.1 4000 = true := by decide +kernel
theorem yt65 {E : zHp → Prop} (h : yXt E) : yTs E ys65 := yver_s (x := yx65) h.1 (yal_c (yt64 h) yw64 (yal_n)) yg285 yk65
def ys66 : ySp := (286, 2, (0, [], [], [], [(0, (2, yc 1020, yc 0)), (1, (0, yc 11, yc 0))], []), [(0, [], [], [], [], [(0, yc 108, yc 0)])], [])
def yx66 : yCx := ([ys65], ys66.2.2.2.2, yFP, zm286.2.2.1, zm286.2.2.2.1, zc286, 0, ys66.2.2.2.1, [], [])
theorem yw66 : ywf ys66.2.2.1 = true := by decide +kernel
theorem yk66 : yver yx66 ys66.2.2.1 4000 = true := by decide +kernel
theorem yt66 {E : zHp → Prop} (h : yXt E) : yTs E ys66 := yver_s (x := yx66) h.1 (yal_c (yt65 h) yw65 (yal_n)) yg286 yk66
def ys67 : ySp := (282, 2, (0, [], [], [], [(0, (2, yc 1001, yc 0)), (1, (0, yc 11, yc 0))], []), [(0, [], [], [], [], [(0, yc 108, yc 0)])], [])
def yx67 : yCx := ([ys19, ys66], ys67.2.2.2.2, yFP, zm282.2.2.1, zm282.2.2.2.1, zc282, 0, ys67.2.2.2.1, [], [])
theorem yw67 : ywf ys67.2.2.1 = true := by decide +kernel
theorem yk67 : yver yx67 ys67.2.2.1 4000 = true := by decide +kernel
theorem yt67 {E : zHp → Prop} (h : yXt E) : yTs E ys67 := yver_s (x := yx67) h.1 (yal_c (yt19 h) yw19 (yal_c (yt66 h) yw66 (yal_n))) yg282 yk67
def ys68 : ySp := (293, 3, (0, [], [], [], [(0, (0, yc 12, yc 0)), (1, (0, yc 31, yc 0)), (2, (7, yc 0, yc 0))], []), [(0, [], [], [], [], [(0, yc 12, yc 0)])], [])
def yx68 : yCx := ([], ys68.2.2.2.2, yFP, zm293.2.2.1, zm293.2.2.2.1, zc293, 0, ys68.2.2.2.1, [], [])
theorem yw68 : ywf ys68.2.2.1 = true := by decide +kernel
theorem yk68 : yver yx68 ys68.2.2.1 4000 = true := by decide +kernel
theorem yt68 {E : zHp → Prop} (h : yXt E) : yTs E ys68 := yver_s (x := yx68) h.1 (yal_n) yg293 yk68
def ys69 : ySp := (285, 2, (0, [], [], [], [(0, (0, yc 12, yc 0)), (1, (0, yc 31, yc 0))], []), [(0, [], [], [], [], [])], [])
def yx69 : yCx := ([ys68], ys69.2.2.2.2, yFP, zm285.2.2.1, zm285.2.2.2.1, zc285, 0, ys69.2.2.2.1, [], [])
theorem yw69 : ywf ys69.2.2.1 = true := by decide +kernel
theorem yk69 : yver yx69 ys69.2.2.1 4000 = true := by decide +kernel
theorem yt69 {E : zHp → Prop} (h : yXt E) : yTs E ys69 := yver_s (x := yx69) h.1 (yal_c (yt68 h) yw68 (yal_n)) yg285 yk69
def ys70 : ySp := (286, 2, (0, [], [], [], [(0, (2, yc 1020, yc 0)), (1, (0, yc 12, yc 0))], []), [(0, [], [], [], [], [(0, yc 32, yc 0)])], [])
def yx70 : yCx := ([ys69], ys70.2.2.2.2, yFP, zm286.2.2.1, zm286.2.2.2.1, zc286, 0, ys70.2.2.2.1, [], [])
theorem yw70 : ywf ys70.2.2.1 = true := by decide +kernel
theorem yk70 : yver yx70 ys70.2.2.1 4000 = true := by decide +kernel
theorem yt70 {E : zHp → Prop} (h : yXt E) : yTs E ys70 := yver_s (x := yx70) h.1 (yal_c (yt69 h) yw69 (yal_n)) yg286 yk70
def ys71 : ySp := (282, 2, (0, [], [], [], [(0, (2, yc 1001, yc 0)), (1, (0, yc 12, yc 0))], []), [(0, [], [], [], [], [(0, yc 32, yc 0)])], [])
def yx71 : yCx := ([ys19, ys70], ys71.2.2.2.2, yFP, zm282.2.2.1, zm282.2.2.2.1, zc282, 0, ys71.2.2.2.1, [], [])
theorem yw71 : ywf ys71.2.2.1 = true := by decide +kernel
theorem yk71 : yver yx71 ys71.2.2.1 4000 = true := by decide +kernel
theorem yt71 {E : zHp → Prop} (h : yXt E) : yTs E ys71 := yver_s (x := yx71) h.1 (yal_c (yt19 h) yw19 (yal_c (yt70 h) yw70 (yal_n))) yg282 yk71
