def ys258 : ySp := (91, 2, (1, [(0, 0, 5)], [], [], [(0, (2, yc 9, yc 0)), (1, (0, (1, 0, 0), yc 0))], []), [(2, [(1, 0, 63)], [], [], [], [(0, (1, 1, 0), yc 0)])], [])
def yx258 : yCx := ([], ys258.2.2.2.2, yFP, zm91.2.2.1, zm91.2.2.2.1, zc91, 1, ys258.2.2.2.1, [], [])
theorem yw258 : ywf ys258.2.2.1 = true := by decide +kernel
theorem yk258 : yver yx258 ys258.2.2.1 4000 = true := by decide +kernel
theorem yt258 {E : zHp → Prop} (h : yXt E) : yTs E ys258 := yver_s (x := yx258) h.1 (yal_n) yg91 yk258
def ys259 : ySp := (92, 3, (2, [(0, 0, 5), (1, 0, 5)], [], [], [(0, (2, yc 9, yc 0)), (1, (0, (1, 0, 0), yc 0)), (2, (0, (1, 1, 0), yc 0))], []), [(2, [], [], [], [], [(0, yc 0, yc 0)]), (2, [], [], [], [], [(0, yc 1, yc 0)])], [])
def yx259 : yCx := ([ys258], ys259.2.2.2.2, yFP, zm92.2.2.1, zm92.2.2.2.1, zc92, 2, ys259.2.2.2.1, [], [])
theorem yw259 : ywf ys259.2.2.1 = true := by decide +kernel
theorem yk259 : yver yx259 ys259.2.2.1 4000 = true := by decide +kernel
theorem yt259 {E : zHp → Prop} (h : yXt E) : yTs E ys259 := yver_s (x := yx259) h.1 (yal_c (yt258 h) yw258 (yal_n)) yg92 yk259
def ys260 : ySp := (94, 3, (2, [(0, 0, 5), (1, 0, 5)], [], [], [(0, (2, yc 9, yc 0)), (1, (0, (1, 0, 0), yc 0)), (2, (0, (1, 1, 0), yc 0))], []), [(3, [(2, (-2147483648), 2147483647)], [], [], [], [(0, (1, 2, 0), yc 0)])], [])
def yx260 : yCx := ([], ys260.2.2.2.2, yFP, zm94.2.2.1, zm94.2.2.2.1, zc94, 2, ys260.2.2.2.1, [], [])
theorem yw260 : ywf ys260.2.2.1 = true := by decide +kernel
theorem yk260 : yver yx260 ys260.2.2.1 4000 = true := by decide +kernel
theorem yt260 {E : zHp → Prop} (h : yXt E) : yTs E ys260 := yver_s (x := yx260) h.1 (yal_n) yg94 yk260
def ys261 : ySp := (130, 4, (3, [(0, (-2147483648), 2147483647), (1, (-2147483648), 2147483647), (2, (-2147483648), 2147483647)], [], [], [(0, (2, yc 0, yc 0)), (1, (0, (1, 0, 0), yc 0)), (2, (0, (1, 1, 0), yc 0)), (3, (0, (1, 2, 0), yc 0))], []), [(3, [], [], [], [], [(0, yc (-1), yc 0)]), (3, [(0, 0, 5), (1, 0, 5), (2, 0, 0)], [], [], [], [(0, yc 0, yc 0)]), (3, [(0, 0, 5), (1, 0, 5), (2, 0, 0)], [], [], [], [(0, yc 1, yc 0)]), (4, [(0, 0, 5), (1, 0, 5), (2, 1, 1), (3, (-2147483648), 2147483647)], [], [], [], [(0, (1, 3, 0), yc 0)])], [])
def yx261 : yCx := ([ys257, ys259, ys260], ys261.2.2.2.2, yFP, zm130.2.2.1, zm130.2.2.2.1, zc130, 3, ys261.2.2.2.1, [], [])
theorem yw261 : ywf ys261.2.2.1 = true := by decide +kernel
theorem yk261 : yver yx261 ys261.2.2.1 4000 = true := by decide +kernel
theorem yt261 {E : zHp → Prop} (h : yXt E) : yTs E ys261 := yver_s (x := yx261) h.1 (yal_c (yt257 h) yw257 (yal_c (yt259 h) yw259 (yal_c (yt260 h) yw260 (yal_n)))) yg130 yk261
def ys262 : ySp := (101, 3, (2, [(0, 0, 5), (1, 0, 5)], [], [], [(0, (2, yc 9, yc 0)), (1, (0, (1, 0, 0), yc 0)), (2, (0, (1, 1, 0), yc 0))], []), [(2, [], [], [], [], [(0, yc 0, yc 0)]), (2, [], [], [], [], [(0, yc 1, yc 0)])], [])
def yx262 : yCx := ([ys230, ys231, ys259], ys262.2.2.2.2, yFP, zm101.2.2.1, zm101.2.2.2.1, zc101, 2, ys262.2.2.2.1, [], [])
theorem yw262 : ywf ys262.2.2.1 = true := by decide +kernel
theorem yk262 : yver yx262 ys262.2.2.1 4000 = true := by decide +kernel
theorem yt262 {E : zHp → Prop} (h : yXt E) : yTs E ys262 := yver_s (x := yx262) h.1 (yal_c (yt230 h) yw230 (yal_c (yt231 h) yw231 (yal_c (yt259 h) yw259 (yal_n)))) yg101 yk262
def ys263 : ySp := (68, 2, (1, [(0, 16, 35)], [], [], [(0, (2, yc 9, yc 0)), (1, (2, (1, 0, 0), yc 0))], []), [(1, [], [], [], [], [])], [(16, 35, 1000)])
def yx263 : yCx := ([], ys263.2.2.2.2, yFP, zm68.2.2.1, zm68.2.2.2.1, zc68, 1, ys263.2.2.2.1, [], [])
theorem yw263 : ywf ys263.2.2.1 = true := by decide +kernel
theorem yk263 : yver yx263 ys263.2.2.1 4000 = true := by decide +kernel
theorem yt263 {E : zHp → Prop} (h : yXt E) : yTs E ys263 := yver_s (x := yx263) h.1 (yal_n) yg68 yk263
def ys264 : ySp := (16, 2, (0, [], [], [], [(0, (2, yc 14, yc 0)), (1, (2, yc 9, yc 0))], []), [(0, [], [], [], [], [])], [(14, 14, 1), (14, 14, 2), (16, 35, 1000)])
def yx264 : yCx := ([ys263], ys264.2.2.2.2, yFP, zm16.2.2.1, zm16.2.2.2.1, zc16, 0, ys264.2.2.2.1, [], [])
theorem yw264 : ywf ys264.2.2.1 = true := by decide +kernel
theorem yk264 : yver yx264 ys264.2.2.1 4000 = true := by decide +kernel
theorem yt264 {E : zHp → Prop} (h : yXt E) : yTs E ys264 := yver_s (x := yx264) h.1 (yal_c (yt263 h) yw263 (yal_n)) yg16 yk264
def ys265 : ySp := (75, 4, (3, [(0, 0, 5), (1, 0, 5), (2, (-2147483648), 2147483647)], [], [], [(0, (2, yc 9, yc 0)), (1, (0, (1, 0, 0), yc 0)), (2, (0, (1, 1, 0), yc 0)), (3, (0, (1, 2, 0), yc 0))], []), [(3, [], [], [], [], [])], [(10, 10, 1000)])
def yx265 : yCx := ([], ys265.2.2.2.2, yFP, zm75.2.2.1, zm75.2.2.2.1, zc75, 3, ys265.2.2.2.1, [], [])
theorem yw265 : ywf ys265.2.2.1 = true := by decide +kernel
theorem yk265 : yver yx265 ys265.2.2.1 4000 = true := by decide +kernel
theorem yt265 {E : zHp → Prop} (h : yXt E) : yTs E ys265 := yver_s (x := yx265) h.1 (yal_n) yg75 yk265
def ys266 : ySp := (88, 4, (2, [(0, 0, 5), (1, (-2147483648), 2147483647)], [], [], [(0, (2, yc 9, yc 0)), (1, (0, (1, 0, 0), yc 0)), (2, (0, yc 4, yc 0)), (3, (0, (1, 1, 0), yc 0))], []), [(2, [], [], [], [], [])], [(10, 10, 1000)])
def yx266 : yCx := ([], ys266.2.2.2.2, yFP, zm88.2.2.1, zm88.2.2.2.1, zc88, 2, ys266.2.2.2.1, [], [])
theorem yw266 : ywf ys266.2.2.1 = true := by decide +kernel
theorem yk266 : yver yx266 ys266.2.2.1 4000 = true := by decide +kernel
theorem yt266 {E : zHp → Prop} (h : yXt E) : yTs E ys266 := yver_s (x := yx266) h.1 (yal_n) yg88 yk266
def ys267 : ySp := (88, 4, (2, [(0, 0, 5), (1, 0, 5)], [], [], [(0, (2, yc 9, yc 0)), (1, (0, (1, 0, 0), yc 0)), (2, (0, yc 3, yc 0)), (3, (0, (1, 1, 0), yc 0))], []), [(2, [], [], [], [], [])], [(10, 10, 1000)])
def yx267 : yCx := ([], ys267.2.2.2.2, yFP, zm88.2.2.1, zm88.2.2.2.1, zc88, 2, ys267.2.2.2.1, [], [])
theorem yw267 : ywf ys267.2.2.1 = true := by decide +kernel
theorem yk267 : yver yx267 ys267.2.2.1 4000 = true := by decide +kernel
theorem yt267 {E : zHp → Prop} (h : yXt E) : yTs E ys267 := yver_s (x := yx267) h.1 (yal_n) yg88 yk267
def ys268 : ySp := (102, 4, (2, [(0, 0, 5), (1, 0, 5)], [], [], [(0, (2, yc 9, yc 0)), (1, (0, (1, 0, 0), yc 0)), (2, (0, (1, 1, 0), yc 0))], []), [(2, [], [], [], [], [])], [(10, 10, 1000)])
def yx268 : yCx := ([ys265, ys230, ys234, ys267, ys266, ys260], ys268.2.2.2.2, yFP, zm102.2.2.1, zm102.2.2.2.1, zc102, 2, ys268.2.2.2.1, [], [])
theorem yw268 : ywf ys268.2.2.1 = true := by decide +kernel
theorem yk268 : yver yx268 ys268.2.2.1 4000 = true := by decide +kernel
theorem yt268 {E : zHp → Prop} (h : yXt E) : yTs E ys268 := yver_s (x := yx268) h.1 (yal_c (yt265 h) yw265 (yal_c (yt230 h) yw230 (yal_c (yt234 h) yw234 (yal_c (yt267 h) yw267 (yal_c (yt266 h) yw266 (yal_c (yt260 h) yw260 (yal_n))))))) yg102 yk268
def ys269 : ySp := (131, 3, (2, [(0, (-2147483648), 2147483647), (1, (-2147483648), 2147483647)], [], [], [(0, (2, yc 0, yc 0)), (1, (0, (1, 0, 0), yc 0)), (2, (0, (1, 1, 0), yc 0))], []), [(2, [], [], [], [], [(0, yc (-1), yc 0)]), (2, [(0, 0, 5), (1, 0, 5)], [], [], [], [(0, yc 0, yc 0)]), (3, [(0, 0, 5), (1, 0, 5), (2, 0, 2147483647)], [], [], [], [(0, (1, 2, 0), yc 0)])], [(10, 10, 1000), (14, 14, 1), (14, 14, 2), (16, 35, 1000)])
def yx269 : yCx := ([ys264, ys229, ys256, ys239, ys262, ys268], ys269.2.2.2.2, yFP, zm131.2.2.1, zm131.2.2.2.1, zc131, 2, ys269.2.2.2.1, [], [])
theorem yw269 : ywf ys269.2.2.1 = true := by decide +kernel
theorem yk269 : yver yx269 ys269.2.2.1 4000 = true := by decide +kernel
theorem yt269 {E : zHp → Prop} (h : yXt E) : yTs E ys269 := yver_s (x := yx269) h.1 (yal_c (yt264 h) yw264 (yal_c (yt229 h) yw229 (yal_c (yt256 h) yw256 (yal_c (yt239 h) yw239 (yal_c (yt262 h) yw262 (yal_c (yt268 h) yw268 (yal_n))))))) yg131 yk269
def ys270 : ySp := (88, 4, (2, [(0, 0, 5), (1, 0, 5)], [], [], [(0, (2, yc 9, yc 0)), (1, (0, (1, 0, 0), yc 0)), (2, (0, yc 0, yc 0)), (3, (0, (1, 1, 0), yc 0))], []), [(2, [], [], [], [], [])], [(10, 10, 1000)])
def yx270 : yCx := ([], ys270.2.2.2.2, yFP, zm88.2.2.1, zm88.2.2.2.1, zc88, 2, ys270.2.2.2.1, [], [])
theorem yw270 : ywf ys270.2.2.1 = true := by decide +kernel
theorem yk270 : yver yx270 ys270.2.2.1 4000 = true := by decide +kernel
theorem yt270 {E : zHp → Prop} (h : yXt E) : yTs E ys270 := yver_s (x := yx270) h.1 (yal_n) yg88 yk270
def ys271 : ySp := (88, 4, (2, [(0, 0, 5), (1, 0, 1)], [], [], [(0, (2, yc 9, yc 0)), (1, (0, (1, 0, 0), yc 0)), (2, (0, yc 5, yc 0)), (3, (0, (1, 1, 0), yc 0))], []), [(2, [], [], [], [], [])], [(10, 10, 1000)])
def yx271 : yCx := ([], ys271.2.2.2.2, yFP, zm88.2.2.1, zm88.2.2.2.1, zc88, 2, ys271.2.2.2.1, [], [])
theorem yw271 : ywf ys271.2.2.1 = true := by decide +kernel
theorem yk271 : yver yx271 ys271.2.2.1 4000 = true := by decide +kernel
theorem yt271 {E : zHp → Prop} (h : yXt E) : yTs E ys271 := yver_s (x := yx271) h.1 (yal_n) yg88 yk271
def ys272 : ySp := (104, 3, (2, [(0, 0, 5), (1, 0, 5)], [], [], [(0, (2, yc 9, yc 0)), (1, (0, (1, 0, 0), yc 0)), (2, (0, (1, 1, 0), yc 0))], []), [(2, [], [], [], [], [])], [(10, 10, 1000)])
def yx272 : yCx := ([ys271, ys267, ys270, ys266], ys272.2.2.2.2, yFP, zm104.2.2.1, zm104.2.2.2.1, zc104, 2, ys272.2.2.2.1, [], [])
theorem yw272 : ywf ys272.2.2.1 = true := by decide +kernel
theorem yk272 : yver yx272 ys272.2.2.1 4000 = true := by decide +kernel
theorem yt272 {E : zHp → Prop} (h : yXt E) : yTs E ys272 := yver_s (x := yx272) h.1 (yal_c (yt271 h) yw271 (yal_c (yt267 h) yw267 (yal_c (yt270 h) yw270 (yal_c (yt266 h) yw266 (yal_n))))) yg104 yk272
def ys273 : ySp := (103, 2, (1, [(0, 0, 5)], [], [], [(0, (2, yc 9, yc 0)), (1, (0, (1, 0, 0), yc 0))], []), [(1, [], [], [], [], [])], [(10, 10, 1000)])
def yx273 : yCx := ([ys231, ys272], ys273.2.2.2.2, yFP, zm103.2.2.1, zm103.2.2.2.1, zc103, 1, ys273.2.2.2.1, [], [])
theorem yw273 : ywf ys273.2.2.1 = true := by decide +kernel
theorem yk273 : yver yx273 ys273.2.2.1 4000 = true := by decide +kernel
theorem yt273 {E : zHp → Prop} (h : yXt E) : yTs E ys273 := yver_s (x := yx273) h.1 (yal_c (yt231 h) yw231 (yal_c (yt272 h) yw272 (yal_n))) yg103 yk273
def ys274 : ySp := (132, 2, (1, [(0, (-2147483648), 2147483647)], [], [], [(0, (2, yc 0, yc 0)), (1, (0, (1, 0, 0), yc 0))], []), [(1, [], [], [], [], [(0, yc (-1), yc 0)]), (2, [(0, 0, 5), (1, 0, 5)], [], [], [], [(0, (1, 1, 0), yc 0)])], [(10, 10, 1000), (14, 14, 1), (14, 14, 2), (16, 35, 1000)])
def yx274 : yCx := ([ys264, ys229, ys231, ys232, ys273], ys274.2.2.2.2, yFP, zm132.2.2.1, zm132.2.2.2.1, zc132, 1, ys274.2.2.2.1, [], [])
theorem yw274 : ywf ys274.2.2.1 = true := by decide +kernel
theorem yk274 : yver yx274 ys274.2.2.1 4000 = true := by decide +kernel
theorem yt274 {E : zHp → Prop} (h : yXt E) : yTs E ys274 := yver_s (x := yx274) h.1 (yal_c (yt264 h) yw264 (yal_c (yt229 h) yw229 (yal_c (yt231 h) yw231 (yal_c (yt232 h) yw232 (yal_c (yt273 h) yw273 (yal_n)))))) yg132 yk274
def ys275 : ySp := (89, 3, (1, [(0, 0, 5)], [], [], [(0, (2, yc 9, yc 0)), (1, (0, (1, 0, 0), yc 0)), (2, (0, yc 3, yc 0))], []), [(2, [(1, (-2147483648), 2147483647)], [], [], [], [(0, (1, 1, 0), yc 0)])], [])
def yx275 : yCx := ([], ys275.2.2.2.2, yFP, zm89.2.2.1, zm89.2.2.2.1, zc89, 1, ys275.2.2.2.1, [], [])
theorem yw275 : ywf ys275.2.2.1 = true := by decide +kernel
theorem yk275 : yver yx275 ys275.2.2.1 4000 = true := by decide +kernel
theorem yt275 {E : zHp → Prop} (h : yXt E) : yTs E ys275 := yver_s (x := yx275) h.1 (yal_n) yg89 yk275
def ys276 : ySp := (81, 1, (0, [], [], [], [(0, (2, yc 9, yc 0))], []), [(1, [(0, (-2147483648), 2147483647)], [], [], [], [(0, (1, 0, 0), yc 0)])], [])
def yx276 : yCx := ([], ys276.2.2.2.2, yFP, zm81.2.2.1, zm81.2.2.2.1, zc81, 0, ys276.2.2.2.1, [], [])
theorem yw276 : ywf ys276.2.2.1 = true := by decide +kernel
theorem yk276 : yver yx276 ys276.2.2.1 4000 = true := by decide +kernel
theorem yt276 {E : zHp → Prop} (h : yXt E) : yTs E ys276 := yver_s (x := yx276) h.1 (yal_n) yg81 yk276
def ys277 : ySp := (90, 4, (2, [(0, 0, 5), (1, (-2147483648), 2147483647)], [], [], [(0, (2, yc 9, yc 0)), (1, (0, (1, 0, 0), yc 0)), (2, (0, yc 4, yc 0)), (3, (0, (1, 1, 0), yc 0))], []), [(2, [], [], [], [], [])], [(10, 10, 1000)])
def yx277 : yCx := ([], ys277.2.2.2.2, yFP, zm90.2.2.1, zm90.2.2.2.1, zc90, 2, ys277.2.2.2.1, [], [])
theorem yw277 : ywf ys277.2.2.1 = true := by decide +kernel
theorem yk277 : yver yx277 ys277.2.2.1 4000 = true := by decide +kernel
theorem yt277 {E : zHp → Prop} (h : yXt E) : yTs E ys277 := yver_s (x := yx277) h.1 (yal_n) yg90 yk277
def ys278 : ySp := (108, 3, (1, [(0, 0, 5)], [], [], [(0, (2, yc 9, yc 0)), (1, (0, (1, 0, 0), yc 0))], []), [(2, [(1, (-2147483648), 2147483647)], [], [], [], [(0, (1, 1, 0), yc 0)])], [(10, 10, 1000)])
def yx278 : yCx := ([ys276, ys275, ys277], ys278.2.2.2.2, yFP, zm108.2.2.1, zm108.2.2.2.1, zc108, 1, ys278.2.2.2.1, [], [])
theorem yw278 : ywf ys278.2.2.1 = true := by decide +kernel
theorem yk278 : yver yx278 ys278.2.2.1 4000 = true := by decide +kernel
theorem yt278 {E : zHp → Prop} (h : yXt E) : yTs E ys278 := yver_s (x := yx278) h.1 (yal_c (yt276 h) yw276 (yal_c (yt275 h) yw275 (yal_c (yt277 h) yw277 (yal_n)))) yg108 yk278
def ys279 : ySp := (133, 2, (1, [(0, (-2147483648), 2147483647)], [], [], [(0, (2, yc 0, yc 0)), (1, (0, (1, 0, 0), yc 0))], []), [(1, [], [], [], [], [(0, yc (-1), yc 0)]), (2, [(0, 0, 5), (1, (-2147483648), 2147483647)], [], [], [], [(0, (1, 1, 0), yc 0)])], [(10, 10, 1000), (14, 14, 1), (14, 14, 2), (16, 35, 1000)])
def yx279 : yCx := ([ys264, ys243, ys252, ys278], ys279.2.2.2.2, yFP, zm133.2.2.1, zm133.2.2.2.1, zc133, 1, ys279.2.2.2.1, [], [])
theorem yw279 : ywf ys279.2.2.1 = true := by decide +kernel
theorem yk279 : yver yx279 ys279.2.2.1 4000 = true := by decide +kernel
theorem yt279 {E : zHp → Prop} (h : yXt E) : yTs E ys279 := yver_s (x := yx279) h.1 (yal_c (yt264 h) yw264 (yal_c (yt243 h) yw243 (yal_c (yt252 h) yw252 (yal_c (yt278 h) yw278 (yal_n))))) yg133 yk279
def ys280 : ySp := (93, 3, (2, [(0, 0, 5), (1, 0, 5)], [], [], [(0, (2, yc 9, yc 0)), (1, (0, (1, 0, 0), yc 0)), (2, (0, (1, 1, 0), yc 0))], []), [(2, [], [], [], [], [(0, yc 0, yc 0)]), (2, [], [], [], [], [(0, yc 1, yc 0)])], [])
def yx280 : yCx := ([ys259], ys280.2.2.2.2, yFP, zm93.2.2.1, zm93.2.2.2.1, zc93, 2, ys280.2.2.2.1, [], [])
theorem yw280 : ywf ys280.2.2.1 = true := by decide +kernel
theorem yk280 : yver yx280 ys280.2.2.1 4000 = true := by decide +kernel
theorem yt280 {E : zHp → Prop} (h : yXt E) : yTs E ys280 := yver_s (x := yx280) h.1 (yal_c (yt259 h) yw259 (yal_n)) yg93 yk280
def ys281 : ySp := (105, 3, (2, [(0, 0, 5), (1, 0, 5)], [], [], [(0, (2, yc 9, yc 0)), (1, (0, (1, 0, 0), yc 0)), (2, (0, (1, 1, 0), yc 0))], []), [(2, [], [], [], [], [])], [(10, 10, 1000)])
def yx281 : yCx := ([], ys281.2.2.2.2, yFP, zm105.2.2.1, zm105.2.2.2.1, zc105, 2, ys281.2.2.2.1, [], [])
theorem yw281 : ywf ys281.2.2.1 = true := by decide +kernel
theorem yk281 : yver yx281 ys281.2.2.1 4000 = true := by decide +kernel
theorem yt281 {E : zHp → Prop} (h : yXt E) : yTs E ys281 := yver_s (x := yx281) h.1 (yal_n) yg105 yk281
def ys282 : ySp := (134, 3, (2, [(0, (-2147483648), 2147483647), (1, (-2147483648), 2147483647)], [], [], [(0, (2, yc 0, yc 0)), (1, (0, (1, 0, 0), yc 0)), (2, (0, (1, 1, 0), yc 0))], []), [(2, [], [], [], [], [(0, yc 0, yc 0)]), (2, [(0, 0, 5), (1, 0, 5)], [], [], [], [(0, yc 1, yc 0)])], [(10, 10, 1000), (14, 14, 1), (14, 14, 2), (16, 35, 1000)])
def yx282 : yCx := ([ys264, ys257, ys280, ys281], ys282.2.2.2.2, yFP, zm134.2.2.1, zm134.2.2.2.1, zc134, 2, ys282.2.2.2.1, [], [])
theorem yw282 : ywf ys282.2.2.1 = true := by decide +kernel
theorem yk282 : yver yx282 ys282.2.2.1 4000 = true := by decide +kernel
theorem yt282 {E : zHp → Prop} (h : yXt E) : yTs E ys282 := yver_s (x := yx282) h.1 (yal_c (yt264 h) yw264 (yal_c (yt257 h) yw257 (yal_c (yt280 h) yw280 (yal_c (yt281 h) yw281 (yal_n))))) yg134 yk282
def ys283 : ySp := (64, 6, (2, [(0, 0, 5), (1, 0, 63)], [], [], [(0, (2, yc 67, yc 0)), (1, (2, yc 9, yc 0)), (2, (0, (1, 0, 0), yc 0)), (3, (0, (1, 1, 0), yc 0)), (4, (0, yc 6, yc 0))], []), [(2, [], [], [], [], [(0, yc 0, yc 0)]), (2, [], [], [], [], [(0, yc 1, yc 0)])], [])
def yx283 : yCx := ([ys260], ys283.2.2.2.2, yFP, zm64.2.2.1, zm64.2.2.2.1, zc64, 2, ys283.2.2.2.1, [], [])
theorem yw283 : ywf ys283.2.2.1 = true := by decide +kernel
theorem yk283 : yver yx283 ys283.2.2.1 4000 = true := by decide +kernel
theorem yt283 {E : zHp → Prop} (h : yXt E) : yTs E ys283 := yver_s (x := yx283) h.1 (yal_c (yt260 h) yw260 (yal_n)) yg64 yk283
def ys284 : ySp := (64, 6, (2, [(0, 0, 5), (1, 0, 63)], [], [], [(0, (2, yc 67, yc 0)), (1, (2, yc 9, yc 0)), (2, (0, (1, 0, 0), yc 0)), (3, (0, (1, 1, 0), yc 0)), (4, (0, yc 5, yc 0))], []), [(2, [], [], [], [], [(0, yc 0, yc 0)]), (2, [], [], [], [], [(0, yc 1, yc 0)])], [(68, 68, 1000)])
def yx284 : yCx := ([ys283, ys255, ys260], ys284.2.2.2.2, yFP, zm64.2.2.1, zm64.2.2.2.1, zc64, 2, ys284.2.2.2.1, [(46, (4, [(0, 0, 5), (1, 0, 63), (2, 1, 6), (3, 0, 5)], [], [(yc 67, yc 1, (0, yc 6, yc 0)), (yc 68, yc 0, (0, (1, 3, 0), yc 0))], [(0, (2, yc 67, yc 0)), (1, (2, yc 9, yc 0)), (2, (0, (1, 0, 0), yc 0)), (3, (0, (1, 1, 0), yc 0)), (4, (0, yc 5, yc 0)), (5, (0, (1, 2, 0), yc 0))], []), ([((-1), 2)], 6))], [])
theorem yw284 : ywf ys284.2.2.1 = true := by decide +kernel
theorem yk284 : yver yx284 ys284.2.2.1 4000 = true := by decide +kernel
theorem yt284 {E : zHp → Prop} (h : yXt E) : yTs E ys284 := yver_s (x := yx284) h.1 (yal_c (yt283 h) yw283 (yal_c (yt255 h) yw255 (yal_c (yt260 h) yw260 (yal_n)))) yg64 yk284
def ys285 : ySp := (64, 6, (2, [(0, 0, 5), (1, 0, 63)], [], [], [(0, (2, yc 67, yc 0)), (1, (2, yc 9, yc 0)), (2, (0, (1, 0, 0), yc 0)), (3, (0, (1, 1, 0), yc 0)), (4, (0, yc 4, yc 0))], []), [(2, [], [], [], [], [(0, yc 0, yc 0)]), (2, [], [], [], [], [(0, yc 1, yc 0)])], [(68, 68, 1000)])
def yx285 : yCx := ([ys284, ys255, ys260], ys285.2.2.2.2, yFP, zm64.2.2.1, zm64.2.2.2.1, zc64, 2, ys285.2.2.2.1, [(46, (5, [(0, 0, 5), (1, 0, 63), (2, 1, 6), (3, 5, 6), (4, 0, 5)], [], [(yc 67, yc 1, (0, (1, 3, 0), yc 0)), (yc 68, yc 0, (0, (1, 4, 0), yc 0))], [(0, (2, yc 67, yc 0)), (1, (2, yc 9, yc 0)), (2, (0, (1, 0, 0), yc 0)), (3, (0, (1, 1, 0), yc 0)), (4, (0, yc 4, yc 0)), (5, (0, (1, 2, 0), yc 0))], []), ([((-1), 2)], 6))], [])
theorem yw285 : ywf ys285.2.2.1 = true := by decide +kernel
theorem yk285 : yver yx285 ys285.2.2.1 4000 = true := by decide +kernel
theorem yt285 {E : zHp → Prop} (h : yXt E) : yTs E ys285 := yver_s (x := yx285) h.1 (yal_c (yt284 h) yw284 (yal_c (yt255 h) yw255 (yal_c (yt260 h) yw260 (yal_n)))) yg64 yk285
def ys286 : ySp := (64, 6, (2, [(0, 0, 5), (1, 0, 63)], [], [], [(0, (2, yc 67, yc 0)), (1, (2, yc 9, yc 0)), (2, (0, (1, 0, 0), yc 0)), (3, (0, (1, 1, 0), yc 0)), (4, (0, yc 3, yc 0))], []), [(2, [], [], [], [], [(0, yc 0, yc 0)]), (2, [], [], [], [], [(0, yc 1, yc 0)])], [(68, 68, 1000)])
def yx286 : yCx := ([ys285, ys255, ys260], ys286.2.2.2.2, yFP, zm64.2.2.1, zm64.2.2.2.1, zc64, 2, ys286.2.2.2.1, [(46, (5, [(0, 0, 5), (1, 0, 63), (2, 1, 6), (3, 4, 6), (4, 0, 5)], [], [(yc 67, yc 1, (0, (1, 3, 0), yc 0)), (yc 68, yc 0, (0, (1, 4, 0), yc 0))], [(0, (2, yc 67, yc 0)), (1, (2, yc 9, yc 0)), (2, (0, (1, 0, 0), yc 0)), (3, (0, (1, 1, 0), yc 0)), (4, (0, yc 3, yc 0)), (5, (0, (1, 2, 0), yc 0))], []), ([((-1), 2)], 6))], [])
theorem yw286 : ywf ys286.2.2.1 = true := by decide +kernel
theorem yk286 : yver yx286 ys286.2.2.1 4000 = true := by decide +kernel
theorem yt286 {E : zHp → Prop} (h : yXt E) : yTs E ys286 := yver_s (x := yx286) h.1 (yal_c (yt285 h) yw285 (yal_c (yt255 h) yw255 (yal_c (yt260 h) yw260 (yal_n)))) yg64 yk286
def ys287 : ySp := (64, 6, (2, [(0, 0, 5), (1, 0, 63)], [], [], [(0, (2, yc 67, yc 0)), (1, (2, yc 9, yc 0)), (2, (0, (1, 0, 0), yc 0)), (3, (0, (1, 1, 0), yc 0)), (4, (0, yc 2, yc 0))], []), [(2, [], [], [], [], [(0, yc 0, yc 0)]), (2, [], [], [], [], [(0, yc 1, yc 0)])], [(68, 68, 1000)])
def yx287 : yCx := ([ys286, ys255, ys260], ys287.2.2.2.2, yFP, zm64.2.2.1, zm64.2.2.2.1, zc64, 2, ys287.2.2.2.1, [(46, (5, [(0, 0, 5), (1, 0, 63), (2, 1, 6), (3, 3, 6), (4, 0, 5)], [], [(yc 67, yc 1, (0, (1, 3, 0), yc 0)), (yc 68, yc 0, (0, (1, 4, 0), yc 0))], [(0, (2, yc 67, yc 0)), (1, (2, yc 9, yc 0)), (2, (0, (1, 0, 0), yc 0)), (3, (0, (1, 1, 0), yc 0)), (4, (0, yc 2, yc 0)), (5, (0, (1, 2, 0), yc 0))], []), ([((-1), 2)], 6))], [])
theorem yw287 : ywf ys287.2.2.1 = true := by decide +kernel
theorem yk287 : yver yx287 ys287.2.2.1 4000 = true := by decide +kernel
theorem yt287 {E : zHp → Prop} (h : yXt E) : yTs E ys287 := yver_s (x := yx287) h.1 (yal_c (yt286 h) yw286 (yal_c (yt255 h) yw255 (yal_c (yt260 h) yw260 (yal_n)))) yg64 yk287
def ys288 : ySp := (64, 6, (2, [(0, 0, 1), (1, 0, 1)], [], [], [(0, (2, yc 67, yc 0)), (1, (2, yc 9, yc 0)), (2, (0, (1, 0, 0), yc 0)), (3, (0, (1, 1, 0), yc 0)), (4, (0, yc 1, yc 0))], []), [(2, [], [], [], [], [(0, yc 0, yc 0)]), (2, [], [], [], [], [(0, yc 1, yc 0)])], [(68, 68, 1000)])
def yx288 : yCx := ([ys287, ys255, ys260], ys288.2.2.2.2, yFP, zm64.2.2.1, zm64.2.2.2.1, zc64, 2, ys288.2.2.2.1, [(46, (5, [(0, 0, 1), (1, 0, 1), (2, 1, 6), (3, 2, 6), (4, 0, 5)], [], [(yc 67, yc 1, (0, (1, 3, 0), yc 0)), (yc 68, yc 0, (0, (1, 4, 0), yc 0))], [(0, (2, yc 67, yc 0)), (1, (2, yc 9, yc 0)), (2, (0, (1, 0, 0), yc 0)), (3, (0, (1, 1, 0), yc 0)), (4, (0, yc 1, yc 0)), (5, (0, (1, 2, 0), yc 0))], []), ([((-1), 2)], 6))], [])
theorem yw288 : ywf ys288.2.2.1 = true := by decide +kernel
theorem yk288 : yver yx288 ys288.2.2.1 4000 = true := by decide +kernel
theorem yt288 {E : zHp → Prop} (h : yXt E) : yTs E ys288 := yver_s (x := yx288) h.1 (yal_c (yt287 h) yw287 (yal_c (yt255 h) yw255 (yal_c (yt260 h) yw260 (yal_n)))) yg64 yk288
def ys289 : ySp := (64, 6, (2, [(0, 0, 1), (1, 0, 3)], [], [], [(0, (2, yc 67, yc 0)), (1, (2, yc 9, yc 0)), (2, (0, (1, 0, 0), yc 0)), (3, (0, (1, 1, 0), yc 0)), (4, (0, yc 1, yc 0))], []), [(2, [], [], [], [], [(0, yc 0, yc 0)]), (2, [], [], [], [], [(0, yc 1, yc 0)])], [(68, 68, 1000)])
def yx289 : yCx := ([ys287, ys255, ys260], ys289.2.2.2.2, yFP, zm64.2.2.1, zm64.2.2.2.1, zc64, 2, ys289.2.2.2.1, [(46, (5, [(0, 0, 1), (1, 0, 3), (2, 1, 6), (3, 2, 6), (4, 0, 5)], [], [(yc 67, yc 1, (0, (1, 3, 0), yc 0)), (yc 68, yc 0, (0, (1, 4, 0), yc 0))], [(0, (2, yc 67, yc 0)), (1, (2, yc 9, yc 0)), (2, (0, (1, 0, 0), yc 0)), (3, (0, (1, 1, 0), yc 0)), (4, (0, yc 1, yc 0)), (5, (0, (1, 2, 0), yc 0))], []), ([((-1), 2)], 6))], [])
theorem yw289 : ywf ys289.2.2.1 = true := by decide +kernel
theorem yk289 : yver yx289 ys289.2.2.1 4000 = true := by decide +kernel
theorem yt289 {E : zHp → Prop} (h : yXt E) : yTs E ys289 := yver_s (x := yx289) h.1 (yal_c (yt287 h) yw287 (yal_c (yt255 h) yw255 (yal_c (yt260 h) yw260 (yal_n)))) yg64 yk289
def ys290 : ySp := (64, 6, (2, [(0, 0, 3), (1, 0, 4)], [], [], [(0, (2, yc 67, yc 0)), (1, (2, yc 9, yc 0)), (2, (0, (1, 0, 0), yc 0)), (3, (0, (1, 1, 0), yc 0)), (4, (0, yc 1, yc 0))], []), [(2, [], [], [], [], [(0, yc 0, yc 0)]), (2, [], [], [], [], [(0, yc 1, yc 0)])], [(68, 68, 1000)])
def yx290 : yCx := ([ys287, ys255, ys260], ys290.2.2.2.2, yFP, zm64.2.2.1, zm64.2.2.2.1, zc64, 2, ys290.2.2.2.1, [(46, (5, [(0, 0, 3), (1, 0, 4), (2, 1, 6), (3, 2, 6), (4, 0, 5)], [], [(yc 67, yc 1, (0, (1, 3, 0), yc 0)), (yc 68, yc 0, (0, (1, 4, 0), yc 0))], [(0, (2, yc 67, yc 0)), (1, (2, yc 9, yc 0)), (2, (0, (1, 0, 0), yc 0)), (3, (0, (1, 1, 0), yc 0)), (4, (0, yc 1, yc 0)), (5, (0, (1, 2, 0), yc 0))], []), ([((-1), 2)], 6))], [])
theorem yw290 : ywf ys290.2.2.1 = true := by decide +kernel
theorem yk290 : yver yx290 ys290.2.2.1 4000 = true := by decide +kernel
theorem yt290 {E : zHp → Prop} (h : yXt E) : yTs E ys290 := yver_s (x := yx290) h.1 (yal_c (yt287 h) yw287 (yal_c (yt255 h) yw255 (yal_c (yt260 h) yw260 (yal_n)))) yg64 yk290
def ys291 : ySp := (64, 6, (2, [(0, 0, 5), (1, 0, 63)], [], [], [(0, (2, yc 67, yc 0)), (1, (2, yc 9, yc 0)), (2, (0, (1, 0, 0), yc 0)), (3, (0, (1, 1, 0), yc 0)), (4, (0, yc 1, yc 0))], []), [(2, [], [], [], [], [(0, yc 0, yc 0)]), (2, [], [], [], [], [(0, yc 1, yc 0)])], [(68, 68, 1000)])
def yx291 : yCx := ([ys287, ys255, ys260], ys291.2.2.2.2, yFP, zm64.2.2.1, zm64.2.2.2.1, zc64, 2, ys291.2.2.2.1, [(46, (5, [(0, 0, 5), (1, 0, 63), (2, 1, 6), (3, 2, 6), (4, 0, 5)], [], [(yc 67, yc 1, (0, (1, 3, 0), yc 0)), (yc 68, yc 0, (0, (1, 4, 0), yc 0))], [(0, (2, yc 67, yc 0)), (1, (2, yc 9, yc 0)), (2, (0, (1, 0, 0), yc 0)), (3, (0, (1, 1, 0), yc 0)), (4, (0, yc 1, yc 0)), (5, (0, (1, 2, 0), yc 0))], []), ([((-1), 2)], 6))], [])
theorem yw291 : ywf ys291.2.2.1 = true := by decide +kernel
theorem yk291 : yver yx291 ys291.2.2.1 4000 = true := by decide +kernel
theorem yt291 {E : zHp → Prop} (h : yXt E) : yTs E ys291 := yver_s (x := yx291) h.1 (yal_c (yt287 h) yw287 (yal_c (yt255 h) yw255 (yal_c (yt260 h) yw260 (yal_n)))) yg64 yk291
def ys292 : ySp := (63, 4, (0, [], [], [], [(0, (2, yc 67, yc 0)), (1, (2, yc 9, yc 0))], []), [(0, [], [], [], [], [])], [(67, 67, 1), (68, 68, 1000)])
def yx292 : yCx := ([ys291, ys255], ys292.2.2.2.2, yFP, zm63.2.2.1, zm63.2.2.2.1, zc63, 0, ys292.2.2.2.1, [(2, (1, [(0, 2, 7)], [], [], [(0, (2, yc 67, yc 0)), (1, (2, yc 9, yc 0)), (2, (0, (1, 0, 0), yc 0))], []), ([((-9), 0)], 71)), (17, (3, [(0, 2, 6), (1, 0, 6), (2, 2, 6)], [], [(yc 10, yc 0, (0, (1, 2, 0), yc 0)), (yc 67, yc 1, (0, (1, 0, 0), yc 0))], [(0, (2, yc 67, yc 0)), (1, (2, yc 9, yc 0)), (2, (0, (1, 0, 0), yc 0)), (3, (0, (1, 1, 0), yc 0))], []), ([((-1), 1), ((-9), 0)], 69))], [])
theorem yw292 : ywf ys292.2.2.1 = true := by decide +kernel
theorem yk292 : yver yx292 ys292.2.2.1 4000 = true := by decide +kernel
theorem yt292 {E : zHp → Prop} (h : yXt E) : yTs E ys292 := yver_s (x := yx292) h.1 (yal_c (yt291 h) yw291 (yal_c (yt255 h) yw255 (yal_n))) yg63 yk292
def ys293 : ySp := (65, 4, (0, [], [], [], [(0, (2, yc 67, yc 0)), (1, (2, yc 9, yc 0))], []), [(0, [], [], [], [], [])], [(10, 10, 1000)])
def yx293 : yCx := ([ys265, ys260], ys293.2.2.2.2, yFP, zm65.2.2.1, zm65.2.2.2.1, zc65, 0, ys293.2.2.2.1, [(2, (1, [(0, 0, 6)], [], [], [(0, (2, yc 67, yc 0)), (1, (2, yc 9, yc 0)), (2, (0, (1, 0, 0), yc 0))], []), ([((-1), 0)], 6))], [])
theorem yw293 : ywf ys293.2.2.1 = true := by decide +kernel
theorem yk293 : yver yx293 ys293.2.2.1 4000 = true := by decide +kernel
theorem yt293 {E : zHp → Prop} (h : yXt E) : yTs E ys293 := yver_s (x := yx293) h.1 (yal_c (yt265 h) yw265 (yal_c (yt260 h) yw260 (yal_n))) yg65 yk293
def ys294 : ySp := (135, 1, (0, [], [], [], [(0, (2, yc 0, yc 0))], []), [(0, [], [], [], [], [(0, yc (-1), yc 0)]), (1, [(0, 1, 6)], [], [], [], [(0, (1, 0, 0), yc 0)])], [(10, 10, 1000), (14, 14, 1), (14, 14, 2), (16, 35, 1000), (67, 67, 1), (68, 68, 1000)])
def yx294 : yCx := ([ys264, ys292, ys293], ys294.2.2.2.2, yFP, zm135.2.2.1, zm135.2.2.2.1, zc135, 0, ys294.2.2.2.1, [], [])
theorem yw294 : ywf ys294.2.2.1 = true := by decide +kernel
theorem yk294 : yver yx294 ys294.2.2.1 4000 = true := by decide +kernel
theorem yt294 {E : zHp → Prop} (h : yXt E) : yTs E ys294 := yver_s (x := yx294) h.1 (yal_c (yt264 h) yw264 (yal_c (yt292 h) yw292 (yal_c (yt293 h) yw293 (yal_n)))) yg135 yk294
def ys295 : ySp := (136, 4, (2, [(0, (-2147483648), 2147483647), (1, (-2147483648), 2147483647)], [], [], [(0, (2, yc 0, yc 0)), (1, (0, (1, 0, 0), yc 0)), (2, (0, (1, 1, 0), yc 0))], []), [(2, [], [], [], [], [(0, yc (-1), yc 0)]), (3, [(0, 0, 5), (1, 0, 5), (2, 0, 5)], [], [], [], [(0, (1, 2, 0), yc 0)])], [(10, 10, 1000), (14, 14, 1), (14, 14, 2), (16, 35, 1000)])
def yx295 : yCx := ([ys264, ys229, ys256, ys231, ys272], ys295.2.2.2.2, yFP, zm136.2.2.1, zm136.2.2.2.1, zc136, 2, ys295.2.2.2.1, [], [])
theorem yw295 : ywf ys295.2.2.1 = true := by decide +kernel
theorem yk295 : yver yx295 ys295.2.2.1 4000 = true := by decide +kernel
theorem yt295 {E : zHp → Prop} (h : yXt E) : yTs E ys295 := yver_s (x := yx295) h.1 (yal_c (yt264 h) yw264 (yal_c (yt229 h) yw229 (yal_c (yt256 h) yw256 (yal_c (yt231 h) yw231 (yal_c (yt272 h) yw272 (yal_n)))))) yg136 yk295
def ys296 : ySp := (76, 1, (0, [], [], [], [(0, (2, yc 9, yc 0))], []), [(0, [], [], [], [], [(0, yc 0, yc 0)]), (0, [], [], [], [], [(0, yc 1, yc 0)])], [])
def yx296 : yCx := ([ys255], ys296.2.2.2.2, yFP, zm76.2.2.1, zm76.2.2.2.1, zc76, 0, ys296.2.2.2.1, [], [])
theorem yw296 : ywf ys296.2.2.1 = true := by decide +kernel
theorem yk296 : yver yx296 ys296.2.2.1 4000 = true := by decide +kernel
theorem yt296 {E : zHp → Prop} (h : yXt E) : yTs E ys296 := yver_s (x := yx296) h.1 (yal_c (yt255 h) yw255 (yal_n)) yg76 yk296
def ys297 : ySp := (88, 4, (2, [(0, 0, 1), (1, (-2147483648), 2147483647)], [], [], [(0, (2, yc 9, yc 0)), (1, (0, (1, 0, 0), yc 0)), (2, (0, yc 5, yc 0)), (3, (0, (1, 1, 0), yc 0))], []), [(2, [], [], [], [], [])], [(10, 10, 1000)])
def yx297 : yCx := ([], ys297.2.2.2.2, yFP, zm88.2.2.1, zm88.2.2.2.1, zc88, 2, ys297.2.2.2.1, [], [])
theorem yw297 : ywf ys297.2.2.1 = true := by decide +kernel
theorem yk297 : yver yx297 ys297.2.2.1 4000 = true := by decide +kernel
theorem yt297 {E : zHp → Prop} (h : yXt E) : yTs E ys297 := yver_s (x := yx297) h.1 (yal_n) yg88 yk297
def ys298 : ySp := (88, 4, (2, [(0, 0, 3), (1, (-2147483648), 2147483647)], [], [], [(0, (2, yc 9, yc 0)), (1, (0, (1, 0, 0), yc 0)), (2, (0, yc 5, yc 0)), (3, (0, (1, 1, 0), yc 0))], []), [(2, [], [], [], [], [])], [(10, 10, 1000)])
def yx298 : yCx := ([], ys298.2.2.2.2, yFP, zm88.2.2.1, zm88.2.2.2.1, zc88, 2, ys298.2.2.2.1, [], [])
theorem yw298 : ywf ys298.2.2.1 = true := by decide +kernel
theorem yk298 : yver yx298 ys298.2.2.1 4000 = true := by decide +kernel
theorem yt298 {E : zHp → Prop} (h : yXt E) : yTs E ys298 := yver_s (x := yx298) h.1 (yal_n) yg88 yk298
def ys299 : ySp := (88, 4, (2, [(0, 0, 5), (1, (-2147483648), 2147483647)], [], [], [(0, (2, yc 9, yc 0)), (1, (0, (1, 0, 0), yc 0)), (2, (0, yc 5, yc 0)), (3, (0, (1, 1, 0), yc 0))], []), [(2, [], [], [], [], [])], [(10, 10, 1000)])
def yx299 : yCx := ([], ys299.2.2.2.2, yFP, zm88.2.2.1, zm88.2.2.2.1, zc88, 2, ys299.2.2.2.1, [], [])
theorem yw299 : ywf ys299.2.2.1 = true := by decide +kernel
theorem yk299 : yver yx299 ys299.2.2.1 4000 = true := by decide +kernel
theorem yt299 {E : zHp → Prop} (h : yXt E) : yTs E ys299 := yver_s (x := yx299) h.1 (yal_n) yg88 yk299
def ys300 : ySp := (112, 2, (0, [], [], [], [(0, (2, yc 9, yc 0))], []), [(0, [], [], [], [], [])], [(10, 10, 1000)])
def yx300 : yCx := ([ys227, ys276, ys235, ys299, ys232], ys300.2.2.2.2, yFP, zm112.2.2.1, zm112.2.2.2.1, zc112, 0, ys300.2.2.2.1, [(2, (1, [(0, 0, 6)], [], [], [(0, (2, yc 9, yc 0)), (1, (0, (1, 0, 0), yc 0))], []), ([((-1), 0)], 6))], [])
theorem yw300 : ywf ys300.2.2.1 = true := by decide +kernel
theorem yk300 : yver yx300 ys300.2.2.1 4000 = true := by decide +kernel
theorem yt300 {E : zHp → Prop} (h : yXt E) : yTs E ys300 := yver_s (x := yx300) h.1 (yal_c (yt227 h) yw227 (yal_c (yt276 h) yw276 (yal_c (yt235 h) yw235 (yal_c (yt299 h) yw299 (yal_c (yt232 h) yw232 (yal_n)))))) yg112 yk300
def ys301 : ySp := (113, 3, (0, [], [], [], [(0, (2, yc 9, yc 0))], []), [(1, [(0, (-2147483648), 2147483647)], [], [], [], [(0, (1, 0, 0), yc 0)])], [])
def yx301 : yCx := ([ys227, ys237], ys301.2.2.2.2, yFP, zm113.2.2.1, zm113.2.2.2.1, zc113, 0, ys301.2.2.2.1, [(4, (2, [(0, (-2147483648), 2147483647), (1, 0, 6)], [], [], [(0, (2, yc 9, yc 0)), (1, (0, (1, 0, 0), yc 0)), (2, (0, (1, 1, 0), yc 0))], []), ([((-1), 1)], 6))], [])
theorem yw301 : ywf ys301.2.2.1 = true := by decide +kernel
theorem yk301 : yver yx301 ys301.2.2.1 4000 = true := by decide +kernel
theorem yt301 {E : zHp → Prop} (h : yXt E) : yTs E ys301 := yver_s (x := yx301) h.1 (yal_c (yt227 h) yw227 (yal_c (yt237 h) yw237 (yal_n))) yg113 yk301
def ys302 : ySp := (137, 1, (0, [], [], [], [(0, (2, yc 0, yc 0))], []), [(0, [], [], [], [], [(0, yc (-1), yc 0)]), (1, [(0, (-2147483648), 2147483647)], [], [], [], [(0, (1, 0, 0), yc 0)])], [(10, 10, 1000), (14, 14, 1), (14, 14, 2), (16, 35, 1000)])
def yx302 : yCx := ([ys264, ys296, ys276, ys300, ys301], ys302.2.2.2.2, yFP, zm137.2.2.1, zm137.2.2.2.1, zc137, 0, ys302.2.2.2.1, [], [])
theorem yw302 : ywf ys302.2.2.1 = true := by decide +kernel
theorem yk302 : yver yx302 ys302.2.2.1 4000 = true := by decide +kernel
theorem yt302 {E : zHp → Prop} (h : yXt E) : yTs E ys302 := yver_s (x := yx302) h.1 (yal_c (yt264 h) yw264 (yal_c (yt296 h) yw296 (yal_c (yt276 h) yw276 (yal_c (yt300 h) yw300 (yal_c (yt301 h) yw301 (yal_n)))))) yg137 yk302
def ys303 : ySp := (14, 1, (0, [], [], [], [(0, (2, yc 14, yc 0))], []), [(1, [(0, 0, 20)], [], [], [], [(0, (1, 0, 0), yc 0)])], [])
def yx303 : yCx := ([], ys303.2.2.2.2, yFP, zm14.2.2.1, zm14.2.2.2.1, zc14, 0, ys303.2.2.2.1, [], [])
theorem yw303 : ywf ys303.2.2.1 = true := by decide +kernel
theorem yk303 : yver yx303 ys303.2.2.1 4000 = true := by decide +kernel
theorem yt303 {E : zHp → Prop} (h : yXt E) : yTs E ys303 := yver_s (x := yx303) h.1 (yal_n) yg14 yk303
def ys304 : ySp := (69, 2, (1, [(0, 16, 35)], [], [], [(0, (2, yc 9, yc 0)), (1, (2, (1, 0, 0), yc 0))], []), [(1, [], [], [], [], [])], [(10, 10, 1000)])
def yx304 : yCx := ([], ys304.2.2.2.2, yFP, zm69.2.2.1, zm69.2.2.2.1, zc69, 1, ys304.2.2.2.1, [], [])
theorem yw304 : ywf ys304.2.2.1 = true := by decide +kernel
theorem yk304 : yver yx304 ys304.2.2.1 4000 = true := by decide +kernel
theorem yt304 {E : zHp → Prop} (h : yXt E) : yTs E ys304 := yver_s (x := yx304) h.1 (yal_n) yg69 yk304
def ys305 : ySp := (17, 2, (0, [], [], [], [(0, (2, yc 14, yc 0)), (1, (2, yc 9, yc 0))], []), [(0, [], [], [], [], [])], [(10, 10, 1000), (14, 14, 1), (14, 14, 2)])
def yx305 : yCx := ([ys304], ys305.2.2.2.2, yFP, zm17.2.2.1, zm17.2.2.2.1, zc17, 0, ys305.2.2.2.1, [], [])
theorem yw305 : ywf ys305.2.2.1 = true := by decide +kernel
theorem yk305 : yver yx305 ys305.2.2.1 4000 = true := by decide +kernel
theorem yt305 {E : zHp → Prop} (h : yXt E) : yTs E ys305 := yver_s (x := yx305) h.1 (yal_c (yt304 h) yw304 (yal_n)) yg17 yk305
def ys306 : ySp := (138, 1, (0, [], [], [], [(0, (2, yc 0, yc 0))], []), [(0, [], [], [], [], [(0, yc (-1), yc 0)]), (1, [(0, 0, 20)], [], [], [], [(0, (1, 0, 0), yc 0)])], [(10, 10, 1000), (14, 14, 1), (14, 14, 2)])
def yx306 : yCx := ([ys303, ys305], ys306.2.2.2.2, yFP, zm138.2.2.1, zm138.2.2.2.1, zc138, 0, ys306.2.2.2.1, [], [])
theorem yw306 : ywf ys306.2.2.1 = true := by decide +kernel
theorem yk306 : yver yx306 ys306.2.2.1 4000 = true := by decide +kernel
theorem yt306 {E : zHp → Prop} (h : yXt E) : yTs E ys306 := yver_s (x := yx306) h.1 (yal_c (yt303 h) yw303 (yal_c (yt305 h) yw305 (yal_n))) yg138 yk306
def ys307 : ySp := (140, 2, (1, [(0, (-2147483648), 2147483647)], [], [], [(0, (2, yc 0, yc 0)), (1, (0, (1, 0, 0), yc 0))], []), [(1, [], [], [], [], [(0, yc 0, yc 0)]), (2, [(0, 0, 5), (1, 0, 303)], [], [(yc 13, (1, 0, 0), (3, (1, 1, 0), yc 0))], [], [(0, yc 1, yc 0)])], [])
def yx307 : yCx := ([], ys307.2.2.2.2, yFP, zm140.2.2.1, zm140.2.2.2.1, zc140, 1, ys307.2.2.2.1, [], [])
theorem yw307 : ywf ys307.2.2.1 = true := by decide +kernel
theorem yk307 : yver yx307 ys307.2.2.1 4000 = true := by decide +kernel
theorem yt307 {E : zHp → Prop} (h : yXt E) : yTs E ys307 := yver_s (x := yx307) h.1 (yal_n) yg140 yk307
def ys308 : ySp := (82, 1, (0, [], [], [], [(0, (2, yc 9, yc 0))], []), [(1, [(0, (-2147483648), 2147483647)], [], [], [], [(0, (1, 0, 0), yc 0)])], [])
def yx308 : yCx := ([], ys308.2.2.2.2, yFP, zm82.2.2.1, zm82.2.2.2.1, zc82, 0, ys308.2.2.2.1, [], [])
theorem yw308 : ywf ys308.2.2.1 = true := by decide +kernel
theorem yk308 : yver yx308 ys308.2.2.1 4000 = true := by decide +kernel
theorem yt308 {E : zHp → Prop} (h : yXt E) : yTs E ys308 := yver_s (x := yx308) h.1 (yal_n) yg82 yk308
def ys309 : ySp := (114, 8, (2, [(0, 0, 1), (1, 0, 1)], [], [], [(0, (2, yc 9, yc 0)), (1, (0, (1, 0, 0), yc 0)), (2, (0, (1, 1, 0), yc 0)), (3, (0, yc 3, yc 0)), (4, (0, yc 0, yc 0))], []), [(3, [(2, (-2147483648), 2147483647)], [], [], [], [(0, (1, 2, 0), yc 0)])], [])
def yx309 : yCx := ([ys242, ys246, ys244, ys247, ys248, ys275], ys309.2.2.2.2, yFP, zm114.2.2.1, zm114.2.2.2.1, zc114, 2, ys309.2.2.2.1, [(6, (4, [(0, 0, 1), (1, 0, 1), (2, (-2147483648), 2147483647), (3, 0, 6)], [], [], [(0, (2, yc 9, yc 0)), (1, (0, (1, 0, 0), yc 0)), (2, (0, (1, 1, 0), yc 0)), (3, (0, yc 3, yc 0)), (4, (0, yc 0, yc 0)), (5, (0, (1, 2, 0), yc 0)), (6, (0, (1, 3, 0), yc 0))], []), ([((-1), 3)], 6))], [])
theorem yw309 : ywf ys309.2.2.1 = true := by decide +kernel
theorem yk309 : yver yx309 ys309.2.2.1 4000 = true := by decide +kernel
theorem yt309 {E : zHp → Prop} (h : yXt E) : yTs E ys309 := yver_s (x := yx309) h.1 (yal_c (yt242 h) yw242 (yal_c (yt246 h) yw246 (yal_c (yt244 h) yw244 (yal_c (yt247 h) yw247 (yal_c (yt248 h) yw248 (yal_c (yt275 h) yw275 (yal_n))))))) yg114 yk309
def ys310 : ySp := (114, 8, (2, [(0, 0, 1), (1, 0, 1)], [], [], [(0, (2, yc 9, yc 0)), (1, (0, (1, 0, 0), yc 0)), (2, (0, (1, 1, 0), yc 0)), (3, (0, yc 2, yc 0)), (4, (0, yc 1, yc 0))], []), [(3, [(2, 0, 2147483647)], [], [], [], [(0, (1, 2, 0), yc 0)])], [])
def yx310 : yCx := ([ys242, ys246, ys244, ys247, ys248, ys249], ys310.2.2.2.2, yFP, zm114.2.2.1, zm114.2.2.2.1, zc114, 2, ys310.2.2.2.1, [(6, (4, [(0, 0, 1), (1, 0, 1), (2, 0, 2147483647), (3, 0, 6)], [], [], [(0, (2, yc 9, yc 0)), (1, (0, (1, 0, 0), yc 0)), (2, (0, (1, 1, 0), yc 0)), (3, (0, yc 2, yc 0)), (4, (0, yc 1, yc 0)), (5, (0, (1, 2, 0), yc 0)), (6, (0, (1, 3, 0), yc 0))], []), ([((-1), 3)], 6))], [])
theorem yw310 : ywf ys310.2.2.1 = true := by decide +kernel
theorem yk310 : yver yx310 ys310.2.2.1 4000 = true := by decide +kernel
theorem yt310 {E : zHp → Prop} (h : yXt E) : yTs E ys310 := yver_s (x := yx310) h.1 (yal_c (yt242 h) yw242 (yal_c (yt246 h) yw246 (yal_c (yt244 h) yw244 (yal_c (yt247 h) yw247 (yal_c (yt248 h) yw248 (yal_c (yt249 h) yw249 (yal_n))))))) yg114 yk310
def ys311 : ySp := (100, 3, (1, [(0, 0, 1)], [], [], [(0, (2, yc 9, yc 0)), (1, (0, (1, 0, 0), yc 0)), (2, (0, yc 1, yc 0))], []), [(2, [(1, 0, 2147483647)], [], [], [], [(0, (1, 1, 0), yc 0)])], [])
def yx311 : yCx := ([ys233, ys234, ys237], ys311.2.2.2.2, yFP, zm100.2.2.1, zm100.2.2.2.1, zc100, 1, ys311.2.2.2.1, [], [])
theorem yw311 : ywf ys311.2.2.1 = true := by decide +kernel
theorem yk311 : yver yx311 ys311.2.2.1 4000 = true := by decide +kernel
theorem yt311 {E : zHp → Prop} (h : yXt E) : yTs E ys311 := yver_s (x := yx311) h.1 (yal_c (yt233 h) yw233 (yal_c (yt234 h) yw234 (yal_c (yt237 h) yw237 (yal_n)))) yg100 yk311
def ys312 : ySp := (31, 5, (3, [(0, 0, 63), (1, 0, 1), (2, 0, 1)], [], [], [(0, (0, (1, 0, 0), yc 0)), (1, (2, yc 9, yc 0)), (2, (0, (1, 1, 0), yc 0)), (3, (0, (1, 2, 0), yc 0))], []), [(3, [(0, 12, 63)], [], [], [], [(0, yc 0, yc 0)]), (3, [(0, 12, 63)], [], [], [], [(0, yc 1, yc 0)]), (4, [(0, 0, 11), (3, (-2147483648), 2147483647)], [], [], [], [(0, (1, 3, 0), yc 0)])], [])
def yx312 : yCx := ([ys276, ys246, ys230, ys231, ys234, ys235, ys259, ys260, ys311, ys309, ys310], ys312.2.2.2.2, yFP, zm31.2.2.1, zm31.2.2.2.1, zc31, 3, ys312.2.2.2.1, [], [])
theorem yw312 : ywf ys312.2.2.1 = true := by decide +kernel
theorem yk312 : yver yx312 ys312.2.2.1 4000 = true := by decide +kernel
theorem yt312 {E : zHp → Prop} (h : yXt E) : yTs E ys312 := yver_s (x := yx312) h.1 (yal_c (yt276 h) yw276 (yal_c (yt246 h) yw246 (yal_c (yt230 h) yw230 (yal_c (yt231 h) yw231 (yal_c (yt234 h) yw234 (yal_c (yt235 h) yw235 (yal_c (yt259 h) yw259 (yal_c (yt260 h) yw260 (yal_c (yt311 h) yw311 (yal_c (yt309 h) yw309 (yal_c (yt310 h) yw310 (yal_n)))))))))))) yg31 yk312
def ys313 : ySp := (30, 5, (3, [(0, 0, 2147483647), (1, (-9223372036854775808), 9223372036854775807), (2, (-9223372036854775808), 9223372036854775807)], [], [], [(0, (0, (1, 0, 0), yc 0)), (1, (1, (1, 1, 0), yc 0)), (3, (1, (1, 2, 0), yc 0))], []), [(3, [], [], [], [], [(0, yc 0, yc 0)]), (3, [], [], [], [], [(0, yc 1, yc 0)])], [])
def yx313 : yCx := ([], ys313.2.2.2.2, yFP, zm30.2.2.1, zm30.2.2.2.1, zc30, 3, ys313.2.2.2.1, [], [])
theorem yw313 : ywf ys313.2.2.1 = true := by decide +kernel
theorem yk313 : yver yx313 ys313.2.2.1 4000 = true := by decide +kernel
theorem yt313 {E : zHp → Prop} (h : yXt E) : yTs E ys313 := yver_s (x := yx313) h.1 (yal_n) yg30 yk313
def ys314 : ySp := (30, 5, (3, [(0, (-2147483648), 2147483647), (1, (-9223372036854775808), 9223372036854775807), (2, (-9223372036854775808), 9223372036854775807)], [], [], [(0, (0, (1, 0, 0), yc 0)), (1, (1, (1, 1, 0), yc 0)), (3, (1, (1, 2, 0), yc 0))], []), [(3, [], [], [], [], [(0, yc 0, yc 0)]), (3, [], [], [], [], [(0, yc 1, yc 0)])], [])
def yx314 : yCx := ([], ys314.2.2.2.2, yFP, zm30.2.2.1, zm30.2.2.2.1, zc30, 3, ys314.2.2.2.1, [], [])
theorem yw314 : ywf ys314.2.2.1 = true := by decide +kernel
theorem yk314 : yver yx314 ys314.2.2.1 4000 = true := by decide +kernel
theorem yt314 {E : zHp → Prop} (h : yXt E) : yTs E ys314 := yver_s (x := yx314) h.1 (yal_n) yg30 yk314
def ys315 : ySp := (29, 5, (3, [(0, (-2147483648), 2147483647), (1, (-9223372036854775808), 9223372036854775807), (2, (-9223372036854775808), 9223372036854775807)], [], [], [(0, (0, (1, 0, 0), yc 0)), (1, (1, (1, 1, 0), yc 0)), (3, (1, (1, 2, 0), yc 0))], []), [(3, [], [], [], [], [(1, yc 0, yc 0)]), (3, [], [], [], [], [(1, yc 1, yc 0)]), (4, [(0, 1, 13), (3, (-9223372036854775808), 9223372036854775807)], [], [], [], [(1, (1, 3, 0), yc 0)])], [])
def yx315 : yCx := ([ys313, ys314], ys315.2.2.2.2, yFP, zm29.2.2.1, zm29.2.2.2.1, zc29, 3, ys315.2.2.2.1, [], [])
theorem yw315 : ywf ys315.2.2.1 = true := by decide +kernel
theorem yk315 : yver yx315 ys315.2.2.1 4000 = true := by decide +kernel
theorem yt315 {E : zHp → Prop} (h : yXt E) : yTs E ys315 := yver_s (x := yx315) h.1 (yal_c (yt313 h) yw313 (yal_c (yt314 h) yw314 (yal_n))) yg29 yk315
def ys316 : ySp := (28, 7, (3, [(0, 0, 303), (1, 0, 1), (2, 0, 1)], [], [], [(0, (3, (1, 0, 0), yc 0)), (1, (2, yc 9, yc 0)), (2, (0, (1, 1, 0), yc 0)), (3, (0, (1, 2, 0), yc 0))], []), [(3, [], [], [], [], [(1, yc 0, yc 0)]), (4, [(3, (-9223372036854775808), 9223372036854775807)], [], [], [], [(1, (1, 3, 0), yc 0)])], [(88, 999, 1000)])
def yx316 : yCx := ([ys315, ys312], ys316.2.2.2.2, yFP, zm28.2.2.1, zm28.2.2.2.1, zc28, 3, ys316.2.2.2.1, [(6, (5, [(0, 0, 303), (1, 0, 1), (2, 0, 1), (3, 0, 64), (4, 0, 400)], [], [], [(0, (3, (1, 0, 0), yc 0)), (1, (2, yc 9, yc 0)), (2, (0, (1, 1, 0), yc 0)), (3, (0, (1, 2, 0), yc 0)), (4, (0, (1, 3, 0), yc 0)), (5, (0, (1, 4, 0), yc 0))], []), ([((-1), 4)], 400))], [])
theorem yw316 : ywf ys316.2.2.1 = true := by decide +kernel
theorem yk316 : yver yx316 ys316.2.2.1 4000 = true := by decide +kernel
theorem yt316 {E : zHp → Prop} (h : yXt E) : yTs E ys316 := yver_s (x := yx316) h.1 (yal_c (yt315 h) yw315 (yal_c (yt312 h) yw312 (yal_n))) yg28 yk316
def ys317 : ySp := (114, 8, (2, [(0, 0, 5), (1, 0, 5)], [], [], [(0, (2, yc 9, yc 0)), (1, (0, (1, 0, 0), yc 0)), (2, (0, (1, 1, 0), yc 0)), (3, (0, yc 3, yc 0)), (4, (0, yc 0, yc 0))], []), [(3, [(2, (-2147483648), 2147483647)], [], [], [], [(0, (1, 2, 0), yc 0)])], [])
def yx317 : yCx := ([ys242, ys251, ys244, ys247, ys248, ys275], ys317.2.2.2.2, yFP, zm114.2.2.1, zm114.2.2.2.1, zc114, 2, ys317.2.2.2.1, [(6, (4, [(0, 0, 5), (1, 0, 5), (2, (-2147483648), 2147483647), (3, 0, 6)], [], [], [(0, (2, yc 9, yc 0)), (1, (0, (1, 0, 0), yc 0)), (2, (0, (1, 1, 0), yc 0)), (3, (0, yc 3, yc 0)), (4, (0, yc 0, yc 0)), (5, (0, (1, 2, 0), yc 0)), (6, (0, (1, 3, 0), yc 0))], []), ([((-1), 3)], 6))], [])
theorem yw317 : ywf ys317.2.2.1 = true := by decide +kernel
theorem yk317 : yver yx317 ys317.2.2.1 4000 = true := by decide +kernel
theorem yt317 {E : zHp → Prop} (h : yXt E) : yTs E ys317 := yver_s (x := yx317) h.1 (yal_c (yt242 h) yw242 (yal_c (yt251 h) yw251 (yal_c (yt244 h) yw244 (yal_c (yt247 h) yw247 (yal_c (yt248 h) yw248 (yal_c (yt275 h) yw275 (yal_n))))))) yg114 yk317
def ys318 : ySp := (114, 8, (2, [(0, 0, 5), (1, 0, 5)], [], [], [(0, (2, yc 9, yc 0)), (1, (0, (1, 0, 0), yc 0)), (2, (0, (1, 1, 0), yc 0)), (3, (0, yc 2, yc 0)), (4, (0, yc 1, yc 0))], []), [(3, [(2, 0, 2147483647)], [], [], [], [(0, (1, 2, 0), yc 0)])], [])
def yx318 : yCx := ([ys242, ys251, ys244, ys247, ys248, ys249], ys318.2.2.2.2, yFP, zm114.2.2.1, zm114.2.2.2.1, zc114, 2, ys318.2.2.2.1, [(6, (4, [(0, 0, 5), (1, 0, 5), (2, 0, 2147483647), (3, 0, 6)], [], [], [(0, (2, yc 9, yc 0)), (1, (0, (1, 0, 0), yc 0)), (2, (0, (1, 1, 0), yc 0)), (3, (0, yc 2, yc 0)), (4, (0, yc 1, yc 0)), (5, (0, (1, 2, 0), yc 0)), (6, (0, (1, 3, 0), yc 0))], []), ([((-1), 3)], 6))], [])
theorem yw318 : ywf ys318.2.2.1 = true := by decide +kernel
theorem yk318 : yver yx318 ys318.2.2.1 4000 = true := by decide +kernel
theorem yt318 {E : zHp → Prop} (h : yXt E) : yTs E ys318 := yver_s (x := yx318) h.1 (yal_c (yt242 h) yw242 (yal_c (yt251 h) yw251 (yal_c (yt244 h) yw244 (yal_c (yt247 h) yw247 (yal_c (yt248 h) yw248 (yal_c (yt249 h) yw249 (yal_n))))))) yg114 yk318
def ys319 : ySp := (100, 3, (1, [(0, 0, 5)], [], [], [(0, (2, yc 9, yc 0)), (1, (0, (1, 0, 0), yc 0)), (2, (0, yc 1, yc 0))], []), [(2, [(1, 0, 2147483647)], [], [], [], [(0, (1, 1, 0), yc 0)])], [])
def yx319 : yCx := ([ys233, ys234, ys237], ys319.2.2.2.2, yFP, zm100.2.2.1, zm100.2.2.2.1, zc100, 1, ys319.2.2.2.1, [], [])
theorem yw319 : ywf ys319.2.2.1 = true := by decide +kernel
theorem yk319 : yver yx319 ys319.2.2.1 4000 = true := by decide +kernel
theorem yt319 {E : zHp → Prop} (h : yXt E) : yTs E ys319 := yver_s (x := yx319) h.1 (yal_c (yt233 h) yw233 (yal_c (yt234 h) yw234 (yal_c (yt237 h) yw237 (yal_n)))) yg100 yk319
