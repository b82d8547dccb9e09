def ys280 : ySp := (285, 2, (0, [], [], [], [(0, (0, yc 31, yc 0)), (1, (0, yc 66, yc 0))], []), [(0, [], [], [], [], [])], [])
def yx280 : yCx := ([ys279], ys280.2.2.2.2, yFP, zm285.2.2.1, zm285.2.2.2.1, zc285, 0, ys280.2.2.2.1, [], [])
theorem yw280 : ywf ys280.2.2.1 = true := by decide +kernel
theorem yk280 : yver yx280 ys280.2.2.1 4000 = true := by decide +kernel
theorem yt280 {E : zHp → Prop} (h : yEF E yFP) : yTs E 2 ys280 := yver_s (x := yx280) h (yal_c (yt279 h) (by decide) yw279 (yal_n)) yg285 yk280
def ys281 : ySp := (286, 2, (0, [], [], [], [(0, (2, yc 1023, yc 0)), (1, (0, yc 31, yc 0))], []), [(0, [], [], [], [], [(0, yc 115, yc 0)])], [])
def yx281 : yCx := ([ys280], ys281.2.2.2.2, yFP, zm286.2.2.1, zm286.2.2.2.1, zc286, 0, ys281.2.2.2.1, [], [])
theorem yw281 : ywf ys281.2.2.1 = true := by decide +kernel
theorem yk281 : yver yx281 ys281.2.2.1 4000 = true := by decide +kernel
theorem yt281 {E : zHp → Prop} (h : yEF E yFP) : yTs E 3 ys281 := yver_s (x := yx281) h (yal_c (yt280 h) (by decide) yw280 (yal_n)) yg286 yk281
def ys282 : ySp := (282, 2, (0, [], [], [], [(0, (2, yc 1004, yc 0)), (1, (0, yc 31, yc 0))], []), [(0, [], [], [], [], [(0, yc 115, yc 0)])], [])
def yx282 : yCx := ([ys154, ys281], ys282.2.2.2.2, yFP, zm282.2.2.1, zm282.2.2.2.1, zc282, 0, ys282.2.2.2.1, [], [])
theorem yw282 : ywf ys282.2.2.1 = true := by decide +kernel
theorem yk282 : yver yx282 ys282.2.2.1 4000 = true := by decide +kernel
theorem yt282 {E : zHp → Prop} (h : yEF E yFP) : yTs E 4 ys282 := yver_s (x := yx282) h (yal_c (yt154 h) (by decide) yw154 (yal_c (yt281 h) (by decide) yw281 (yal_n))) yg282 yk282
def ys283 : ySp := (293, 3, (0, [], [], [], [(0, (0, yc 32, yc 0)), (1, (0, yc 66, yc 0)), (2, (7, yc 0, yc 0))], []), [(0, [], [], [], [], [(0, yc 32, yc 0)])], [])
def yx283 : yCx := ([], ys283.2.2.2.2, yFP, zm293.2.2.1, zm293.2.2.2.1, zc293, 0, ys283.2.2.2.1, [], [])
theorem yw283 : ywf ys283.2.2.1 = true := by decide +kernel
theorem yk283 : yver yx283 ys283.2.2.1 4000 = true := by decide +kernel
theorem yt283 {E : zHp → Prop} (h : yEF E yFP) : yTs E 1 ys283 := yver_s (x := yx283) h (yal_n) yg293 yk283
def ys284 : ySp := (285, 2, (0, [], [], [], [(0, (0, yc 32, yc 0)), (1, (0, yc 66, yc 0))], []), [(0, [], [], [], [], [])], [])
def yx284 : yCx := ([ys283], ys284.2.2.2.2, yFP, zm285.2.2.1, zm285.2.2.2.1, zc285, 0, ys284.2.2.2.1, [], [])
theorem yw284 : ywf ys284.2.2.1 = true := by decide +kernel
theorem yk284 : yver yx284 ys284.2.2.1 4000 = true := by decide +kernel
theorem yt284 {E : zHp → Prop} (h : yEF E yFP) : yTs E 2 ys284 := yver_s (x := yx284) h (yal_c (yt283 h) (by decide) yw283 (yal_n)) yg285 yk284
def ys285 : ySp := (286, 2, (0, [], [], [], [(0, (2, yc 1023, yc 0)), (1, (0, yc 32, yc 0))], []), [(0, [], [], [], [], [(0, yc 104, yc 0)])], [])
def yx285 : yCx := ([ys284], ys285.2.2.2.2, yFP, zm286.2.2.1, zm286.2.2.2.1, zc286, 0, ys285.2.2.2.1, [], [])
theorem yw285 : ywf ys285.2.2.1 = true := by decide +kernel
theorem yk285 : yver yx285 ys285.2.2.1 4000 = true := by decide +kernel
theorem yt285 {E : zHp → Prop} (h : yEF E yFP) : yTs E 3 ys285 := yver_s (x := yx285) h (yal_c (yt284 h) (by decide) yw284 (yal_n)) yg286 yk285
def ys286 : ySp := (282, 2, (0, [], [], [], [(0, (2, yc 1004, yc 0)), (1, (0, yc 32, yc 0))], []), [(0, [], [], [], [], [(0, yc 104, yc 0)])], [])
def yx286 : yCx := ([ys154, ys285], ys286.2.2.2.2, yFP, zm282.2.2.1, zm282.2.2.2.1, zc282, 0, ys286.2.2.2.1, [], [])
theorem yw286 : ywf ys286.2.2.1 = true := by decide +kernel
theorem yk286 : yver yx286 ys286.2.2.1 4000 = true := by decide +kernel
theorem yt286 {E : zHp → Prop} (h : yEF E yFP) : yTs E 4 ys286 := yver_s (x := yx286) h (yal_c (yt154 h) (by decide) yw154 (yal_c (yt285 h) (by decide) yw285 (yal_n))) yg282 yk286
def ys287 : ySp := (293, 3, (0, [], [], [], [(0, (0, yc 33, yc 0)), (1, (0, yc 66, yc 0)), (2, (7, yc 0, yc 0))], []), [(0, [], [], [], [], [(0, yc 33, yc 0)])], [])
def yx287 : yCx := ([], ys287.2.2.2.2, yFP, zm293.2.2.1, zm293.2.2.2.1, zc293, 0, ys287.2.2.2.1, [], [])
theorem yw287 : ywf ys287.2.2.1 = true := by decide +kernel
theorem yk287 : yver yx287 ys287.2.2.1 4000 = true := by decide +kernel
theorem yt287 {E : zHp → Prop} (h : yEF E yFP) : yTs E 1 ys287 := yver_s (x := yx287) h (yal_n) yg293 yk287
def ys288 : ySp := (285, 2, (0, [], [], [], [(0, (0, yc 33, yc 0)), (1, (0, yc 66, yc 0))], []), [(0, [], [], [], [], [])], [])
def yx288 : yCx := ([ys287], ys288.2.2.2.2, yFP, zm285.2.2.1, zm285.2.2.2.1, zc285, 0, ys288.2.2.2.1, [], [])
theorem yw288 : ywf ys288.2.2.1 = true := by decide +kernel
theorem yk288 : yver yx288 ys288.2.2.1 4000 = true := by decide +kernel
theorem yt288 {E : zHp → Prop} (h : yEF E yFP) : yTs E 2 ys288 := yver_s (x := yx288) h (yal_c (yt287 h) (by decide) yw287 (yal_n)) yg285 yk288
def ys289 : ySp := (286, 2, (0, [], [], [], [(0, (2, yc 1023, yc 0)), (1, (0, yc 33, yc 0))], []), [(0, [], [], [], [], [(0, yc 97, yc 0)])], [])
def yx289 : yCx := ([ys288], ys289.2.2.2.2, yFP, zm286.2.2.1, zm286.2.2.2.1, zc286, 0, ys289.2.2.2.1, [], [])
theorem yw289 : ywf ys289.2.2.1 = true := by decide +kernel
theorem yk289 : yver yx289 ys289.2.2.1 4000 = true := by decide +kernel
theorem yt289 {E : zHp → Prop} (h : yEF E yFP) : yTs E 3 ys289 := yver_s (x := yx289) h (yal_c (yt288 h) (by decide) yw288 (yal_n)) yg286 yk289
def ys290 : ySp := (282, 2, (0, [], [], [], [(0, (2, yc 1004, yc 0)), (1, (0, yc 33, yc 0))], []), [(0, [], [], [], [], [(0, yc 97, yc 0)])], [])
def yx290 : yCx := ([ys154, ys289], ys290.2.2.2.2, yFP, zm282.2.2.1, zm282.2.2.2.1, zc282, 0, ys290.2.2.2.1, [], [])
theorem yw290 : ywf ys290.2.2.1 = true := by decide +kernel
theorem yk290 : yver yx290 ys290.2.2.1 4000 = true := by decide +kernel
theorem yt290 {E : zHp → Prop} (h : yEF E yFP) : yTs E 4 ys290 := yver_s (x := yx290) h (yal_c (yt154 h) (by decide) yw154 (yal_c (yt289 h) (by decide) yw289 (yal_n))) yg282 yk290
def ys291 : ySp := (293, 3, (0, [], [], [], [(0, (0, yc 34, yc 0)), (1, (0, yc 66, yc 0)), (2, (7, yc 0, yc 0))], []), [(0, [], [], [], [], [(0, yc 34, yc 0)])], [])
def yx291 : yCx := ([], ys291.2.2.2.2, yFP, zm293.2.2.1, zm293.2.2.2.1, zc293, 0, ys291.2.2.2.1, [], [])
theorem yw291 : ywf ys291.2.2.1 = true := by decide +kernel
theorem yk291 : yver yx291 ys291.2.2.1 4000 = true := by decide +kernel
theorem yt291 {E : zHp → Prop} (h : yEF E yFP) : yTs E 1 ys291 := yver_s (x := yx291) h (yal_n) yg293 yk291
def ys292 : ySp := (285, 2, (0, [], [], [], [(0, (0, yc 34, yc 0)), (1, (0, yc 66, yc 0))], []), [(0, [], [], [], [], [])], [])
def yx292 : yCx := ([ys291], ys292.2.2.2.2, yFP, zm285.2.2.1, zm285.2.2.2.1, zc285, 0, ys292.2.2.2.1, [], [])
theorem yw292 : ywf ys292.2.2.1 = true := by decide +kernel
theorem yk292 : yver yx292 ys292.2.2.1 4000 = true := by decide +kernel
theorem yt292 {E : zHp → Prop} (h : yEF E yFP) : yTs E 2 ys292 := yver_s (x := yx292) h (yal_c (yt291 h) (by decide) yw291 (yal_n)) yg285 yk292
def ys293 : ySp := (286, 2, (0, [], [], [], [(0, (2, yc 1023, yc 0)), (1, (0, yc 34, yc 0))], []), [(0, [], [], [], [], [(0, yc 114, yc 0)])], [])
def yx293 : yCx := ([ys292], ys293.2.2.2.2, yFP, zm286.2.2.1, zm286.2.2.2.1, zc286, 0, ys293.2.2.2.1, [], [])
theorem yw293 : ywf ys293.2.2.1 = true := by decide +kernel
theorem yk293 : yver yx293 ys293.2.2.1 4000 = true := by decide +kernel
theorem yt293 {E : zHp → Prop} (h : yEF E yFP) : yTs E 3 ys293 := yver_s (x := yx293) h (yal_c (yt292 h) (by decide) yw292 (yal_n)) yg286 yk293
def ys294 : ySp := (282, 2, (0, [], [], [], [(0, (2, yc 1004, yc 0)), (1, (0, yc 34, yc 0))], []), [(0, [], [], [], [], [(0, yc 114, yc 0)])], [])
def yx294 : yCx := ([ys154, ys293], ys294.2.2.2.2, yFP, zm282.2.2.1, zm282.2.2.2.1, zc282, 0, ys294.2.2.2.1, [], [])
theorem yw294 : ywf ys294.2.2.1 = true := by decide +kernel
theorem yk294 : yver yx294 ys294.2.2.1 4000 = true := by decide +kernel
theorem yt294 {E : zHp → Prop} (h : yEF E yFP) : yTs E 4 ys294 := yver_s (x := yx294) h (yal_c (yt154 h) (by decide) yw154 (yal_c (yt293 h) (by decide) yw293 (yal_n))) yg282 yk294
def ys295 : ySp := (293, 3, (0, [], [], [], [(0, (0, yc 35, yc 0)), (1, (0, yc 66, yc 0)), (2, (7, yc 0, yc 0))], []), [(0, [], [], [], [], [(0, yc 35, yc 0)])], [])
def yx295 : yCx := ([], ys295.2.2.2.2, yFP, zm293.2.2.1, zm293.2.2.2.1, zc293, 0, ys295.2.2.2.1, [], [])
theorem yw295 : ywf ys295.2.2.1 = true := by decide +kernel
theorem yk295 : yver yx295 ys295.2.2.1 4000 = true := by decide +kernel
theorem yt295 {E : zHp → Prop} (h : yEF E yFP) : yTs E 1 ys295 := yver_s (x := yx295) h (yal_n) yg293 yk295
def ys296 : ySp := (285, 2, (0, [], [], [], [(0, (0, yc 35, yc 0)), (1, (0, yc 66, yc 0))], []), [(0, [], [], [], [], [])], [])
def yx296 : yCx := ([ys295], ys296.2.2.2.2, yFP, zm285.2.2.1, zm285.2.2.2.1, zc285, 0, ys296.2.2.2.1, [], [])
theorem yw296 : ywf ys296.2.2.1 = true := by decide +kernel
theorem yk296 : yver yx296 ys296.2.2.1 4000 = true := by decide +kernel
theorem yt296 {E : zHp → Prop} (h : yEF E yFP) : yTs E 2 ys296 := yver_s (x := yx296) h (yal_c (yt295 h) (by decide) yw295 (yal_n)) yg285 yk296
def ys297 : ySp := (286, 2, (0, [], [], [], [(0, (2, yc 1023, yc 0)), (1, (0, yc 35, yc 0))], []), [(0, [], [], [], [], [(0, yc 112, yc 0)])], [])
def yx297 : yCx := ([ys296], ys297.2.2.2.2, yFP, zm286.2.2.1, zm286.2.2.2.1, zc286, 0, ys297.2.2.2.1, [], [])
theorem yw297 : ywf ys297.2.2.1 = true := by decide +kernel
theorem yk297 : yver yx297 ys297.2.2.1 4000 = true := by decide +kernel
theorem yt297 {E : zHp → Prop} (h : yEF E yFP) : yTs E 3 ys297 := yver_s (x := yx297) h (yal_c (yt296 h) (by decide) yw296 (yal_n)) yg286 yk297
def ys298 : ySp := (282, 2, (0, [], [], [], [(0, (2, yc 1004, yc 0)), (1, (0, yc 35, yc 0))], []), [(0, [], [], [], [], [(0, yc 112, yc 0)])], [])
def yx298 : yCx := ([ys154, ys297], ys298.2.2.2.2, yFP, zm282.2.2.1, zm282.2.2.2.1, zc282, 0, ys298.2.2.2.1, [], [])
theorem yw298 : ywf ys298.2.2.1 = true := by decide +kernel
theorem yk298 : yver yx298 ys298.2.2.1 4000 = true := by decide +kernel
theorem yt298 {E : zHp → Prop} (h : yEF E yFP) : yTs E 4 ys298 := yver_s (x := yx298) h (yal_c (yt154 h) (by decide) yw154 (yal_c (yt297 h) (by decide) yw297 (yal_n))) yg282 yk298
def ys299 : ySp := (293, 3, (0, [], [], [], [(0, (0, yc 36, yc 0)), (1, (0, yc 66, yc 0)), (2, (7, yc 0, yc 0))], []), [(0, [], [], [], [], [(0, yc 36, yc 0)])], [])
def yx299 : yCx := ([], ys299.2.2.2.2, yFP, zm293.2.2.1, zm293.2.2.2.1, zc293, 0, ys299.2.2.2.1, [], [])
theorem yw299 : ywf ys299.2.2.1 = true := by decide +kernel
theorem yk299 : yver yx299 ys299.2.2.1 4000 = true := by decide +kernel
theorem yt299 {E : zHp → Prop} (h : yEF E yFP) : yTs E 1 ys299 := yver_s (x := yx299) h (yal_n) yg293 yk299
def ys300 : ySp := (285, 2, (0, [], [], [], [(0, (0, yc 36, yc 0)), (1, (0, yc 66, yc 0))], []), [(0, [], [], [], [], [])], [])
def yx300 : yCx := ([ys299], ys300.2.2.2.2, yFP, zm285.2.2.1, zm285.2.2.2.1, zc285, 0, ys300.2.2.2.1, [], [])
theorem yw300 : ywf ys300.2.2.1 = true := by decide +kernel
theorem yk300 : yver yx300 ys300.2.2.1 4000 = true := by decide +kernel
theorem yt300 {E : zHp → Prop} (h : yEF E yFP) : yTs E 2 ys300 := yver_s (x := yx300) h (yal_c (yt299 h) (by decide) yw299 (yal_n)) yg285 yk300
def ys301 : ySp := (286, 2, (0, [], [], [], [(0, (2, yc 1023, yc 0)), (1, (0, yc 36, yc 0))], []), [(0, [], [], [], [], [(0, yc 32, yc 0)])], [])
def yx301 : yCx := ([ys300], ys301.2.2.2.2, yFP, zm286.2.2.1, zm286.2.2.2.1, zc286, 0, ys301.2.2.2.1, [], [])
theorem yw301 : ywf ys301.2.2.1 = true := by decide +kernel
theorem yk301 : yver yx301 ys301.2.2.1 4000 = true := by decide +kernel
theorem yt301 {E : zHp → Prop} (h : yEF E yFP) : yTs E 3 ys301 := yver_s (x := yx301) h (yal_c (yt300 h) (by decide) yw300 (yal_n)) yg286 yk301
def ys302 : ySp := (282, 2, (0, [], [], [], [(0, (2, yc 1004, yc 0)), (1, (0, yc 36, yc 0))], []), [(0, [], [], [], [], [(0, yc 32, yc 0)])], [])
def yx302 : yCx := ([ys154, ys301], ys302.2.2.2.2, yFP, zm282.2.2.1, zm282.2.2.2.1, zc282, 0, ys302.2.2.2.1, [], [])
theorem yw302 : ywf ys302.2.2.1 = true := by decide +kernel
theorem yk302 : yver yx302 ys302.2.2.1 4000 = true := by decide +kernel
theorem yt302 {E : zHp → Prop} (h : yEF E yFP) : yTs E 4 ys302 := yver_s (x := yx302) h (yal_c (yt154 h) (by decide) yw154 (yal_c (yt301 h) (by decide) yw301 (yal_n))) yg282 yk302
def ys303 : ySp := (293, 3, (0, [], [], [], [(0, (0, yc 37, yc 0)), (1, (0, yc 66, yc 0)), (2, (7, yc 0, yc 0))], []), [(0, [], [], [], [], [(0, yc 37, yc 0)])], [])
def yx303 : yCx := ([], ys303.2.2.2.2, yFP, zm293.2.2.1, zm293.2.2.2.1, zc293, 0, ys303.2.2.2.1, [], [])
theorem yw303 : ywf ys303.2.2.1 = true := by decide +kernel
theorem yk303 : yver yx303 ys303.2.2.1 4000 = true := by decide +kernel
theorem yt303 {E : zHp → Prop} (h : yEF E yFP) : yTs E 1 ys303 := yver_s (x := yx303) h (yal_n) yg293 yk303
def ys304 : ySp := (285, 2, (0, [], [], [], [(0, (0, yc 37, yc 0)), (1, (0, yc 66, yc 0))], []), [(0, [], [], [], [], [])], [])
def yx304 : yCx := ([ys303], ys304.2.2.2.2, yFP, zm285.2.2.1, zm285.2.2.2.1, zc285, 0, ys304.2.2.2.1, [], [])
theorem yw304 : ywf ys304.2.2.1 = true := by decide +kernel
theorem yk304 : yver yx304 ys304.2.2.1 4000 = true := by decide +kernel
theorem yt304 {E : zHp → Prop} (h : yEF E yFP) : yTs E 2 ys304 := yver_s (x := yx304) h (yal_c (yt303 h) (by decide) yw303 (yal_n)) yg285 yk304
def ys305 : ySp := (286, 2, (0, [], [], [], [(0, (2, yc 1023, yc 0)), (1, (0, yc 37, yc 0))], []), [(0, [], [], [], [], [(0, yc 111, yc 0)])], [])
def yx305 : yCx := ([ys304], ys305.2.2.2.2, yFP, zm286.2.2.1, zm286.2.2.2.1, zc286, 0, ys305.2.2.2.1, [], [])
theorem yw305 : ywf ys305.2.2.1 = true := by decide +kernel
theorem yk305 : yver yx305 ys305.2.2.1 4000 = true := by decide +kernel
theorem yt305 {E : zHp → Prop} (h : yEF E yFP) : yTs E 3 ys305 := yver_s (x := yx305) h (yal_c (yt304 h) (by decide) yw304 (yal_n)) yg286 yk305
def ys306 : ySp := (282, 2, (0, [], [], [], [(0, (2, yc 1004, yc 0)), (1, (0, yc 37, yc 0))], []), [(0, [], [], [], [], [(0, yc 111, yc 0)])], [])
def yx306 : yCx := ([ys154, ys305], ys306.2.2.2.2, yFP, zm282.2.2.1, zm282.2.2.2.1, zc282, 0, ys306.2.2.2.1, [], [])
theorem yw306 : ywf ys306.2.2.1 = true := by decide +kernel
theorem yk306 : yver yx306 ys306.2.2.1 4000 = true := by decide +kernel
theorem yt306 {E : zHp → Prop} (h : yEF E yFP) : yTs E 4 ys306 := yver_s (x := yx306) h (yal_c (yt154 h) (by decide) yw154 (yal_c (yt305 h) (by decide) yw305 (yal_n))) yg282 yk306
def ys307 : ySp := (293, 3, (0, [], [], [], [(0, (0, yc 38, yc 0)), (1, (0, yc 66, yc 0)), (2, (7, yc 0, yc 0))], []), [(0, [], [], [], [], [(0, yc 38, yc 0)])], [])
def yx307 : yCx := ([], ys307.2.2.2.2, yFP, zm293.2.2.1, zm293.2.2.2.1, zc293, 0, ys307.2.2.2.1, [], [])
theorem yw307 : ywf ys307.2.2.1 = true := by decide +kernel
theorem yk307 : yver yx307 ys307.2.2.1 4000 = true := by decide +kernel
theorem yt307 {E : zHp → Prop} (h : yEF E yFP) : yTs E 1 ys307 := yver_s (x := yx307) h (yal_n) yg293 yk307
def ys308 : ySp := (285, 2, (0, [], [], [], [(0, (0, yc 38, yc 0)), (1, (0, yc 66, yc 0))], []), [(0, [], [], [], [], [])], [])
def yx308 : yCx := ([ys307], ys308.2.2.2.2, yFP, zm285.2.2.1, zm285.2.2.2.1, zc285, 0, ys308.2.2.2.1, [], [])
theorem yw308 : ywf ys308.2.2.1 = true := by decide +kernel
theorem yk308 : yver yx308 ys308.2.2.1 4000 = true := by decide +kernel
theorem yt308 {E : zHp → Prop} (h : yEF E yFP) : yTs E 2 ys308 := yver_s (x := yx308) h (yal_c (yt307 h) (by decide) yw307 (yal_n)) yg285 yk308
def ys309 : ySp := (286, 2, (0, [], [], [], [(0, (2, yc 1023, yc 0)), (1, (0, yc 38, yc 0))], []), [(0, [], [], [], [], [(0, yc 117, yc 0)])], [])
def yx309 : yCx := ([ys308], ys309.2.2.2.2, yFP, zm286.2.2.1, zm286.2.2.2.1, zc286, 0, ys309.2.2.2.1, [], [])
theorem yw309 : ywf ys309.2.2.1 = true := by decide +kernel
theorem yk309 : yver yx309 ys309.2.2.1 4000 = true := by decide +kernel
theorem yt309 {E : zHp → Prop} (h : yEF E yFP) : yTs E 3 ys309 := yver_s (x := yx309) h (yal_c (yt308 h) (by decide) yw308 (yal_n)) yg286 yk309
def ys310 : ySp := (282, 2, (0, [], [], [], [(0, (2, yc 1004, yc 0)), (1, (0, yc 38, yc 0))], []), [(0, [], [], [], [], [(0, yc 117, yc 0)])], [])
def yx310 : yCx := ([ys154, ys309], ys310.2.2.2.2, yFP, zm282.2.2.1, zm282.2.2.2.1, zc282, 0, ys310.2.2.2.1, [], [])
theorem yw310 : ywf ys310.2.2.1 = true := by decide +kernel
theorem yk310 : yver yx310 ys310.2.2.1 4000 = true := by decide +kernel
theorem yt310 {E : zHp → Prop} (h : yEF E yFP) : yTs E 4 ys310 := yver_s (x := yx310) h (yal_c (yt154 h) (by decide) yw154 (yal_c (yt309 h) (by decide) yw309 (yal_n))) yg282 yk310
def ys311 : ySp := (293, 3, (0, [], [], [], [(0, (0, yc 39, yc 0)), (1, (0, yc 66, yc 0)), (2, (7, yc 0, yc 0))], []), [(0, [], [], [], [], [(0, yc 39, yc 0)])], [])
def yx311 : yCx := ([], ys311.2.2.2.2, yFP, zm293.2.2.1, zm293.2.2.2.1, zc293, 0, ys311.2.2.2.1, [], [])
theorem yw311 : ywf ys311.2.2.1 = true := by decide +kernel
theorem yk311 : yver yx311 ys311.2.2.1 4000 = true := by decide +kernel
theorem yt311 {E : zHp → Prop} (h : yEF E yFP) : yTs E 1 ys311 := yver_s (x := yx311) h (yal_n) yg293 yk311
def ys312 : ySp := (285, 2, (0, [], [], [], [(0, (0, yc 39, yc 0)), (1, (0, yc 66, yc 0))], []), [(0, [], [], [], [], [])], [])
def yx312 : yCx := ([ys311], ys312.2.2.2.2, yFP, zm285.2.2.1, zm285.2.2.2.1, zc285, 0, ys312.2.2.2.1, [], [])
theorem yw312 : ywf ys312.2.2.1 = true := by decide +kernel
theorem yk312 : yver yx312 ys312.2.2.1 4000 = true := by decide +kernel
theorem yt312 {E : zHp → Prop} (h : yEF E yFP) : yTs E 2 ys312 := yver_s (x := yx312) h (yal_c (yt311 h) (by decide) yw311 (yal_n)) yg285 yk312
def ys313 : ySp := (286, 2, (0, [], [], [], [(0, (2, yc 1023, yc 0)), (1, (0, yc 39, yc 0))], []), [(0, [], [], [], [], [(0, yc 116, yc 0)])], [])
def yx313 : yCx := ([ys312], ys313.2.2.2.2, yFP, zm286.2.2.1, zm286.2.2.2.1, zc286, 0, ys313.2.2.2.1, [], [])
theorem yw313 : ywf ys313.2.2.1 = true := by decide +kernel
theorem yk313 : yver yx313 ys313.2.2.1 4000 = true := by decide +kernel
theorem yt313 {E : zHp → Prop} (h : yEF E yFP) : yTs E 3 ys313 := yver_s (x := yx313) h (yal_c (yt312 h) (by decide) yw312 (yal_n)) yg286 yk313
def ys314 : ySp := (282, 2, (0, [], [], [], [(0, (2, yc 1004, yc 0)), (1, (0, yc 39, yc 0))], []), [(0, [], [], [], [], [(0, yc 116, yc 0)])], [])
def yx314 : yCx := ([ys154, ys313], ys314.2.2.2.2, yFP, zm282.2.2.1, zm282.2.2.2.1, zc282, 0, ys314.2.2.2.1, [], [])
theorem yw314 : ywf ys314.2.2.1 = true := by decide +kernel
theorem yk314 : yver yx314 ys314.2.2.1 4000 = true := by decide +kernel
theorem yt314 {E : zHp → Prop} (h : yEF E yFP) : yTs E 4 ys314 := yver_s (x := yx314) h (yal_c (yt154 h) (by decide) yw154 (yal_c (yt313 h) (by decide) yw313 (yal_n))) yg282 yk314
def ys315 : ySp := (293, 3, (0, [], [], [], [(0, (0, yc 40, yc 0)), (1, (0, yc 66, yc 0)), (2, (7, yc 0, yc 0))], []), [(0, [], [], [], [], [(0, yc 40, yc 0)])], [])
def yx315 : yCx := ([], ys315.2.2.2.2, yFP, zm293.2.2.1, zm293.2.2.2.1, zc293, 0, ys315.2.2.2.1, [], [])
theorem yw315 : ywf ys315.2.2.1 = true := by decide +kernel
theorem yk315 : yver yx315 ys315.2.2.1 4000 = true := by decide +kernel
theorem yt315 {E : zHp → Prop} (h : yEF E yFP) : yTs E 1 ys315 := yver_s (x := yx315) h (yal_n) yg293 yk315
def ys316 : ySp := (285, 2, (0, [], [], [], [(0, (0, yc 40, yc 0)), (1, (0, yc 66, yc 0))], []), [(0, [], [], [], [], [])], [])
def yx316 : yCx := ([ys315], ys316.2.2.2.2, yFP, zm285.2.2.1, zm285.2.2.2.1, zc285, 0, ys316.2.2.2.1, [], [])
theorem yw316 : ywf ys316.2.2.1 = true := by decide +kernel
theorem yk316 : yver yx316 ys316.2.2.1 4000 = true := by decide +kernel
theorem yt316 {E : zHp → Prop} (h : yEF E yFP) : yTs E 2 ys316 := yver_s (x := yx316) h (yal_c (yt315 h) (by decide) yw315 (yal_n)) yg285 yk316
def ys317 : ySp := (286, 2, (0, [], [], [], [(0, (2, yc 1023, yc 0)), (1, (0, yc 40, yc 0))], []), [(0, [], [], [], [], [(0, yc 32, yc 0)])], [])
def yx317 : yCx := ([ys316], ys317.2.2.2.2, yFP, zm286.2.2.1, zm286.2.2.2.1, zc286, 0, ys317.2.2.2.1, [], [])
theorem yw317 : ywf ys317.2.2.1 = true := by decide +kernel
theorem yk317 : yver yx317 ys317.2.2.1 4000 = true := by decide +kernel
theorem yt317 {E : zHp → Prop} (h : yEF E yFP) : yTs E 3 ys317 := yver_s (x := yx317) h (yal_c (yt316 h) (by decide) yw316 (yal_n)) yg286 yk317
def ys318 : ySp := (282, 2, (0, [], [], [], [(0, (2, yc 1004, yc 0)), (1, (0, yc 40, yc 0))], []), [(0, [], [], [], [], [(0, yc 32, yc 0)])], [])
def yx318 : yCx := ([ys154, ys317], ys318.2.2.2.2, yFP, zm282.2.2.1, zm282.2.2.2.1, zc282, 0, ys318.2.2.2.1, [], [])
theorem yw318 : ywf ys318.2.2.1 = true := by decide +kernel
theorem yk318 : yver yx318 ys318.2.2.1 4000 = true := by decide +kernel
theorem yt318 {E : zHp → Prop} (h : yEF E yFP) : yTs E 4 ys318 := yver_s (x := yx318) h (yal_c (yt154 h) (by decide) yw154 (yal_c (yt317 h) (by decide) yw317 (yal_n))) yg282 yk318
def ys319 : ySp := (293, 3, (0, [], [], [], [(0, (0, yc 41, yc 0)), (1, (0, yc 66, yc 0)), (2, (7, yc 0, yc 0))], []), [(0, [], [], [], [], [(0, yc 41, yc 0)])], [])
def yx319 : yCx := ([], ys319.2.2.2.2, yFP, zm293.2.2.1, zm293.2.2.2.1, zc293, 0, ys319.2.2.2.1, [], [])
theorem yw319 : ywf ys319.2.2.1 = true := by decide +kernel
theorem yk319 : yver yx319 ys319.2.2.1 4000 = true := by decide +kernel
theorem yt319 {E : zHp → Prop} (h : yEF E yFP) : yTs E 1 ys319 := yver_s (x := yx319) h (yal_n) yg293 yk319
def ys320 : ySp := (285, 2, (0, [], [], [], [(0, (0, yc 41, yc 0)), (1, (0, yc 66, yc 0))], []), [(0, [], [], [], [], [])], [])
def yx320 : yCx := ([ys319], ys320.2.2.2.2, yFP, zm285.2.2.1, zm285.2.2.2.1, zc285, 0, ys320.2.2.2.1, [], [])
theorem yw320 : ywf ys320.2.2.1 = true := by decide +kernel
theorem yk320 : yver yx320 ys320.2.2.1 4000 = true := by decide +kernel
theorem yt320 {E : zHp → Prop} (h : yEF E yFP) : yTs E 2 ys320 := yver_s (x := yx320) h (yal_c (yt319 h) (by decide) yw319 (yal_n)) yg285 yk320
def ys321 : ySp := (286, 2, (0, [], [], [], [(0, (2, yc 1023, yc 0)), (1, (0, yc 41, yc 0))], []), [(0, [], [], [], [], [(0, yc 100, yc 0)])], [])
def yx321 : yCx := ([ys320], ys321.2.2.2.2, yFP, zm286.2.2.1, zm286.2.2.2.1, zc286, 0, ys321.2.2.2.1, [], [])
theorem yw321 : ywf ys321.2.2.1 = true := by decide +kernel
theorem yk321 : yver yx321 ys321.2.2.1 4000 = true := by decide +kernel
theorem yt321 {E : zHp → Prop} (h : yEF E yFP) : yTs E 3 ys321 := yver_s (x := yx321) h (yal_c (yt320 h) (by decide) yw320 (yal_n)) yg286 yk321
def ys322 : ySp := (282, 2, (0, [], [], [], [(0, (2, yc 1004, yc 0)), (1, (0, yc 41, yc 0))], []), [(0, [], [], [], [], [(0, yc 100, yc 0)])], [])
def yx322 : yCx := ([ys154, ys321], ys322.2.2.2.2, yFP, zm282.2.2.1, zm282.2.2.2.1, zc282, 0, ys322.2.2.2.1, [], [])
theorem yw322 : ywf ys322.2.2.1 = true := by decide +kernel
theorem yk322 : yver yx322 ys322.2.2.1 4000 = true := by decide +kernel
theorem yt322 {E : zHp → Prop} (h : yEF E yFP) : yTs E 4 ys322 := yver_s (x := yx322) h (yal_c (yt154 h) (by decide) yw154 (yal_c (yt321 h) (by decide) yw321 (yal_n))) yg282 yk322
def ys323 : ySp := (293, 3, (0, [], [], [], [(0, (0, yc 42, yc 0)), (1, (0, yc 66, yc 0)), (2, (7, yc 0, yc 0))], []), [(0, [], [], [], [], [(0, yc 42, yc 0)])], [])
def yx323 : yCx := ([], ys323.2.2.2.2, yFP, zm293.2.2.1, zm293.2.2.2.1, zc293, 0, ys323.2.2.2.1, [], [])
theorem yw323 : ywf ys323.2.2.1 = true := by decide +kernel
theorem yk323 : yver yx323 ys323.2.2.1 4000 = true := by decide +kernel
theorem yt323 {E : zHp → Prop} (h : yEF E yFP) : yTs E 1 ys323 := yver_s (x := yx323) h (yal_n) yg293 yk323
def ys324 : ySp := (285, 2, (0, [], [], [], [(0, (0, yc 42, yc 0)), (1, (0, yc 66, yc 0))], []), [(0, [], [], [], [], [])], [])
def yx324 : yCx := ([ys323], ys324.2.2.2.2, yFP, zm285.2.2.1, zm285.2.2.2.1, zc285, 0, ys324.2.2.2.1, [], [])
theorem yw324 : ywf ys324.2.2.1 = true := by decide +kernel
theorem yk324 : yver yx324 ys324.2.2.1 4000 = true := by decide +kernel
theorem yt324 {E : zHp → Prop} (h : yEF E yFP) : yTs E 2 ys324 := yver_s (x := yx324) h (yal_c (yt323 h) (by decide) yw323 (yal_n)) yg285 yk324
def ys325 : ySp := (286, 2, (0, [], [], [], [(0, (2, yc 1023, yc 0)), (1, (0, yc 42, yc 0))], []), [(0, [], [], [], [], [(0, yc 97, yc 0)])], [])
def yx325 : yCx := ([ys324], ys325.2.2.2.2, yFP, zm286.2.2.1, zm286.2.2.2.1, zc286, 0, ys325.2.2.2.1, [], [])
theorem yw325 : ywf ys325.2.2.1 = true := by decide +kernel
theorem yk325 : yver yx325 ys325.2.2.1 4000 = true := by decide +kernel
theorem yt325 {E : zHp → Prop} (h : yEF E yFP) : yTs E 3 ys325 := yver_s (x := yx325) h (yal_c (yt324 h) (by decide) yw324 (yal_n)) yg286 yk325
def ys326 : ySp := (282, 2, (0, [], [], [], [(0, (2, yc 1004, yc 0)), (1, (0, yc 42, yc 0))], []), [(0, [], [], [], [], [(0, yc 97, yc 0)])], [])
def yx326 : yCx := ([ys154, ys325], ys326.2.2.2.2, yFP, zm282.2.2.1, zm282.2.2.2.1, zc282, 0, ys326.2.2.2.1, [], [])
theorem yw326 : ywf ys326.2.2.1 = true := by decide +kernel
theorem yk326 : yver yx326 ys326.2.2.1 4000 = true := by decide +kernel
theorem yt326 {E : zHp → Prop} (h : yEF E yFP) : yTs E 4 ys326 := yver_s (x := yx326) h (yal_c (yt154 h) (by decide) yw154 (yal_c (yt325 h) (by decide) yw325 (yal_n))) yg282 yk326
def ys327 : ySp := (293, 3, (0, [], [], [], [(0, (0, yc 43, yc 0)), (1, (0, yc 66, yc 0)), (2, (7, yc 0, yc 0))], []), [(0, [], [], [], [], [(0, yc 43, yc 0)])], [])
def yx327 : yCx := ([], ys327.2.2.2.2, yFP, zm293.2.2.1, zm293.2.2.2.1, zc293, 0, ys327.2.2.2.1, [], [])
theorem yw327 : ywf ys327.2.2.1 = true := by decide +kernel
theorem yk327 : yver yx327 ys327.2.2.1 4000 = true := by decide +kernel
theorem yt327 {E : zHp → Prop} (h : yEF E yFP) : yTs E 1 ys327 := yver_s (x := yx327) h (yal_n) yg293 yk327
def ys328 : ySp := (285, 2, (0, [], [], [], [(0, (0, yc 43, yc 0)), (1, (0, yc 66, yc 0))], []), [(0, [], [], [], [], [])], [])
def yx328 : yCx := ([ys327], ys328.2.2.2.2, yFP, zm285.2.2.1, zm285.2.2.2.1, zc285, 0, ys328.2.2.2.1, [], [])
theorem yw328 : ywf ys328.2.2.1 = true := by decide +kernel
theorem yk328 : yver yx328 ys328.2.2.1 4000 = true := by decide +kernel
theorem yt328 {E : zHp → Prop} (h : yEF E yFP) : yTs E 2 ys328 := yver_s (x := yx328) h (yal_c (yt327 h) (by decide) yw327 (yal_n)) yg285 yk328
def ys329 : ySp := (286, 2, (0, [], [], [], [(0, (2, yc 1023, yc 0)), (1, (0, yc 43, yc 0))], []), [(0, [], [], [], [], [(0, yc 121, yc 0)])], [])
def yx329 : yCx := ([ys328], ys329.2.2.2.2, yFP, zm286.2.2.1, zm286.2.2.2.1, zc286, 0, ys329.2.2.2.1, [], [])
theorem yw329 : ywf ys329.2.2.1 = true := by decide +kernel
theorem yk329 : yver yx329 ys329.2.2.1 4000 = true := by decide +kernel
theorem yt329 {E : zHp → Prop} (h : yEF E yFP) : yTs E 3 ys329 := yver_s (x := yx329) h (yal_c (yt328 h) (by decide) yw328 (yal_n)) yg286 yk329
def ys330 : ySp := (282, 2, (0, [], [], [], [(0, (2, yc 1004, yc 0)), (1, (0, yc 43, yc 0))], []), [(0, [], [], [], [], [(0, yc 121, yc 0)])], [])
def yx330 : yCx := ([ys154, ys329], ys330.2.2.2.2, yFP, zm282.2.2.1, zm282.2.2.2.1, zc282, 0, ys330.2.2.2.1, [], [])
theorem yw330 : ywf ys330.2.2.1 = true := by decide +kernel
theorem yk330 : yver yx330 ys330.2.2.1 4000 = true := by decide +kernel
theorem yt330 {E : zHp → Prop} (h : yEF E yFP) : yTs E 4 ys330 := yver_s (x := yx330) h (yal_c (yt154 h) (by decide) yw154 (yal_c (yt329 h) (by decide) yw329 (yal_n))) yg282 yk330
def ys331 : ySp := (293, 3, (0, [], [], [], [(0, (0, yc 44, yc 0)), (1, (0, yc 66, yc 0)), (2, (7, yc 0, yc 0))], []), [(0, [], [], [], [], [(0, yc 44, yc 0)])], [])
def yx331 : yCx := ([], ys331.2.2.2.2, yFP, zm293.2.2.1, zm293.2.2.2.1, zc293, 0, ys331.2.2.2.1, [], [])
theorem yw331 : ywf ys331.2.2.1 = true := by decide +kernel
theorem yk331 : yver yx331 ys331.2.2.1 4000 = true := by decide +kernel
theorem yt331 {E : zHp → Prop} (h : yEF E yFP) : yTs E 1 ys331 := yver_s (x := yx331) h (yal_n) yg293 yk331
def ys332 : ySp := (285, 2, (0, [], [], [], [(0, (0, yc 44, yc 0)), (1, (0, yc 66, yc 0))], []), [(0, [], [], [], [], [])], [])
def yx332 : yCx := ([ys331], ys332.2.2.2.2, yFP, zm285.2.2.1, zm285.2.2.2.1, zc285, 0, ys332.2.2.2.1, [], [])
theorem yw332 : ywf ys332.2.2.1 = true := by decide +kernel
theorem yk332 : yver yx332 ys332.2.2.1 4000 = true := by decide +kernel
theorem yt332 {E : zHp → Prop} (h : yEF E yFP) : yTs E 2 ys332 := yver_s (x := yx332) h (yal_c (yt331 h) (by decide) yw331 (yal_n)) yg285 yk332
def ys333 : ySp := (286, 2, (0, [], [], [], [(0, (2, yc 1023, yc 0)), (1, (0, yc 44, yc 0))], []), [(0, [], [], [], [], [(0, yc 32, yc 0)])], [])
def yx333 : yCx := ([ys332], ys333.2.2.2.2, yFP, zm286.2.2.1, zm286.2.2.2.1, zc286, 0, ys333.2.2.2.1, [], [])
theorem yw333 : ywf ys333.2.2.1 = true := by decide +kernel
theorem yk333 : yver yx333 ys333.2.2.1 4000 = true := by decide +kernel
theorem yt333 {E : zHp → Prop} (h : yEF E yFP) : yTs E 3 ys333 := yver_s (x := yx333) h (yal_c (yt332 h) (by decide) yw332 (yal_n)) yg286 yk333
def ys334 : ySp := (282, 2, (0, [], [], [], [(0, (2, yc 1004, yc 0)), (1, (0, yc 44, yc 0))], []), [(0, [], [], [], [], [(0, yc 32, yc 0)])], [])
def yx334 : yCx := ([ys154, ys333], ys334.2.2.2.2, yFP, zm282.2.2.1, zm282.2.2.2.1, zc282, 0, ys334.2.2.2.1, [], [])
theorem yw334 : ywf ys334.2.2.1 = true := by decide +kernel
theorem yk334 : yver yx334 ys334.2.2.1 4000 = true := by decide +kernel
theorem yt334 {E : zHp → Prop} (h : yEF E yFP) : yTs E 4 ys334 := yver_s (x := yx334) h (yal_c (yt154 h) (by decide) yw154 (yal_c (yt333 h) (by decide) yw333 (yal_n))) yg282 yk334
def ys335 : ySp := (293, 3, (0, [], [], [], [(0, (0, yc 45, yc 0)), (1, (0, yc 66, yc 0)), (2, (7, yc 0, yc 0))], []), [(0, [], [], [], [], [(0, yc 45, yc 0)])], [])
def yx335 : yCx := ([], ys335.2.2.2.2, yFP, zm293.2.2.1, zm293.2.2.2.1, zc293, 0, ys335.2.2.2.1, [], [])
theorem yw335 : ywf ys335.2.2.1 = true := by decide +kernel
theorem yk335 : yver yx335 ys335.2.2.1 4000 = true := by decide +kernel
theorem yt335 {E : zHp → Prop} (h : yEF E yFP) : yTs E 1 ys335 := yver_s (x := yx335) h (yal_n) yg293 yk335
def ys336 : ySp := (285, 2, (0, [], [], [], [(0, (0, yc 45, yc 0)), (1, (0, yc 66, yc 0))], []), [(0, [], [], [], [], [])], [])
def yx336 : yCx := ([ys335], ys336.2.2.2.2, yFP, zm285.2.2.1, zm285.2.2.2.1, zc285, 0, ys336.2.2.2.1, [], [])
theorem yw336 : ywf ys336.2.2.1 = true := by decide +kernel
theorem yk336 : yver yx336 ys336.2.2.1 4000 = true := by decide +kernel
theorem yt336 {E : zHp → Prop} (h : yEF E yFP) : yTs E 2 ys336 := yver_s (x := yx336) h (yal_c (yt335 h) (by decide) yw335 (yal_n)) yg285 yk336
def ys337 : ySp := (286, 2, (0, [], [], [], [(0, (2, yc 1023, yc 0)), (1, (0, yc 45, yc 0))], []), [(0, [], [], [], [], [(0, yc 110, yc 0)])], [])
def yx337 : yCx := ([ys336], ys337.2.2.2.2, yFP, zm286.2.2.1, zm286.2.2.2.1, zc286, 0, ys337.2.2.2.1, [], [])
theorem yw337 : ywf ys337.2.2.1 = true := by decide +kernel
theorem yk337 : yver yx337 ys337.2.2.1 4000 = true := by decide +kernel
theorem yt337 {E : zHp → Prop} (h : yEF E yFP) : yTs E 3 ys337 := yver_s (x := yx337) h (yal_c (yt336 h) (by decide) yw336 (yal_n)) yg286 yk337
def ys338 : ySp := (282, 2, (0, [], [], [], [(0, (2, yc 1004, yc 0)), (1, (0, yc 45, yc 0))], []), [(0, [], [], [], [], [(0, yc 110, yc 0)])], [])
def yx338 : yCx := ([ys154, ys337], ys338.2.2.2.2, yFP, zm282.2.2.1, zm282.2.2.2.1, zc282, 0, ys338.2.2.2.1, [], [])
theorem yw338 : ywf ys338.2.2.1 = true := by decide +kernel
theorem yk338 : yver yx338 ys338.2.2.1 4000 = true := by decide +kernel
theorem yt338 {E : zHp → Prop} (h : yEF E yFP) : yTs E 4 ys338 := yver_s (x := yx338) h (yal_c (yt154 h) (by decide) yw154 (yal_c (yt337 h) (by decide) yw337 (yal_n))) yg282 yk338
def ys339 : ySp := (293, 3, (0, [], [], [], [(0, (0, yc 46, yc 0)), (1, (0, yc 66, yc 0)), (2, (7, yc 0, yc 0))], []), [(0, [], [], [], [], [(0, yc 46, yc 0)])], [])
def yx339 : yCx := ([], ys339.2.2.2.2, yFP, zm293.2.2.1, zm293.2.2.2.1, zc293, 0, ys339.2.2.2.1, [], [])
theorem yw339 : ywf ys339.2.2.1 = true := by decide +kernel
theorem yk339 : yver yx339 ys339.2.2.1 4000 = true := by decide +kernel
theorem yt339 {E : zHp → Prop} (h : yEF E yFP) : yTs E 1 ys339 := yver_s (x := yx339) h (yal_n) yg293 yk339
def ys340 : ySp := (285, 2, (0, [], [], [], [(0, (0, yc 46, yc 0)), (1, (0, yc 66, yc 0))], []), [(0, [], [], [], [], [])], [])
def yx340 : yCx := ([ys339], ys340.2.2.2.2, yFP, zm285.2.2.1, zm285.2.2.2.1, zc285, 0, ys340.2.2.2.1, [], [])
theorem yw340 : ywf ys340.2.2.1 = true := by decide +kernel
theorem yk340 : yver yx340 ys340.2.2.1 4000 = true := by decide +kernel
theorem yt340 {E : zHp → Prop} (h : yEF E yFP) : yTs E 2 ys340 := yver_s (x := yx340) h (yal_c (yt339 h) (by decide) yw339 (yal_n)) yg285 yk340
def ys341 : ySp := (286, 2, (0, [], [], [], [(0, (2, yc 1023, yc 0)), (1, (0, yc 46, yc 0))], []), [(0, [], [], [], [], [(0, yc 101, yc 0)])], [])
def yx341 : yCx := ([ys340], ys341.2.2.2.2, yFP, zm286.2.2.1, zm286.2.2.2.1, zc286, 0, ys341.2.2.2.1, [], [])
theorem yw341 : ywf ys341.2.2.1 = true := by decide +kernel
theorem yk341 : yver yx341 ys341.2.2.1 4000 = true := by decide +kernel
theorem yt341 {E : zHp → Prop} (h : yEF E yFP) : yTs E 3 ys341 := yver_s (x := yx341) h (yal_c (yt340 h) (by decide) yw340 (yal_n)) yg286 yk341
