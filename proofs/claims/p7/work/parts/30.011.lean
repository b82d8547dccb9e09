def ys309 : ySp := (285, 2, (0, [], [], [], [(0, (0, yc 0, yc 0)), (1, (0, yc 66, yc 0))], []), [(0, [], [], [], [], [])], [])
def yx309 : yCx := ([ys308], ys309.2.2.2.2, yFP, zm285.2.2.1, zm285.2.2.2.1, zc285, 0, ys309.2.2.2.1, [], [])
theorem yw309 : ywf ys309.2.2.1 = true := by decide +kernel
theorem yk309 : yver yx309 ys309.2.2.1 4000 = true := by decide +kernel
theorem yt309 {E : zHp → Prop} (h : yEF E yFP) : yTs E 2 ys309 := yver_s (x := yx309) h (yal_c (yt308 h) (by decide) yw308 (yal_n)) yg285 yk309
def ys310 : ySp := (286, 2, (0, [], [], [], [(0, (2, yc 1023, yc 0)), (1, (0, yc 0, yc 0))], []), [(0, [], [], [], [], [(0, yc 116, yc 0)])], [])
def yx310 : yCx := ([ys309], ys310.2.2.2.2, yFP, zm286.2.2.1, zm286.2.2.2.1, zc286, 0, ys310.2.2.2.1, [], [])
theorem yw310 : ywf ys310.2.2.1 = true := by decide +kernel
theorem yk310 : yver yx310 ys310.2.2.1 4000 = true := by decide +kernel
theorem yt310 {E : zHp → Prop} (h : yEF E yFP) : yTs E 3 ys310 := yver_s (x := yx310) h (yal_c (yt309 h) (by decide) yw309 (yal_n)) yg286 yk310
def ys311 : ySp := (282, 2, (0, [], [], [], [(0, (2, yc 1004, yc 0)), (1, (0, yc 0, yc 0))], []), [(0, [], [], [], [], [(0, yc 116, yc 0)])], [])
def yx311 : yCx := ([ys307, ys310], ys311.2.2.2.2, yFP, zm282.2.2.1, zm282.2.2.2.1, zc282, 0, ys311.2.2.2.1, [], [])
theorem yw311 : ywf ys311.2.2.1 = true := by decide +kernel
theorem yk311 : yver yx311 ys311.2.2.1 4000 = true := by decide +kernel
theorem yt311 {E : zHp → Prop} (h : yEF E yFP) : yTs E 4 ys311 := yver_s (x := yx311) h (yal_c (yt307 h) (by decide) yw307 (yal_c (yt310 h) (by decide) yw310 (yal_n))) yg282 yk311
def ys312 : ySp := (293, 3, (0, [], [], [], [(0, (0, yc 1, yc 0)), (1, (0, yc 66, yc 0)), (2, (7, yc 0, yc 0))], []), [(0, [], [], [], [], [(0, yc 1, yc 0)])], [])
def yx312 : yCx := ([], ys312.2.2.2.2, yFP, zm293.2.2.1, zm293.2.2.2.1, zc293, 0, ys312.2.2.2.1, [], [])
theorem yw312 : ywf ys312.2.2.1 = true := by decide +kernel
theorem yk312 : yver yx312 ys312.2.2.1 4000 = true := by decide +kernel
theorem yt312 {E : zHp → Prop} (h : yEF E yFP) : yTs E 1 ys312 := yver_s (x := yx312) h (yal_n) yg293 yk312
def ys313 : ySp := (285, 2, (0, [], [], [], [(0, (0, yc 1, yc 0)), (1, (0, yc 66, yc 0))], []), [(0, [], [], [], [], [])], [])
def yx313 : yCx := ([ys312], ys313.2.2.2.2, yFP, zm285.2.2.1, zm285.2.2.2.1, zc285, 0, ys313.2.2.2.1, [], [])
theorem yw313 : ywf ys313.2.2.1 = true := by decide +kernel
theorem yk313 : yver yx313 ys313.2.2.1 4000 = true := by decide +kernel
theorem yt313 {E : zHp → Prop} (h : yEF E yFP) : yTs E 2 ys313 := yver_s (x := yx313) h (yal_c (yt312 h) (by decide) yw312 (yal_n)) yg285 yk313
def ys314 : ySp := (286, 2, (0, [], [], [], [(0, (2, yc 1023, yc 0)), (1, (0, yc 1, yc 0))], []), [(0, [], [], [], [], [(0, yc 111, yc 0)])], [])
def yx314 : yCx := ([ys313], ys314.2.2.2.2, yFP, zm286.2.2.1, zm286.2.2.2.1, zc286, 0, ys314.2.2.2.1, [], [])
theorem yw314 : ywf ys314.2.2.1 = true := by decide +kernel
theorem yk314 : yver yx314 ys314.2.2.1 4000 = true := by decide +kernel
theorem yt314 {E : zHp → Prop} (h : yEF E yFP) : yTs E 3 ys314 := yver_s (x := yx314) h (yal_c (yt313 h) (by decide) yw313 (yal_n)) yg286 yk314
def ys315 : ySp := (282, 2, (0, [], [], [], [(0, (2, yc 1004, yc 0)), (1, (0, yc 1, yc 0))], []), [(0, [], [], [], [], [(0, yc 111, yc 0)])], [])
def yx315 : yCx := ([ys307, ys314], ys315.2.2.2.2, yFP, zm282.2.2.1, zm282.2.2.2.1, zc282, 0, ys315.2.2.2.1, [], [])
theorem yw315 : ywf ys315.2.2.1 = true := by decide +kernel
theorem yk315 : yver yx315 ys315.2.2.1 4000 = true := by decide +kernel
theorem yt315 {E : zHp → Prop} (h : yEF E yFP) : yTs E 4 ys315 := yver_s (x := yx315) h (yal_c (yt307 h) (by decide) yw307 (yal_c (yt314 h) (by decide) yw314 (yal_n))) yg282 yk315
def ys316 : ySp := (293, 3, (0, [], [], [], [(0, (0, yc 2, yc 0)), (1, (0, yc 66, yc 0)), (2, (7, yc 0, yc 0))], []), [(0, [], [], [], [], [(0, yc 2, yc 0)])], [])
def yx316 : yCx := ([], ys316.2.2.2.2, yFP, zm293.2.2.1, zm293.2.2.2.1, zc293, 0, ys316.2.2.2.1, [], [])
theorem yw316 : ywf ys316.2.2.1 = true := by decide +kernel
theorem yk316 : yver yx316 ys316.2.2.1 4000 = true := by decide +kernel
theorem yt316 {E : zHp → Prop} (h : yEF E yFP) : yTs E 1 ys316 := yver_s (x := yx316) h (yal_n) yg293 yk316
def ys317 : ySp := (285, 2, (0, [], [], [], [(0, (0, yc 2, yc 0)), (1, (0, yc 66, yc 0))], []), [(0, [], [], [], [], [])], [])
def yx317 : yCx := ([ys316], ys317.2.2.2.2, yFP, zm285.2.2.1, zm285.2.2.2.1, zc285, 0, ys317.2.2.2.1, [], [])
theorem yw317 : ywf ys317.2.2.1 = true := by decide +kernel
theorem yk317 : yver yx317 ys317.2.2.1 4000 = true := by decide +kernel
theorem yt317 {E : zHp → Prop} (h : yEF E yFP) : yTs E 2 ys317 := yver_s (x := yx317) h (yal_c (yt316 h) (by decide) yw316 (yal_n)) yg285 yk317
def ys318 : ySp := (286, 2, (0, [], [], [], [(0, (2, yc 1023, yc 0)), (1, (0, yc 2, yc 0))], []), [(0, [], [], [], [], [(0, yc 111, yc 0)])], [])
def yx318 : yCx := ([ys317], ys318.2.2.2.2, yFP, zm286.2.2.1, zm286.2.2.2.1, zc286, 0, ys318.2.2.2.1, [], [])
theorem yw318 : ywf ys318.2.2.1 = true := by decide +kernel
theorem yk318 : yver yx318 ys318.2.2.1 4000 = true := by decide +kernel
theorem yt318 {E : zHp → Prop} (h : yEF E yFP) : yTs E 3 ys318 := yver_s (x := yx318) h (yal_c (yt317 h) (by decide) yw317 (yal_n)) yg286 yk318
def ys319 : ySp := (282, 2, (0, [], [], [], [(0, (2, yc 1004, yc 0)), (1, (0, yc 2, yc 0))], []), [(0, [], [], [], [], [(0, yc 111, yc 0)])], [])
def yx319 : yCx := ([ys307, ys318], ys319.2.2.2.2, yFP, zm282.2.2.1, zm282.2.2.2.1, zc282, 0, ys319.2.2.2.1, [], [])
theorem yw319 : ywf ys319.2.2.1 = true := by decide +kernel
theorem yk319 : yver yx319 ys319.2.2.1 4000 = true := by decide +kernel
theorem yt319 {E : zHp → Prop} (h : yEF E yFP) : yTs E 4 ys319 := yver_s (x := yx319) h (yal_c (yt307 h) (by decide) yw307 (yal_c (yt318 h) (by decide) yw318 (yal_n))) yg282 yk319
def ys320 : ySp := (293, 3, (0, [], [], [], [(0, (0, yc 3, yc 0)), (1, (0, yc 66, yc 0)), (2, (7, yc 0, yc 0))], []), [(0, [], [], [], [], [(0, yc 3, yc 0)])], [])
def yx320 : yCx := ([], ys320.2.2.2.2, yFP, zm293.2.2.1, zm293.2.2.2.1, zc293, 0, ys320.2.2.2.1, [], [])
theorem yw320 : ywf ys320.2.2.1 = true := by decide +kernel
theorem yk320 : yver yx320 ys320.2.2.1 4000 = true := by decide +kernel
theorem yt320 {E : zHp → Prop} (h : yEF E yFP) : yTs E 1 ys320 := yver_s (x := yx320) h (yal_n) yg293 yk320
def ys321 : ySp := (285, 2, (0, [], [], [], [(0, (0, yc 3, yc 0)), (1, (0, yc 66, yc 0))], []), [(0, [], [], [], [], [])], [])
def yx321 : yCx := ([ys320], ys321.2.2.2.2, yFP, zm285.2.2.1, zm285.2.2.2.1, zc285, 0, ys321.2.2.2.1, [], [])
theorem yw321 : ywf ys321.2.2.1 = true := by decide +kernel
theorem yk321 : yver yx321 ys321.2.2.1 4000 = true := by decide +kernel
theorem yt321 {E : zHp → Prop} (h : yEF E yFP) : yTs E 2 ys321 := yver_s (x := yx321) h (yal_c (yt320 h) (by decide) yw320 (yal_n)) yg285 yk321
def ys322 : ySp := (286, 2, (0, [], [], [], [(0, (2, yc 1023, yc 0)), (1, (0, yc 3, yc 0))], []), [(0, [], [], [], [], [(0, yc 108, yc 0)])], [])
def yx322 : yCx := ([ys321], ys322.2.2.2.2, yFP, zm286.2.2.1, zm286.2.2.2.1, zc286, 0, ys322.2.2.2.1, [], [])
theorem yw322 : ywf ys322.2.2.1 = true := by decide +kernel
theorem yk322 : yver yx322 ys322.2.2.1 4000 = true := by decide +kernel
theorem yt322 {E : zHp → Prop} (h : yEF E yFP) : yTs E 3 ys322 := yver_s (x := yx322) h (yal_c (yt321 h) (by decide) yw321 (yal_n)) yg286 yk322
def ys323 : ySp := (282, 2, (0, [], [], [], [(0, (2, yc 1004, yc 0)), (1, (0, yc 3, yc 0))], []), [(0, [], [], [], [], [(0, yc 108, yc 0)])], [])
def yx323 : yCx := ([ys307, ys322], ys323.2.2.2.2, yFP, zm282.2.2.1, zm282.2.2.2.1, zc282, 0, ys323.2.2.2.1, [], [])
theorem yw323 : ywf ys323.2.2.1 = true := by decide +kernel
theorem yk323 : yver yx323 ys323.2.2.1 4000 = true := by decide +kernel
theorem yt323 {E : zHp → Prop} (h : yEF E yFP) : yTs E 4 ys323 := yver_s (x := yx323) h (yal_c (yt307 h) (by decide) yw307 (yal_c (yt322 h) (by decide) yw322 (yal_n))) yg282 yk323
def ys324 : ySp := (293, 3, (0, [], [], [], [(0, (0, yc 4, yc 0)), (1, (0, yc 66, yc 0)), (2, (7, yc 0, yc 0))], []), [(0, [], [], [], [], [(0, yc 4, yc 0)])], [])
def yx324 : yCx := ([], ys324.2.2.2.2, yFP, zm293.2.2.1, zm293.2.2.2.1, zc293, 0, ys324.2.2.2.1, [], [])
theorem yw324 : ywf ys324.2.2.1 = true := by decide +kernel
theorem yk324 : yver yx324 ys324.2.2.1 4000 = true := by decide +kernel
theorem yt324 {E : zHp → Prop} (h : yEF E yFP) : yTs E 1 ys324 := yver_s (x := yx324) h (yal_n) yg293 yk324
def ys325 : ySp := (285, 2, (0, [], [], [], [(0, (0, yc 4, yc 0)), (1, (0, yc 66, yc 0))], []), [(0, [], [], [], [], [])], [])
def yx325 : yCx := ([ys324], ys325.2.2.2.2, yFP, zm285.2.2.1, zm285.2.2.2.1, zc285, 0, ys325.2.2.2.1, [], [])
theorem yw325 : ywf ys325.2.2.1 = true := by decide +kernel
theorem yk325 : yver yx325 ys325.2.2.1 4000 = true := by decide +kernel
theorem yt325 {E : zHp → Prop} (h : yEF E yFP) : yTs E 2 ys325 := yver_s (x := yx325) h (yal_c (yt324 h) (by decide) yw324 (yal_n)) yg285 yk325
def ys326 : ySp := (286, 2, (0, [], [], [], [(0, (2, yc 1023, yc 0)), (1, (0, yc 4, yc 0))], []), [(0, [], [], [], [], [(0, yc 32, yc 0)])], [])
def yx326 : yCx := ([ys325], ys326.2.2.2.2, yFP, zm286.2.2.1, zm286.2.2.2.1, zc286, 0, ys326.2.2.2.1, [], [])
theorem yw326 : ywf ys326.2.2.1 = true := by decide +kernel
theorem yk326 : yver yx326 ys326.2.2.1 4000 = true := by decide +kernel
theorem yt326 {E : zHp → Prop} (h : yEF E yFP) : yTs E 3 ys326 := yver_s (x := yx326) h (yal_c (yt325 h) (by decide) yw325 (yal_n)) yg286 yk326
def ys327 : ySp := (282, 2, (0, [], [], [], [(0, (2, yc 1004, yc 0)), (1, (0, yc 4, yc 0))], []), [(0, [], [], [], [], [(0, yc 32, yc 0)])], [])
def yx327 : yCx := ([ys307, ys326], ys327.2.2.2.2, yFP, zm282.2.2.1, zm282.2.2.2.1, zc282, 0, ys327.2.2.2.1, [], [])
theorem yw327 : ywf ys327.2.2.1 = true := by decide +kernel
theorem yk327 : yver yx327 ys327.2.2.1 4000 = true := by decide +kernel
theorem yt327 {E : zHp → Prop} (h : yEF E yFP) : yTs E 4 ys327 := yver_s (x := yx327) h (yal_c (yt307 h) (by decide) yw307 (yal_c (yt326 h) (by decide) yw326 (yal_n))) yg282 yk327
def ys328 : ySp := (293, 3, (0, [], [], [], [(0, (0, yc 5, yc 0)), (1, (0, yc 66, yc 0)), (2, (7, yc 0, yc 0))], []), [(0, [], [], [], [], [(0, yc 5, yc 0)])], [])
def yx328 : yCx := ([], ys328.2.2.2.2, yFP, zm293.2.2.1, zm293.2.2.2.1, zc293, 0, ys328.2.2.2.1, [], [])
theorem yw328 : ywf ys328.2.2.1 = true := by decide +kernel
theorem yk328 : yver yx328 ys328.2.2.1 4000 = true := by decide +kernel
theorem yt328 {E : zHp → Prop} (h : yEF E yFP) : yTs E 1 ys328 := yver_s (x := yx328) h (yal_n) yg293 yk328
def ys329 : ySp := (285, 2, (0, [], [], [], [(0, (0, yc 5, yc 0)), (1, (0, yc 66, yc 0))], []), [(0, [], [], [], [], [])], [])
def yx329 : yCx := ([ys328], ys329.2.2.2.2, yFP, zm285.2.2.1, zm285.2.2.2.1, zc285, 0, ys329.2.2.2.1, [], [])
theorem yw329 : ywf ys329.2.2.1 = true := by decide +kernel
theorem yk329 : yver yx329 ys329.2.2.1 4000 = true := by decide +kernel
theorem yt329 {E : zHp → Prop} (h : yEF E yFP) : yTs E 2 ys329 := yver_s (x := yx329) h (yal_c (yt328 h) (by decide) yw328 (yal_n)) yg285 yk329
def ys330 : ySp := (286, 2, (0, [], [], [], [(0, (2, yc 1023, yc 0)), (1, (0, yc 5, yc 0))], []), [(0, [], [], [], [], [(0, yc 107, yc 0)])], [])
def yx330 : yCx := ([ys329], ys330.2.2.2.2, yFP, zm286.2.2.1, zm286.2.2.2.1, zc286, 0, ys330.2.2.2.1, [], [])
theorem yw330 : ywf ys330.2.2.1 = true := by decide +kernel
theorem yk330 : yver yx330 ys330.2.2.1 4000 = true := by decide +kernel
theorem yt330 {E : zHp → Prop} (h : yEF E yFP) : yTs E 3 ys330 := yver_s (x := yx330) h (yal_c (yt329 h) (by decide) yw329 (yal_n)) yg286 yk330
def ys331 : ySp := (282, 2, (0, [], [], [], [(0, (2, yc 1004, yc 0)), (1, (0, yc 5, yc 0))], []), [(0, [], [], [], [], [(0, yc 107, yc 0)])], [])
def yx331 : yCx := ([ys307, ys330], ys331.2.2.2.2, yFP, zm282.2.2.1, zm282.2.2.2.1, zc282, 0, ys331.2.2.2.1, [], [])
theorem yw331 : ywf ys331.2.2.1 = true := by decide +kernel
theorem yk331 : yver yx331 ys331.2.2.1 4000 = true := by decide +kernel
theorem yt331 {E : zHp → Prop} (h : yEF E yFP) : yTs E 4 ys331 := yver_s (x := yx331) h (yal_c (yt307 h) (by decide) yw307 (yal_c (yt330 h) (by decide) yw330 (yal_n))) yg282 yk331
def ys332 : ySp := (293, 3, (0, [], [], [], [(0, (0, yc 6, yc 0)), (1, (0, yc 66, yc 0)), (2, (7, yc 0, yc 0))], []), [(0, [], [], [], [], [(0, yc 6, yc 0)])], [])
def yx332 : yCx := ([], ys332.2.2.2.2, yFP, zm293.2.2.1, zm293.2.2.2.1, zc293, 0, ys332.2.2.2.1, [], [])
theorem yw332 : ywf ys332.2.2.1 = true := by decide +kernel
theorem yk332 : yver yx332 ys332.2.2.1 4000 = true := by decide +kernel
theorem yt332 {E : zHp → Prop} (h : yEF E yFP) : yTs E 1 ys332 := yver_s (x := yx332) h (yal_n) yg293 yk332
def ys333 : ySp := (285, 2, (0, [], [], [], [(0, (0, yc 6, yc 0)), (1, (0, yc 66, yc 0))], []), [(0, [], [], [], [], [])], [])
def yx333 : yCx := ([ys332], ys333.2.2.2.2, yFP, zm285.2.2.1, zm285.2.2.2.1, zc285, 0, ys333.2.2.2.1, [], [])
theorem yw333 : ywf ys333.2.2.1 = true := by decide +kernel
theorem yk333 : yver yx333 ys333.2.2.1 4000 = true := by decide +kernel
theorem yt333 {E : zHp → Prop} (h : yEF E yFP) : yTs E 2 ys333 := yver_s (x := yx333) h (yal_c (yt332 h) (by decide) yw332 (yal_n)) yg285 yk333
def ys334 : ySp := (286, 2, (0, [], [], [], [(0, (2, yc 1023, yc 0)), (1, (0, yc 6, yc 0))], []), [(0, [], [], [], [], [(0, yc 105, yc 0)])], [])
def yx334 : yCx := ([ys333], ys334.2.2.2.2, yFP, zm286.2.2.1, zm286.2.2.2.1, zc286, 0, ys334.2.2.2.1, [], [])
theorem yw334 : ywf ys334.2.2.1 = true := by decide +kernel
theorem yk334 : yver yx334 ys334.2.2.1 4000 = true := by decide +kernel
theorem yt334 {E : zHp → Prop} (h : yEF E yFP) : yTs E 3 ys334 := yver_s (x := yx334) h (yal_c (yt333 h) (by decide) yw333 (yal_n)) yg286 yk334
def ys335 : ySp := (282, 2, (0, [], [], [], [(0, (2, yc 1004, yc 0)), (1, (0, yc 6, yc 0))], []), [(0, [], [], [], [], [(0, yc 105, yc 0)])], [])
def yx335 : yCx := ([ys307, ys334], ys335.2.2.2.2, yFP, zm282.2.2.1, zm282.2.2.2.1, zc282, 0, ys335.2.2.2.1, [], [])
theorem yw335 : ywf ys335.2.2.1 = true := by decide +kernel
theorem yk335 : yver yx335 ys335.2.2.1 4000 = true := by decide +kernel
theorem yt335 {E : zHp → Prop} (h : yEF E yFP) : yTs E 4 ys335 := yver_s (x := yx335) h (yal_c (yt307 h) (by decide) yw307 (yal_c (yt334 h) (by decide) yw334 (yal_n))) yg282 yk335
def ys336 : ySp := (293, 3, (0, [], [], [], [(0, (0, yc 7, yc 0)), (1, (0, yc 66, yc 0)), (2, (7, yc 0, yc 0))], []), [(0, [], [], [], [], [(0, yc 7, yc 0)])], [])
def yx336 : yCx := ([], ys336.2.2.2.2, yFP, zm293.2.2.1, zm293.2.2.2.1, zc293, 0, ys336.2.2.2.1, [], [])
theorem yw336 : ywf ys336.2.2.1 = true := by decide +kernel
theorem yk336 : yver yx336 ys336.2.2.1 4000 = true := by decide +kernel
theorem yt336 {E : zHp → Prop} (h : yEF E yFP) : yTs E 1 ys336 := yver_s (x := yx336) h (yal_n) yg293 yk336
def ys337 : ySp := (285, 2, (0, [], [], [], [(0, (0, yc 7, yc 0)), (1, (0, yc 66, yc 0))], []), [(0, [], [], [], [], [])], [])
def yx337 : yCx := ([ys336], ys337.2.2.2.2, yFP, zm285.2.2.1, zm285.2.2.2.1, zc285, 0, ys337.2.2.2.1, [], [])
theorem yw337 : ywf ys337.2.2.1 = true := by decide +kernel
theorem yk337 : yver yx337 ys337.2.2.1 4000 = true := by decide +kernel
theorem yt337 {E : zHp → Prop} (h : yEF E yFP) : yTs E 2 ys337 := yver_s (x := yx337) h (yal_c (yt336 h) (by decide) yw336 (yal_n)) yg285 yk337
def ys338 : ySp := (286, 2, (0, [], [], [], [(0, (2, yc 1023, yc 0)), (1, (0, yc 7, yc 0))], []), [(0, [], [], [], [], [(0, yc 110, yc 0)])], [])
def yx338 : yCx := ([ys337], ys338.2.2.2.2, yFP, zm286.2.2.1, zm286.2.2.2.1, zc286, 0, ys338.2.2.2.1, [], [])
theorem yw338 : ywf ys338.2.2.1 = true := by decide +kernel
theorem yk338 : yver yx338 ys338.2.2.1 4000 = true := by decide +kernel
theorem yt338 {E : zHp → Prop} (h : yEF E yFP) : yTs E 3 ys338 := yver_s (x := yx338) h (yal_c (yt337 h) (by decide) yw337 (yal_n)) yg286 yk338
def ys339 : ySp := (282, 2, (0, [], [], [], [(0, (2, yc 1004, yc 0)), (1, (0, yc 7, yc 0))], []), [(0, [], [], [], [], [(0, yc 110, yc 0)])], [])
def yx339 : yCx := ([ys307, ys338], ys339.2.2.2.2, yFP, zm282.2.2.1, zm282.2.2.2.1, zc282, 0, ys339.2.2.2.1, [], [])
theorem yw339 : ywf ys339.2.2.1 = true := by decide +kernel
theorem yk339 : yver yx339 ys339.2.2.1 4000 = true := by decide +kernel
theorem yt339 {E : zHp → Prop} (h : yEF E yFP) : yTs E 4 ys339 := yver_s (x := yx339) h (yal_c (yt307 h) (by decide) yw307 (yal_c (yt338 h) (by decide) yw338 (yal_n))) yg282 yk339
def ys340 : ySp := (293, 3, (0, [], [], [], [(0, (0, yc 8, yc 0)), (1, (0, yc 66, yc 0)), (2, (7, yc 0, yc 0))], []), [(0, [], [], [], [], [(0, yc 8, yc 0)])], [])
def yx340 : yCx := ([], ys340.2.2.2.2, yFP, zm293.2.2.1, zm293.2.2.2.1, zc293, 0, ys340.2.2.2.1, [], [])
theorem yw340 : ywf ys340.2.2.1 = true := by decide +kernel
theorem yk340 : yver yx340 ys340.2.2.1 4000 = true := by decide +kernel
theorem yt340 {E : zHp → Prop} (h : yEF E yFP) : yTs E 1 ys340 := yver_s (x := yx340) h (yal_n) yg293 yk340
def ys341 : ySp := (285, 2, (0, [], [], [], [(0, (0, yc 8, yc 0)), (1, (0, yc 66, yc 0))], []), [(0, [], [], [], [], [])], [])
def yx341 : yCx := ([ys340], ys341.2.2.2.2, yFP, zm285.2.2.1, zm285.2.2.2.1, zc285, 0, ys341.2.2.2.1, [], [])
theorem yw341 : ywf ys341.2.2.1 = true := by decide +kernel
theorem yk341 : yver yx341 ys341.2.2.1 4000 = true := by decide +kernel
theorem yt341 {E : zHp → Prop} (h : yEF E yFP) : yTs E 2 ys341 := yver_s (x := yx341) h (yal_c (yt340 h) (by decide) yw340 (yal_n)) yg285 yk341
def ys342 : ySp := (286, 2, (0, [], [], [], [(0, (2, yc 1023, yc 0)), (1, (0, yc 8, yc 0))], []), [(0, [], [], [], [], [(0, yc 100, yc 0)])], [])
def yx342 : yCx := ([ys341], ys342.2.2.2.2, yFP, zm286.2.2.1, zm286.2.2.2.1, zc286, 0, ys342.2.2.2.1, [], [])
theorem yw342 : ywf ys342.2.2.1 = true := by decide +kernel
theorem yk342 : yver yx342 ys342.2.2.1 4000 = true := by decide +kernel
theorem yt342 {E : zHp → Prop} (h : yEF E yFP) : yTs E 3 ys342 := yver_s (x := yx342) h (yal_c (yt341 h) (by decide) yw341 (yal_n)) yg286 yk342
def ys343 : ySp := (282, 2, (0, [], [], [], [(0, (2, yc 1004, yc 0)), (1, (0, yc 8, yc 0))], []), [(0, [], [], [], [], [(0, yc 100, yc 0)])], [])
def yx343 : yCx := ([ys307, ys342], ys343.2.2.2.2, yFP, zm282.2.2.1, zm282.2.2.2.1, zc282, 0, ys343.2.2.2.1, [], [])
theorem yw343 : ywf ys343.2.2.1 = true := by decide +kernel
theorem yk343 : yver yx343 ys343.2.2.1 4000 = true := by decide +kernel
theorem yt343 {E : zHp → Prop} (h : yEF E yFP) : yTs E 4 ys343 := yver_s (x := yx343) h (yal_c (yt307 h) (by decide) yw307 (yal_c (yt342 h) (by decide) yw342 (yal_n))) yg282 yk343
def ys344 : ySp := (293, 3, (0, [], [], [], [(0, (0, yc 9, yc 0)), (1, (0, yc 66, yc 0)), (2, (7, yc 0, yc 0))], []), [(0, [], [], [], [], [(0, yc 9, yc 0)])], [])
def yx344 : yCx := ([], ys344.2.2.2.2, yFP, zm293.2.2.1, zm293.2.2.2.1, zc293, 0, ys344.2.2.2.1, [], [])
theorem yw344 : ywf ys344.2.2.1 = true := by decide +kernel
theorem yk344 : yver yx344 ys344.2.2.1 4000 = true := by decide +kernel
theorem yt344 {E : zHp → Prop} (h : yEF E yFP) : yTs E 1 ys344 := yver_s (x := yx344) h (yal_n) yg293 yk344
def ys345 : ySp := (285, 2, (0, [], [], [], [(0, (0, yc 9, yc 0)), (1, (0, yc 66, yc 0))], []), [(0, [], [], [], [], [])], [])
def yx345 : yCx := ([ys344], ys345.2.2.2.2, yFP, zm285.2.2.1, zm285.2.2.2.1, zc285, 0, ys345.2.2.2.1, [], [])
theorem yw345 : ywf ys345.2.2.1 = true := by decide +kernel
theorem yk345 : yver yx345 ys345.2.2.1 4000 = true := by decide +kernel
theorem yt345 {E : zHp → Prop} (h : yEF E yFP) : yTs E 2 ys345 := yver_s (x := yx345) h (yal_c (yt344 h) (by decide) yw344 (yal_n)) yg285 yk345
def ys346 : ySp := (286, 2, (0, [], [], [], [(0, (2, yc 1023, yc 0)), (1, (0, yc 9, yc 0))], []), [(0, [], [], [], [], [(0, yc 32, yc 0)])], [])
def yx346 : yCx := ([ys345], ys346.2.2.2.2, yFP, zm286.2.2.1, zm286.2.2.2.1, zc286, 0, ys346.2.2.2.1, [], [])
theorem yw346 : ywf ys346.2.2.1 = true := by decide +kernel
theorem yk346 : yver yx346 ys346.2.2.1 4000 = true := by decide +kernel
theorem yt346 {E : zHp → Prop} (h : yEF E yFP) : yTs E 3 ys346 := yver_s (x := yx346) h (yal_c (yt345 h) (by decide) yw345 (yal_n)) yg286 yk346
def ys347 : ySp := (282, 2, (0, [], [], [], [(0, (2, yc 1004, yc 0)), (1, (0, yc 9, yc 0))], []), [(0, [], [], [], [], [(0, yc 32, yc 0)])], [])
def yx347 : yCx := ([ys307, ys346], ys347.2.2.2.2, yFP, zm282.2.2.1, zm282.2.2.2.1, zc282, 0, ys347.2.2.2.1, [], [])
theorem yw347 : ywf ys347.2.2.1 = true := by decide +kernel
theorem yk347 : yver yx347 ys347.2.2.1 4000 = true := by decide +kernel
theorem yt347 {E : zHp → Prop} (h : yEF E yFP) : yTs E 4 ys347 := yver_s (x := yx347) h (yal_c (yt307 h) (by decide) yw307 (yal_c (yt346 h) (by decide) yw346 (yal_n))) yg282 yk347
def ys348 : ySp := (293, 3, (0, [], [], [], [(0, (0, yc 10, yc 0)), (1, (0, yc 66, yc 0)), (2, (7, yc 0, yc 0))], []), [(0, [], [], [], [], [(0, yc 10, yc 0)])], [])
def yx348 : yCx := ([], ys348.2.2.2.2, yFP, zm293.2.2.1, zm293.2.2.2.1, zc293, 0, ys348.2.2.2.1, [], [])
theorem yw348 : ywf ys348.2.2.1 = true := by decide +kernel
theorem yk348 : yver yx348 ys348.2.2.1 4000 = true := by decide +kernel
theorem yt348 {E : zHp → Prop} (h : yEF E yFP) : yTs E 1 ys348 := yver_s (x := yx348) h (yal_n) yg293 yk348
def ys349 : ySp := (285, 2, (0, [], [], [], [(0, (0, yc 10, yc 0)), (1, (0, yc 66, yc 0))], []), [(0, [], [], [], [], [])], [])
def yx349 : yCx := ([ys348], ys349.2.2.2.2, yFP, zm285.2.2.1, zm285.2.2.2.1, zc285, 0, ys349.2.2.2.1, [], [])
theorem yw349 : ywf ys349.2.2.1 = true := by decide +kernel
theorem yk349 : yver yx349 ys349.2.2.1 4000 = true := by decide +kernel
theorem yt349 {E : zHp → Prop} (h : yEF E yFP) : yTs E 2 ys349 := yver_s (x := yx349) h (yal_c (yt348 h) (by decide) yw348 (yal_n)) yg285 yk349
def ys350 : ySp := (286, 2, (0, [], [], [], [(0, (2, yc 1023, yc 0)), (1, (0, yc 10, yc 0))], []), [(0, [], [], [], [], [(0, yc 111, yc 0)])], [])
def yx350 : yCx := ([ys349], ys350.2.2.2.2, yFP, zm286.2.2.1, zm286.2.2.2.1, zc286, 0, ys350.2.2.2.1, [], [])
theorem yw350 : ywf ys350.2.2.1 = true := by decide +kernel
theorem yk350 : yver yx350 ys350.2.2.1 4000 = true := by decide +kernel
theorem yt350 {E : zHp → Prop} (h : yEF E yFP) : yTs E 3 ys350 := yver_s (x := yx350) h (yal_c (yt349 h) (by decide) yw349 (yal_n)) yg286 yk350
def ys351 : ySp := (282, 2, (0, [], [], [], [(0, (2, yc 1004, yc 0)), (1, (0, yc 10, yc 0))], []), [(0, [], [], [], [], [(0, yc 111, yc 0)])], [])
def yx351 : yCx := ([ys307, ys350], ys351.2.2.2.2, yFP, zm282.2.2.1, zm282.2.2.2.1, zc282, 0, ys351.2.2.2.1, [], [])
theorem yw351 : ywf ys351.2.2.1 = true := by decide +kernel
theorem yk351 : yver yx351 ys351.2.2.1 4000 = true := by decide +kernel
theorem yt351 {E : zHp → Prop} (h : yEF E yFP) : yTs E 4 ys351 := yver_s (x := yx351) h (yal_c (yt307 h) (by decide) yw307 (yal_c (yt350 h) (by decide) yw350 (yal_n))) yg282 yk351
def ys352 : ySp := (293, 3, (0, [], [], [], [(0, (0, yc 11, yc 0)), (1, (0, yc 66, yc 0)), (2, (7, yc 0, yc 0))], []), [(0, [], [], [], [], [(0, yc 11, yc 0)])], [])
def yx352 : yCx := ([], ys352.2.2.2.2, yFP, zm293.2.2.1, zm293.2.2.2.1, zc293, 0, ys352.2.2.2.1, [], [])
theorem yw352 : ywf ys352.2.2.1 = true := by decide +kernel
theorem yk352 : yver yx352 ys352.2.2.1 4000 = true := by decide +kernel
theorem yt352 {E : zHp → Prop} (h : yEF E yFP) : yTs E 1 ys352 := yver_s (x := yx352) h (yal_n) yg293 yk352
def ys353 : ySp := (285, 2, (0, [], [], [], [(0, (0, yc 11, yc 0)), (1, (0, yc 66, yc 0))], []), [(0, [], [], [], [], [])], [])
def yx353 : yCx := ([ys352], ys353.2.2.2.2, yFP, zm285.2.2.1, zm285.2.2.2.1, zc285, 0, ys353.2.2.2.1, [], [])
theorem yw353 : ywf ys353.2.2.1 = true := by decide +kernel
theorem yk353 : yver yx353 ys353.2.2.1 4000 = true := by decide +kernel
theorem yt353 {E : zHp → Prop} (h : yEF E yFP) : yTs E 2 ys353 := yver_s (x := yx353) h (yal_c (yt352 h) (by decide) yw352 (yal_n)) yg285 yk353
def ys354 : ySp := (286, 2, (0, [], [], [], [(0, (2, yc 1023, yc 0)), (1, (0, yc 11, yc 0))], []), [(0, [], [], [], [], [(0, yc 119, yc 0)])], [])
def yx354 : yCx := ([ys353], ys354.2.2.2.2, yFP, zm286.2.2.1, zm286.2.2.2.1, zc286, 0, ys354.2.2.2.1, [], [])
theorem yw354 : ywf ys354.2.2.1 = true := by decide +kernel
theorem yk354 : yver yx354 ys354.2.2.1 4000 = true := by decide +kernel
theorem yt354 {E : zHp → Prop} (h : yEF E yFP) : yTs E 3 ys354 := yver_s (x := yx354) h (yal_c (yt353 h) (by decide) yw353 (yal_n)) yg286 yk354
def ys355 : ySp := (282, 2, (0, [], [], [], [(0, (2, yc 1004, yc 0)), (1, (0, yc 11, yc 0))], []), [(0, [], [], [], [], [(0, yc 119, yc 0)])], [])
def yx355 : yCx := ([ys307, ys354], ys355.2.2.2.2, yFP, zm282.2.2.1, zm282.2.2.2.1, zc282, 0, ys355.2.2.2.1, [], [])
theorem yw355 : ywf ys355.2.2.1 = true := by decide +kernel
theorem yk355 : yver yx355 ys355.2.2.1 4000 = true := by decide +kernel
theorem yt355 {E : zHp → Prop} (h : yEF E yFP) : yTs E 4 ys355 := yver_s (x := yx355) h (yal_c (yt307 h) (by decide) yw307 (yal_c (yt354 h) (by decide) yw354 (yal_n))) yg282 yk355
def ys356 : ySp := (293, 3, (0, [], [], [], [(0, (0, yc 12, yc 0)), (1, (0, yc 66, yc 0)), (2, (7, yc 0, yc 0))], []), [(0, [], [], [], [], [(0, yc 12, yc 0)])], [])
def yx356 : yCx := ([], ys356.2.2.2.2, yFP, zm293.2.2.1, zm293.2.2.2.1, zc293, 0, ys356.2.2.2.1, [], [])
theorem yw356 : ywf ys356.2.2.1 = true := by decide +kernel
theorem yk356 : yver yx356 ys356.2.2.1 4000 = true := by decide +kernel
theorem yt356 {E : zHp → Prop} (h : yEF E yFP) : yTs E 1 ys356 := yver_s (x := yx356) h (yal_n) yg293 yk356
def ys357 : ySp := (285, 2, (0, [], [], [], [(0, (0, yc 12, yc 0)), (1, (0, yc 66, yc 0))], []), [(0, [], [], [], [], [])], [])
def yx357 : yCx := ([ys356], ys357.2.2.2.2, yFP, zm285.2.2.1, zm285.2.2.2.1, zc285, 0, ys357.2.2.2.1, [], [])
theorem yw357 : ywf ys357.2.2.1 = true := by decide +kernel
theorem yk357 : yver yx357 ys357.2.2.1 4000 = true := by decide +kernel
theorem yt357 {E : zHp → Prop} (h : yEF E yFP) : yTs E 2 ys357 := yver_s (x := yx357) h (yal_c (yt356 h) (by decide) yw356 (yal_n)) yg285 yk357
def ys358 : ySp := (286, 2, (0, [], [], [], [(0, (2, yc 1023, yc 0)), (1, (0, yc 12, yc 0))], []), [(0, [], [], [], [], [(0, yc 110, yc 0)])], [])
def yx358 : yCx := ([ys357], ys358.2.2.2.2, yFP, zm286.2.2.1, zm286.2.2.2.1, zc286, 0, ys358.2.2.2.1, [], [])
theorem yw358 : ywf ys358.2.2.1 = true := by decide +kernel
theorem yk358 : yver yx358 ys358.2.2.1 4000 = true := by decide +kernel
theorem yt358 {E : zHp → Prop} (h : yEF E yFP) : yTs E 3 ys358 := yver_s (x := yx358) h (yal_c (yt357 h) (by decide) yw357 (yal_n)) yg286 yk358
def ys359 : ySp := (282, 2, (0, [], [], [], [(0, (2, yc 1004, yc 0)), (1, (0, yc 12, yc 0))], []), [(0, [], [], [], [], [(0, yc 110, yc 0)])], [])
def yx359 : yCx := ([ys307, ys358], ys359.2.2.2.2, yFP, zm282.2.2.1, zm282.2.2.2.1, zc282, 0, ys359.2.2.2.1, [], [])
theorem yw359 : ywf ys359.2.2.1 = true := by decide +kernel
theorem yk359 : yver yx359 ys359.2.2.1 4000 = true := by decide +kernel
theorem yt359 {E : zHp → Prop} (h : yEF E yFP) : yTs E 4 ys359 := yver_s (x := yx359) h (yal_c (yt307 h) (by decide) yw307 (yal_c (yt358 h) (by decide) yw358 (yal_n))) yg282 yk359
def ys360 : ySp := (293, 3, (0, [], [], [], [(0, (0, yc 13, yc 0)), (1, (0, yc 66, yc 0)), (2, (7, yc 0, yc 0))], []), [(0, [], [], [], [], [(0, yc 13, yc 0)])], [])
def yx360 : yCx := ([], ys360.2.2.2.2, yFP, zm293.2.2.1, zm293.2.2.2.1, zc293, 0, ys360.2.2.2.1, [], [])
theorem yw360 : ywf ys360.2.2.1 = true := by decide +kernel
theorem yk360 : yver yx360 ys360.2.2.1 4000 = true := by decide +kernel
theorem yt360 {E : zHp → Prop} (h : yEF E yFP) : yTs E 1 ys360 := yver_s (x := yx360) h (yal_n) yg293 yk360
def ys361 : ySp := (285, 2, (0, [], [], [], [(0, (0, yc 13, yc 0)), (1, (0, yc 66, yc 0))], []), [(0, [], [], [], [], [])], [])
def yx361 : yCx := ([ys360], ys361.2.2.2.2, yFP, zm285.2.2.1, zm285.2.2.2.1, zc285, 0, ys361.2.2.2.1, [], [])
theorem yw361 : ywf ys361.2.2.1 = true := by decide +kernel
theorem yk361 : yver yx361 ys361.2.2.1 4000 = true := by decide +kernel
theorem yt361 {E : zHp → Prop} (h : yEF E yFP) : yTs E 2 ys361 := yver_s (x := yx361) h (yal_c (yt360 h) (by decide) yw360 (yal_n)) yg285 yk361
def ys362 : ySp := (286, 2, (0, [], [], [], [(0, (2, yc 1023, yc 0)), (1, (0, yc 13, yc 0))], []), [(0, [], [], [], [], [(0, yc 101, yc 0)])], [])
def yx362 : yCx := ([ys361], ys362.2.2.2.2, yFP, zm286.2.2.1, zm286.2.2.2.1, zc286, 0, ys362.2.2.2.1, [], [])
theorem yw362 : ywf ys362.2.2.1 = true := by decide +kernel
theorem yk362 : yver yx362 ys362.2.2.1 4000 = true := by decide +kernel
theorem yt362 {E : zHp → Prop} (h : yEF E yFP) : yTs E 3 ys362 := yver_s (x := yx362) h (yal_c (yt361 h) (by decide) yw361 (yal_n)) yg286 yk362
def ys363 : ySp := (282, 2, (0, [], [], [], [(0, (2, yc 1004, yc 0)), (1, (0, yc 13, yc 0))], []), [(0, [], [], [], [], [(0, yc 101, yc 0)])], [])
def yx363 : yCx := ([ys307, ys362], ys363.2.2.2.2, yFP, zm282.2.2.1, zm282.2.2.2.1, zc282, 0, ys363.2.2.2.1, [], [])
theorem yw363 : ywf ys363.2.2.1 = true := by decide +kernel
theorem yk363 : yver yx363 ys363.2.2.1 4000 = true := by decide +kernel
theorem yt363 {E : zHp → Prop} (h : yEF E yFP) : yTs E 4 ys363 := yver_s (x := yx363) h (yal_c (yt307 h) (by decide) yw307 (yal_c (yt362 h) (by decide) yw362 (yal_n))) yg282 yk363
def ys364 : ySp := (293, 3, (0, [], [], [], [(0, (0, yc 14, yc 0)), (1, (0, yc 66, yc 0)), (2, (7, yc 0, yc 0))], []), [(0, [], [], [], [], [(0, yc 14, yc 0)])], [])
def yx364 : yCx := ([], ys364.2.2.2.2, yFP, zm293.2.2.1, zm293.2.2.2.1, zc293, 0, ys364.2.2.2.1, [], [])
theorem yw364 : ywf ys364.2.2.1 = true := by decide +kernel
theorem yk364 : yver yx364 ys364.2.2.1 4000 = true := by decide +kernel
theorem yt364 {E : zHp → Prop} (h : yEF E yFP) : yTs E 1 ys364 := yver_s (x := yx364) h (yal_n) yg293 yk364
def ys365 : ySp := (285, 2, (0, [], [], [], [(0, (0, yc 14, yc 0)), (1, (0, yc 66, yc 0))], []), [(0, [], [], [], [], [])], [])
def yx365 : yCx := ([ys364], ys365.2.2.2.2, yFP, zm285.2.2.1, zm285.2.2.2.1, zc285, 0, ys365.2.2.2.1, [], [])
theorem yw365 : ywf ys365.2.2.1 = true := by decide +kernel
theorem yk365 : yver yx365 ys365.2.2.1 4000 = true := by decide +kernel
theorem yt365 {E : zHp → Prop} (h : yEF E yFP) : yTs E 2 ys365 := yver_s (x := yx365) h (yal_c (yt364 h) (by decide) yw364 (yal_n)) yg285 yk365
def ys366 : ySp := (286, 2, (0, [], [], [], [(0, (2, yc 1023, yc 0)), (1, (0, yc 14, yc 0))], []), [(0, [], [], [], [], [(0, yc 114, yc 0)])], [])
def yx366 : yCx := ([ys365], ys366.2.2.2.2, yFP, zm286.2.2.1, zm286.2.2.2.1, zc286, 0, ys366.2.2.2.1, [], [])
theorem yw366 : ywf ys366.2.2.1 = true := by decide +kernel
theorem yk366 : yver yx366 ys366.2.2.1 4000 = true := by decide +kernel
theorem yt366 {E : zHp → Prop} (h : yEF E yFP) : yTs E 3 ys366 := yver_s (x := yx366) h (yal_c (yt365 h) (by decide) yw365 (yal_n)) yg286 yk366
def ys367 : ySp := (282, 2, (0, [], [], [], [(0, (2, yc 1004, yc 0)), (1, (0, yc 14, yc 0))], []), [(0, [], [], [], [], [(0, yc 114, yc 0)])], [])
def yx367 : yCx := ([ys307, ys366], ys367.2.2.2.2, yFP, zm282.2.2.1, zm282.2.2.2.1, zc282, 0, ys367.2.2.2.1, [], [])
theorem yw367 : ywf ys367.2.2.1 = true := by decide +kernel
theorem yk367 : yver yx367 ys367.2.2.1 4000 = true := by decide +kernel
theorem yt367 {E : zHp → Prop} (h : yEF E yFP) : yTs E 4 ys367 := yver_s (x := yx367) h (yal_c (yt307 h) (by decide) yw307 (yal_c (yt366 h) (by decide) yw366 (yal_n))) yg282 yk367
def ys368 : ySp := (293, 3, (0, [], [], [], [(0, (0, yc 15, yc 0)), (1, (0, yc 66, yc 0)), (2, (7, yc 0, yc 0))], []), [(0, [], [], [], [], [(0, yc 15, yc 0)])], [])
def yx368 : yCx := ([], ys368.2.2.2.2, yFP, zm293.2.2.1, zm293.2.2.2.1, zc293, 0, ys368.2.2.2.1, [], [])
theorem yw368 : ywf ys368.2.2.1 = true := by decide +kernel
theorem yk368 : yver yx368 ys368.2.2.1 4000 = true := by decide +kernel
theorem yt368 {E : zHp → Prop} (h : yEF E yFP) : yTs E 1 ys368 := yver_s (x := yx368) h (yal_n) yg293 yk368
def ys369 : ySp := (285, 2, (0, [], [], [], [(0, (0, yc 15, yc 0)), (1, (0, yc 66, yc 0))], []), [(0, [], [], [], [], [])], [])
def yx369 : yCx := ([ys368], ys369.2.2.2.2, yFP, zm285.2.2.1, zm285.2.2.2.1, zc285, 0, ys369.2.2.2.1, [], [])
theorem yw369 : ywf ys369.2.2.1 = true := by decide +kernel
theorem yk369 : yver yx369 ys369.2.2.1 4000 = true := by decide +kernel
theorem yt369 {E : zHp → Prop} (h : yEF E yFP) : yTs E 2 ys369 := yver_s (x := yx369) h (yal_c (yt368 h) (by decide) yw368 (yal_n)) yg285 yk369
def ys370 : ySp := (286, 2, (0, [], [], [], [(0, (2, yc 1023, yc 0)), (1, (0, yc 15, yc 0))], []), [(0, [], [], [], [], [(0, yc 32, yc 0)])], [])
def yx370 : yCx := ([ys369], ys370.2.2.2.2, yFP, zm286.2.2.1, zm286.2.2.2.1, zc286, 0, ys370.2.2.2.1, [], [])
theorem yw370 : ywf ys370.2.2.1 = true := by decide +kernel
theorem yk370 : yver yx370 ys370.2.2.1 4000 = true := by decide +kernel
theorem yt370 {E : zHp → Prop} (h : yEF E yFP) : yTs E 3 ys370 := yver_s (x := yx370) h (yal_c (yt369 h) (by decide) yw369 (yal_n)) yg286 yk370
