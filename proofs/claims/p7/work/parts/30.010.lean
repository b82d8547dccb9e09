def ys247 : ySp := (53, 1, (1, [(0, 0, 2147483647)], [], [(yc 2, yc 0, (2, yc 1, yc 0)), (yc 2, yc 4, (0, (1, 0, 0), yc 0))], [(0, (2, yc 2, yc 0))], []), [(3, [(1, 0, 400), (2, 0, 400)], [([(1, 1), ((-1), 2)], 0)], [(yc 2, yc 0, (2, yc 1, yc 0)), (yc 2, yc 4, (0, (1, 0, 0), yc 0)), (yc 2, yc 2, (0, (1, 1, 0), yc 0)), (yc 2, yc 1, (0, (1, 2, 0), yc 0))], [], [(0, yc (-1), yc 0)]), (4, [(1, 0, 255), (2, 0, 399), (3, 1, 400)], [([(1, 3), ((-1), 2)], (-1))], [(yc 2, yc 0, (2, yc 1, yc 0)), (yc 2, yc 4, (0, (1, 0, 0), yc 0)), (yc 2, yc 2, (0, (1, 2, 0), yc 0)), (yc 2, yc 1, (0, (1, 3, 0), yc 0))], [], [(0, (1, 1, 0), yc 0)])], [(2, 2, 2)])
def yx247 : yCx := ([], ys247.2.2.2.2, yFP, zm53.2.2.1, zm53.2.2.2.1, zc53, 1, ys247.2.2.2.1, [(0, (2, [(0, 0, 2147483647), (1, 0, 400)], [], [(yc 2, yc 0, (2, yc 1, yc 0)), (yc 2, yc 4, (0, (1, 0, 0), yc 0)), (yc 2, yc 2, (0, (1, 1, 0), yc 0))], [(0, (2, yc 2, yc 0))], []), ([((-1), 1)], 401))], [])
theorem yw247 : ywf ys247.2.2.1 = true := by decide +kernel
theorem yk247 : yver yx247 ys247.2.2.1 4000 = true := by decide +kernel
theorem yt247 {E : zHp → Prop} (h : yEF E yFP) : yTs E 1 ys247 := yver_s (x := yx247) h (yal_n) yg53 yk247
def ys248 : ySp := (57, 1, (1, [(0, 0, 255)], [], [], [(0, (0, (1, 0, 0), yc 0))], []), [(1, [], [], [], [], [(0, yc 0, yc 0)]), (1, [(0, 97, 122)], [], [], [], [(0, yc 1, yc 0)])], [])
def yx248 : yCx := ([], ys248.2.2.2.2, yFP, zm57.2.2.1, zm57.2.2.2.1, zc57, 1, ys248.2.2.2.1, [], [])
theorem yw248 : ywf ys248.2.2.1 = true := by decide +kernel
theorem yk248 : yver yx248 ys248.2.2.1 4000 = true := by decide +kernel
theorem yt248 {E : zHp → Prop} (h : yEF E yFP) : yTs E 1 ys248 := yver_s (x := yx248) h (yal_n) yg57 yk248
def ys249 : ySp := (283, 1, (0, [], [], [], [(0, (2, yc 1002, yc 0))], []), [(0, [], [], [], [], [(0, yc 0, yc 0)])], [])
def yx249 : yCx := ([], ys249.2.2.2.2, yFP, zm283.2.2.1, zm283.2.2.2.1, zc283, 0, ys249.2.2.2.1, [], [])
theorem yw249 : ywf ys249.2.2.1 = true := by decide +kernel
theorem yk249 : yver yx249 ys249.2.2.1 4000 = true := by decide +kernel
theorem yt249 {E : zHp → Prop} (h : yEF E yFP) : yTs E 1 ys249 := yver_s (x := yx249) h (yal_n) yg283 yk249
def ys250 : ySp := (281, 1, (0, [], [], [], [(0, (2, yc 1002, yc 0))], []), [(0, [], [], [], [], [(0, yc 5, yc 0)])], [])
def yx250 : yCx := ([ys249], ys250.2.2.2.2, yFP, zm281.2.2.1, zm281.2.2.2.1, zc281, 0, ys250.2.2.2.1, [], [])
theorem yw250 : ywf ys250.2.2.1 = true := by decide +kernel
theorem yk250 : yver yx250 ys250.2.2.1 4000 = true := by decide +kernel
theorem yt250 {E : zHp → Prop} (h : yEF E yFP) : yTs E 2 ys250 := yver_s (x := yx250) h (yal_c (yt249 h) (by decide) yw249 (yal_n)) yg281 yk250
def ys251 : ySp := (284, 1, (0, [], [], [], [(0, (2, yc 1002, yc 0))], []), [(0, [], [], [], [], [(0, yc 1, yc 0)])], [])
def yx251 : yCx := ([], ys251.2.2.2.2, yFP, zm284.2.2.1, zm284.2.2.2.1, zc284, 0, ys251.2.2.2.1, [], [])
theorem yw251 : ywf ys251.2.2.1 = true := by decide +kernel
theorem yk251 : yver yx251 ys251.2.2.1 4000 = true := by decide +kernel
theorem yt251 {E : zHp → Prop} (h : yEF E yFP) : yTs E 1 ys251 := yver_s (x := yx251) h (yal_n) yg284 yk251
def ys252 : ySp := (293, 3, (0, [], [], [], [(0, (0, yc 0, yc 0)), (1, (0, yc 5, yc 0)), (2, (7, yc 0, yc 0))], []), [(0, [], [], [], [], [(0, yc 0, yc 0)])], [])
def yx252 : yCx := ([], ys252.2.2.2.2, yFP, zm293.2.2.1, zm293.2.2.2.1, zc293, 0, ys252.2.2.2.1, [], [])
theorem yw252 : ywf ys252.2.2.1 = true := by decide +kernel
theorem yk252 : yver yx252 ys252.2.2.1 4000 = true := by decide +kernel
theorem yt252 {E : zHp → Prop} (h : yEF E yFP) : yTs E 1 ys252 := yver_s (x := yx252) h (yal_n) yg293 yk252
def ys253 : ySp := (285, 2, (0, [], [], [], [(0, (0, yc 0, yc 0)), (1, (0, yc 5, yc 0))], []), [(0, [], [], [], [], [])], [])
def yx253 : yCx := ([ys252], ys253.2.2.2.2, yFP, zm285.2.2.1, zm285.2.2.2.1, zc285, 0, ys253.2.2.2.1, [], [])
theorem yw253 : ywf ys253.2.2.1 = true := by decide +kernel
theorem yk253 : yver yx253 ys253.2.2.1 4000 = true := by decide +kernel
theorem yt253 {E : zHp → Prop} (h : yEF E yFP) : yTs E 2 ys253 := yver_s (x := yx253) h (yal_c (yt252 h) (by decide) yw252 (yal_n)) yg285 yk253
def ys254 : ySp := (286, 2, (0, [], [], [], [(0, (2, yc 1021, yc 0)), (1, (0, yc 0, yc 0))], []), [(0, [], [], [], [], [(0, yc 108, yc 0)])], [])
def yx254 : yCx := ([ys253], ys254.2.2.2.2, yFP, zm286.2.2.1, zm286.2.2.2.1, zc286, 0, ys254.2.2.2.1, [], [])
theorem yw254 : ywf ys254.2.2.1 = true := by decide +kernel
theorem yk254 : yver yx254 ys254.2.2.1 4000 = true := by decide +kernel
theorem yt254 {E : zHp → Prop} (h : yEF E yFP) : yTs E 3 ys254 := yver_s (x := yx254) h (yal_c (yt253 h) (by decide) yw253 (yal_n)) yg286 yk254
def ys255 : ySp := (282, 2, (0, [], [], [], [(0, (2, yc 1002, yc 0)), (1, (0, yc 0, yc 0))], []), [(0, [], [], [], [], [(0, yc 108, yc 0)])], [])
def yx255 : yCx := ([ys251, ys254], ys255.2.2.2.2, yFP, zm282.2.2.1, zm282.2.2.2.1, zc282, 0, ys255.2.2.2.1, [], [])
theorem yw255 : ywf ys255.2.2.1 = true := by decide +kernel
theorem yk255 : yver yx255 ys255.2.2.1 4000 = true := by decide +kernel
theorem yt255 {E : zHp → Prop} (h : yEF E yFP) : yTs E 4 ys255 := yver_s (x := yx255) h (yal_c (yt251 h) (by decide) yw251 (yal_c (yt254 h) (by decide) yw254 (yal_n))) yg282 yk255
def ys256 : ySp := (293, 3, (0, [], [], [], [(0, (0, yc 1, yc 0)), (1, (0, yc 5, yc 0)), (2, (7, yc 0, yc 0))], []), [(0, [], [], [], [], [(0, yc 1, yc 0)])], [])
def yx256 : yCx := ([], ys256.2.2.2.2, yFP, zm293.2.2.1, zm293.2.2.2.1, zc293, 0, ys256.2.2.2.1, [], [])
theorem yw256 : ywf ys256.2.2.1 = true := by decide +kernel
theorem yk256 : yver yx256 ys256.2.2.1 4000 = true := by decide +kernel
theorem yt256 {E : zHp → Prop} (h : yEF E yFP) : yTs E 1 ys256 := yver_s (x := yx256) h (yal_n) yg293 yk256
def ys257 : ySp := (285, 2, (0, [], [], [], [(0, (0, yc 1, yc 0)), (1, (0, yc 5, yc 0))], []), [(0, [], [], [], [], [])], [])
def yx257 : yCx := ([ys256], ys257.2.2.2.2, yFP, zm285.2.2.1, zm285.2.2.2.1, zc285, 0, ys257.2.2.2.1, [], [])
theorem yw257 : ywf ys257.2.2.1 = true := by decide +kernel
theorem yk257 : yver yx257 ys257.2.2.1 4000 = true := by decide +kernel
theorem yt257 {E : zHp → Prop} (h : yEF E yFP) : yTs E 2 ys257 := yver_s (x := yx257) h (yal_c (yt256 h) (by decide) yw256 (yal_n)) yg285 yk257
def ys258 : ySp := (286, 2, (0, [], [], [], [(0, (2, yc 1021, yc 0)), (1, (0, yc 1, yc 0))], []), [(0, [], [], [], [], [(0, yc 101, yc 0)])], [])
def yx258 : yCx := ([ys257], ys258.2.2.2.2, yFP, zm286.2.2.1, zm286.2.2.2.1, zc286, 0, ys258.2.2.2.1, [], [])
theorem yw258 : ywf ys258.2.2.1 = true := by decide +kernel
theorem yk258 : yver yx258 ys258.2.2.1 4000 = true := by decide +kernel
theorem yt258 {E : zHp → Prop} (h : yEF E yFP) : yTs E 3 ys258 := yver_s (x := yx258) h (yal_c (yt257 h) (by decide) yw257 (yal_n)) yg286 yk258
def ys259 : ySp := (282, 2, (0, [], [], [], [(0, (2, yc 1002, yc 0)), (1, (0, yc 1, yc 0))], []), [(0, [], [], [], [], [(0, yc 101, yc 0)])], [])
def yx259 : yCx := ([ys251, ys258], ys259.2.2.2.2, yFP, zm282.2.2.1, zm282.2.2.2.1, zc282, 0, ys259.2.2.2.1, [], [])
theorem yw259 : ywf ys259.2.2.1 = true := by decide +kernel
theorem yk259 : yver yx259 ys259.2.2.1 4000 = true := by decide +kernel
theorem yt259 {E : zHp → Prop} (h : yEF E yFP) : yTs E 4 ys259 := yver_s (x := yx259) h (yal_c (yt251 h) (by decide) yw251 (yal_c (yt258 h) (by decide) yw258 (yal_n))) yg282 yk259
def ys260 : ySp := (293, 3, (0, [], [], [], [(0, (0, yc 2, yc 0)), (1, (0, yc 5, yc 0)), (2, (7, yc 0, yc 0))], []), [(0, [], [], [], [], [(0, yc 2, yc 0)])], [])
def yx260 : yCx := ([], ys260.2.2.2.2, yFP, zm293.2.2.1, zm293.2.2.2.1, zc293, 0, ys260.2.2.2.1, [], [])
theorem yw260 : ywf ys260.2.2.1 = true := by decide +kernel
theorem yk260 : yver yx260 ys260.2.2.1 4000 = true := by decide +kernel
theorem yt260 {E : zHp → Prop} (h : yEF E yFP) : yTs E 1 ys260 := yver_s (x := yx260) h (yal_n) yg293 yk260
def ys261 : ySp := (285, 2, (0, [], [], [], [(0, (0, yc 2, yc 0)), (1, (0, yc 5, yc 0))], []), [(0, [], [], [], [], [])], [])
def yx261 : yCx := ([ys260], ys261.2.2.2.2, yFP, zm285.2.2.1, zm285.2.2.2.1, zc285, 0, ys261.2.2.2.1, [], [])
theorem yw261 : ywf ys261.2.2.1 = true := by decide +kernel
theorem yk261 : yver yx261 ys261.2.2.1 4000 = true := by decide +kernel
theorem yt261 {E : zHp → Prop} (h : yEF E yFP) : yTs E 2 ys261 := yver_s (x := yx261) h (yal_c (yt260 h) (by decide) yw260 (yal_n)) yg285 yk261
def ys262 : ySp := (286, 2, (0, [], [], [], [(0, (2, yc 1021, yc 0)), (1, (0, yc 2, yc 0))], []), [(0, [], [], [], [], [(0, yc 110, yc 0)])], [])
def yx262 : yCx := ([ys261], ys262.2.2.2.2, yFP, zm286.2.2.1, zm286.2.2.2.1, zc286, 0, ys262.2.2.2.1, [], [])
theorem yw262 : ywf ys262.2.2.1 = true := by decide +kernel
theorem yk262 : yver yx262 ys262.2.2.1 4000 = true := by decide +kernel
theorem yt262 {E : zHp → Prop} (h : yEF E yFP) : yTs E 3 ys262 := yver_s (x := yx262) h (yal_c (yt261 h) (by decide) yw261 (yal_n)) yg286 yk262
def ys263 : ySp := (282, 2, (0, [], [], [], [(0, (2, yc 1002, yc 0)), (1, (0, yc 2, yc 0))], []), [(0, [], [], [], [], [(0, yc 110, yc 0)])], [])
def yx263 : yCx := ([ys251, ys262], ys263.2.2.2.2, yFP, zm282.2.2.1, zm282.2.2.2.1, zc282, 0, ys263.2.2.2.1, [], [])
theorem yw263 : ywf ys263.2.2.1 = true := by decide +kernel
theorem yk263 : yver yx263 ys263.2.2.1 4000 = true := by decide +kernel
theorem yt263 {E : zHp → Prop} (h : yEF E yFP) : yTs E 4 ys263 := yver_s (x := yx263) h (yal_c (yt251 h) (by decide) yw251 (yal_c (yt262 h) (by decide) yw262 (yal_n))) yg282 yk263
def ys264 : ySp := (293, 3, (0, [], [], [], [(0, (0, yc 3, yc 0)), (1, (0, yc 5, yc 0)), (2, (7, yc 0, yc 0))], []), [(0, [], [], [], [], [(0, yc 3, yc 0)])], [])
def yx264 : yCx := ([], ys264.2.2.2.2, yFP, zm293.2.2.1, zm293.2.2.2.1, zc293, 0, ys264.2.2.2.1, [], [])
theorem yw264 : ywf ys264.2.2.1 = true := by decide +kernel
theorem yk264 : yver yx264 ys264.2.2.1 4000 = true := by decide +kernel
theorem yt264 {E : zHp → Prop} (h : yEF E yFP) : yTs E 1 ys264 := yver_s (x := yx264) h (yal_n) yg293 yk264
def ys265 : ySp := (285, 2, (0, [], [], [], [(0, (0, yc 3, yc 0)), (1, (0, yc 5, yc 0))], []), [(0, [], [], [], [], [])], [])
def yx265 : yCx := ([ys264], ys265.2.2.2.2, yFP, zm285.2.2.1, zm285.2.2.2.1, zc285, 0, ys265.2.2.2.1, [], [])
theorem yw265 : ywf ys265.2.2.1 = true := by decide +kernel
theorem yk265 : yver yx265 ys265.2.2.1 4000 = true := by decide +kernel
theorem yt265 {E : zHp → Prop} (h : yEF E yFP) : yTs E 2 ys265 := yver_s (x := yx265) h (yal_c (yt264 h) (by decide) yw264 (yal_n)) yg285 yk265
def ys266 : ySp := (286, 2, (0, [], [], [], [(0, (2, yc 1021, yc 0)), (1, (0, yc 3, yc 0))], []), [(0, [], [], [], [], [(0, yc 100, yc 0)])], [])
def yx266 : yCx := ([ys265], ys266.2.2.2.2, yFP, zm286.2.2.1, zm286.2.2.2.1, zc286, 0, ys266.2.2.2.1, [], [])
theorem yw266 : ywf ys266.2.2.1 = true := by decide +kernel
theorem yk266 : yver yx266 ys266.2.2.1 4000 = true := by decide +kernel
theorem yt266 {E : zHp → Prop} (h : yEF E yFP) : yTs E 3 ys266 := yver_s (x := yx266) h (yal_c (yt265 h) (by decide) yw265 (yal_n)) yg286 yk266
def ys267 : ySp := (282, 2, (0, [], [], [], [(0, (2, yc 1002, yc 0)), (1, (0, yc 3, yc 0))], []), [(0, [], [], [], [], [(0, yc 100, yc 0)])], [])
def yx267 : yCx := ([ys251, ys266], ys267.2.2.2.2, yFP, zm282.2.2.1, zm282.2.2.2.1, zc282, 0, ys267.2.2.2.1, [], [])
theorem yw267 : ywf ys267.2.2.1 = true := by decide +kernel
theorem yk267 : yver yx267 ys267.2.2.1 4000 = true := by decide +kernel
theorem yt267 {E : zHp → Prop} (h : yEF E yFP) : yTs E 4 ys267 := yver_s (x := yx267) h (yal_c (yt251 h) (by decide) yw251 (yal_c (yt266 h) (by decide) yw266 (yal_n))) yg282 yk267
def ys268 : ySp := (293, 3, (0, [], [], [], [(0, (0, yc 4, yc 0)), (1, (0, yc 5, yc 0)), (2, (7, yc 0, yc 0))], []), [(0, [], [], [], [], [(0, yc 4, yc 0)])], [])
def yx268 : yCx := ([], ys268.2.2.2.2, yFP, zm293.2.2.1, zm293.2.2.2.1, zc293, 0, ys268.2.2.2.1, [], [])
theorem yw268 : ywf ys268.2.2.1 = true := by decide +kernel
theorem yk268 : yver yx268 ys268.2.2.1 4000 = true := by decide +kernel
theorem yt268 {E : zHp → Prop} (h : yEF E yFP) : yTs E 1 ys268 := yver_s (x := yx268) h (yal_n) yg293 yk268
def ys269 : ySp := (285, 2, (0, [], [], [], [(0, (0, yc 4, yc 0)), (1, (0, yc 5, yc 0))], []), [(0, [], [], [], [], [])], [])
def yx269 : yCx := ([ys268], ys269.2.2.2.2, yFP, zm285.2.2.1, zm285.2.2.2.1, zc285, 0, ys269.2.2.2.1, [], [])
theorem yw269 : ywf ys269.2.2.1 = true := by decide +kernel
theorem yk269 : yver yx269 ys269.2.2.1 4000 = true := by decide +kernel
theorem yt269 {E : zHp → Prop} (h : yEF E yFP) : yTs E 2 ys269 := yver_s (x := yx269) h (yal_c (yt268 h) (by decide) yw268 (yal_n)) yg285 yk269
def ys270 : ySp := (286, 2, (0, [], [], [], [(0, (2, yc 1021, yc 0)), (1, (0, yc 4, yc 0))], []), [(0, [], [], [], [], [(0, yc 32, yc 0)])], [])
def yx270 : yCx := ([ys269], ys270.2.2.2.2, yFP, zm286.2.2.1, zm286.2.2.2.1, zc286, 0, ys270.2.2.2.1, [], [])
theorem yw270 : ywf ys270.2.2.1 = true := by decide +kernel
theorem yk270 : yver yx270 ys270.2.2.1 4000 = true := by decide +kernel
theorem yt270 {E : zHp → Prop} (h : yEF E yFP) : yTs E 3 ys270 := yver_s (x := yx270) h (yal_c (yt269 h) (by decide) yw269 (yal_n)) yg286 yk270
def ys271 : ySp := (282, 2, (0, [], [], [], [(0, (2, yc 1002, yc 0)), (1, (0, yc 4, yc 0))], []), [(0, [], [], [], [], [(0, yc 32, yc 0)])], [])
def yx271 : yCx := ([ys251, ys270], ys271.2.2.2.2, yFP, zm282.2.2.1, zm282.2.2.2.1, zc282, 0, ys271.2.2.2.1, [], [])
theorem yw271 : ywf ys271.2.2.1 = true := by decide +kernel
theorem yk271 : yver yx271 ys271.2.2.1 4000 = true := by decide +kernel
theorem yt271 {E : zHp → Prop} (h : yEF E yFP) : yTs E 4 ys271 := yver_s (x := yx271) h (yal_c (yt251 h) (by decide) yw251 (yal_c (yt270 h) (by decide) yw270 (yal_n))) yg282 yk271
def ys272 : ySp := (59, 6, (1, [(0, 0, 2147483647)], [], [(yc 2, yc 0, (2, yc 1, yc 0)), (yc 2, yc 4, (0, (1, 0, 0), yc 0))], [(0, (2, yc 2, yc 0)), (1, (2, yc 1002, yc 0))], []), [(3, [(1, 0, 400), (2, 0, 400)], [], [(yc 2, yc 0, (2, yc 1, yc 0)), (yc 2, yc 4, (0, (1, 0, 0), yc 0)), (yc 2, yc 2, (0, (1, 1, 0), yc 0)), (yc 2, yc 1, (0, (1, 2, 0), yc 0))], [], [(0, yc (-1), yc 0)]), (3, [(1, 0, 400), (2, 0, 400)], [], [(yc 2, yc 0, (2, yc 1, yc 0)), (yc 2, yc 4, (0, (1, 0, 0), yc 0)), (yc 2, yc 1, (0, (1, 1, 0), yc 0)), (yc 2, yc 2, (0, (1, 2, 0), yc 0))], [], [(0, yc 0, yc 0)])], [(2, 2, 2), (2, 2, 3)])
def yq272_0 : yCu := (18, (4, [(0, 0, 2147483647), (1, 0, 400), (2, 0, 400), (3, 0, 400)], [], [(yc 2, yc 0, (2, yc 1, yc 0)), (yc 2, yc 4, (0, (1, 0, 0), yc 0)), (yc 2, yc 2, (0, (1, 2, 0), yc 0)), (yc 2, yc 1, (0, (1, 3, 0), yc 0)), (yc 2, yc 3, (0, (1, 2, 0), yc 0))], [(0, (2, yc 2, yc 0)), (1, (2, yc 1002, yc 0)), (2, (0, (1, 1, 0), yc 0))], []), ([((-1), 1)], 406))
def yq272_1 : yCu := (55, (4, [(0, 0, 2147483647), (1, 0, 400), (2, 0, 400), (3, 0, 400)], [], [(yc 2, yc 0, (2, yc 1, yc 0)), (yc 2, yc 4, (0, (1, 0, 0), yc 0)), (yc 2, yc 2, (0, (1, 2, 0), yc 0)), (yc 2, yc 1, (0, (1, 3, 0), yc 0)), (yc 2, yc 3, (0, (1, 2, 0), yc 0))], [(0, (2, yc 2, yc 0)), (1, (2, yc 1002, yc 0)), (2, (0, (1, 1, 0), yc 0)), (3, (0, yc 0, yc 0)), (4, (0, (1, 2, 0), yc 0)), (5, (0, yc 0, yc 0))], []), ([], 5))
def yq272_2 : yCu := (55, (5, [(0, 0, 2147483647), (1, 0, 400), (2, (-1), 400), (3, 0, 400), (4, 0, 400)], [([(1, 1), ((-1), 2)], 0)], [(yc 2, yc 0, (2, yc 1, yc 0)), (yc 2, yc 4, (0, (1, 0, 0), yc 0)), (yc 2, yc 2, (0, (1, 3, 0), yc 0)), (yc 2, yc 1, (0, (1, 4, 0), yc 0)), (yc 2, yc 3, (0, (1, 3, 0), yc 0))], [(0, (2, yc 2, yc 0)), (1, (2, yc 1002, yc 0)), (2, (0, (1, 1, 0), yc 0)), (3, (0, yc 0, yc 0)), (4, (0, (1, 2, 0), yc 0)), (5, (0, yc 1, yc 0))], []), ([], 4))
def yq272_3 : yCu := (55, (5, [(0, 0, 2147483647), (1, 0, 400), (2, (-1), 400), (3, 0, 400), (4, 0, 400)], [([(1, 1), ((-1), 2)], 1), ([(1, 1), ((-1), 2)], 0)], [(yc 2, yc 0, (2, yc 1, yc 0)), (yc 2, yc 4, (0, (1, 0, 0), yc 0)), (yc 2, yc 2, (0, (1, 3, 0), yc 0)), (yc 2, yc 1, (0, (1, 4, 0), yc 0)), (yc 2, yc 3, (0, (1, 3, 0), yc 0))], [(0, (2, yc 2, yc 0)), (1, (2, yc 1002, yc 0)), (2, (0, (1, 1, 0), yc 0)), (3, (0, yc 0, yc 0)), (4, (0, (1, 2, 0), yc 0)), (5, (0, yc 2, yc 0))], []), ([], 3))
def yq272_4 : yCu := (55, (5, [(0, 0, 2147483647), (1, 0, 400), (2, (-1), 400), (3, 0, 400), (4, 0, 400)], [([(1, 1), ((-1), 2)], 2), ([(1, 1), ((-1), 2)], 1), ([(1, 1), ((-1), 2)], 0)], [(yc 2, yc 0, (2, yc 1, yc 0)), (yc 2, yc 4, (0, (1, 0, 0), yc 0)), (yc 2, yc 2, (0, (1, 3, 0), yc 0)), (yc 2, yc 1, (0, (1, 4, 0), yc 0)), (yc 2, yc 3, (0, (1, 3, 0), yc 0))], [(0, (2, yc 2, yc 0)), (1, (2, yc 1002, yc 0)), (2, (0, (1, 1, 0), yc 0)), (3, (0, yc 0, yc 0)), (4, (0, (1, 2, 0), yc 0)), (5, (0, yc 3, yc 0))], []), ([], 2))
def yq272_5 : yCu := (55, (5, [(0, 0, 2147483647), (1, 0, 400), (2, (-1), 400), (3, 0, 400), (4, 0, 400)], [([(1, 1), ((-1), 2)], 3), ([(1, 1), ((-1), 2)], 2), ([(1, 1), ((-1), 2)], 1), ([(1, 1), ((-1), 2)], 0)], [(yc 2, yc 0, (2, yc 1, yc 0)), (yc 2, yc 4, (0, (1, 0, 0), yc 0)), (yc 2, yc 2, (0, (1, 3, 0), yc 0)), (yc 2, yc 1, (0, (1, 4, 0), yc 0)), (yc 2, yc 3, (0, (1, 3, 0), yc 0))], [(0, (2, yc 2, yc 0)), (1, (2, yc 1002, yc 0)), (2, (0, (1, 1, 0), yc 0)), (3, (0, yc 0, yc 0)), (4, (0, (1, 2, 0), yc 0)), (5, (0, yc 4, yc 0))], []), ([], 1))
def yq272_6 : yCu := (55, (4, [(0, 0, 2147483647), (1, 0, 400), (2, 0, 400), (3, 0, 400)], [], [(yc 2, yc 0, (2, yc 1, yc 0)), (yc 2, yc 4, (0, (1, 0, 0), yc 0)), (yc 2, yc 2, (0, (1, 2, 0), yc 0)), (yc 2, yc 1, (0, (1, 3, 0), yc 0)), (yc 2, yc 3, (0, (1, 2, 0), yc 0))], [(0, (2, yc 2, yc 0)), (1, (2, yc 1002, yc 0)), (2, (0, (1, 1, 0), yc 0)), (3, (0, yc 1, yc 0)), (4, (0, (1, 2, 0), yc 0)), (5, (0, yc 5, yc 0))], []), ([], 0))
def yx272 : yCx := ([ys247, ys248, ys250, ys255, ys259, ys263, ys267, ys271], ys272.2.2.2.2, yFP, zm59.2.2.1, zm59.2.2.2.1, zc59, 1, ys272.2.2.2.1, [yq272_0, yq272_1, yq272_2, yq272_3, yq272_4, yq272_5, yq272_6], [])
theorem yw272 : ywf ys272.2.2.1 = true := by decide +kernel
theorem yk272_e : yver0 yx272 ys272.2.2.1 4000 = true := by decide +kernel
theorem yk272_0 : ycc yx272 4000 yq272_0 = true := by decide +kernel
theorem yk272_1 : ycc yx272 4000 yq272_1 = true := by decide +kernel
theorem yk272_2 : ycc yx272 4000 yq272_2 = true := by decide +kernel
theorem yk272_3 : ycc yx272 4000 yq272_3 = true := by decide +kernel
theorem yk272_4 : ycc yx272 4000 yq272_4 = true := by decide +kernel
theorem yk272_5 : ycc yx272 4000 yq272_5 = true := by decide +kernel
theorem yk272_6 : ycc yx272 4000 yq272_6 = true := by decide +kernel
theorem yk272 : yver yx272 ys272.2.2.1 4000 = true := yver_join yk272_e (ycc_c yk272_0 (ycc_c yk272_1 (ycc_c yk272_2 (ycc_c yk272_3 (ycc_c yk272_4 (ycc_c yk272_5 (ycc_c yk272_6 (ycc_n))))))))
theorem yt272 {E : zHp → Prop} (h : yEF E yFP) : yTs E 5 ys272 := yver_s (x := yx272) h (yal_c (yt247 h) (by decide) yw247 (yal_c (yt248 h) (by decide) yw248 (yal_c (yt250 h) (by decide) yw250 (yal_c (yt255 h) (by decide) yw255 (yal_c (yt259 h) (by decide) yw259 (yal_c (yt263 h) (by decide) yw263 (yal_c (yt267 h) (by decide) yw267 (yal_c (yt271 h) (by decide) yw271 (yal_n))))))))) yg59 yk272
def ys273 : ySp := (52, 3, (3, [(0, 0, 400), (1, 0, 1), (2, 0, 2147483647)], [], [(yc 2, yc 4, (0, (1, 2, 0), yc 0))], [(0, (2, yc 2, yc 0)), (1, (0, (1, 0, 0), yc 0)), (2, (0, (1, 1, 0), yc 0))], []), [(4, [(3, 1, 2147483647)], [], [(yc 2, yc 4, (0, (1, 3, 0), yc 0))], [], [])], [(2, 2, 4)])
def yx273 : yCx := ([], ys273.2.2.2.2, yFP, zm52.2.2.1, zm52.2.2.2.1, zc52, 3, ys273.2.2.2.1, [], [])
theorem yw273 : ywf ys273.2.2.1 = true := by decide +kernel
theorem yk273 : yver yx273 ys273.2.2.1 4000 = true := by decide +kernel
theorem yt273 {E : zHp → Prop} (h : yEF E yFP) : yTs E 1 ys273 := yver_s (x := yx273) h (yal_n) yg52 yk273
def ys274 : ySp := (60, 3, (1, [(0, 0, 2147483647)], [], [(yc 2, yc 0, (2, yc 1, yc 0)), (yc 2, yc 4, (0, (1, 0, 0), yc 0))], [(0, (2, yc 2, yc 0)), (1, (2, yc 1002, yc 0))], []), [(4, [(1, 0, 400), (2, 0, 400), (3, 1, 2147483647)], [], [(yc 2, yc 0, (2, yc 1, yc 0)), (yc 2, yc 2, (0, (1, 1, 0), yc 0)), (yc 2, yc 1, (0, (1, 2, 0), yc 0)), (yc 2, yc 4, (0, (1, 3, 0), yc 0))], [], [(0, yc (-1), yc 0)]), (3, [(1, 0, 400), (2, 0, 400)], [], [(yc 2, yc 0, (2, yc 1, yc 0)), (yc 2, yc 4, (0, (1, 0, 0), yc 0)), (yc 2, yc 1, (0, (1, 1, 0), yc 0)), (yc 2, yc 2, (0, (1, 2, 0), yc 0))], [], [(0, yc 0, yc 0)])], [(2, 2, 2), (2, 2, 3), (2, 2, 4)])
def yx274 : yCx := ([ys273, ys272], ys274.2.2.2.2, yFP, zm60.2.2.1, zm60.2.2.2.1, zc60, 1, ys274.2.2.2.1, [], [])
theorem yw274 : ywf ys274.2.2.1 = true := by decide +kernel
theorem yk274 : yver yx274 ys274.2.2.1 4000 = true := by decide +kernel
theorem yt274 {E : zHp → Prop} (h : yEF E yFP) : yTs E 6 ys274 := yver_s (x := yx274) h (yal_c (yt273 h) (by decide) yw273 (yal_c (yt272 h) (by decide) yw272 (yal_n))) yg60 yk274
def ys275 : ySp := (52, 3, (3, [(0, 0, 400), (1, 0, 4), (2, 0, 2147483647)], [], [(yc 2, yc 4, (0, (1, 2, 0), yc 0))], [(0, (2, yc 2, yc 0)), (1, (0, (1, 0, 0), yc 0)), (2, (0, (1, 1, 0), yc 0))], []), [(4, [(3, 1, 2147483647)], [], [(yc 2, yc 4, (0, (1, 3, 0), yc 0))], [], [])], [(2, 2, 4)])
def yx275 : yCx := ([], ys275.2.2.2.2, yFP, zm52.2.2.1, zm52.2.2.2.1, zc52, 3, ys275.2.2.2.1, [], [])
theorem yw275 : ywf ys275.2.2.1 = true := by decide +kernel
theorem yk275 : yver yx275 ys275.2.2.1 4000 = true := by decide +kernel
theorem yt275 {E : zHp → Prop} (h : yEF E yFP) : yTs E 1 ys275 := yver_s (x := yx275) h (yal_n) yg52 yk275
def ys276 : ySp := (34, 2, (1, [(0, 0, 2147483647)], [], [(yc 2, yc 0, (2, yc 1, yc 0)), (yc 2, yc 4, (0, (1, 0, 0), yc 0))], [(0, (2, yc 6, yc 0)), (1, (2, yc 2, yc 0))], []), [(4, [(1, 0, 400), (2, 0, 400), (3, 0, 2147483647)], [], [(yc 2, yc 0, (2, yc 1, yc 0)), (yc 2, yc 1, (0, (1, 1, 0), yc 0)), (yc 2, yc 2, (0, (1, 2, 0), yc 0)), (yc 2, yc 4, (0, (1, 3, 0), yc 0))], [], [])], [(2, 2, 2), (2, 2, 3), (2, 2, 4), (6, 6, 4), (6, 6, 8), (6, 6, 9)])
def yx276 : yCx := ([ys275, ys274], ys276.2.2.2.2, yFP, zm34.2.2.1, zm34.2.2.2.1, zc34, 1, ys276.2.2.2.1, [], [])
theorem yw276 : ywf ys276.2.2.1 = true := by decide +kernel
theorem yk276 : yver yx276 ys276.2.2.1 4000 = true := by decide +kernel
theorem yt276 {E : zHp → Prop} (h : yEF E yFP) : yTs E 7 ys276 := yver_s (x := yx276) h (yal_c (yt275 h) (by decide) yw275 (yal_c (yt274 h) (by decide) yw274 (yal_n))) yg34 yk276
def ys277 : ySp := (54, 1, (1, [(0, 0, 399)], [], [(yc 2, yc 2, (0, (1, 0, 0), yc 0))], [(0, (2, yc 2, yc 0))], []), [(1, [], [], [(yc 2, yc 2, (0, (1, 0, 1), yc 0))], [], [])], [(2, 2, 2)])
def yx277 : yCx := ([], ys277.2.2.2.2, yFP, zm54.2.2.1, zm54.2.2.2.1, zc54, 1, ys277.2.2.2.1, [], [])
theorem yw277 : ywf ys277.2.2.1 = true := by decide +kernel
theorem yk277 : yver yx277 ys277.2.2.1 4000 = true := by decide +kernel
theorem yt277 {E : zHp → Prop} (h : yEF E yFP) : yTs E 1 ys277 := yver_s (x := yx277) h (yal_n) yg54 yk277
def ys278 : ySp := (47, 2, (1, [(0, 0, 1)], [], [], [(0, (2, yc 6, yc 0)), (1, (0, (1, 0, 0), yc 0))], []), [(1, [], [], [], [], [])], [(6, 6, 3), (8, 8, 1000)])
def yx278 : yCx := ([], ys278.2.2.2.2, yFP, zm47.2.2.1, zm47.2.2.2.1, zc47, 1, ys278.2.2.2.1, [], [])
theorem yw278 : ywf ys278.2.2.1 = true := by decide +kernel
theorem yk278 : yver yx278 ys278.2.2.1 4000 = true := by decide +kernel
theorem yt278 {E : zHp → Prop} (h : yEF E yFP) : yTs E 1 ys278 := yver_s (x := yx278) h (yal_n) yg47 yk278
def ys279 : ySp := (283, 1, (0, [], [], [], [(0, (2, yc 1003, yc 0))], []), [(0, [], [], [], [], [(0, yc 0, yc 0)])], [])
def yx279 : yCx := ([], ys279.2.2.2.2, yFP, zm283.2.2.1, zm283.2.2.2.1, zc283, 0, ys279.2.2.2.1, [], [])
theorem yw279 : ywf ys279.2.2.1 = true := by decide +kernel
theorem yk279 : yver yx279 ys279.2.2.1 4000 = true := by decide +kernel
theorem yt279 {E : zHp → Prop} (h : yEF E yFP) : yTs E 1 ys279 := yver_s (x := yx279) h (yal_n) yg283 yk279
def ys280 : ySp := (281, 1, (0, [], [], [], [(0, (2, yc 1003, yc 0))], []), [(0, [], [], [], [], [(0, yc 4, yc 0)])], [])
def yx280 : yCx := ([ys279], ys280.2.2.2.2, yFP, zm281.2.2.1, zm281.2.2.2.1, zc281, 0, ys280.2.2.2.1, [], [])
theorem yw280 : ywf ys280.2.2.1 = true := by decide +kernel
theorem yk280 : yver yx280 ys280.2.2.1 4000 = true := by decide +kernel
theorem yt280 {E : zHp → Prop} (h : yEF E yFP) : yTs E 2 ys280 := yver_s (x := yx280) h (yal_c (yt279 h) (by decide) yw279 (yal_n)) yg281 yk280
def ys281 : ySp := (284, 1, (0, [], [], [], [(0, (2, yc 1003, yc 0))], []), [(0, [], [], [], [], [(0, yc 1, yc 0)])], [])
def yx281 : yCx := ([], ys281.2.2.2.2, yFP, zm284.2.2.1, zm284.2.2.2.1, zc284, 0, ys281.2.2.2.1, [], [])
theorem yw281 : ywf ys281.2.2.1 = true := by decide +kernel
theorem yk281 : yver yx281 ys281.2.2.1 4000 = true := by decide +kernel
theorem yt281 {E : zHp → Prop} (h : yEF E yFP) : yTs E 1 ys281 := yver_s (x := yx281) h (yal_n) yg284 yk281
def ys282 : ySp := (293, 3, (0, [], [], [], [(0, (0, yc 0, yc 0)), (1, (0, yc 4, yc 0)), (2, (7, yc 0, yc 0))], []), [(0, [], [], [], [], [(0, yc 0, yc 0)])], [])
def yx282 : yCx := ([], ys282.2.2.2.2, yFP, zm293.2.2.1, zm293.2.2.2.1, zc293, 0, ys282.2.2.2.1, [], [])
theorem yw282 : ywf ys282.2.2.1 = true := by decide +kernel
theorem yk282 : yver yx282 ys282.2.2.1 4000 = true := by decide +kernel
theorem yt282 {E : zHp → Prop} (h : yEF E yFP) : yTs E 1 ys282 := yver_s (x := yx282) h (yal_n) yg293 yk282
def ys283 : ySp := (285, 2, (0, [], [], [], [(0, (0, yc 0, yc 0)), (1, (0, yc 4, yc 0))], []), [(0, [], [], [], [], [])], [])
def yx283 : yCx := ([ys282], ys283.2.2.2.2, yFP, zm285.2.2.1, zm285.2.2.2.1, zc285, 0, ys283.2.2.2.1, [], [])
theorem yw283 : ywf ys283.2.2.1 = true := by decide +kernel
theorem yk283 : yver yx283 ys283.2.2.1 4000 = true := by decide +kernel
theorem yt283 {E : zHp → Prop} (h : yEF E yFP) : yTs E 2 ys283 := yver_s (x := yx283) h (yal_c (yt282 h) (by decide) yw282 (yal_n)) yg285 yk283
def ys284 : ySp := (286, 2, (0, [], [], [], [(0, (2, yc 1022, yc 0)), (1, (0, yc 0, yc 0))], []), [(0, [], [], [], [], [(0, yc 110, yc 0)])], [])
def yx284 : yCx := ([ys283], ys284.2.2.2.2, yFP, zm286.2.2.1, zm286.2.2.2.1, zc286, 0, ys284.2.2.2.1, [], [])
theorem yw284 : ywf ys284.2.2.1 = true := by decide +kernel
theorem yk284 : yver yx284 ys284.2.2.1 4000 = true := by decide +kernel
theorem yt284 {E : zHp → Prop} (h : yEF E yFP) : yTs E 3 ys284 := yver_s (x := yx284) h (yal_c (yt283 h) (by decide) yw283 (yal_n)) yg286 yk284
def ys285 : ySp := (282, 2, (0, [], [], [], [(0, (2, yc 1003, yc 0)), (1, (0, yc 0, yc 0))], []), [(0, [], [], [], [], [(0, yc 110, yc 0)])], [])
def yx285 : yCx := ([ys281, ys284], ys285.2.2.2.2, yFP, zm282.2.2.1, zm282.2.2.2.1, zc282, 0, ys285.2.2.2.1, [], [])
theorem yw285 : ywf ys285.2.2.1 = true := by decide +kernel
theorem yk285 : yver yx285 ys285.2.2.1 4000 = true := by decide +kernel
theorem yt285 {E : zHp → Prop} (h : yEF E yFP) : yTs E 4 ys285 := yver_s (x := yx285) h (yal_c (yt281 h) (by decide) yw281 (yal_c (yt284 h) (by decide) yw284 (yal_n))) yg282 yk285
def ys286 : ySp := (293, 3, (0, [], [], [], [(0, (0, yc 1, yc 0)), (1, (0, yc 4, yc 0)), (2, (7, yc 0, yc 0))], []), [(0, [], [], [], [], [(0, yc 1, yc 0)])], [])
def yx286 : yCx := ([], ys286.2.2.2.2, yFP, zm293.2.2.1, zm293.2.2.2.1, zc293, 0, ys286.2.2.2.1, [], [])
theorem yw286 : ywf ys286.2.2.1 = true := by decide +kernel
theorem yk286 : yver yx286 ys286.2.2.1 4000 = true := by decide +kernel
theorem yt286 {E : zHp → Prop} (h : yEF E yFP) : yTs E 1 ys286 := yver_s (x := yx286) h (yal_n) yg293 yk286
def ys287 : ySp := (285, 2, (0, [], [], [], [(0, (0, yc 1, yc 0)), (1, (0, yc 4, yc 0))], []), [(0, [], [], [], [], [])], [])
def yx287 : yCx := ([ys286], ys287.2.2.2.2, yFP, zm285.2.2.1, zm285.2.2.2.1, zc285, 0, ys287.2.2.2.1, [], [])
theorem yw287 : ywf ys287.2.2.1 = true := by decide +kernel
theorem yk287 : yver yx287 ys287.2.2.1 4000 = true := by decide +kernel
theorem yt287 {E : zHp → Prop} (h : yEF E yFP) : yTs E 2 ys287 := yver_s (x := yx287) h (yal_c (yt286 h) (by decide) yw286 (yal_n)) yg285 yk287
def ys288 : ySp := (286, 2, (0, [], [], [], [(0, (2, yc 1022, yc 0)), (1, (0, yc 1, yc 0))], []), [(0, [], [], [], [], [(0, yc 111, yc 0)])], [])
def yx288 : yCx := ([ys287], ys288.2.2.2.2, yFP, zm286.2.2.1, zm286.2.2.2.1, zc286, 0, ys288.2.2.2.1, [], [])
theorem yw288 : ywf ys288.2.2.1 = true := by decide +kernel
theorem yk288 : yver yx288 ys288.2.2.1 4000 = true := by decide +kernel
theorem yt288 {E : zHp → Prop} (h : yEF E yFP) : yTs E 3 ys288 := yver_s (x := yx288) h (yal_c (yt287 h) (by decide) yw287 (yal_n)) yg286 yk288
def ys289 : ySp := (282, 2, (0, [], [], [], [(0, (2, yc 1003, yc 0)), (1, (0, yc 1, yc 0))], []), [(0, [], [], [], [], [(0, yc 111, yc 0)])], [])
def yx289 : yCx := ([ys281, ys288], ys289.2.2.2.2, yFP, zm282.2.2.1, zm282.2.2.2.1, zc282, 0, ys289.2.2.2.1, [], [])
theorem yw289 : ywf ys289.2.2.1 = true := by decide +kernel
theorem yk289 : yver yx289 ys289.2.2.1 4000 = true := by decide +kernel
theorem yt289 {E : zHp → Prop} (h : yEF E yFP) : yTs E 4 ys289 := yver_s (x := yx289) h (yal_c (yt281 h) (by decide) yw281 (yal_c (yt288 h) (by decide) yw288 (yal_n))) yg282 yk289
def ys290 : ySp := (293, 3, (0, [], [], [], [(0, (0, yc 2, yc 0)), (1, (0, yc 4, yc 0)), (2, (7, yc 0, yc 0))], []), [(0, [], [], [], [], [(0, yc 2, yc 0)])], [])
def yx290 : yCx := ([], ys290.2.2.2.2, yFP, zm293.2.2.1, zm293.2.2.2.1, zc293, 0, ys290.2.2.2.1, [], [])
theorem yw290 : ywf ys290.2.2.1 = true := by decide +kernel
theorem yk290 : yver yx290 ys290.2.2.1 4000 = true := by decide +kernel
theorem yt290 {E : zHp → Prop} (h : yEF E yFP) : yTs E 1 ys290 := yver_s (x := yx290) h (yal_n) yg293 yk290
def ys291 : ySp := (285, 2, (0, [], [], [], [(0, (0, yc 2, yc 0)), (1, (0, yc 4, yc 0))], []), [(0, [], [], [], [], [])], [])
def yx291 : yCx := ([ys290], ys291.2.2.2.2, yFP, zm285.2.2.1, zm285.2.2.2.1, zc285, 0, ys291.2.2.2.1, [], [])
theorem yw291 : ywf ys291.2.2.1 = true := by decide +kernel
theorem yk291 : yver yx291 ys291.2.2.1 4000 = true := by decide +kernel
theorem yt291 {E : zHp → Prop} (h : yEF E yFP) : yTs E 2 ys291 := yver_s (x := yx291) h (yal_c (yt290 h) (by decide) yw290 (yal_n)) yg285 yk291
def ys292 : ySp := (286, 2, (0, [], [], [], [(0, (2, yc 1022, yc 0)), (1, (0, yc 2, yc 0))], []), [(0, [], [], [], [], [(0, yc 116, yc 0)])], [])
def yx292 : yCx := ([ys291], ys292.2.2.2.2, yFP, zm286.2.2.1, zm286.2.2.2.1, zc286, 0, ys292.2.2.2.1, [], [])
theorem yw292 : ywf ys292.2.2.1 = true := by decide +kernel
theorem yk292 : yver yx292 ys292.2.2.1 4000 = true := by decide +kernel
theorem yt292 {E : zHp → Prop} (h : yEF E yFP) : yTs E 3 ys292 := yver_s (x := yx292) h (yal_c (yt291 h) (by decide) yw291 (yal_n)) yg286 yk292
def ys293 : ySp := (282, 2, (0, [], [], [], [(0, (2, yc 1003, yc 0)), (1, (0, yc 2, yc 0))], []), [(0, [], [], [], [], [(0, yc 116, yc 0)])], [])
def yx293 : yCx := ([ys281, ys292], ys293.2.2.2.2, yFP, zm282.2.2.1, zm282.2.2.2.1, zc282, 0, ys293.2.2.2.1, [], [])
theorem yw293 : ywf ys293.2.2.1 = true := by decide +kernel
theorem yk293 : yver yx293 ys293.2.2.1 4000 = true := by decide +kernel
theorem yt293 {E : zHp → Prop} (h : yEF E yFP) : yTs E 4 ys293 := yver_s (x := yx293) h (yal_c (yt281 h) (by decide) yw281 (yal_c (yt292 h) (by decide) yw292 (yal_n))) yg282 yk293
def ys294 : ySp := (293, 3, (0, [], [], [], [(0, (0, yc 3, yc 0)), (1, (0, yc 4, yc 0)), (2, (7, yc 0, yc 0))], []), [(0, [], [], [], [], [(0, yc 3, yc 0)])], [])
def yx294 : yCx := ([], ys294.2.2.2.2, yFP, zm293.2.2.1, zm293.2.2.2.1, zc293, 0, ys294.2.2.2.1, [], [])
theorem yw294 : ywf ys294.2.2.1 = true := by decide +kernel
theorem yk294 : yver yx294 ys294.2.2.1 4000 = true := by decide +kernel
theorem yt294 {E : zHp → Prop} (h : yEF E yFP) : yTs E 1 ys294 := yver_s (x := yx294) h (yal_n) yg293 yk294
def ys295 : ySp := (285, 2, (0, [], [], [], [(0, (0, yc 3, yc 0)), (1, (0, yc 4, yc 0))], []), [(0, [], [], [], [], [])], [])
def yx295 : yCx := ([ys294], ys295.2.2.2.2, yFP, zm285.2.2.1, zm285.2.2.2.1, zc285, 0, ys295.2.2.2.1, [], [])
theorem yw295 : ywf ys295.2.2.1 = true := by decide +kernel
theorem yk295 : yver yx295 ys295.2.2.1 4000 = true := by decide +kernel
theorem yt295 {E : zHp → Prop} (h : yEF E yFP) : yTs E 2 ys295 := yver_s (x := yx295) h (yal_c (yt294 h) (by decide) yw294 (yal_n)) yg285 yk295
def ys296 : ySp := (286, 2, (0, [], [], [], [(0, (2, yc 1022, yc 0)), (1, (0, yc 3, yc 0))], []), [(0, [], [], [], [], [(0, yc 32, yc 0)])], [])
def yx296 : yCx := ([ys295], ys296.2.2.2.2, yFP, zm286.2.2.1, zm286.2.2.2.1, zc286, 0, ys296.2.2.2.1, [], [])
theorem yw296 : ywf ys296.2.2.1 = true := by decide +kernel
theorem yk296 : yver yx296 ys296.2.2.1 4000 = true := by decide +kernel
theorem yt296 {E : zHp → Prop} (h : yEF E yFP) : yTs E 3 ys296 := yver_s (x := yx296) h (yal_c (yt295 h) (by decide) yw295 (yal_n)) yg286 yk296
def ys297 : ySp := (282, 2, (0, [], [], [], [(0, (2, yc 1003, yc 0)), (1, (0, yc 3, yc 0))], []), [(0, [], [], [], [], [(0, yc 32, yc 0)])], [])
def yx297 : yCx := ([ys281, ys296], ys297.2.2.2.2, yFP, zm282.2.2.1, zm282.2.2.2.1, zc282, 0, ys297.2.2.2.1, [], [])
theorem yw297 : ywf ys297.2.2.1 = true := by decide +kernel
theorem yk297 : yver yx297 ys297.2.2.1 4000 = true := by decide +kernel
theorem yt297 {E : zHp → Prop} (h : yEF E yFP) : yTs E 4 ys297 := yver_s (x := yx297) h (yal_c (yt281 h) (by decide) yw281 (yal_c (yt296 h) (by decide) yw296 (yal_n))) yg282 yk297
def ys298 : ySp := (59, 6, (1, [(0, 0, 2147483647)], [], [(yc 2, yc 0, (2, yc 1, yc 0)), (yc 2, yc 4, (0, (1, 0, 0), yc 0))], [(0, (2, yc 2, yc 0)), (1, (2, yc 1003, yc 0))], []), [(3, [(1, 0, 400), (2, 0, 400)], [], [(yc 2, yc 0, (2, yc 1, yc 0)), (yc 2, yc 4, (0, (1, 0, 0), yc 0)), (yc 2, yc 2, (0, (1, 1, 0), yc 0)), (yc 2, yc 1, (0, (1, 2, 0), yc 0))], [], [(0, yc (-1), yc 0)]), (3, [(1, 0, 400), (2, 0, 400)], [], [(yc 2, yc 0, (2, yc 1, yc 0)), (yc 2, yc 4, (0, (1, 0, 0), yc 0)), (yc 2, yc 1, (0, (1, 1, 0), yc 0)), (yc 2, yc 2, (0, (1, 2, 0), yc 0))], [], [(0, yc 0, yc 0)])], [(2, 2, 2), (2, 2, 3)])
def yx298 : yCx := ([ys247, ys248, ys280, ys285, ys289, ys293, ys297], ys298.2.2.2.2, yFP, zm59.2.2.1, zm59.2.2.2.1, zc59, 1, ys298.2.2.2.1, [(18, (4, [(0, 0, 2147483647), (1, 0, 400), (2, 0, 400), (3, 0, 400)], [], [(yc 2, yc 0, (2, yc 1, yc 0)), (yc 2, yc 4, (0, (1, 0, 0), yc 0)), (yc 2, yc 2, (0, (1, 2, 0), yc 0)), (yc 2, yc 1, (0, (1, 3, 0), yc 0)), (yc 2, yc 3, (0, (1, 2, 0), yc 0))], [(0, (2, yc 2, yc 0)), (1, (2, yc 1003, yc 0)), (2, (0, (1, 1, 0), yc 0))], []), ([((-1), 1)], 405)), (55, (4, [(0, 0, 2147483647), (1, 0, 400), (2, 0, 400), (3, 0, 400)], [], [(yc 2, yc 0, (2, yc 1, yc 0)), (yc 2, yc 4, (0, (1, 0, 0), yc 0)), (yc 2, yc 2, (0, (1, 2, 0), yc 0)), (yc 2, yc 1, (0, (1, 3, 0), yc 0)), (yc 2, yc 3, (0, (1, 2, 0), yc 0))], [(0, (2, yc 2, yc 0)), (1, (2, yc 1003, yc 0)), (2, (0, (1, 1, 0), yc 0)), (3, (0, yc 0, yc 0)), (4, (0, (1, 2, 0), yc 0)), (5, (0, yc 0, yc 0))], []), ([], 4)), (55, (5, [(0, 0, 2147483647), (1, 0, 400), (2, (-1), 400), (3, 0, 400), (4, 0, 400)], [([(1, 1), ((-1), 2)], 0)], [(yc 2, yc 0, (2, yc 1, yc 0)), (yc 2, yc 4, (0, (1, 0, 0), yc 0)), (yc 2, yc 2, (0, (1, 3, 0), yc 0)), (yc 2, yc 1, (0, (1, 4, 0), yc 0)), (yc 2, yc 3, (0, (1, 3, 0), yc 0))], [(0, (2, yc 2, yc 0)), (1, (2, yc 1003, yc 0)), (2, (0, (1, 1, 0), yc 0)), (3, (0, yc 0, yc 0)), (4, (0, (1, 2, 0), yc 0)), (5, (0, yc 1, yc 0))], []), ([], 3)), (55, (5, [(0, 0, 2147483647), (1, 0, 400), (2, (-1), 400), (3, 0, 400), (4, 0, 400)], [([(1, 1), ((-1), 2)], 1), ([(1, 1), ((-1), 2)], 0)], [(yc 2, yc 0, (2, yc 1, yc 0)), (yc 2, yc 4, (0, (1, 0, 0), yc 0)), (yc 2, yc 2, (0, (1, 3, 0), yc 0)), (yc 2, yc 1, (0, (1, 4, 0), yc 0)), (yc 2, yc 3, (0, (1, 3, 0), yc 0))], [(0, (2, yc 2, yc 0)), (1, (2, yc 1003, yc 0)), (2, (0, (1, 1, 0), yc 0)), (3, (0, yc 0, yc 0)), (4, (0, (1, 2, 0), yc 0)), (5, (0, yc 2, yc 0))], []), ([], 2)), (55, (5, [(0, 0, 2147483647), (1, 0, 400), (2, (-1), 400), (3, 0, 400), (4, 0, 400)], [([(1, 1), ((-1), 2)], 2), ([(1, 1), ((-1), 2)], 1), ([(1, 1), ((-1), 2)], 0)], [(yc 2, yc 0, (2, yc 1, yc 0)), (yc 2, yc 4, (0, (1, 0, 0), yc 0)), (yc 2, yc 2, (0, (1, 3, 0), yc 0)), (yc 2, yc 1, (0, (1, 4, 0), yc 0)), (yc 2, yc 3, (0, (1, 3, 0), yc 0))], [(0, (2, yc 2, yc 0)), (1, (2, yc 1003, yc 0)), (2, (0, (1, 1, 0), yc 0)), (3, (0, yc 0, yc 0)), (4, (0, (1, 2, 0), yc 0)), (5, (0, yc 3, yc 0))], []), ([], 1)), (55, (4, [(0, 0, 2147483647), (1, 0, 400), (2, 0, 400), (3, 0, 400)], [], [(yc 2, yc 0, (2, yc 1, yc 0)), (yc 2, yc 4, (0, (1, 0, 0), yc 0)), (yc 2, yc 2, (0, (1, 2, 0), yc 0)), (yc 2, yc 1, (0, (1, 3, 0), yc 0)), (yc 2, yc 3, (0, (1, 2, 0), yc 0))], [(0, (2, yc 2, yc 0)), (1, (2, yc 1003, yc 0)), (2, (0, (1, 1, 0), yc 0)), (3, (0, yc 1, yc 0)), (4, (0, (1, 2, 0), yc 0)), (5, (0, yc 4, yc 0))], []), ([], 0))], [])
theorem yw298 : ywf ys298.2.2.1 = true := by decide +kernel
theorem yk298 : yver yx298 ys298.2.2.1 4000 = true := by decide +kernel
theorem yt298 {E : zHp → Prop} (h : yEF E yFP) : yTs E 5 ys298 := yver_s (x := yx298) h (yal_c (yt247 h) (by decide) yw247 (yal_c (yt248 h) (by decide) yw248 (yal_c (yt280 h) (by decide) yw280 (yal_c (yt285 h) (by decide) yw285 (yal_c (yt289 h) (by decide) yw289 (yal_c (yt293 h) (by decide) yw293 (yal_c (yt297 h) (by decide) yw297 (yal_n)))))))) yg59 yk298
def ys299 : ySp := (47, 2, (1, [(0, 0, 3)], [], [], [(0, (2, yc 6, yc 0)), (1, (0, (1, 0, 0), yc 0))], []), [(1, [], [], [], [], [])], [(6, 6, 3), (8, 8, 1000)])
def yx299 : yCx := ([], ys299.2.2.2.2, yFP, zm47.2.2.1, zm47.2.2.2.1, zc47, 1, ys299.2.2.2.1, [], [])
theorem yw299 : ywf ys299.2.2.1 = true := by decide +kernel
theorem yk299 : yver yx299 ys299.2.2.1 4000 = true := by decide +kernel
theorem yt299 {E : zHp → Prop} (h : yEF E yFP) : yTs E 1 ys299 := yver_s (x := yx299) h (yal_n) yg47 yk299
def ys300 : ySp := (56, 1, (1, [(0, 0, 255)], [], [], [(0, (0, (1, 0, 0), yc 0))], []), [(1, [], [], [], [], [(0, yc 0, yc 0)]), (1, [(0, 48, 57)], [], [], [], [(0, yc 1, yc 0)])], [])
def yx300 : yCx := ([], ys300.2.2.2.2, yFP, zm56.2.2.1, zm56.2.2.2.1, zc56, 1, ys300.2.2.2.1, [], [])
theorem yw300 : ywf ys300.2.2.1 = true := by decide +kernel
theorem yk300 : yver yx300 ys300.2.2.1 4000 = true := by decide +kernel
theorem yt300 {E : zHp → Prop} (h : yEF E yFP) : yTs E 1 ys300 := yver_s (x := yx300) h (yal_n) yg56 yk300
def ys301 : ySp := (58, 4, (1, [(0, 0, 2147483647)], [], [(yc 2, yc 0, (2, yc 1, yc 0)), (yc 2, yc 4, (0, (1, 0, 0), yc 0))], [(0, (2, yc 2, yc 0)), (1, (0, yc 0, yc 0)), (2, (0, yc 99999, yc 0))], []), [(5, [(1, (-2147483648), 2147483647), (2, 0, 400), (3, 0, 400), (4, 1, 2147483647)], [], [(yc 2, yc 0, (2, yc 1, yc 0)), (yc 2, yc 2, (0, (1, 2, 0), yc 0)), (yc 2, yc 1, (0, (1, 3, 0), yc 0)), (yc 2, yc 4, (0, (1, 4, 0), yc 0))], [], [(0, (1, 1, 0), yc 0)]), (4, [(1, 0, 99999), (2, 0, 400), (3, 0, 400)], [], [(yc 2, yc 0, (2, yc 1, yc 0)), (yc 2, yc 4, (0, (1, 0, 0), yc 0)), (yc 2, yc 2, (0, (1, 2, 0), yc 0)), (yc 2, yc 1, (0, (1, 3, 0), yc 0))], [], [(0, (1, 1, 0), yc 0)])], [(2, 2, 2), (2, 2, 3), (2, 2, 4)])
def yx301 : yCx := ([ys273, ys247, ys300], ys301.2.2.2.2, yFP, zm58.2.2.1, zm58.2.2.2.1, zc58, 1, ys301.2.2.2.1, [(15, (5, [(0, 0, 2147483647), (1, (-2147483648), 2147483647), (2, 0, 400), (3, 0, 400), (4, 0, 400)], [], [(yc 2, yc 0, (2, yc 1, yc 0)), (yc 2, yc 4, (0, (1, 0, 0), yc 0)), (yc 2, yc 2, (0, (1, 2, 0), yc 0)), (yc 2, yc 1, (0, (1, 3, 0), yc 0)), (yc 2, yc 3, (0, (1, 4, 0), yc 0))], [(0, (2, yc 2, yc 0)), (1, (0, yc 0, yc 0)), (2, (0, yc 99999, yc 0)), (3, (0, (1, 1, 0), yc 0))], []), ([((-1), 2)], 401))], [])
theorem yw301 : ywf ys301.2.2.1 = true := by decide +kernel
theorem yk301 : yver yx301 ys301.2.2.1 4000 = true := by decide +kernel
theorem yt301 {E : zHp → Prop} (h : yEF E yFP) : yTs E 2 ys301 := yver_s (x := yx301) h (yal_c (yt273 h) (by decide) yw273 (yal_c (yt247 h) (by decide) yw247 (yal_c (yt300 h) (by decide) yw300 (yal_n)))) yg58 yk301
def ys302 : ySp := (48, 2, (1, [(0, 0, 2147483647)], [], [], [(0, (2, yc 6, yc 0)), (1, (0, (1, 0, 0), yc 0))], []), [(1, [], [], [], [], [])], [(6, 6, 1), (7, 7, 1000)])
def yx302 : yCx := ([], ys302.2.2.2.2, yFP, zm48.2.2.1, zm48.2.2.2.1, zc48, 1, ys302.2.2.2.1, [], [])
theorem yw302 : ywf ys302.2.2.1 = true := by decide +kernel
theorem yk302 : yver yx302 ys302.2.2.1 4000 = true := by decide +kernel
theorem yt302 {E : zHp → Prop} (h : yEF E yFP) : yTs E 1 ys302 := yver_s (x := yx302) h (yal_n) yg48 yk302
def ys303 : ySp := (37, 3, (2, [(0, 0, 400), (1, 0, 2147483647)], [], [(yc 2, yc 0, (2, yc 1, yc 0)), (yc 2, yc 4, (0, (1, 1, 0), yc 0))], [(0, (2, yc 6, yc 0)), (1, (2, yc 2, yc 0)), (2, (0, (1, 0, 0), yc 0))], []), [(3, [(2, 0, 2147483647)], [], [(yc 2, yc 0, (2, yc 1, yc 0)), (yc 2, yc 4, (0, (1, 2, 0), yc 0))], [], [])], [(2, 2, 4), (6, 6, 5)])
def yx303 : yCx := ([ys275], ys303.2.2.2.2, yFP, zm37.2.2.1, zm37.2.2.2.1, zc37, 2, ys303.2.2.2.1, [], [])
theorem yw303 : ywf ys303.2.2.1 = true := by decide +kernel
theorem yk303 : yver yx303 ys303.2.2.1 4000 = true := by decide +kernel
theorem yt303 {E : zHp → Prop} (h : yEF E yFP) : yTs E 2 ys303 := yver_s (x := yx303) h (yal_c (yt275 h) (by decide) yw275 (yal_n)) yg37 yk303
def ys304 : ySp := (48, 2, (1, [(0, (-2147483648), 2147483647)], [], [], [(0, (2, yc 6, yc 0)), (1, (0, (1, 0, 0), yc 0))], []), [(1, [], [], [], [], [])], [(6, 6, 1), (7, 7, 1000)])
def yx304 : yCx := ([], ys304.2.2.2.2, yFP, zm48.2.2.1, zm48.2.2.2.1, zc48, 1, ys304.2.2.2.1, [], [])
theorem yw304 : ywf ys304.2.2.1 = true := by decide +kernel
theorem yk304 : yver yx304 ys304.2.2.1 4000 = true := by decide +kernel
theorem yt304 {E : zHp → Prop} (h : yEF E yFP) : yTs E 1 ys304 := yver_s (x := yx304) h (yal_n) yg48 yk304
def ys305 : ySp := (283, 1, (0, [], [], [], [(0, (2, yc 1004, yc 0))], []), [(0, [], [], [], [], [(0, yc 0, yc 0)])], [])
def yx305 : yCx := ([], ys305.2.2.2.2, yFP, zm283.2.2.1, zm283.2.2.2.1, zc283, 0, ys305.2.2.2.1, [], [])
theorem yw305 : ywf ys305.2.2.1 = true := by decide +kernel
theorem yk305 : yver yx305 ys305.2.2.1 4000 = true := by decide +kernel
theorem yt305 {E : zHp → Prop} (h : yEF E yFP) : yTs E 1 ys305 := yver_s (x := yx305) h (yal_n) yg283 yk305
def ys306 : ySp := (281, 1, (0, [], [], [], [(0, (2, yc 1004, yc 0))], []), [(0, [], [], [], [], [(0, yc 66, yc 0)])], [])
def yx306 : yCx := ([ys305], ys306.2.2.2.2, yFP, zm281.2.2.1, zm281.2.2.2.1, zc281, 0, ys306.2.2.2.1, [], [])
theorem yw306 : ywf ys306.2.2.1 = true := by decide +kernel
theorem yk306 : yver yx306 ys306.2.2.1 4000 = true := by decide +kernel
theorem yt306 {E : zHp → Prop} (h : yEF E yFP) : yTs E 2 ys306 := yver_s (x := yx306) h (yal_c (yt305 h) (by decide) yw305 (yal_n)) yg281 yk306
def ys307 : ySp := (284, 1, (0, [], [], [], [(0, (2, yc 1004, yc 0))], []), [(0, [], [], [], [], [(0, yc 1, yc 0)])], [])
def yx307 : yCx := ([], ys307.2.2.2.2, yFP, zm284.2.2.1, zm284.2.2.2.1, zc284, 0, ys307.2.2.2.1, [], [])
theorem yw307 : ywf ys307.2.2.1 = true := by decide +kernel
theorem yk307 : yver yx307 ys307.2.2.1 4000 = true := by decide +kernel
theorem yt307 {E : zHp → Prop} (h : yEF E yFP) : yTs E 1 ys307 := yver_s (x := yx307) h (yal_n) yg284 yk307
def ys308 : ySp := (293, 3, (0, [], [], [], [(0, (0, yc 0, yc 0)), (1, (0, yc 66, yc 0)), (2, (7, yc 0, yc 0))], []), [(0, [], [], [], [], [(0, yc 0, yc 0)])], [])
def yx308 : yCx := ([], ys308.2.2.2.2, yFP, zm293.2.2.1, zm293.2.2.2.1, zc293, 0, ys308.2.2.2.1, [], [])
theorem yw308 : ywf ys308.2.2.1 = true := by decide +kernel
theorem yk308 : yver yx308 ys308.2.2.1 4000 = true := by decide +kernel
theorem yt308 {E : zHp → Prop} (h : yEF E yFP) : yTs E 1 ys308 := yver_s (x := yx308) h (yal_n) yg293 yk308
