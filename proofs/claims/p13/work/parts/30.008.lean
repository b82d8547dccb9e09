section
def yq244_0 : yCu := (21, (3, [(0, 1, 20), (1, 0, 6), (2, 0, 6)], [], [(yc 81, (124, 0, (-124)), (0, (1, 1, 0), yc 0)), (yc 81, (124, 0, (-122)), (0, (1, 2, 0), yc 0)), (yc 70, yc 25, (0, (1, 0, (-1)), yc 0))], [(0, (2, yc 70, yc 0)), (1, (0, yc 0, yc 0))], []), ([], 101))
def yq244_1 : yCu := (21, (3, [(0, 1, 20), (1, 0, 6), (2, 0, 6)], [], [(yc 81, (124, 0, (-124)), (0, (1, 1, 0), yc 0)), (yc 81, (124, 0, (-122)), (0, (1, 2, 0), yc 0)), (yc 70, yc 25, (0, (1, 0, (-1)), yc 0)), (yc 80, yc 0, (0, (1, 1, 0), yc 0)), (yc 80, yc 2, (0, (1, 2, 0), yc 0))], [(0, (2, yc 70, yc 0)), (1, (0, yc 20, yc 0))], []), ([], 81))
def yq244_2 : yCu := (21, (3, [(0, 1, 20), (1, 0, 6), (2, 0, 6)], [], [(yc 81, (124, 0, (-124)), (0, (1, 1, 0), yc 0)), (yc 81, (124, 0, (-122)), (0, (1, 2, 0), yc 0)), (yc 70, yc 25, (0, (1, 0, (-1)), yc 0)), (yc 80, yc 0, (0, (1, 1, 0), yc 0)), (yc 80, yc 2, (0, (1, 2, 0), yc 0))], [(0, (2, yc 70, yc 0)), (1, (0, yc 40, yc 0))], []), ([], 61))
def yq244_3 : yCu := (21, (3, [(0, 1, 20), (1, 0, 6), (2, 0, 6)], [], [(yc 81, (124, 0, (-124)), (0, (1, 1, 0), yc 0)), (yc 81, (124, 0, (-122)), (0, (1, 2, 0), yc 0)), (yc 70, yc 25, (0, (1, 0, (-1)), yc 0)), (yc 80, yc 0, (0, (1, 1, 0), yc 0)), (yc 80, yc 2, (0, (1, 2, 0), yc 0))], [(0, (2, yc 70, yc 0)), (1, (0, yc 60, yc 0))], []), ([], 41))
def yq244_4 : yCu := (21, (3, [(0, 1, 20), (1, 0, 6), (2, 0, 6)], [], [(yc 81, (124, 0, (-124)), (0, (1, 1, 0), yc 0)), (yc 81, (124, 0, (-122)), (0, (1, 2, 0), yc 0)), (yc 70, yc 25, (0, (1, 0, (-1)), yc 0)), (yc 80, yc 0, (0, (1, 1, 0), yc 0)), (yc 80, yc 2, (0, (1, 2, 0), yc 0))], [(0, (2, yc 70, yc 0)), (1, (0, yc 80, yc 0))], []), ([], 21))
def yq244_5 : yCu := (21, (3, [(0, 1, 20), (1, 0, 6), (2, 0, 6)], [], [(yc 81, (124, 0, (-124)), (0, (1, 1, 0), yc 0)), (yc 81, (124, 0, (-122)), (0, (1, 2, 0), yc 0)), (yc 70, yc 25, (0, (1, 0, (-1)), yc 0)), (yc 80, yc 0, (0, (1, 1, 0), yc 0)), (yc 80, yc 2, (0, (1, 2, 0), yc 0))], [(0, (2, yc 70, yc 0)), (1, (0, yc 100, yc 0))], []), ([], 1))
def yq244_6 : yCu := (21, (3, [(0, 1, 20), (1, 0, 6), (2, 0, 6)], [], [(yc 81, (124, 0, (-124)), (0, (1, 1, 0), yc 0)), (yc 81, (124, 0, (-122)), (0, (1, 2, 0), yc 0)), (yc 70, yc 25, (0, (1, 0, (-1)), yc 0)), (yc 80, yc 0, (0, (1, 1, 0), yc 0)), (yc 80, yc 2, (0, (1, 2, 0), yc 0))], [(0, (2, yc 70, yc 0)), (1, (0, yc 120, yc 0))], []), ([], 0))
def yx244 : yCx := ([], ys244.2.2.2.2, [], zm221.2.2.1, zm221.2.2.2.1, zc221, 3, ys244.2.2.2.1, [yq244_0, yq244_1, yq244_2, yq244_3, yq244_4, yq244_5, yq244_6], [])
theorem yk244_e : yver0 yx244 ys244.2.2.1 20000 = true := yver0Q_ok (by decide +kernel)
theorem yk244_0 : ycc yx244 20000 yq244_0 = true := yccQ_ok (by decide +kernel)
theorem yk244_1 : ycc yx244 20000 yq244_1 = true := yccQ_ok (by decide +kernel)
theorem yk244_2 : ycc yx244 20000 yq244_2 = true := yccQ_ok (by decide +kernel)
theorem yk244_3 : ycc yx244 20000 yq244_3 = true := yccQ_ok (by decide +kernel)
theorem yk244_4 : ycc yx244 20000 yq244_4 = true := yccQ_ok (by decide +kernel)
theorem yk244_5 : ycc yx244 20000 yq244_5 = true := yccQ_ok (by decide +kernel)
theorem yk244_6 : ycc yx244 20000 yq244_6 = true := yccQ_ok (by decide +kernel)
theorem yk244 : yver yx244 ys244.2.2.1 20000 = true := yver_join yk244_e (ycc_c yk244_0 (ycc_c yk244_1 (ycc_c yk244_2 (ycc_c yk244_3 (ycc_c yk244_4 (ycc_c yk244_5 (ycc_c yk244_6 (ycc_n))))))))
theorem yt244 : yTs (fun _ => True) 1 ys244 := yver_s (x := yx244) (yEF_T _) (yal_n) yg221 yk244
end
section
def yx245 : yCx := ([], ys245.2.2.2.2, [], zm221.2.2.1, zm221.2.2.2.1, zc221, 0, ys245.2.2.2.1, [], [])
theorem yk245 : yver yx245 ys245.2.2.1 20000 = true := yverQ_ok (by decide +kernel)
theorem yt245 : yTs (fun _ => True) 1 ys245 := yver_s (x := yx245) (yEF_T _) (yal_n) yg221 yk245
end
section
def ys247 : ySp := (53, 1, (1, [(0, 0, 2147483647)], [], [(yc 2, yc 0, (2, yc 1, yc 0)), (yc 2, yc 4, (0, (1, 0, 0), yc 0))], [(0, (2, yc 2, yc 0))], []), [(3, [(1, 0, 400), (2, 0, 400)], [([(1, 1), ((-1), 2)], 0)], [(yc 2, yc 0, (2, yc 1, yc 0)), (yc 2, yc 4, (0, (1, 0, 0), yc 0)), (yc 2, yc 2, (0, (1, 1, 0), yc 0)), (yc 2, yc 1, (0, (1, 2, 0), yc 0))], [], [(0, yc (-1), yc 0)]), (4, [(1, 0, 255), (2, 0, 399), (3, 1, 400)], [([(1, 3), ((-1), 2)], (-1))], [(yc 2, yc 0, (2, yc 1, yc 0)), (yc 2, yc 4, (0, (1, 0, 0), yc 0)), (yc 2, yc 2, (0, (1, 2, 0), yc 0)), (yc 2, yc 1, (0, (1, 3, 0), yc 0))], [], [(0, (1, 1, 0), yc 0)])], [(2, 2, 2)])
def yx247 : yCx := ([], ys247.2.2.2.2, yFP, zm53.2.2.1, zm53.2.2.2.1, zc53, 1, ys247.2.2.2.1, [(0, (2, [(0, 0, 2147483647), (1, 0, 400)], [], [(yc 2, yc 0, (2, yc 1, yc 0)), (yc 2, yc 4, (0, (1, 0, 0), yc 0)), (yc 2, yc 2, (0, (1, 1, 0), yc 0))], [(0, (2, yc 2, yc 0))], []), ([((-1), 1)], 401))], [])
theorem yw247 : ywf ys247.2.2.1 = true := by decide +kernel
theorem yk247 : yver yx247 ys247.2.2.1 4000 = true := yverQ_ok (by decide +kernel)
theorem yt247 {E : zHp → Prop} (h : yEF E yFP) : yTs E 1 ys247 := yver_s (k := 53) (n := 0) (x := yx247) (P := ys247.2.2.1) (f := 4000) h (yal_n) yg53 yk247
def ys248 : ySp := (57, 1, (1, [(0, 0, 255)], [], [], [(0, (0, (1, 0, 0), yc 0))], []), [(1, [], [], [], [], [(0, yc 0, yc 0)]), (1, [(0, 97, 122)], [], [], [], [(0, yc 1, yc 0)])], [])
def yx248 : yCx := ([], ys248.2.2.2.2, yFP, zm57.2.2.1, zm57.2.2.2.1, zc57, 1, ys248.2.2.2.1, [], [])
theorem yw248 : ywf ys248.2.2.1 = true := by decide +kernel
theorem yk248 : yver yx248 ys248.2.2.1 4000 = true := yverQ_ok (by decide +kernel)
theorem yt248 {E : zHp → Prop} (h : yEF E yFP) : yTs E 1 ys248 := yver_s (k := 57) (n := 0) (x := yx248) (P := ys248.2.2.1) (f := 4000) h (yal_n) yg57 yk248
def ys249 : ySp := (283, 1, (0, [], [], [], [(0, (2, yc 1002, yc 0))], []), [(0, [], [], [], [], [(0, yc 0, yc 0)])], [])
def yx249 : yCx := ([], ys249.2.2.2.2, yFP, zm283.2.2.1, zm283.2.2.2.1, zc283, 0, ys249.2.2.2.1, [], [])
theorem yw249 : ywf ys249.2.2.1 = true := by decide +kernel
theorem yk249 : yver yx249 ys249.2.2.1 4000 = true := yverQ_ok (by decide +kernel)
theorem yt249 {E : zHp → Prop} (h : yEF E yFP) : yTs E 1 ys249 := yver_s (k := 283) (n := 0) (x := yx249) (P := ys249.2.2.1) (f := 4000) h (yal_n) yg283 yk249
def ys250 : ySp := (281, 1, (0, [], [], [], [(0, (2, yc 1002, yc 0))], []), [(0, [], [], [], [], [(0, yc 5, yc 0)])], [])
def yx250 : yCx := ([ys249], ys250.2.2.2.2, yFP, zm281.2.2.1, zm281.2.2.2.1, zc281, 0, ys250.2.2.2.1, [], [])
theorem yw250 : ywf ys250.2.2.1 = true := by decide +kernel
theorem yk250 : yver yx250 ys250.2.2.1 4000 = true := yverQ_ok (by decide +kernel)
theorem yt250 {E : zHp → Prop} (h : yEF E yFP) : yTs E 2 ys250 := yver_s (k := 281) (n := 1) (x := yx250) (P := ys250.2.2.1) (f := 4000) h (yal_c (yt249 h) (by decide) yw249 (yal_n)) yg281 yk250
def ys251 : ySp := (284, 1, (0, [], [], [], [(0, (2, yc 1002, yc 0))], []), [(0, [], [], [], [], [(0, yc 1, yc 0)])], [])
def yx251 : yCx := ([], ys251.2.2.2.2, yFP, zm284.2.2.1, zm284.2.2.2.1, zc284, 0, ys251.2.2.2.1, [], [])
theorem yw251 : ywf ys251.2.2.1 = true := by decide +kernel
theorem yk251 : yver yx251 ys251.2.2.1 4000 = true := yverQ_ok (by decide +kernel)
theorem yt251 {E : zHp → Prop} (h : yEF E yFP) : yTs E 1 ys251 := yver_s (k := 284) (n := 0) (x := yx251) (P := ys251.2.2.1) (f := 4000) h (yal_n) yg284 yk251
def ys252 : ySp := (293, 3, (0, [], [], [], [(0, (0, yc 0, yc 0)), (1, (0, yc 5, yc 0)), (2, (7, yc 0, yc 0))], []), [(0, [], [], [], [], [(0, yc 0, yc 0)])], [])
def yx252 : yCx := ([], ys252.2.2.2.2, yFP, zm293.2.2.1, zm293.2.2.2.1, zc293, 0, ys252.2.2.2.1, [], [])
theorem yw252 : ywf ys252.2.2.1 = true := by decide +kernel
theorem yk252 : yver yx252 ys252.2.2.1 4000 = true := yverQ_ok (by decide +kernel)
theorem yt252 {E : zHp → Prop} (h : yEF E yFP) : yTs E 1 ys252 := yver_s (k := 293) (n := 0) (x := yx252) (P := ys252.2.2.1) (f := 4000) h (yal_n) yg293 yk252
def ys253 : ySp := (285, 2, (0, [], [], [], [(0, (0, yc 0, yc 0)), (1, (0, yc 5, yc 0))], []), [(0, [], [], [], [], [])], [])
def yx253 : yCx := ([ys252], ys253.2.2.2.2, yFP, zm285.2.2.1, zm285.2.2.2.1, zc285, 0, ys253.2.2.2.1, [], [])
theorem yw253 : ywf ys253.2.2.1 = true := by decide +kernel
theorem yk253 : yver yx253 ys253.2.2.1 4000 = true := yverQ_ok (by decide +kernel)
theorem yt253 {E : zHp → Prop} (h : yEF E yFP) : yTs E 2 ys253 := yver_s (k := 285) (n := 1) (x := yx253) (P := ys253.2.2.1) (f := 4000) h (yal_c (yt252 h) (by decide) yw252 (yal_n)) yg285 yk253
def ys254 : ySp := (286, 2, (0, [], [], [], [(0, (2, yc 1021, yc 0)), (1, (0, yc 0, yc 0))], []), [(0, [], [], [], [], [(0, yc 108, yc 0)])], [])
def yx254 : yCx := ([ys253], ys254.2.2.2.2, yFP, zm286.2.2.1, zm286.2.2.2.1, zc286, 0, ys254.2.2.2.1, [], [])
theorem yw254 : ywf ys254.2.2.1 = true := by decide +kernel
theorem yk254 : yver yx254 ys254.2.2.1 4000 = true := yverQ_ok (by decide +kernel)
theorem yt254 {E : zHp → Prop} (h : yEF E yFP) : yTs E 3 ys254 := yver_s (k := 286) (n := 2) (x := yx254) (P := ys254.2.2.1) (f := 4000) h (yal_c (yt253 h) (by decide) yw253 (yal_n)) yg286 yk254
def ys255 : ySp := (282, 2, (0, [], [], [], [(0, (2, yc 1002, yc 0)), (1, (0, yc 0, yc 0))], []), [(0, [], [], [], [], [(0, yc 108, yc 0)])], [])
def yx255 : yCx := ([ys251, ys254], ys255.2.2.2.2, yFP, zm282.2.2.1, zm282.2.2.2.1, zc282, 0, ys255.2.2.2.1, [], [])
theorem yw255 : ywf ys255.2.2.1 = true := by decide +kernel
theorem yk255 : yver yx255 ys255.2.2.1 4000 = true := yverQ_ok (by decide +kernel)
theorem yt255 {E : zHp → Prop} (h : yEF E yFP) : yTs E 4 ys255 := yver_s (k := 282) (n := 3) (x := yx255) (P := ys255.2.2.1) (f := 4000) h (yal_c (yt251 h) (by decide) yw251 (yal_c (yt254 h) (by decide) yw254 (yal_n))) yg282 yk255
def ys256 : ySp := (293, 3, (0, [], [], [], [(0, (0, yc 1, yc 0)), (1, (0, yc 5, yc 0)), (2, (7, yc 0, yc 0))], []), [(0, [], [], [], [], [(0, yc 1, yc 0)])], [])
def yx256 : yCx := ([], ys256.2.2.2.2, yFP, zm293.2.2.1, zm293.2.2.2.1, zc293, 0, ys256.2.2.2.1, [], [])
theorem yw256 : ywf ys256.2.2.1 = true := by decide +kernel
theorem yk256 : yver yx256 ys256.2.2.1 4000 = true := yverQ_ok (by decide +kernel)
theorem yt256 {E : zHp → Prop} (h : yEF E yFP) : yTs E 1 ys256 := yver_s (k := 293) (n := 0) (x := yx256) (P := ys256.2.2.1) (f := 4000) h (yal_n) yg293 yk256
def ys257 : ySp := (285, 2, (0, [], [], [], [(0, (0, yc 1, yc 0)), (1, (0, yc 5, yc 0))], []), [(0, [], [], [], [], [])], [])
def yx257 : yCx := ([ys256], ys257.2.2.2.2, yFP, zm285.2.2.1, zm285.2.2.2.1, zc285, 0, ys257.2.2.2.1, [], [])
theorem yw257 : ywf ys257.2.2.1 = true := by decide +kernel
theorem yk257 : yver yx257 ys257.2.2.1 4000 = true := yverQ_ok (by decide +kernel)
theorem yt257 {E : zHp → Prop} (h : yEF E yFP) : yTs E 2 ys257 := yver_s (k := 285) (n := 1) (x := yx257) (P := ys257.2.2.1) (f := 4000) h (yal_c (yt256 h) (by decide) yw256 (yal_n)) yg285 yk257
def ys258 : ySp := (286, 2, (0, [], [], [], [(0, (2, yc 1021, yc 0)), (1, (0, yc 1, yc 0))], []), [(0, [], [], [], [], [(0, yc 101, yc 0)])], [])
def yx258 : yCx := ([ys257], ys258.2.2.2.2, yFP, zm286.2.2.1, zm286.2.2.2.1, zc286, 0, ys258.2.2.2.1, [], [])
theorem yw258 : ywf ys258.2.2.1 = true := by decide +kernel
theorem yk258 : yver yx258 ys258.2.2.1 4000 = true := yverQ_ok (by decide +kernel)
theorem yt258 {E : zHp → Prop} (h : yEF E yFP) : yTs E 3 ys258 := yver_s (k := 286) (n := 2) (x := yx258) (P := ys258.2.2.1) (f := 4000) h (yal_c (yt257 h) (by decide) yw257 (yal_n)) yg286 yk258
def ys259 : ySp := (282, 2, (0, [], [], [], [(0, (2, yc 1002, yc 0)), (1, (0, yc 1, yc 0))], []), [(0, [], [], [], [], [(0, yc 101, yc 0)])], [])
def yx259 : yCx := ([ys251, ys258], ys259.2.2.2.2, yFP, zm282.2.2.1, zm282.2.2.2.1, zc282, 0, ys259.2.2.2.1, [], [])
theorem yw259 : ywf ys259.2.2.1 = true := by decide +kernel
theorem yk259 : yver yx259 ys259.2.2.1 4000 = true := yverQ_ok (by decide +kernel)
theorem yt259 {E : zHp → Prop} (h : yEF E yFP) : yTs E 4 ys259 := yver_s (k := 282) (n := 3) (x := yx259) (P := ys259.2.2.1) (f := 4000) h (yal_c (yt251 h) (by decide) yw251 (yal_c (yt258 h) (by decide) yw258 (yal_n))) yg282 yk259
def ys260 : ySp := (293, 3, (0, [], [], [], [(0, (0, yc 2, yc 0)), (1, (0, yc 5, yc 0)), (2, (7, yc 0, yc 0))], []), [(0, [], [], [], [], [(0, yc 2, yc 0)])], [])
def yx260 : yCx := ([], ys260.2.2.2.2, yFP, zm293.2.2.1, zm293.2.2.2.1, zc293, 0, ys260.2.2.2.1, [], [])
theorem yw260 : ywf ys260.2.2.1 = true := by decide +kernel
theorem yk260 : yver yx260 ys260.2.2.1 4000 = true := yverQ_ok (by decide +kernel)
theorem yt260 {E : zHp → Prop} (h : yEF E yFP) : yTs E 1 ys260 := yver_s (k := 293) (n := 0) (x := yx260) (P := ys260.2.2.1) (f := 4000) h (yal_n) yg293 yk260
def ys261 : ySp := (285, 2, (0, [], [], [], [(0, (0, yc 2, yc 0)), (1, (0, yc 5, yc 0))], []), [(0, [], [], [], [], [])], [])
def yx261 : yCx := ([ys260], ys261.2.2.2.2, yFP, zm285.2.2.1, zm285.2.2.2.1, zc285, 0, ys261.2.2.2.1, [], [])
theorem yw261 : ywf ys261.2.2.1 = true := by decide +kernel
theorem yk261 : yver yx261 ys261.2.2.1 4000 = true := yverQ_ok (by decide +kernel)
theorem yt261 {E : zHp → Prop} (h : yEF E yFP) : yTs E 2 ys261 := yver_s (k := 285) (n := 1) (x := yx261) (P := ys261.2.2.1) (f := 4000) h (yal_c (yt260 h) (by decide) yw260 (yal_n)) yg285 yk261
def ys262 : ySp := (286, 2, (0, [], [], [], [(0, (2, yc 1021, yc 0)), (1, (0, yc 2, yc 0))], []), [(0, [], [], [], [], [(0, yc 110, yc 0)])], [])
def yx262 : yCx := ([ys261], ys262.2.2.2.2, yFP, zm286.2.2.1, zm286.2.2.2.1, zc286, 0, ys262.2.2.2.1, [], [])
theorem yw262 : ywf ys262.2.2.1 = true := by decide +kernel
theorem yk262 : yver yx262 ys262.2.2.1 4000 = true := yverQ_ok (by decide +kernel)
theorem yt262 {E : zHp → Prop} (h : yEF E yFP) : yTs E 3 ys262 := yver_s (k := 286) (n := 2) (x := yx262) (P := ys262.2.2.1) (f := 4000) h (yal_c (yt261 h) (by decide) yw261 (yal_n)) yg286 yk262
def ys263 : ySp := (282, 2, (0, [], [], [], [(0, (2, yc 1002, yc 0)), (1, (0, yc 2, yc 0))], []), [(0, [], [], [], [], [(0, yc 110, yc 0)])], [])
def yx263 : yCx := ([ys251, ys262], ys263.2.2.2.2, yFP, zm282.2.2.1, zm282.2.2.2.1, zc282, 0, ys263.2.2.2.1, [], [])
theorem yw263 : ywf ys263.2.2.1 = true := by decide +kernel
theorem yk263 : yver yx263 ys263.2.2.1 4000 = true := yverQ_ok (by decide +kernel)
theorem yt263 {E : zHp → Prop} (h : yEF E yFP) : yTs E 4 ys263 := yver_s (k := 282) (n := 3) (x := yx263) (P := ys263.2.2.1) (f := 4000) h (yal_c (yt251 h) (by decide) yw251 (yal_c (yt262 h) (by decide) yw262 (yal_n))) yg282 yk263
def ys264 : ySp := (293, 3, (0, [], [], [], [(0, (0, yc 3, yc 0)), (1, (0, yc 5, yc 0)), (2, (7, yc 0, yc 0))], []), [(0, [], [], [], [], [(0, yc 3, yc 0)])], [])
def yx264 : yCx := ([], ys264.2.2.2.2, yFP, zm293.2.2.1, zm293.2.2.2.1, zc293, 0, ys264.2.2.2.1, [], [])
theorem yw264 : ywf ys264.2.2.1 = true := by decide +kernel
theorem yk264 : yver yx264 ys264.2.2.1 4000 = true := yverQ_ok (by decide +kernel)
theorem yt264 {E : zHp → Prop} (h : yEF E yFP) : yTs E 1 ys264 := yver_s (k := 293) (n := 0) (x := yx264) (P := ys264.2.2.1) (f := 4000) h (yal_n) yg293 yk264
def ys265 : ySp := (285, 2, (0, [], [], [], [(0, (0, yc 3, yc 0)), (1, (0, yc 5, yc 0))], []), [(0, [], [], [], [], [])], [])
def yx265 : yCx := ([ys264], ys265.2.2.2.2, yFP, zm285.2.2.1, zm285.2.2.2.1, zc285, 0, ys265.2.2.2.1, [], [])
theorem yw265 : ywf ys265.2.2.1 = true := by decide +kernel
theorem yk265 : yver yx265 ys265.2.2.1 4000 = true := yverQ_ok (by decide +kernel)
theorem yt265 {E : zHp → Prop} (h : yEF E yFP) : yTs E 2 ys265 := yver_s (k := 285) (n := 1) (x := yx265) (P := ys265.2.2.1) (f := 4000) h (yal_c (yt264 h) (by decide) yw264 (yal_n)) yg285 yk265
def ys266 : ySp := (286, 2, (0, [], [], [], [(0, (2, yc 1021, yc 0)), (1, (0, yc 3, yc 0))], []), [(0, [], [], [], [], [(0, yc 100, yc 0)])], [])
def yx266 : yCx := ([ys265], ys266.2.2.2.2, yFP, zm286.2.2.1, zm286.2.2.2.1, zc286, 0, ys266.2.2.2.1, [], [])
theorem yw266 : ywf ys266.2.2.1 = true := by decide +kernel
theorem yk266 : yver yx266 ys266.2.2.1 4000 = true := yverQ_ok (by decide +kernel)
theorem yt266 {E : zHp → Prop} (h : yEF E yFP) : yTs E 3 ys266 := yver_s (k := 286) (n := 2) (x := yx266) (P := ys266.2.2.1) (f := 4000) h (yal_c (yt265 h) (by decide) yw265 (yal_n)) yg286 yk266
def ys267 : ySp := (282, 2, (0, [], [], [], [(0, (2, yc 1002, yc 0)), (1, (0, yc 3, yc 0))], []), [(0, [], [], [], [], [(0, yc 100, yc 0)])], [])
def yx267 : yCx := ([ys251, ys266], ys267.2.2.2.2, yFP, zm282.2.2.1, zm282.2.2.2.1, zc282, 0, ys267.2.2.2.1, [], [])
theorem yw267 : ywf ys267.2.2.1 = true := by decide +kernel
theorem yk267 : yver yx267 ys267.2.2.1 4000 = true := yverQ_ok (by decide +kernel)
theorem yt267 {E : zHp → Prop} (h : yEF E yFP) : yTs E 4 ys267 := yver_s (k := 282) (n := 3) (x := yx267) (P := ys267.2.2.1) (f := 4000) h (yal_c (yt251 h) (by decide) yw251 (yal_c (yt266 h) (by decide) yw266 (yal_n))) yg282 yk267
def ys268 : ySp := (293, 3, (0, [], [], [], [(0, (0, yc 4, yc 0)), (1, (0, yc 5, yc 0)), (2, (7, yc 0, yc 0))], []), [(0, [], [], [], [], [(0, yc 4, yc 0)])], [])
def yx268 : yCx := ([], ys268.2.2.2.2, yFP, zm293.2.2.1, zm293.2.2.2.1, zc293, 0, ys268.2.2.2.1, [], [])
theorem yw268 : ywf ys268.2.2.1 = true := by decide +kernel
theorem yk268 : yver yx268 ys268.2.2.1 4000 = true := yverQ_ok (by decide +kernel)
theorem yt268 {E : zHp → Prop} (h : yEF E yFP) : yTs E 1 ys268 := yver_s (k := 293) (n := 0) (x := yx268) (P := ys268.2.2.1) (f := 4000) h (yal_n) yg293 yk268
def ys269 : ySp := (285, 2, (0, [], [], [], [(0, (0, yc 4, yc 0)), (1, (0, yc 5, yc 0))], []), [(0, [], [], [], [], [])], [])
def yx269 : yCx := ([ys268], ys269.2.2.2.2, yFP, zm285.2.2.1, zm285.2.2.2.1, zc285, 0, ys269.2.2.2.1, [], [])
theorem yw269 : ywf ys269.2.2.1 = true := by decide +kernel
theorem yk269 : yver yx269 ys269.2.2.1 4000 = true := yverQ_ok (by decide +kernel)
theorem yt269 {E : zHp → Prop} (h : yEF E yFP) : yTs E 2 ys269 := yver_s (k := 285) (n := 1) (x := yx269) (P := ys269.2.2.1) (f := 4000) h (yal_c (yt268 h) (by decide) yw268 (yal_n)) yg285 yk269
def ys270 : ySp := (286, 2, (0, [], [], [], [(0, (2, yc 1021, yc 0)), (1, (0, yc 4, yc 0))], []), [(0, [], [], [], [], [(0, yc 32, yc 0)])], [])
def yx270 : yCx := ([ys269], ys270.2.2.2.2, yFP, zm286.2.2.1, zm286.2.2.2.1, zc286, 0, ys270.2.2.2.1, [], [])
theorem yw270 : ywf ys270.2.2.1 = true := by decide +kernel
theorem yk270 : yver yx270 ys270.2.2.1 4000 = true := yverQ_ok (by decide +kernel)
theorem yt270 {E : zHp → Prop} (h : yEF E yFP) : yTs E 3 ys270 := yver_s (k := 286) (n := 2) (x := yx270) (P := ys270.2.2.1) (f := 4000) h (yal_c (yt269 h) (by decide) yw269 (yal_n)) yg286 yk270
def ys271 : ySp := (282, 2, (0, [], [], [], [(0, (2, yc 1002, yc 0)), (1, (0, yc 4, yc 0))], []), [(0, [], [], [], [], [(0, yc 32, yc 0)])], [])
def yx271 : yCx := ([ys251, ys270], ys271.2.2.2.2, yFP, zm282.2.2.1, zm282.2.2.2.1, zc282, 0, ys271.2.2.2.1, [], [])
theorem yw271 : ywf ys271.2.2.1 = true := by decide +kernel
theorem yk271 : yver yx271 ys271.2.2.1 4000 = true := yverQ_ok (by decide +kernel)
theorem yt271 {E : zHp → Prop} (h : yEF E yFP) : yTs E 4 ys271 := yver_s (k := 282) (n := 3) (x := yx271) (P := ys271.2.2.1) (f := 4000) h (yal_c (yt251 h) (by decide) yw251 (yal_c (yt270 h) (by decide) yw270 (yal_n))) yg282 yk271
def ys272 : ySp := (59, 6, (1, [(0, 0, 2147483647)], [], [(yc 2, yc 0, (2, yc 1, yc 0)), (yc 2, yc 4, (0, (1, 0, 0), yc 0))], [(0, (2, yc 2, yc 0)), (1, (2, yc 1002, yc 0))], []), [(3, [(1, 0, 400), (2, 0, 400)], [], [(yc 2, yc 0, (2, yc 1, yc 0)), (yc 2, yc 4, (0, (1, 0, 0), yc 0)), (yc 2, yc 2, (0, (1, 1, 0), yc 0)), (yc 2, yc 1, (0, (1, 2, 0), yc 0))], [], [(0, yc (-1), yc 0)]), (3, [(1, 0, 400), (2, 0, 400)], [], [(yc 2, yc 0, (2, yc 1, yc 0)), (yc 2, yc 4, (0, (1, 0, 0), yc 0)), (yc 2, yc 1, (0, (1, 1, 0), yc 0)), (yc 2, yc 2, (0, (1, 2, 0), yc 0))], [], [(0, yc 0, yc 0)])], [(2, 2, 2), (2, 2, 3)])
def yq272_0 : yCu := (18, (4, [(0, 0, 2147483647), (1, 0, 400), (2, 0, 400), (3, 0, 400)], [], [(yc 2, yc 0, (2, yc 1, yc 0)), (yc 2, yc 4, (0, (1, 0, 0), yc 0)), (yc 2, yc 2, (0, (1, 2, 0), yc 0)), (yc 2, yc 1, (0, (1, 3, 0), yc 0)), (yc 2, yc 3, (0, (1, 2, 0), yc 0))], [(0, (2, yc 2, yc 0)), (1, (2, yc 1002, yc 0)), (2, (0, (1, 1, 0), yc 0))], []), ([((-1), 1)], 406))
def yq272_1 : yCu := (55, (4, [(0, 0, 2147483647), (1, 0, 400), (2, 0, 400), (3, 0, 400)], [], [(yc 2, yc 0, (2, yc 1, yc 0)), (yc 2, yc 4, (0, (1, 0, 0), yc 0)), (yc 2, yc 2, (0, (1, 2, 0), yc 0)), (yc 2, yc 1, (0, (1, 3, 0), yc 0)), (yc 2, yc 3, (0, (1, 2, 0), yc 0))], [(0, (2, yc 2, yc 0)), (1, (2, yc 1002, yc 0)), (2, (0, (1, 1, 0), yc 0)), (3, (0, yc 0, yc 0)), (4, (0, (1, 2, 0), yc 0)), (5, (0, yc 0, yc 0))], []), ([], 5))
def yq272_2 : yCu := (55, (5, [(0, 0, 2147483647), (1, 0, 400), (2, (-1), 400), (3, 0, 400), (4, 0, 400)], [([(1, 1), ((-1), 2)], 0)], [(yc 2, yc 0, (2, yc 1, yc 0)), (yc 2, yc 4, (0, (1, 0, 0), yc 0)), (yc 2, yc 2, (0, (1, 3, 0), yc 0)), (yc 2, yc 1, (0, (1, 4, 0), yc 0)), (yc 2, yc 3, (0, (1, 3, 0), yc 0))], [(0, (2, yc 2, yc 0)), (1, (2, yc 1002, yc 0)), (2, (0, (1, 1, 0), yc 0)), (3, (0, yc 0, yc 0)), (4, (0, (1, 2, 0), yc 0)), (5, (0, yc 1, yc 0))], []), ([], 4))
def yq272_3 : yCu := (55, (5, [(0, 0, 2147483647), (1, 0, 400), (2, (-1), 400), (3, 0, 400), (4, 0, 400)], [([(1, 1), ((-1), 2)], 1), ([(1, 1), ((-1), 2)], 0)], [(yc 2, yc 0, (2, yc 1, yc 0)), (yc 2, yc 4, (0, (1, 0, 0), yc 0)), (yc 2, yc 2, (0, (1, 3, 0), yc 0)), (yc 2, yc 1, (0, (1, 4, 0), yc 0)), (yc 2, yc 3, (0, (1, 3, 0), yc 0))], [(0, (2, yc 2, yc 0)), (1, (2, yc 1002, yc 0)), (2, (0, (1, 1, 0), yc 0)), (3, (0, yc 0, yc 0)), (4, (0, (1, 2, 0), yc 0)), (5, (0, yc 2, yc 0))], []), ([], 3))
def yq272_4 : yCu := (55, (5, [(0, 0, 2147483647), (1, 0, 400), (2, (-1), 400), (3, 0, 400), (4, 0, 400)], [([(1, 1), ((-1), 2)], 2), ([(1, 1), ((-1), 2)], 1), ([(1, 1), ((-1), 2)], 0)], [(yc 2, yc 0, (2, yc 1, yc 0)), (yc 2, yc 4, (0, (1, 0, 0), yc 0)), (yc 2, yc 2, (0, (1, 3, 0), yc 0)), (yc 2, yc 1, (0, (1, 4, 0), yc 0)), (yc 2, yc 3, (0, (1, 3, 0), yc 0))], [(0, (2, yc 2, yc 0)), (1, (2, yc 1002, yc 0)), (2, (0, (1, 1, 0), yc 0)), (3, (0, yc 0, yc 0)), (4, (0, (1, 2, 0), yc 0)), (5, (0, yc 3, yc 0))], []), ([], 2))
def yq272_5 : yCu := (55, (5, [(0, 0, 2147483647), (1, 0, 400), (2, (-1), 400), (3, 0, 400), (4, 0, 400)], [([(1, 1), ((-1), 2)], 3), ([(1, 1), ((-1), 2)], 2), ([(1, 1), ((-1), 2)], 1), ([(1, 1), ((-1), 2)], 0)], [(yc 2, yc 0, (2, yc 1, yc 0)), (yc 2, yc 4, (0, (1, 0, 0), yc 0)), (yc 2, yc 2, (0, (1, 3, 0), yc 0)), (yc 2, yc 1, (0, (1, 4, 0), yc 0)), (yc 2, yc 3, (0, (1, 3, 0), yc 0))], [(0, (2, yc 2, yc 0)), (1, (2, yc 1002, yc 0)), (2, (0, (1, 1, 0), yc 0)), (3, (0, yc 0, yc 0)), (4, (0, (1, 2, 0), yc 0)), (5, (0, yc 4, yc 0))], []), ([], 1))
def yq272_6 : yCu := (55, (4, [(0, 0, 2147483647), (1, 0, 400), (2, 0, 400), (3, 0, 400)], [], [(yc 2, yc 0, (2, yc 1, yc 0)), (yc 2, yc 4, (0, (1, 0, 0), yc 0)), (yc 2, yc 2, (0, (1, 2, 0), yc 0)), (yc 2, yc 1, (0, (1, 3, 0), yc 0)), (yc 2, yc 3, (0, (1, 2, 0), yc 0))], [(0, (2, yc 2, yc 0)), (1, (2, yc 1002, yc 0)), (2, (0, (1, 1, 0), yc 0)), (3, (0, yc 1, yc 0)), (4, (0, (1, 2, 0), yc 0)), (5, (0, yc 5, yc 0))], []), ([], 0))
def yx272 : yCx := ([ys247, ys248, ys250, ys255, ys259, ys263, ys267, ys271], ys272.2.2.2.2, yFP, zm59.2.2.1, zm59.2.2.2.1, zc59, 1, ys272.2.2.2.1, [yq272_0, yq272_1, yq272_2, yq272_3, yq272_4, yq272_5, yq272_6], [])
theorem yw272 : ywf ys272.2.2.1 = true := by decide +kernel
theorem yk272_e : yver0 yx272 ys272.2.2.1 4000 = true := yver0Q_ok (by decide +kernel)
theorem yk272_0 : ycc yx272 4000 yq272_0 = true := yccQ_ok (by decide +kernel)
theorem yk272_1 : ycc yx272 4000 yq272_1 = true := yccQ_ok (by decide +kernel)
theorem yk272_2 : ycc yx272 4000 yq272_2 = true := yccQ_ok (by decide +kernel)
theorem yk272_3 : ycc yx272 4000 yq272_3 = true := yccQ_ok (by decide +kernel)
theorem yk272_4 : ycc yx272 4000 yq272_4 = true := yccQ_ok (by decide +kernel)
theorem yk272_5 : ycc yx272 4000 yq272_5 = true := yccQ_ok (by decide +kernel)
theorem yk272_6 : ycc yx272 4000 yq272_6 = true := yccQ_ok (by decide +kernel)
theorem yk272 : yver yx272 ys272.2.2.1 4000 = true := yver_join yk272_e (ycc_c yk272_0 (ycc_c yk272_1 (ycc_c yk272_2 (ycc_c yk272_3 (ycc_c yk272_4 (ycc_c yk272_5 (ycc_c yk272_6 (ycc_n))))))))
theorem yt272 {E : zHp → Prop} (h : yEF E yFP) : yTs E 5 ys272 := yver_s (k := 59) (n := 4) (x := yx272) (P := ys272.2.2.1) (f := 4000) h (yal_c (yt247 h) (by decide) yw247 (yal_c (yt248 h) (by decide) yw248 (yal_c (yt250 h) (by decide) yw250 (yal_c (yt255 h) (by decide) yw255 (yal_c (yt259 h) (by decide) yw259 (yal_c (yt263 h) (by decide) yw263 (yal_c (yt267 h) (by decide) yw267 (yal_c (yt271 h) (by decide) yw271 (yal_n))))))))) yg59 yk272
def ys273 : ySp := (52, 3, (3, [(0, 0, 400), (1, 0, 1), (2, 0, 2147483647)], [], [(yc 2, yc 4, (0, (1, 2, 0), yc 0))], [(0, (2, yc 2, yc 0)), (1, (0, (1, 0, 0), yc 0)), (2, (0, (1, 1, 0), yc 0))], []), [(4, [(3, 1, 2147483647)], [], [(yc 2, yc 4, (0, (1, 3, 0), yc 0))], [], [])], [(2, 2, 4)])
def yx273 : yCx := ([], ys273.2.2.2.2, yFP, zm52.2.2.1, zm52.2.2.2.1, zc52, 3, ys273.2.2.2.1, [], [])
theorem yw273 : ywf ys273.2.2.1 = true := by decide +kernel
theorem yk273 : yver yx273 ys273.2.2.1 4000 = true := yverQ_ok (by decide +kernel)
theorem yt273 {E : zHp → Prop} (h : yEF E yFP) : yTs E 1 ys273 := yver_s (k := 52) (n := 0) (x := yx273) (P := ys273.2.2.1) (f := 4000) h (yal_n) yg52 yk273
def ys274 : ySp := (60, 3, (1, [(0, 0, 2147483647)], [], [(yc 2, yc 0, (2, yc 1, yc 0)), (yc 2, yc 4, (0, (1, 0, 0), yc 0))], [(0, (2, yc 2, yc 0)), (1, (2, yc 1002, yc 0))], []), [(4, [(1, 0, 400), (2, 0, 400), (3, 1, 2147483647)], [], [(yc 2, yc 0, (2, yc 1, yc 0)), (yc 2, yc 2, (0, (1, 1, 0), yc 0)), (yc 2, yc 1, (0, (1, 2, 0), yc 0)), (yc 2, yc 4, (0, (1, 3, 0), yc 0))], [], [(0, yc (-1), yc 0)]), (3, [(1, 0, 400), (2, 0, 400)], [], [(yc 2, yc 0, (2, yc 1, yc 0)), (yc 2, yc 4, (0, (1, 0, 0), yc 0)), (yc 2, yc 1, (0, (1, 1, 0), yc 0)), (yc 2, yc 2, (0, (1, 2, 0), yc 0))], [], [(0, yc 0, yc 0)])], [(2, 2, 2), (2, 2, 3), (2, 2, 4)])
def yx274 : yCx := ([ys273, ys272], ys274.2.2.2.2, yFP, zm60.2.2.1, zm60.2.2.2.1, zc60, 1, ys274.2.2.2.1, [], [])
theorem yw274 : ywf ys274.2.2.1 = true := by decide +kernel
theorem yk274 : yver yx274 ys274.2.2.1 4000 = true := yverQ_ok (by decide +kernel)
theorem yt274 {E : zHp → Prop} (h : yEF E yFP) : yTs E 6 ys274 := yver_s (k := 60) (n := 5) (x := yx274) (P := ys274.2.2.1) (f := 4000) h (yal_c (yt273 h) (by decide) yw273 (yal_c (yt272 h) (by decide) yw272 (yal_n))) yg60 yk274
def ys275 : ySp := (52, 3, (3, [(0, 0, 400), (1, 0, 4), (2, 0, 2147483647)], [], [(yc 2, yc 4, (0, (1, 2, 0), yc 0))], [(0, (2, yc 2, yc 0)), (1, (0, (1, 0, 0), yc 0)), (2, (0, (1, 1, 0), yc 0))], []), [(4, [(3, 1, 2147483647)], [], [(yc 2, yc 4, (0, (1, 3, 0), yc 0))], [], [])], [(2, 2, 4)])
def yx275 : yCx := ([], ys275.2.2.2.2, yFP, zm52.2.2.1, zm52.2.2.2.1, zc52, 3, ys275.2.2.2.1, [], [])
theorem yw275 : ywf ys275.2.2.1 = true := by decide +kernel
theorem yk275 : yver yx275 ys275.2.2.1 4000 = true := yverQ_ok (by decide +kernel)
theorem yt275 {E : zHp → Prop} (h : yEF E yFP) : yTs E 1 ys275 := yver_s (k := 52) (n := 0) (x := yx275) (P := ys275.2.2.1) (f := 4000) h (yal_n) yg52 yk275
def ys276 : ySp := (34, 2, (1, [(0, 0, 2147483647)], [], [(yc 2, yc 0, (2, yc 1, yc 0)), (yc 2, yc 4, (0, (1, 0, 0), yc 0))], [(0, (2, yc 6, yc 0)), (1, (2, yc 2, yc 0))], []), [(4, [(1, 0, 400), (2, 0, 400), (3, 0, 2147483647)], [], [(yc 2, yc 0, (2, yc 1, yc 0)), (yc 2, yc 1, (0, (1, 1, 0), yc 0)), (yc 2, yc 2, (0, (1, 2, 0), yc 0)), (yc 2, yc 4, (0, (1, 3, 0), yc 0))], [], [])], [(2, 2, 2), (2, 2, 3), (2, 2, 4), (6, 6, 4), (6, 6, 8), (6, 6, 9)])
def yx276 : yCx := ([ys275, ys274], ys276.2.2.2.2, yFP, zm34.2.2.1, zm34.2.2.2.1, zc34, 1, ys276.2.2.2.1, [], [])
theorem yw276 : ywf ys276.2.2.1 = true := by decide +kernel
theorem yk276 : yver yx276 ys276.2.2.1 4000 = true := yverQ_ok (by decide +kernel)
theorem yt276 {E : zHp → Prop} (h : yEF E yFP) : yTs E 7 ys276 := yver_s (k := 34) (n := 6) (x := yx276) (P := ys276.2.2.1) (f := 4000) h (yal_c (yt275 h) (by decide) yw275 (yal_c (yt274 h) (by decide) yw274 (yal_n))) yg34 yk276
def ys277 : ySp := (54, 1, (1, [(0, 0, 399)], [], [(yc 2, yc 2, (0, (1, 0, 0), yc 0))], [(0, (2, yc 2, yc 0))], []), [(1, [], [], [(yc 2, yc 2, (0, (1, 0, 1), yc 0))], [], [])], [(2, 2, 2)])
def yx277 : yCx := ([], ys277.2.2.2.2, yFP, zm54.2.2.1, zm54.2.2.2.1, zc54, 1, ys277.2.2.2.1, [], [])
theorem yw277 : ywf ys277.2.2.1 = true := by decide +kernel
theorem yk277 : yver yx277 ys277.2.2.1 4000 = true := yverQ_ok (by decide +kernel)
theorem yt277 {E : zHp → Prop} (h : yEF E yFP) : yTs E 1 ys277 := yver_s (k := 54) (n := 0) (x := yx277) (P := ys277.2.2.1) (f := 4000) h (yal_n) yg54 yk277
def ys278 : ySp := (47, 2, (1, [(0, 0, 1)], [], [], [(0, (2, yc 6, yc 0)), (1, (0, (1, 0, 0), yc 0))], []), [(1, [], [], [], [], [])], [(6, 6, 3), (8, 8, 1000)])
def yx278 : yCx := ([], ys278.2.2.2.2, yFP, zm47.2.2.1, zm47.2.2.2.1, zc47, 1, ys278.2.2.2.1, [], [])
theorem yw278 : ywf ys278.2.2.1 = true := by decide +kernel
theorem yk278 : yver yx278 ys278.2.2.1 4000 = true := yverQ_ok (by decide +kernel)
theorem yt278 {E : zHp → Prop} (h : yEF E yFP) : yTs E 1 ys278 := yver_s (k := 47) (n := 0) (x := yx278) (P := ys278.2.2.1) (f := 4000) h (yal_n) yg47 yk278
def ys279 : ySp := (283, 1, (0, [], [], [], [(0, (2, yc 1003, yc 0))], []), [(0, [], [], [], [], [(0, yc 0, yc 0)])], [])
def yx279 : yCx := ([], ys279.2.2.2.2, yFP, zm283.2.2.1, zm283.2.2.2.1, zc283, 0, ys279.2.2.2.1, [], [])
theorem yw279 : ywf ys279.2.2.1 = true := by decide +kernel
theorem yk279 : yver yx279 ys279.2.2.1 4000 = true := yverQ_ok (by decide +kernel)
theorem yt279 {E : zHp → Prop} (h : yEF E yFP) : yTs E 1 ys279 := yver_s (k := 283) (n := 0) (x := yx279) (P := ys279.2.2.1) (f := 4000) h (yal_n) yg283 yk279
def ys280 : ySp := (281, 1, (0, [], [], [], [(0, (2, yc 1003, yc 0))], []), [(0, [], [], [], [], [(0, yc 4, yc 0)])], [])
def yx280 : yCx := ([ys279], ys280.2.2.2.2, yFP, zm281.2.2.1, zm281.2.2.2.1, zc281, 0, ys280.2.2.2.1, [], [])
theorem yw280 : ywf ys280.2.2.1 = true := by decide +kernel
theorem yk280 : yver yx280 ys280.2.2.1 4000 = true := yverQ_ok (by decide +kernel)
theorem yt280 {E : zHp → Prop} (h : yEF E yFP) : yTs E 2 ys280 := yver_s (k := 281) (n := 1) (x := yx280) (P := ys280.2.2.1) (f := 4000) h (yal_c (yt279 h) (by decide) yw279 (yal_n)) yg281 yk280
def ys281 : ySp := (284, 1, (0, [], [], [], [(0, (2, yc 1003, yc 0))], []), [(0, [], [], [], [], [(0, yc 1, yc 0)])], [])
def yx281 : yCx := ([], ys281.2.2.2.2, yFP, zm284.2.2.1, zm284.2.2.2.1, zc284, 0, ys281.2.2.2.1, [], [])
theorem yw281 : ywf ys281.2.2.1 = true := by decide +kernel
theorem yk281 : yver yx281 ys281.2.2.1 4000 = true := yverQ_ok (by decide +kernel)
theorem yt281 {E : zHp → Prop} (h : yEF E yFP) : yTs E 1 ys281 := yver_s (k := 284) (n := 0) (x := yx281) (P := ys281.2.2.1) (f := 4000) h (yal_n) yg284 yk281
def ys282 : ySp := (293, 3, (0, [], [], [], [(0, (0, yc 0, yc 0)), (1, (0, yc 4, yc 0)), (2, (7, yc 0, yc 0))], []), [(0, [], [], [], [], [(0, yc 0, yc 0)])], [])
def yx282 : yCx := ([], ys282.2.2.2.2, yFP, zm293.2.2.1, zm293.2.2.2.1, zc293, 0, ys282.2.2.2.1, [], [])
theorem yw282 : ywf ys282.2.2.1 = true := by decide +kernel
theorem yk282 : yver yx282 ys282.2.2.1 4000 = true := yverQ_ok (by decide +kernel)
theorem yt282 {E : zHp → Prop} (h : yEF E yFP) : yTs E 1 ys282 := yver_s (k := 293) (n := 0) (x := yx282) (P := ys282.2.2.1) (f := 4000) h (yal_n) yg293 yk282
def ys283 : ySp := (285, 2, (0, [], [], [], [(0, (0, yc 0, yc 0)), (1, (0, yc 4, yc 0))], []), [(0, [], [], [], [], [])], [])
def yx283 : yCx := ([ys282], ys283.2.2.2.2, yFP, zm285.2.2.1, zm285.2.2.2.1, zc285, 0, ys283.2.2.2.1, [], [])
theorem yw283 : ywf ys283.2.2.1 = true := by decide +kernel
theorem yk283 : yver yx283 ys283.2.2.1 4000 = true := yverQ_ok (by decide +kernel)
theorem yt283 {E : zHp → Prop} (h : yEF E yFP) : yTs E 2 ys283 := yver_s (k := 285) (n := 1) (x := yx283) (P := ys283.2.2.1) (f := 4000) h (yal_c (yt282 h) (by decide) yw282 (yal_n)) yg285 yk283
def ys284 : ySp := (286, 2, (0, [], [], [], [(0, (2, yc 1022, yc 0)), (1, (0, yc 0, yc 0))], []), [(0, [], [], [], [], [(0, yc 110, yc 0)])], [])
def yx284 : yCx := ([ys283], ys284.2.2.2.2, yFP, zm286.2.2.1, zm286.2.2.2.1, zc286, 0, ys284.2.2.2.1, [], [])
theorem yw284 : ywf ys284.2.2.1 = true := by decide +kernel
theorem yk284 : yver yx284 ys284.2.2.1 4000 = true := yverQ_ok (by decide +kernel)
theorem yt284 {E : zHp → Prop} (h : yEF E yFP) : yTs E 3 ys284 := yver_s (k := 286) (n := 2) (x := yx284) (P := ys284.2.2.1) (f := 4000) h (yal_c (yt283 h) (by decide) yw283 (yal_n)) yg286 yk284
def ys285 : ySp := (282, 2, (0, [], [], [], [(0, (2, yc 1003, yc 0)), (1, (0, yc 0, yc 0))], []), [(0, [], [], [], [], [(0, yc 110, yc 0)])], [])
def yx285 : yCx := ([ys281, ys284], ys285.2.2.2.2, yFP, zm282.2.2.1, zm282.2.2.2.1, zc282, 0, ys285.2.2.2.1, [], [])
theorem yw285 : ywf ys285.2.2.1 = true := by decide +kernel
theorem yk285 : yver yx285 ys285.2.2.1 4000 = true := yverQ_ok (by decide +kernel)
theorem yt285 {E : zHp → Prop} (h : yEF E yFP) : yTs E 4 ys285 := yver_s (k := 282) (n := 3) (x := yx285) (P := ys285.2.2.1) (f := 4000) h (yal_c (yt281 h) (by decide) yw281 (yal_c (yt284 h) (by decide) yw284 (yal_n))) yg282 yk285
def ys286 : ySp := (293, 3, (0, [], [], [], [(0, (0, yc 1, yc 0)), (1, (0, yc 4, yc 0)), (2, (7, yc 0, yc 0))], []), [(0, [], [], [], [], [(0, yc 1, yc 0)])], [])
def yx286 : yCx := ([], ys286.2.2.2.2, yFP, zm293.2.2.1, zm293.2.2.2.1, zc293, 0, ys286.2.2.2.1, [], [])
theorem yw286 : ywf ys286.2.2.1 = true := by decide +kernel
theorem yk286 : yver yx286 ys286.2.2.1 4000 = true := yverQ_ok (by decide +kernel)
theorem yt286 {E : zHp → Prop} (h : yEF E yFP) : yTs E 1 ys286 := yver_s (k := 293) (n := 0) (x := yx286) (P := ys286.2.2.1) (f := 4000) h (yal_n) yg293 yk286
def ys287 : ySp := (285, 2, (0, [], [], [], [(0, (0, yc 1, yc 0)), (1, (0, yc 4, yc 0))], []), [(0, [], [], [], [], [])], [])
def yx287 : yCx := ([ys286], ys287.2.2.2.2, yFP, zm285.2.2.1, zm285.2.2.2.1, zc285, 0, ys287.2.2.2.1, [], [])
theorem yw287 : ywf ys287.2.2.1 = true := by decide +kernel
theorem yk287 : yver yx287 ys287.2.2.1 4000 = true := yverQ_ok (by decide +kernel)
theorem yt287 {E : zHp → Prop} (h : yEF E yFP) : yTs E 2 ys287 := yver_s (k := 285) (n := 1) (x := yx287) (P := ys287.2.2.1) (f := 4000) h (yal_c (yt286 h) (by decide) yw286 (yal_n)) yg285 yk287
def ys288 : ySp := (286, 2, (0, [], [], [], [(0, (2, yc 1022, yc 0)), (1, (0, yc 1, yc 0))], []), [(0, [], [], [], [], [(0, yc 111, yc 0)])], [])
def yx288 : yCx := ([ys287], ys288.2.2.2.2, yFP, zm286.2.2.1, zm286.2.2.2.1, zc286, 0, ys288.2.2.2.1, [], [])
theorem yw288 : ywf ys288.2.2.1 = true := by decide +kernel
theorem yk288 : yver yx288 ys288.2.2.1 4000 = true := yverQ_ok (by decide +kernel)
theorem yt288 {E : zHp → Prop} (h : yEF E yFP) : yTs E 3 ys288 := yver_s (k := 286) (n := 2) (x := yx288) (P := ys288.2.2.1) (f := 4000) h (yal_c (yt287 h) (by decide) yw287 (yal_n)) yg286 yk288
def ys289 : ySp := (282, 2, (0, [], [], [], [(0, (2, yc 1003, yc 0)), (1, (0, yc 1, yc 0))], []), [(0, [], [], [], [], [(0, yc 111, yc 0)])], [])
def yx289 : yCx := ([ys281, ys288], ys289.2.2.2.2, yFP, zm282.2.2.1, zm282.2.2.2.1, zc282, 0, ys289.2.2.2.1, [], [])
theorem yw289 : ywf ys289.2.2.1 = true := by decide +kernel
theorem yk289 : yver yx289 ys289.2.2.1 4000 = true := yverQ_ok (by decide +kernel)
theorem yt289 {E : zHp → Prop} (h : yEF E yFP) : yTs E 4 ys289 := yver_s (k := 282) (n := 3) (x := yx289) (P := ys289.2.2.1) (f := 4000) h (yal_c (yt281 h) (by decide) yw281 (yal_c (yt288 h) (by decide) yw288 (yal_n))) yg282 yk289
def ys290 : ySp := (293, 3, (0, [], [], [], [(0, (0, yc 2, yc 0)), (1, (0, yc 4, yc 0)), (2, (7, yc 0, yc 0))], []), [(0, [], [], [], [], [(0, yc 2, yc 0)])], [])
def yx290 : yCx := ([], ys290.2.2.2.2, yFP, zm293.2.2.1, zm293.2.2.2.1, zc293, 0, ys290.2.2.2.1, [], [])
theorem yw290 : ywf ys290.2.2.1 = true := by decide +kernel
theorem yk290 : yver yx290 ys290.2.2.1 4000 = true := yverQ_ok (by decide +kernel)
theorem yt290 {E : zHp → Prop} (h : yEF E yFP) : yTs E 1 ys290 := yver_s (k := 293) (n := 0) (x := yx290) (P := ys290.2.2.1) (f := 4000) h (yal_n) yg293 yk290
def ys291 : ySp := (285, 2, (0, [], [], [], [(0, (0, yc 2, yc 0)), (1, (0, yc 4, yc 0))], []), [(0, [], [], [], [], [])], [])
def yx291 : yCx := ([ys290], ys291.2.2.2.2, yFP, zm285.2.2.1, zm285.2.2.2.1, zc285, 0, ys291.2.2.2.1, [], [])
theorem yw291 : ywf ys291.2.2.1 = true := by decide +kernel
theorem yk291 : yver yx291 ys291.2.2.1 4000 = true := yverQ_ok (by decide +kernel)
theorem yt291 {E : zHp → Prop} (h : yEF E yFP) : yTs E 2 ys291 := yver_s (k := 285) (n := 1) (x := yx291) (P := ys291.2.2.1) (f := 4000) h (yal_c (yt290 h) (by decide) yw290 (yal_n)) yg285 yk291
def ys292 : ySp := (286, 2, (0, [], [], [], [(0, (2, yc 1022, yc 0)), (1, (0, yc 2, yc 0))], []), [(0, [], [], [], [], [(0, yc 116, yc 0)])], [])
def yx292 : yCx := ([ys291], ys292.2.2.2.2, yFP, zm286.2.2.1, zm286.2.2.2.1, zc286, 0, ys292.2.2.2.1, [], [])
theorem yw292 : ywf ys292.2.2.1 = true := by decide +kernel
theorem yk292 : yver yx292 ys292.2.2.1 4000 = true := yverQ_ok (by decide +kernel)
theorem yt292 {E : zHp → Prop} (h : yEF E yFP) : yTs E 3 ys292 := yver_s (k := 286) (n := 2) (x := yx292) (P := ys292.2.2.1) (f := 4000) h (yal_c (yt291 h) (by decide) yw291 (yal_n)) yg286 yk292
def ys293 : ySp := (282, 2, (0, [], [], [], [(0, (2, yc 1003, yc 0)), (1, (0, yc 2, yc 0))], []), [(0, [], [], [], [], [(0, yc 116, yc 0)])], [])
def yx293 : yCx := ([ys281, ys292], ys293.2.2.2.2, yFP, zm282.2.2.1, zm282.2.2.2.1, zc282, 0, ys293.2.2.2.1, [], [])
theorem yw293 : ywf ys293.2.2.1 = true := by decide +kernel
theorem yk293 : yver yx293 ys293.2.2.1 4000 = true := yverQ_ok (by decide +kernel)
theorem yt293 {E : zHp → Prop} (h : yEF E yFP) : yTs E 4 ys293 := yver_s (k := 282) (n := 3) (x := yx293) (P := ys293.2.2.1) (f := 4000) h (yal_c (yt281 h) (by decide) yw281 (yal_c (yt292 h) (by decide) yw292 (yal_n))) yg282 yk293
def ys294 : ySp := (293, 3, (0, [], [], [], [(0, (0, yc 3, yc 0)), (1, (0, yc 4, yc 0)), (2, (7, yc 0, yc 0))], []), [(0, [], [], [], [], [(0, yc 3, yc 0)])], [])
def yx294 : yCx := ([], ys294.2.2.2.2, yFP, zm293.2.2.1, zm293.2.2.2.1, zc293, 0, ys294.2.2.2.1, [], [])
theorem yw294 : ywf ys294.2.2.1 = true := by decide +kernel
theorem yk294 : yver yx294 ys294.2.2.1 4000 = true := yverQ_ok (by decide +kernel)
theorem yt294 {E : zHp → Prop} (h : yEF E yFP) : yTs E 1 ys294 := yver_s (k := 293) (n := 0) (x := yx294) (P := ys294.2.2.1) (f := 4000) h (yal_n) yg293 yk294
def ys295 : ySp := (285, 2, (0, [], [], [], [(0, (0, yc 3, yc 0)), (1, (0, yc 4, yc 0))], []), [(0, [], [], [], [], [])], [])
def yx295 : yCx := ([ys294], ys295.2.2.2.2, yFP, zm285.2.2.1, zm285.2.2.2.1, zc285, 0, ys295.2.2.2.1, [], [])
theorem yw295 : ywf ys295.2.2.1 = true := by decide +kernel
theorem yk295 : yver yx295 ys295.2.2.1 4000 = true := yverQ_ok (by decide +kernel)
theorem yt295 {E : zHp → Prop} (h : yEF E yFP) : yTs E 2 ys295 := yver_s (k := 285) (n := 1) (x := yx295) (P := ys295.2.2.1) (f := 4000) h (yal_c (yt294 h) (by decide) yw294 (yal_n)) yg285 yk295
def ys296 : ySp := (286, 2, (0, [], [], [], [(0, (2, yc 1022, yc 0)), (1, (0, yc 3, yc 0))], []), [(0, [], [], [], [], [(0, yc 32, yc 0)])], [])
def yx296 : yCx := ([ys295], ys296.2.2.2.2, yFP, zm286.2.2.1, zm286.2.2.2.1, zc286, 0, ys296.2.2.2.1, [], [])
theorem yw296 : ywf ys296.2.2.1 = true := by decide +kernel
theorem yk296 : yver yx296 ys296.2.2.1 4000 = true := yverQ_ok (by decide +kernel)
theorem yt296 {E : zHp → Prop} (h : yEF E yFP) : yTs E 3 ys296 := yver_s (k := 286) (n := 2) (x := yx296) (P := ys296.2.2.1) (f := 4000) h (yal_c (yt295 h) (by decide) yw295 (yal_n)) yg286 yk296
def ys297 : ySp := (282, 2, (0, [], [], [], [(0, (2, yc 1003, yc 0)), (1, (0, yc 3, yc 0))], []), [(0, [], [], [], [], [(0, yc 32, yc 0)])], [])
def yx297 : yCx := ([ys281, ys296], ys297.2.2.2.2, yFP, zm282.2.2.1, zm282.2.2.2.1, zc282, 0, ys297.2.2.2.1, [], [])
theorem yw297 : ywf ys297.2.2.1 = true := by decide +kernel
theorem yk297 : yver yx297 ys297.2.2.1 4000 = true := yverQ_ok (by decide +kernel)
theorem yt297 {E : zHp → Prop} (h : yEF E yFP) : yTs E 4 ys297 := yver_s (k := 282) (n := 3) (x := yx297) (P := ys297.2.2.1) (f := 4000) h (yal_c (yt281 h) (by decide) yw281 (yal_c (yt296 h) (by decide) yw296 (yal_n))) yg282 yk297
def ys298 : ySp := (59, 6, (1, [(0, 0, 2147483647)], [], [(yc 2, yc 0, (2, yc 1, yc 0)), (yc 2, yc 4, (0, (1, 0, 0), yc 0))], [(0, (2, yc 2, yc 0)), (1, (2, yc 1003, yc 0))], []), [(3, [(1, 0, 400), (2, 0, 400)], [], [(yc 2, yc 0, (2, yc 1, yc 0)), (yc 2, yc 4, (0, (1, 0, 0), yc 0)), (yc 2, yc 2, (0, (1, 1, 0), yc 0)), (yc 2, yc 1, (0, (1, 2, 0), yc 0))], [], [(0, yc (-1), yc 0)]), (3, [(1, 0, 400), (2, 0, 400)], [], [(yc 2, yc 0, (2, yc 1, yc 0)), (yc 2, yc 4, (0, (1, 0, 0), yc 0)), (yc 2, yc 1, (0, (1, 1, 0), yc 0)), (yc 2, yc 2, (0, (1, 2, 0), yc 0))], [], [(0, yc 0, yc 0)])], [(2, 2, 2), (2, 2, 3)])
def yx298 : yCx := ([ys247, ys248, ys280, ys285, ys289, ys293, ys297], ys298.2.2.2.2, yFP, zm59.2.2.1, zm59.2.2.2.1, zc59, 1, ys298.2.2.2.1, [(18, (4, [(0, 0, 2147483647), (1, 0, 400), (2, 0, 400), (3, 0, 400)], [], [(yc 2, yc 0, (2, yc 1, yc 0)), (yc 2, yc 4, (0, (1, 0, 0), yc 0)), (yc 2, yc 2, (0, (1, 2, 0), yc 0)), (yc 2, yc 1, (0, (1, 3, 0), yc 0)), (yc 2, yc 3, (0, (1, 2, 0), yc 0))], [(0, (2, yc 2, yc 0)), (1, (2, yc 1003, yc 0)), (2, (0, (1, 1, 0), yc 0))], []), ([((-1), 1)], 405)), (55, (4, [(0, 0, 2147483647), (1, 0, 400), (2, 0, 400), (3, 0, 400)], [], [(yc 2, yc 0, (2, yc 1, yc 0)), (yc 2, yc 4, (0, (1, 0, 0), yc 0)), (yc 2, yc 2, (0, (1, 2, 0), yc 0)), (yc 2, yc 1, (0, (1, 3, 0), yc 0)), (yc 2, yc 3, (0, (1, 2, 0), yc 0))], [(0, (2, yc 2, yc 0)), (1, (2, yc 1003, yc 0)), (2, (0, (1, 1, 0), yc 0)), (3, (0, yc 0, yc 0)), (4, (0, (1, 2, 0), yc 0)), (5, (0, yc 0, yc 0))], []), ([], 4)), (55, (5, [(0, 0, 2147483647), (1, 0, 400), (2, (-1), 400), (3, 0, 400), (4, 0, 400)], [([(1, 1), ((-1), 2)], 0)], [(yc 2, yc 0, (2, yc 1, yc 0)), (yc 2, yc 4, (0, (1, 0, 0), yc 0)), (yc 2, yc 2, (0, (1, 3, 0), yc 0)), (yc 2, yc 1, (0, (1, 4, 0), yc 0)), (yc 2, yc 3, (0, (1, 3, 0), yc 0))], [(0, (2, yc 2, yc 0)), (1, (2, yc 1003, yc 0)), (2, (0, (1, 1, 0), yc 0)), (3, (0, yc 0, yc 0)), (4, (0, (1, 2, 0), yc 0)), (5, (0, yc 1, yc 0))], []), ([], 3)), (55, (5, [(0, 0, 2147483647), (1, 0, 400), (2, (-1), 400), (3, 0, 400), (4, 0, 400)], [([(1, 1), ((-1), 2)], 1), ([(1, 1), ((-1), 2)], 0)], [(yc 2, yc 0, (2, yc 1, yc 0)), (yc 2, yc 4, (0, (1, 0, 0), yc 0)), (yc 2, yc 2, (0, (1, 3, 0), yc 0)), (yc 2, yc 1, (0, (1, 4, 0), yc 0)), (yc 2, yc 3, (0, (1, 3, 0), yc 0))], [(0, (2, yc 2, yc 0)), (1, (2, yc 1003, yc 0)), (2, (0, (1, 1, 0), yc 0)), (3, (0, yc 0, yc 0)), (4, (0, (1, 2, 0), yc 0)), (5, (0, yc 2, yc 0))], []), ([], 2)), (55, (5, [(0, 0, 2147483647), (1, 0, 400), (2, (-1), 400), (3, 0, 400), (4, 0, 400)], [([(1, 1), ((-1), 2)], 2), ([(1, 1), ((-1), 2)], 1), ([(1, 1), ((-1), 2)], 0)], [(yc 2, yc 0, (2, yc 1, yc 0)), (yc 2, yc 4, (0, (1, 0, 0), yc 0)), (yc 2, yc 2, (0, (1, 3, 0), yc 0)), (yc 2, yc 1, (0, (1, 4, 0), yc 0)), (yc 2, yc 3, (0, (1, 3, 0), yc 0))], [(0, (2, yc 2, yc 0)), (1, (2, yc 1003, yc 0)), (2, (0, (1, 1, 0), yc 0)), (3, (0, yc 0, yc 0)), (4, (0, (1, 2, 0), yc 0)), (5, (0, yc 3, yc 0))], []), ([], 1)), (55, (4, [(0, 0, 2147483647), (1, 0, 400), (2, 0, 400), (3, 0, 400)], [], [(yc 2, yc 0, (2, yc 1, yc 0)), (yc 2, yc 4, (0, (1, 0, 0), yc 0)), (yc 2, yc 2, (0, (1, 2, 0), yc 0)), (yc 2, yc 1, (0, (1, 3, 0), yc 0)), (yc 2, yc 3, (0, (1, 2, 0), yc 0))], [(0, (2, yc 2, yc 0)), (1, (2, yc 1003, yc 0)), (2, (0, (1, 1, 0), yc 0)), (3, (0, yc 1, yc 0)), (4, (0, (1, 2, 0), yc 0)), (5, (0, yc 4, yc 0))], []), ([], 0))], [])
theorem yw298 : ywf ys298.2.2.1 = true := by decide +kernel
theorem yk298 : yver yx298 ys298.2.2.1 4000 = true := yverQ_ok (by decide +kernel)
theorem yt298 {E : zHp → Prop} (h : yEF E yFP) : yTs E 5 ys298 := yver_s (k := 59) (n := 4) (x := yx298) (P := ys298.2.2.1) (f := 4000) h (yal_c (yt247 h) (by decide) yw247 (yal_c (yt248 h) (by decide) yw248 (yal_c (yt280 h) (by decide) yw280 (yal_c (yt285 h) (by decide) yw285 (yal_c (yt289 h) (by decide) yw289 (yal_c (yt293 h) (by decide) yw293 (yal_c (yt297 h) (by decide) yw297 (yal_n)))))))) yg59 yk298
def ys299 : ySp := (47, 2, (1, [(0, 0, 3)], [], [], [(0, (2, yc 6, yc 0)), (1, (0, (1, 0, 0), yc 0))], []), [(1, [], [], [], [], [])], [(6, 6, 3), (8, 8, 1000)])
def yx299 : yCx := ([], ys299.2.2.2.2, yFP, zm47.2.2.1, zm47.2.2.2.1, zc47, 1, ys299.2.2.2.1, [], [])
theorem yw299 : ywf ys299.2.2.1 = true := by decide +kernel
theorem yk299 : yver yx299 ys299.2.2.1 4000 = true := yverQ_ok (by decide +kernel)
theorem yt299 {E : zHp → Prop} (h : yEF E yFP) : yTs E 1 ys299 := yver_s (k := 47) (n := 0) (x := yx299) (P := ys299.2.2.1) (f := 4000) h (yal_n) yg47 yk299
def ys300 : ySp := (56, 1, (1, [(0, 0, 255)], [], [], [(0, (0, (1, 0, 0), yc 0))], []), [(1, [], [], [], [], [(0, yc 0, yc 0)]), (1, [(0, 48, 57)], [], [], [], [(0, yc 1, yc 0)])], [])
def yx300 : yCx := ([], ys300.2.2.2.2, yFP, zm56.2.2.1, zm56.2.2.2.1, zc56, 1, ys300.2.2.2.1, [], [])
theorem yw300 : ywf ys300.2.2.1 = true := by decide +kernel
theorem yk300 : yver yx300 ys300.2.2.1 4000 = true := yverQ_ok (by decide +kernel)
theorem yt300 {E : zHp → Prop} (h : yEF E yFP) : yTs E 1 ys300 := yver_s (k := 56) (n := 0) (x := yx300) (P := ys300.2.2.1) (f := 4000) h (yal_n) yg56 yk300
def ys301 : ySp := (58, 4, (1, [(0, 0, 2147483647)], [], [(yc 2, yc 0, (2, yc 1, yc 0)), (yc 2, yc 4, (0, (1, 0, 0), yc 0))], [(0, (2, yc 2, yc 0)), (1, (0, yc 0, yc 0)), (2, (0, yc 99999, yc 0))], []), [(5, [(1, (-2147483648), 2147483647), (2, 0, 400), (3, 0, 400), (4, 1, 2147483647)], [], [(yc 2, yc 0, (2, yc 1, yc 0)), (yc 2, yc 2, (0, (1, 2, 0), yc 0)), (yc 2, yc 1, (0, (1, 3, 0), yc 0)), (yc 2, yc 4, (0, (1, 4, 0), yc 0))], [], [(0, (1, 1, 0), yc 0)]), (4, [(1, 0, 99999), (2, 0, 400), (3, 0, 400)], [], [(yc 2, yc 0, (2, yc 1, yc 0)), (yc 2, yc 4, (0, (1, 0, 0), yc 0)), (yc 2, yc 2, (0, (1, 2, 0), yc 0)), (yc 2, yc 1, (0, (1, 3, 0), yc 0))], [], [(0, (1, 1, 0), yc 0)])], [(2, 2, 2), (2, 2, 3), (2, 2, 4)])
def yx301 : yCx := ([ys273, ys247, ys300], ys301.2.2.2.2, yFP, zm58.2.2.1, zm58.2.2.2.1, zc58, 1, ys301.2.2.2.1, [(15, (5, [(0, 0, 2147483647), (1, (-2147483648), 2147483647), (2, 0, 400), (3, 0, 400), (4, 0, 400)], [], [(yc 2, yc 0, (2, yc 1, yc 0)), (yc 2, yc 4, (0, (1, 0, 0), yc 0)), (yc 2, yc 2, (0, (1, 2, 0), yc 0)), (yc 2, yc 1, (0, (1, 3, 0), yc 0)), (yc 2, yc 3, (0, (1, 4, 0), yc 0))], [(0, (2, yc 2, yc 0)), (1, (0, yc 0, yc 0)), (2, (0, yc 99999, yc 0)), (3, (0, (1, 1, 0), yc 0))], []), ([((-1), 2)], 401))], [])
theorem yw301 : ywf ys301.2.2.1 = true := by decide +kernel
theorem yk301 : yver yx301 ys301.2.2.1 4000 = true := yverQ_ok (by decide +kernel)
theorem yt301 {E : zHp → Prop} (h : yEF E yFP) : yTs E 2 ys301 := yver_s (k := 58) (n := 1) (x := yx301) (P := ys301.2.2.1) (f := 4000) h (yal_c (yt273 h) (by decide) yw273 (yal_c (yt247 h) (by decide) yw247 (yal_c (yt300 h) (by decide) yw300 (yal_n)))) yg58 yk301
def ys302 : ySp := (48, 2, (1, [(0, 0, 2147483647)], [], [], [(0, (2, yc 6, yc 0)), (1, (0, (1, 0, 0), yc 0))], []), [(1, [], [], [], [], [])], [(6, 6, 1), (7, 7, 1000)])
def yx302 : yCx := ([], ys302.2.2.2.2, yFP, zm48.2.2.1, zm48.2.2.2.1, zc48, 1, ys302.2.2.2.1, [], [])
theorem yw302 : ywf ys302.2.2.1 = true := by decide +kernel
theorem yk302 : yver yx302 ys302.2.2.1 4000 = true := yverQ_ok (by decide +kernel)
theorem yt302 {E : zHp → Prop} (h : yEF E yFP) : yTs E 1 ys302 := yver_s (k := 48) (n := 0) (x := yx302) (P := ys302.2.2.1) (f := 4000) h (yal_n) yg48 yk302
def ys303 : ySp := (37, 3, (2, [(0, 0, 400), (1, 0, 2147483647)], [], [(yc 2, yc 0, (2, yc 1, yc 0)), (yc 2, yc 4, (0, (1, 1, 0), yc 0))], [(0, (2, yc 6, yc 0)), (1, (2, yc 2, yc 0)), (2, (0, (1, 0, 0), yc 0))], []), [(3, [(2, 0, 2147483647)], [], [(yc 2, yc 0, (2, yc 1, yc 0)), (yc 2, yc 4, (0, (1, 2, 0), yc 0))], [], [])], [(2, 2, 4), (6, 6, 5)])
def yx303 : yCx := ([ys275], ys303.2.2.2.2, yFP, zm37.2.2.1, zm37.2.2.2.1, zc37, 2, ys303.2.2.2.1, [], [])
theorem yw303 : ywf ys303.2.2.1 = true := by decide +kernel
theorem yk303 : yver yx303 ys303.2.2.1 4000 = true := yverQ_ok (by decide +kernel)
theorem yt303 {E : zHp → Prop} (h : yEF E yFP) : yTs E 2 ys303 := yver_s (k := 37) (n := 1) (x := yx303) (P := ys303.2.2.1) (f := 4000) h (yal_c (yt275 h) (by decide) yw275 (yal_n)) yg37 yk303
def ys304 : ySp := (48, 2, (1, [(0, (-2147483648), 2147483647)], [], [], [(0, (2, yc 6, yc 0)), (1, (0, (1, 0, 0), yc 0))], []), [(1, [], [], [], [], [])], [(6, 6, 1), (7, 7, 1000)])
def yx304 : yCx := ([], ys304.2.2.2.2, yFP, zm48.2.2.1, zm48.2.2.2.1, zc48, 1, ys304.2.2.2.1, [], [])
theorem yw304 : ywf ys304.2.2.1 = true := by decide +kernel
theorem yk304 : yver yx304 ys304.2.2.1 4000 = true := yverQ_ok (by decide +kernel)
theorem yt304 {E : zHp → Prop} (h : yEF E yFP) : yTs E 1 ys304 := yver_s (k := 48) (n := 0) (x := yx304) (P := ys304.2.2.1) (f := 4000) h (yal_n) yg48 yk304
def ys305 : ySp := (283, 1, (0, [], [], [], [(0, (2, yc 1004, yc 0))], []), [(0, [], [], [], [], [(0, yc 0, yc 0)])], [])
def yx305 : yCx := ([], ys305.2.2.2.2, yFP, zm283.2.2.1, zm283.2.2.2.1, zc283, 0, ys305.2.2.2.1, [], [])
theorem yw305 : ywf ys305.2.2.1 = true := by decide +kernel
theorem yk305 : yver yx305 ys305.2.2.1 4000 = true := yverQ_ok (by decide +kernel)
theorem yt305 {E : zHp → Prop} (h : yEF E yFP) : yTs E 1 ys305 := yver_s (k := 283) (n := 0) (x := yx305) (P := ys305.2.2.1) (f := 4000) h (yal_n) yg283 yk305
def ys306 : ySp := (281, 1, (0, [], [], [], [(0, (2, yc 1004, yc 0))], []), [(0, [], [], [], [], [(0, yc 66, yc 0)])], [])
def yx306 : yCx := ([ys305], ys306.2.2.2.2, yFP, zm281.2.2.1, zm281.2.2.2.1, zc281, 0, ys306.2.2.2.1, [], [])
theorem yw306 : ywf ys306.2.2.1 = true := by decide +kernel
theorem yk306 : yver yx306 ys306.2.2.1 4000 = true := yverQ_ok (by decide +kernel)
theorem yt306 {E : zHp → Prop} (h : yEF E yFP) : yTs E 2 ys306 := yver_s (k := 281) (n := 1) (x := yx306) (P := ys306.2.2.1) (f := 4000) h (yal_c (yt305 h) (by decide) yw305 (yal_n)) yg281 yk306
def ys307 : ySp := (284, 1, (0, [], [], [], [(0, (2, yc 1004, yc 0))], []), [(0, [], [], [], [], [(0, yc 1, yc 0)])], [])
def yx307 : yCx := ([], ys307.2.2.2.2, yFP, zm284.2.2.1, zm284.2.2.2.1, zc284, 0, ys307.2.2.2.1, [], [])
theorem yw307 : ywf ys307.2.2.1 = true := by decide +kernel
theorem yk307 : yver yx307 ys307.2.2.1 4000 = true := yverQ_ok (by decide +kernel)
theorem yt307 {E : zHp → Prop} (h : yEF E yFP) : yTs E 1 ys307 := yver_s (k := 284) (n := 0) (x := yx307) (P := ys307.2.2.1) (f := 4000) h (yal_n) yg284 yk307
def ys308 : ySp := (293, 3, (0, [], [], [], [(0, (0, yc 0, yc 0)), (1, (0, yc 66, yc 0)), (2, (7, yc 0, yc 0))], []), [(0, [], [], [], [], [(0, yc 0, yc 0)])], [])
def yx308 : yCx := ([], ys308.2.2.2.2, yFP, zm293.2.2.1, zm293.2.2.2.1, zc293, 0, ys308.2.2.2.1, [], [])
theorem yw308 : ywf ys308.2.2.1 = true := by decide +kernel
theorem yk308 : yver yx308 ys308.2.2.1 4000 = true := yverQ_ok (by decide +kernel)
theorem yt308 {E : zHp → Prop} (h : yEF E yFP) : yTs E 1 ys308 := yver_s (k := 293) (n := 0) (x := yx308) (P := ys308.2.2.1) (f := 4000) h (yal_n) yg293 yk308
end
section
def ys309 : ySp := (285, 2, (0, [], [], [], [(0, (0, yc 0, yc 0)), (1, (0, yc 66, yc 0))], []), [(0, [], [], [], [], [])], [])
def yx309 : yCx := ([ys308], ys309.2.2.2.2, yFP, zm285.2.2.1, zm285.2.2.2.1, zc285, 0, ys309.2.2.2.1, [], [])
theorem yw309 : ywf ys309.2.2.1 = true := by decide +kernel
theorem yk309 : yver yx309 ys309.2.2.1 4000 = true := yverQ_ok (by decide +kernel)
theorem yt309 {E : zHp → Prop} (h : yEF E yFP) : yTs E 2 ys309 := yver_s (k := 285) (n := 1) (x := yx309) (P := ys309.2.2.1) (f := 4000) h (yal_c (yt308 h) (by decide) yw308 (yal_n)) yg285 yk309
def ys310 : ySp := (286, 2, (0, [], [], [], [(0, (2, yc 1023, yc 0)), (1, (0, yc 0, yc 0))], []), [(0, [], [], [], [], [(0, yc 116, yc 0)])], [])
def yx310 : yCx := ([ys309], ys310.2.2.2.2, yFP, zm286.2.2.1, zm286.2.2.2.1, zc286, 0, ys310.2.2.2.1, [], [])
theorem yw310 : ywf ys310.2.2.1 = true := by decide +kernel
theorem yk310 : yver yx310 ys310.2.2.1 4000 = true := yverQ_ok (by decide +kernel)
theorem yt310 {E : zHp → Prop} (h : yEF E yFP) : yTs E 3 ys310 := yver_s (k := 286) (n := 2) (x := yx310) (P := ys310.2.2.1) (f := 4000) h (yal_c (yt309 h) (by decide) yw309 (yal_n)) yg286 yk310
def ys311 : ySp := (282, 2, (0, [], [], [], [(0, (2, yc 1004, yc 0)), (1, (0, yc 0, yc 0))], []), [(0, [], [], [], [], [(0, yc 116, yc 0)])], [])
def yx311 : yCx := ([ys307, ys310], ys311.2.2.2.2, yFP, zm282.2.2.1, zm282.2.2.2.1, zc282, 0, ys311.2.2.2.1, [], [])
theorem yw311 : ywf ys311.2.2.1 = true := by decide +kernel
theorem yk311 : yver yx311 ys311.2.2.1 4000 = true := yverQ_ok (by decide +kernel)
theorem yt311 {E : zHp → Prop} (h : yEF E yFP) : yTs E 4 ys311 := yver_s (k := 282) (n := 3) (x := yx311) (P := ys311.2.2.1) (f := 4000) h (yal_c (yt307 h) (by decide) yw307 (yal_c (yt310 h) (by decide) yw310 (yal_n))) yg282 yk311
def ys312 : ySp := (293, 3, (0, [], [], [], [(0, (0, yc 1, yc 0)), (1, (0, yc 66, yc 0)), (2, (7, yc 0, yc 0))], []), [(0, [], [], [], [], [(0, yc 1, yc 0)])], [])
def yx312 : yCx := ([], ys312.2.2.2.2, yFP, zm293.2.2.1, zm293.2.2.2.1, zc293, 0, ys312.2.2.2.1, [], [])
theorem yw312 : ywf ys312.2.2.1 = true := by decide +kernel
theorem yk312 : yver yx312 ys312.2.2.1 4000 = true := yverQ_ok (by decide +kernel)
theorem yt312 {E : zHp → Prop} (h : yEF E yFP) : yTs E 1 ys312 := yver_s (k := 293) (n := 0) (x := yx312) (P := ys312.2.2.1) (f := 4000) h (yal_n) yg293 yk312
def ys313 : ySp := (285, 2, (0, [], [], [], [(0, (0, yc 1, yc 0)), (1, (0, yc 66, yc 0))], []), [(0, [], [], [], [], [])], [])
def yx313 : yCx := ([ys312], ys313.2.2.2.2, yFP, zm285.2.2.1, zm285.2.2.2.1, zc285, 0, ys313.2.2.2.1, [], [])
theorem yw313 : ywf ys313.2.2.1 = true := by decide +kernel
theorem yk313 : yver yx313 ys313.2.2.1 4000 = true := yverQ_ok (by decide +kernel)
theorem yt313 {E : zHp → Prop} (h : yEF E yFP) : yTs E 2 ys313 := yver_s (k := 285) (n := 1) (x := yx313) (P := ys313.2.2.1) (f := 4000) h (yal_c (yt312 h) (by decide) yw312 (yal_n)) yg285 yk313
def ys314 : ySp := (286, 2, (0, [], [], [], [(0, (2, yc 1023, yc 0)), (1, (0, yc 1, yc 0))], []), [(0, [], [], [], [], [(0, yc 111, yc 0)])], [])
def yx314 : yCx := ([ys313], ys314.2.2.2.2, yFP, zm286.2.2.1, zm286.2.2.2.1, zc286, 0, ys314.2.2.2.1, [], [])
theorem yw314 : ywf ys314.2.2.1 = true := by decide +kernel
theorem yk314 : yver yx314 ys314.2.2.1 4000 = true := yverQ_ok (by decide +kernel)
theorem yt314 {E : zHp → Prop} (h : yEF E yFP) : yTs E 3 ys314 := yver_s (k := 286) (n := 2) (x := yx314) (P := ys314.2.2.1) (f := 4000) h (yal_c (yt313 h) (by decide) yw313 (yal_n)) yg286 yk314
def ys315 : ySp := (282, 2, (0, [], [], [], [(0, (2, yc 1004, yc 0)), (1, (0, yc 1, yc 0))], []), [(0, [], [], [], [], [(0, yc 111, yc 0)])], [])
def yx315 : yCx := ([ys307, ys314], ys315.2.2.2.2, yFP, zm282.2.2.1, zm282.2.2.2.1, zc282, 0, ys315.2.2.2.1, [], [])
theorem yw315 : ywf ys315.2.2.1 = true := by decide +kernel
theorem yk315 : yver yx315 ys315.2.2.1 4000 = true := yverQ_ok (by decide +kernel)
theorem yt315 {E : zHp → Prop} (h : yEF E yFP) : yTs E 4 ys315 := yver_s (k := 282) (n := 3) (x := yx315) (P := ys315.2.2.1) (f := 4000) h (yal_c (yt307 h) (by decide) yw307 (yal_c (yt314 h) (by decide) yw314 (yal_n))) yg282 yk315
def ys316 : ySp := (293, 3, (0, [], [], [], [(0, (0, yc 2, yc 0)), (1, (0, yc 66, yc 0)), (2, (7, yc 0, yc 0))], []), [(0, [], [], [], [], [(0, yc 2, yc 0)])], [])
def yx316 : yCx := ([], ys316.2.2.2.2, yFP, zm293.2.2.1, zm293.2.2.2.1, zc293, 0, ys316.2.2.2.1, [], [])
theorem yw316 : ywf ys316.2.2.1 = true := by decide +kernel
theorem yk316 : yver yx316 ys316.2.2.1 4000 = true := yverQ_ok (by decide +kernel)
theorem yt316 {E : zHp → Prop} (h : yEF E yFP) : yTs E 1 ys316 := yver_s (k := 293) (n := 0) (x := yx316) (P := ys316.2.2.1) (f := 4000) h (yal_n) yg293 yk316
def ys317 : ySp := (285, 2, (0, [], [], [], [(0, (0, yc 2, yc 0)), (1, (0, yc 66, yc 0))], []), [(0, [], [], [], [], [])], [])
def yx317 : yCx := ([ys316], ys317.2.2.2.2, yFP, zm285.2.2.1, zm285.2.2.2.1, zc285, 0, ys317.2.2.2.1, [], [])
theorem yw317 : ywf ys317.2.2.1 = true := by decide +kernel
theorem yk317 : yver yx317 ys317.2.2.1 4000 = true := yverQ_ok (by decide +kernel)
theorem yt317 {E : zHp → Prop} (h : yEF E yFP) : yTs E 2 ys317 := yver_s (k := 285) (n := 1) (x := yx317) (P := ys317.2.2.1) (f := 4000) h (yal_c (yt316 h) (by decide) yw316 (yal_n)) yg285 yk317
def ys318 : ySp := (286, 2, (0, [], [], [], [(0, (2, yc 1023, yc 0)), (1, (0, yc 2, yc 0))], []), [(0, [], [], [], [], [(0, yc 111, yc 0)])], [])
def yx318 : yCx := ([ys317], ys318.2.2.2.2, yFP, zm286.2.2.1, zm286.2.2.2.1, zc286, 0, ys318.2.2.2.1, [], [])
theorem yw318 : ywf ys318.2.2.1 = true := by decide +kernel
theorem yk318 : yver yx318 ys318.2.2.1 4000 = true := yverQ_ok (by decide +kernel)
theorem yt318 {E : zHp → Prop} (h : yEF E yFP) : yTs E 3 ys318 := yver_s (k := 286) (n := 2) (x := yx318) (P := ys318.2.2.1) (f := 4000) h (yal_c (yt317 h) (by decide) yw317 (yal_n)) yg286 yk318
def ys319 : ySp := (282, 2, (0, [], [], [], [(0, (2, yc 1004, yc 0)), (1, (0, yc 2, yc 0))], []), [(0, [], [], [], [], [(0, yc 111, yc 0)])], [])
def yx319 : yCx := ([ys307, ys318], ys319.2.2.2.2, yFP, zm282.2.2.1, zm282.2.2.2.1, zc282, 0, ys319.2.2.2.1, [], [])
theorem yw319 : ywf ys319.2.2.1 = true := by decide +kernel
theorem yk319 : yver yx319 ys319.2.2.1 4000 = true := yverQ_ok (by decide +kernel)
theorem yt319 {E : zHp → Prop} (h : yEF E yFP) : yTs E 4 ys319 := yver_s (k := 282) (n := 3) (x := yx319) (P := ys319.2.2.1) (f := 4000) h (yal_c (yt307 h) (by decide) yw307 (yal_c (yt318 h) (by decide) yw318 (yal_n))) yg282 yk319
def ys320 : ySp := (293, 3, (0, [], [], [], [(0, (0, yc 3, yc 0)), (1, (0, yc 66, yc 0)), (2, (7, yc 0, yc 0))], []), [(0, [], [], [], [], [(0, yc 3, yc 0)])], [])
def yx320 : yCx := ([], ys320.2.2.2.2, yFP, zm293.2.2.1, zm293.2.2.2.1, zc293, 0, ys320.2.2.2.1, [], [])
theorem yw320 : ywf ys320.2.2.1 = true := by decide +kernel
theorem yk320 : yver yx320 ys320.2.2.1 4000 = true := yverQ_ok (by decide +kernel)
theorem yt320 {E : zHp → Prop} (h : yEF E yFP) : yTs E 1 ys320 := yver_s (k := 293) (n := 0) (x := yx320) (P := ys320.2.2.1) (f := 4000) h (yal_n) yg293 yk320
def ys321 : ySp := (285, 2, (0, [], [], [], [(0, (0, yc 3, yc 0)), (1, (0, yc 66, yc 0))], []), [(0, [], [], [], [], [])], [])
def yx321 : yCx := ([ys320], ys321.2.2.2.2, yFP, zm285.2.2.1, zm285.2.2.2.1, zc285, 0, ys321.2.2.2.1, [], [])
theorem yw321 : ywf ys321.2.2.1 = true := by decide +kernel
theorem yk321 : yver yx321 ys321.2.2.1 4000 = true := yverQ_ok (by decide +kernel)
theorem yt321 {E : zHp → Prop} (h : yEF E yFP) : yTs E 2 ys321 := yver_s (k := 285) (n := 1) (x := yx321) (P := ys321.2.2.1) (f := 4000) h (yal_c (yt320 h) (by decide) yw320 (yal_n)) yg285 yk321
def ys322 : ySp := (286, 2, (0, [], [], [], [(0, (2, yc 1023, yc 0)), (1, (0, yc 3, yc 0))], []), [(0, [], [], [], [], [(0, yc 108, yc 0)])], [])
def yx322 : yCx := ([ys321], ys322.2.2.2.2, yFP, zm286.2.2.1, zm286.2.2.2.1, zc286, 0, ys322.2.2.2.1, [], [])
theorem yw322 : ywf ys322.2.2.1 = true := by decide +kernel
theorem yk322 : yver yx322 ys322.2.2.1 4000 = true := yverQ_ok (by decide +kernel)
theorem yt322 {E : zHp → Prop} (h : yEF E yFP) : yTs E 3 ys322 := yver_s (k := 286) (n := 2) (x := yx322) (P := ys322.2.2.1) (f := 4000) h (yal_c (yt321 h) (by decide) yw321 (yal_n)) yg286 yk322
def ys323 : ySp := (282, 2, (0, [], [], [], [(0, (2, yc 1004, yc 0)), (1, (0, yc 3, yc 0))], []), [(0, [], [], [], [], [(0, yc 108, yc 0)])], [])
def yx323 : yCx := ([ys307, ys322], ys323.2.2.2.2, yFP, zm282.2.2.1, zm282.2.2.2.1, zc282, 0, ys323.2.2.2.1, [], [])
theorem yw323 : ywf ys323.2.2.1 = true := by decide +kernel
theorem yk323 : yver yx323 ys323.2.2.1 4000 = true := yverQ_ok (by decide +kernel)
theorem yt323 {E : zHp → Prop} (h : yEF E yFP) : yTs E 4 ys323 := yver_s (k := 282) (n := 3) (x := yx323) (P := ys323.2.2.1) (f := 4000) h (yal_c (yt307 h) (by decide) yw307 (yal_c (yt322 h) (by decide) yw322 (yal_n))) yg282 yk323
def ys324 : ySp := (293, 3, (0, [], [], [], [(0, (0, yc 4, yc 0)), (1, (0, yc 66, yc 0)), (2, (7, yc 0, yc 0))], []), [(0, [], [], [], [], [(0, yc 4, yc 0)])], [])
def yx324 : yCx := ([], ys324.2.2.2.2, yFP, zm293.2.2.1, zm293.2.2.2.1, zc293, 0, ys324.2.2.2.1, [], [])
theorem yw324 : ywf ys324.2.2.1 = true := by decide +kernel
theorem yk324 : yver yx324 ys324.2.2.1 4000 = true := yverQ_ok (by decide +kernel)
theorem yt324 {E : zHp → Prop} (h : yEF E yFP) : yTs E 1 ys324 := yver_s (k := 293) (n := 0) (x := yx324) (P := ys324.2.2.1) (f := 4000) h (yal_n) yg293 yk324
def ys325 : ySp := (285, 2, (0, [], [], [], [(0, (0, yc 4, yc 0)), (1, (0, yc 66, yc 0))], []), [(0, [], [], [], [], [])], [])
def yx325 : yCx := ([ys324], ys325.2.2.2.2, yFP, zm285.2.2.1, zm285.2.2.2.1, zc285, 0, ys325.2.2.2.1, [], [])
theorem yw325 : ywf ys325.2.2.1 = true := by decide +kernel
theorem yk325 : yver yx325 ys325.2.2.1 4000 = true := yverQ_ok (by decide +kernel)
theorem yt325 {E : zHp → Prop} (h : yEF E yFP) : yTs E 2 ys325 := yver_s (k := 285) (n := 1) (x := yx325) (P := ys325.2.2.1) (f := 4000) h (yal_c (yt324 h) (by decide) yw324 (yal_n)) yg285 yk325
def ys326 : ySp := (286, 2, (0, [], [], [], [(0, (2, yc 1023, yc 0)), (1, (0, yc 4, yc 0))], []), [(0, [], [], [], [], [(0, yc 32, yc 0)])], [])
def yx326 : yCx := ([ys325], ys326.2.2.2.2, yFP, zm286.2.2.1, zm286.2.2.2.1, zc286, 0, ys326.2.2.2.1, [], [])
theorem yw326 : ywf ys326.2.2.1 = true := by decide +kernel
theorem yk326 : yver yx326 ys326.2.2.1 4000 = true := yverQ_ok (by decide +kernel)
theorem yt326 {E : zHp → Prop} (h : yEF E yFP) : yTs E 3 ys326 := yver_s (k := 286) (n := 2) (x := yx326) (P := ys326.2.2.1) (f := 4000) h (yal_c (yt325 h) (by decide) yw325 (yal_n)) yg286 yk326
def ys327 : ySp := (282, 2, (0, [], [], [], [(0, (2, yc 1004, yc 0)), (1, (0, yc 4, yc 0))], []), [(0, [], [], [], [], [(0, yc 32, yc 0)])], [])
def yx327 : yCx := ([ys307, ys326], ys327.2.2.2.2, yFP, zm282.2.2.1, zm282.2.2.2.1, zc282, 0, ys327.2.2.2.1, [], [])
theorem yw327 : ywf ys327.2.2.1 = true := by decide +kernel
theorem yk327 : yver yx327 ys327.2.2.1 4000 = true := yverQ_ok (by decide +kernel)
theorem yt327 {E : zHp → Prop} (h : yEF E yFP) : yTs E 4 ys327 := yver_s (k := 282) (n := 3) (x := yx327) (P := ys327.2.2.1) (f := 4000) h (yal_c (yt307 h) (by decide) yw307 (yal_c (yt326 h) (by decide) yw326 (yal_n))) yg282 yk327
def ys328 : ySp := (293, 3, (0, [], [], [], [(0, (0, yc 5, yc 0)), (1, (0, yc 66, yc 0)), (2, (7, yc 0, yc 0))], []), [(0, [], [], [], [], [(0, yc 5, yc 0)])], [])
def yx328 : yCx := ([], ys328.2.2.2.2, yFP, zm293.2.2.1, zm293.2.2.2.1, zc293, 0, ys328.2.2.2.1, [], [])
theorem yw328 : ywf ys328.2.2.1 = true := by decide +kernel
theorem yk328 : yver yx328 ys328.2.2.1 4000 = true := yverQ_ok (by decide +kernel)
theorem yt328 {E : zHp → Prop} (h : yEF E yFP) : yTs E 1 ys328 := yver_s (k := 293) (n := 0) (x := yx328) (P := ys328.2.2.1) (f := 4000) h (yal_n) yg293 yk328
def ys329 : ySp := (285, 2, (0, [], [], [], [(0, (0, yc 5, yc 0)), (1, (0, yc 66, yc 0))], []), [(0, [], [], [], [], [])], [])
def yx329 : yCx := ([ys328], ys329.2.2.2.2, yFP, zm285.2.2.1, zm285.2.2.2.1, zc285, 0, ys329.2.2.2.1, [], [])
theorem yw329 : ywf ys329.2.2.1 = true := by decide +kernel
theorem yk329 : yver yx329 ys329.2.2.1 4000 = true := yverQ_ok (by decide +kernel)
theorem yt329 {E : zHp → Prop} (h : yEF E yFP) : yTs E 2 ys329 := yver_s (k := 285) (n := 1) (x := yx329) (P := ys329.2.2.1) (f := 4000) h (yal_c (yt328 h) (by decide) yw328 (yal_n)) yg285 yk329
def ys330 : ySp := (286, 2, (0, [], [], [], [(0, (2, yc 1023, yc 0)), (1, (0, yc 5, yc 0))], []), [(0, [], [], [], [], [(0, yc 107, yc 0)])], [])
def yx330 : yCx := ([ys329], ys330.2.2.2.2, yFP, zm286.2.2.1, zm286.2.2.2.1, zc286, 0, ys330.2.2.2.1, [], [])
theorem yw330 : ywf ys330.2.2.1 = true := by decide +kernel
theorem yk330 : yver yx330 ys330.2.2.1 4000 = true := yverQ_ok (by decide +kernel)
theorem yt330 {E : zHp → Prop} (h : yEF E yFP) : yTs E 3 ys330 := yver_s (k := 286) (n := 2) (x := yx330) (P := ys330.2.2.1) (f := 4000) h (yal_c (yt329 h) (by decide) yw329 (yal_n)) yg286 yk330
def ys331 : ySp := (282, 2, (0, [], [], [], [(0, (2, yc 1004, yc 0)), (1, (0, yc 5, yc 0))], []), [(0, [], [], [], [], [(0, yc 107, yc 0)])], [])
def yx331 : yCx := ([ys307, ys330], ys331.2.2.2.2, yFP, zm282.2.2.1, zm282.2.2.2.1, zc282, 0, ys331.2.2.2.1, [], [])
theorem yw331 : ywf ys331.2.2.1 = true := by decide +kernel
theorem yk331 : yver yx331 ys331.2.2.1 4000 = true := yverQ_ok (by decide +kernel)
theorem yt331 {E : zHp → Prop} (h : yEF E yFP) : yTs E 4 ys331 := yver_s (k := 282) (n := 3) (x := yx331) (P := ys331.2.2.1) (f := 4000) h (yal_c (yt307 h) (by decide) yw307 (yal_c (yt330 h) (by decide) yw330 (yal_n))) yg282 yk331
def ys332 : ySp := (293, 3, (0, [], [], [], [(0, (0, yc 6, yc 0)), (1, (0, yc 66, yc 0)), (2, (7, yc 0, yc 0))], []), [(0, [], [], [], [], [(0, yc 6, yc 0)])], [])
def yx332 : yCx := ([], ys332.2.2.2.2, yFP, zm293.2.2.1, zm293.2.2.2.1, zc293, 0, ys332.2.2.2.1, [], [])
theorem yw332 : ywf ys332.2.2.1 = true := by decide +kernel
theorem yk332 : yver yx332 ys332.2.2.1 4000 = true := yverQ_ok (by decide +kernel)
theorem yt332 {E : zHp → Prop} (h : yEF E yFP) : yTs E 1 ys332 := yver_s (k := 293) (n := 0) (x := yx332) (P := ys332.2.2.1) (f := 4000) h (yal_n) yg293 yk332
def ys333 : ySp := (285, 2, (0, [], [], [], [(0, (0, yc 6, yc 0)), (1, (0, yc 66, yc 0))], []), [(0, [], [], [], [], [])], [])
def yx333 : yCx := ([ys332], ys333.2.2.2.2, yFP, zm285.2.2.1, zm285.2.2.2.1, zc285, 0, ys333.2.2.2.1, [], [])
theorem yw333 : ywf ys333.2.2.1 = true := by decide +kernel
theorem yk333 : yver yx333 ys333.2.2.1 4000 = true := yverQ_ok (by decide +kernel)
theorem yt333 {E : zHp → Prop} (h : yEF E yFP) : yTs E 2 ys333 := yver_s (k := 285) (n := 1) (x := yx333) (P := ys333.2.2.1) (f := 4000) h (yal_c (yt332 h) (by decide) yw332 (yal_n)) yg285 yk333
def ys334 : ySp := (286, 2, (0, [], [], [], [(0, (2, yc 1023, yc 0)), (1, (0, yc 6, yc 0))], []), [(0, [], [], [], [], [(0, yc 105, yc 0)])], [])
def yx334 : yCx := ([ys333], ys334.2.2.2.2, yFP, zm286.2.2.1, zm286.2.2.2.1, zc286, 0, ys334.2.2.2.1, [], [])
theorem yw334 : ywf ys334.2.2.1 = true := by decide +kernel
theorem yk334 : yver yx334 ys334.2.2.1 4000 = true := yverQ_ok (by decide +kernel)
theorem yt334 {E : zHp → Prop} (h : yEF E yFP) : yTs E 3 ys334 := yver_s (k := 286) (n := 2) (x := yx334) (P := ys334.2.2.1) (f := 4000) h (yal_c (yt333 h) (by decide) yw333 (yal_n)) yg286 yk334
def ys335 : ySp := (282, 2, (0, [], [], [], [(0, (2, yc 1004, yc 0)), (1, (0, yc 6, yc 0))], []), [(0, [], [], [], [], [(0, yc 105, yc 0)])], [])
def yx335 : yCx := ([ys307, ys334], ys335.2.2.2.2, yFP, zm282.2.2.1, zm282.2.2.2.1, zc282, 0, ys335.2.2.2.1, [], [])
theorem yw335 : ywf ys335.2.2.1 = true := by decide +kernel
theorem yk335 : yver yx335 ys335.2.2.1 4000 = true := yverQ_ok (by decide +kernel)
theorem yt335 {E : zHp → Prop} (h : yEF E yFP) : yTs E 4 ys335 := yver_s (k := 282) (n := 3) (x := yx335) (P := ys335.2.2.1) (f := 4000) h (yal_c (yt307 h) (by decide) yw307 (yal_c (yt334 h) (by decide) yw334 (yal_n))) yg282 yk335
def ys336 : ySp := (293, 3, (0, [], [], [], [(0, (0, yc 7, yc 0)), (1, (0, yc 66, yc 0)), (2, (7, yc 0, yc 0))], []), [(0, [], [], [], [], [(0, yc 7, yc 0)])], [])
def yx336 : yCx := ([], ys336.2.2.2.2, yFP, zm293.2.2.1, zm293.2.2.2.1, zc293, 0, ys336.2.2.2.1, [], [])
theorem yw336 : ywf ys336.2.2.1 = true := by decide +kernel
theorem yk336 : yver yx336 ys336.2.2.1 4000 = true := yverQ_ok (by decide +kernel)
theorem yt336 {E : zHp → Prop} (h : yEF E yFP) : yTs E 1 ys336 := yver_s (k := 293) (n := 0) (x := yx336) (P := ys336.2.2.1) (f := 4000) h (yal_n) yg293 yk336
def ys337 : ySp := (285, 2, (0, [], [], [], [(0, (0, yc 7, yc 0)), (1, (0, yc 66, yc 0))], []), [(0, [], [], [], [], [])], [])
def yx337 : yCx := ([ys336], ys337.2.2.2.2, yFP, zm285.2.2.1, zm285.2.2.2.1, zc285, 0, ys337.2.2.2.1, [], [])
theorem yw337 : ywf ys337.2.2.1 = true := by decide +kernel
theorem yk337 : yver yx337 ys337.2.2.1 4000 = true := yverQ_ok (by decide +kernel)
theorem yt337 {E : zHp → Prop} (h : yEF E yFP) : yTs E 2 ys337 := yver_s (k := 285) (n := 1) (x := yx337) (P := ys337.2.2.1) (f := 4000) h (yal_c (yt336 h) (by decide) yw336 (yal_n)) yg285 yk337
def ys338 : ySp := (286, 2, (0, [], [], [], [(0, (2, yc 1023, yc 0)), (1, (0, yc 7, yc 0))], []), [(0, [], [], [], [], [(0, yc 110, yc 0)])], [])
def yx338 : yCx := ([ys337], ys338.2.2.2.2, yFP, zm286.2.2.1, zm286.2.2.2.1, zc286, 0, ys338.2.2.2.1, [], [])
theorem yw338 : ywf ys338.2.2.1 = true := by decide +kernel
theorem yk338 : yver yx338 ys338.2.2.1 4000 = true := yverQ_ok (by decide +kernel)
theorem yt338 {E : zHp → Prop} (h : yEF E yFP) : yTs E 3 ys338 := yver_s (k := 286) (n := 2) (x := yx338) (P := ys338.2.2.1) (f := 4000) h (yal_c (yt337 h) (by decide) yw337 (yal_n)) yg286 yk338
def ys339 : ySp := (282, 2, (0, [], [], [], [(0, (2, yc 1004, yc 0)), (1, (0, yc 7, yc 0))], []), [(0, [], [], [], [], [(0, yc 110, yc 0)])], [])
def yx339 : yCx := ([ys307, ys338], ys339.2.2.2.2, yFP, zm282.2.2.1, zm282.2.2.2.1, zc282, 0, ys339.2.2.2.1, [], [])
theorem yw339 : ywf ys339.2.2.1 = true := by decide +kernel
theorem yk339 : yver yx339 ys339.2.2.1 4000 = true := yverQ_ok (by decide +kernel)
theorem yt339 {E : zHp → Prop} (h : yEF E yFP) : yTs E 4 ys339 := yver_s (k := 282) (n := 3) (x := yx339) (P := ys339.2.2.1) (f := 4000) h (yal_c (yt307 h) (by decide) yw307 (yal_c (yt338 h) (by decide) yw338 (yal_n))) yg282 yk339
def ys340 : ySp := (293, 3, (0, [], [], [], [(0, (0, yc 8, yc 0)), (1, (0, yc 66, yc 0)), (2, (7, yc 0, yc 0))], []), [(0, [], [], [], [], [(0, yc 8, yc 0)])], [])
def yx340 : yCx := ([], ys340.2.2.2.2, yFP, zm293.2.2.1, zm293.2.2.2.1, zc293, 0, ys340.2.2.2.1, [], [])
theorem yw340 : ywf ys340.2.2.1 = true := by decide +kernel
theorem yk340 : yver yx340 ys340.2.2.1 4000 = true := yverQ_ok (by decide +kernel)
theorem yt340 {E : zHp → Prop} (h : yEF E yFP) : yTs E 1 ys340 := yver_s (k := 293) (n := 0) (x := yx340) (P := ys340.2.2.1) (f := 4000) h (yal_n) yg293 yk340
def ys341 : ySp := (285, 2, (0, [], [], [], [(0, (0, yc 8, yc 0)), (1, (0, yc 66, yc 0))], []), [(0, [], [], [], [], [])], [])
def yx341 : yCx := ([ys340], ys341.2.2.2.2, yFP, zm285.2.2.1, zm285.2.2.2.1, zc285, 0, ys341.2.2.2.1, [], [])
theorem yw341 : ywf ys341.2.2.1 = true := by decide +kernel
theorem yk341 : yver yx341 ys341.2.2.1 4000 = true := yverQ_ok (by decide +kernel)
theorem yt341 {E : zHp → Prop} (h : yEF E yFP) : yTs E 2 ys341 := yver_s (k := 285) (n := 1) (x := yx341) (P := ys341.2.2.1) (f := 4000) h (yal_c (yt340 h) (by decide) yw340 (yal_n)) yg285 yk341
def ys342 : ySp := (286, 2, (0, [], [], [], [(0, (2, yc 1023, yc 0)), (1, (0, yc 8, yc 0))], []), [(0, [], [], [], [], [(0, yc 100, yc 0)])], [])
def yx342 : yCx := ([ys341], ys342.2.2.2.2, yFP, zm286.2.2.1, zm286.2.2.2.1, zc286, 0, ys342.2.2.2.1, [], [])
theorem yw342 : ywf ys342.2.2.1 = true := by decide +kernel
theorem yk342 : yver yx342 ys342.2.2.1 4000 = true := yverQ_ok (by decide +kernel)
theorem yt342 {E : zHp → Prop} (h : yEF E yFP) : yTs E 3 ys342 := yver_s (k := 286) (n := 2) (x := yx342) (P := ys342.2.2.1) (f := 4000) h (yal_c (yt341 h) (by decide) yw341 (yal_n)) yg286 yk342
def ys343 : ySp := (282, 2, (0, [], [], [], [(0, (2, yc 1004, yc 0)), (1, (0, yc 8, yc 0))], []), [(0, [], [], [], [], [(0, yc 100, yc 0)])], [])
def yx343 : yCx := ([ys307, ys342], ys343.2.2.2.2, yFP, zm282.2.2.1, zm282.2.2.2.1, zc282, 0, ys343.2.2.2.1, [], [])
theorem yw343 : ywf ys343.2.2.1 = true := by decide +kernel
theorem yk343 : yver yx343 ys343.2.2.1 4000 = true := yverQ_ok (by decide +kernel)
theorem yt343 {E : zHp → Prop} (h : yEF E yFP) : yTs E 4 ys343 := yver_s (k := 282) (n := 3) (x := yx343) (P := ys343.2.2.1) (f := 4000) h (yal_c (yt307 h) (by decide) yw307 (yal_c (yt342 h) (by decide) yw342 (yal_n))) yg282 yk343
def ys344 : ySp := (293, 3, (0, [], [], [], [(0, (0, yc 9, yc 0)), (1, (0, yc 66, yc 0)), (2, (7, yc 0, yc 0))], []), [(0, [], [], [], [], [(0, yc 9, yc 0)])], [])
def yx344 : yCx := ([], ys344.2.2.2.2, yFP, zm293.2.2.1, zm293.2.2.2.1, zc293, 0, ys344.2.2.2.1, [], [])
theorem yw344 : ywf ys344.2.2.1 = true := by decide +kernel
theorem yk344 : yver yx344 ys344.2.2.1 4000 = true := yverQ_ok (by decide +kernel)
theorem yt344 {E : zHp → Prop} (h : yEF E yFP) : yTs E 1 ys344 := yver_s (k := 293) (n := 0) (x := yx344) (P := ys344.2.2.1) (f := 4000) h (yal_n) yg293 yk344
def ys345 : ySp := (285, 2, (0, [], [], [], [(0, (0, yc 9, yc 0)), (1, (0, yc 66, yc 0))], []), [(0, [], [], [], [], [])], [])
def yx345 : yCx := ([ys344], ys345.2.2.2.2, yFP, zm285.2.2.1, zm285.2.2.2.1, zc285, 0, ys345.2.2.2.1, [], [])
theorem yw345 : ywf ys345.2.2.1 = true := by decide +kernel
theorem yk345 : yver yx345 ys345.2.2.1 4000 = true := yverQ_ok (by decide +kernel)
theorem yt345 {E : zHp → Prop} (h : yEF E yFP) : yTs E 2 ys345 := yver_s (k := 285) (n := 1) (x := yx345) (P := ys345.2.2.1) (f := 4000) h (yal_c (yt344 h) (by decide) yw344 (yal_n)) yg285 yk345
def ys346 : ySp := (286, 2, (0, [], [], [], [(0, (2, yc 1023, yc 0)), (1, (0, yc 9, yc 0))], []), [(0, [], [], [], [], [(0, yc 32, yc 0)])], [])
def yx346 : yCx := ([ys345], ys346.2.2.2.2, yFP, zm286.2.2.1, zm286.2.2.2.1, zc286, 0, ys346.2.2.2.1, [], [])
theorem yw346 : ywf ys346.2.2.1 = true := by decide +kernel
theorem yk346 : yver yx346 ys346.2.2.1 4000 = true := yverQ_ok (by decide +kernel)
theorem yt346 {E : zHp → Prop} (h : yEF E yFP) : yTs E 3 ys346 := yver_s (k := 286) (n := 2) (x := yx346) (P := ys346.2.2.1) (f := 4000) h (yal_c (yt345 h) (by decide) yw345 (yal_n)) yg286 yk346
def ys347 : ySp := (282, 2, (0, [], [], [], [(0, (2, yc 1004, yc 0)), (1, (0, yc 9, yc 0))], []), [(0, [], [], [], [], [(0, yc 32, yc 0)])], [])
def yx347 : yCx := ([ys307, ys346], ys347.2.2.2.2, yFP, zm282.2.2.1, zm282.2.2.2.1, zc282, 0, ys347.2.2.2.1, [], [])
theorem yw347 : ywf ys347.2.2.1 = true := by decide +kernel
theorem yk347 : yver yx347 ys347.2.2.1 4000 = true := yverQ_ok (by decide +kernel)
theorem yt347 {E : zHp → Prop} (h : yEF E yFP) : yTs E 4 ys347 := yver_s (k := 282) (n := 3) (x := yx347) (P := ys347.2.2.1) (f := 4000) h (yal_c (yt307 h) (by decide) yw307 (yal_c (yt346 h) (by decide) yw346 (yal_n))) yg282 yk347
def ys348 : ySp := (293, 3, (0, [], [], [], [(0, (0, yc 10, yc 0)), (1, (0, yc 66, yc 0)), (2, (7, yc 0, yc 0))], []), [(0, [], [], [], [], [(0, yc 10, yc 0)])], [])
def yx348 : yCx := ([], ys348.2.2.2.2, yFP, zm293.2.2.1, zm293.2.2.2.1, zc293, 0, ys348.2.2.2.1, [], [])
theorem yw348 : ywf ys348.2.2.1 = true := by decide +kernel
theorem yk348 : yver yx348 ys348.2.2.1 4000 = true := yverQ_ok (by decide +kernel)
theorem yt348 {E : zHp → Prop} (h : yEF E yFP) : yTs E 1 ys348 := yver_s (k := 293) (n := 0) (x := yx348) (P := ys348.2.2.1) (f := 4000) h (yal_n) yg293 yk348
def ys349 : ySp := (285, 2, (0, [], [], [], [(0, (0, yc 10, yc 0)), (1, (0, yc 66, yc 0))], []), [(0, [], [], [], [], [])], [])
def yx349 : yCx := ([ys348], ys349.2.2.2.2, yFP, zm285.2.2.1, zm285.2.2.2.1, zc285, 0, ys349.2.2.2.1, [], [])
theorem yw349 : ywf ys349.2.2.1 = true := by decide +kernel
theorem yk349 : yver yx349 ys349.2.2.1 4000 = true := yverQ_ok (by decide +kernel)
theorem yt349 {E : zHp → Prop} (h : yEF E yFP) : yTs E 2 ys349 := yver_s (k := 285) (n := 1) (x := yx349) (P := ys349.2.2.1) (f := 4000) h (yal_c (yt348 h) (by decide) yw348 (yal_n)) yg285 yk349
def ys350 : ySp := (286, 2, (0, [], [], [], [(0, (2, yc 1023, yc 0)), (1, (0, yc 10, yc 0))], []), [(0, [], [], [], [], [(0, yc 111, yc 0)])], [])
def yx350 : yCx := ([ys349], ys350.2.2.2.2, yFP, zm286.2.2.1, zm286.2.2.2.1, zc286, 0, ys350.2.2.2.1, [], [])
theorem yw350 : ywf ys350.2.2.1 = true := by decide +kernel
theorem yk350 : yver yx350 ys350.2.2.1 4000 = true := yverQ_ok (by decide +kernel)
theorem yt350 {E : zHp → Prop} (h : yEF E yFP) : yTs E 3 ys350 := yver_s (k := 286) (n := 2) (x := yx350) (P := ys350.2.2.1) (f := 4000) h (yal_c (yt349 h) (by decide) yw349 (yal_n)) yg286 yk350
def ys351 : ySp := (282, 2, (0, [], [], [], [(0, (2, yc 1004, yc 0)), (1, (0, yc 10, yc 0))], []), [(0, [], [], [], [], [(0, yc 111, yc 0)])], [])
def yx351 : yCx := ([ys307, ys350], ys351.2.2.2.2, yFP, zm282.2.2.1, zm282.2.2.2.1, zc282, 0, ys351.2.2.2.1, [], [])
theorem yw351 : ywf ys351.2.2.1 = true := by decide +kernel
theorem yk351 : yver yx351 ys351.2.2.1 4000 = true := yverQ_ok (by decide +kernel)
theorem yt351 {E : zHp → Prop} (h : yEF E yFP) : yTs E 4 ys351 := yver_s (k := 282) (n := 3) (x := yx351) (P := ys351.2.2.1) (f := 4000) h (yal_c (yt307 h) (by decide) yw307 (yal_c (yt350 h) (by decide) yw350 (yal_n))) yg282 yk351
def ys352 : ySp := (293, 3, (0, [], [], [], [(0, (0, yc 11, yc 0)), (1, (0, yc 66, yc 0)), (2, (7, yc 0, yc 0))], []), [(0, [], [], [], [], [(0, yc 11, yc 0)])], [])
def yx352 : yCx := ([], ys352.2.2.2.2, yFP, zm293.2.2.1, zm293.2.2.2.1, zc293, 0, ys352.2.2.2.1, [], [])
theorem yw352 : ywf ys352.2.2.1 = true := by decide +kernel
theorem yk352 : yver yx352 ys352.2.2.1 4000 = true := yverQ_ok (by decide +kernel)
theorem yt352 {E : zHp → Prop} (h : yEF E yFP) : yTs E 1 ys352 := yver_s (k := 293) (n := 0) (x := yx352) (P := ys352.2.2.1) (f := 4000) h (yal_n) yg293 yk352
def ys353 : ySp := (285, 2, (0, [], [], [], [(0, (0, yc 11, yc 0)), (1, (0, yc 66, yc 0))], []), [(0, [], [], [], [], [])], [])
def yx353 : yCx := ([ys352], ys353.2.2.2.2, yFP, zm285.2.2.1, zm285.2.2.2.1, zc285, 0, ys353.2.2.2.1, [], [])
theorem yw353 : ywf ys353.2.2.1 = true := by decide +kernel
theorem yk353 : yver yx353 ys353.2.2.1 4000 = true := yverQ_ok (by decide +kernel)
theorem yt353 {E : zHp → Prop} (h : yEF E yFP) : yTs E 2 ys353 := yver_s (k := 285) (n := 1) (x := yx353) (P := ys353.2.2.1) (f := 4000) h (yal_c (yt352 h) (by decide) yw352 (yal_n)) yg285 yk353
def ys354 : ySp := (286, 2, (0, [], [], [], [(0, (2, yc 1023, yc 0)), (1, (0, yc 11, yc 0))], []), [(0, [], [], [], [], [(0, yc 119, yc 0)])], [])
def yx354 : yCx := ([ys353], ys354.2.2.2.2, yFP, zm286.2.2.1, zm286.2.2.2.1, zc286, 0, ys354.2.2.2.1, [], [])
theorem yw354 : ywf ys354.2.2.1 = true := by decide +kernel
theorem yk354 : yver yx354 ys354.2.2.1 4000 = true := yverQ_ok (by decide +kernel)
theorem yt354 {E : zHp → Prop} (h : yEF E yFP) : yTs E 3 ys354 := yver_s (k := 286) (n := 2) (x := yx354) (P := ys354.2.2.1) (f := 4000) h (yal_c (yt353 h) (by decide) yw353 (yal_n)) yg286 yk354
def ys355 : ySp := (282, 2, (0, [], [], [], [(0, (2, yc 1004, yc 0)), (1, (0, yc 11, yc 0))], []), [(0, [], [], [], [], [(0, yc 119, yc 0)])], [])
def yx355 : yCx := ([ys307, ys354], ys355.2.2.2.2, yFP, zm282.2.2.1, zm282.2.2.2.1, zc282, 0, ys355.2.2.2.1, [], [])
theorem yw355 : ywf ys355.2.2.1 = true := by decide +kernel
theorem yk355 : yver yx355 ys355.2.2.1 4000 = true := yverQ_ok (by decide +kernel)
theorem yt355 {E : zHp → Prop} (h : yEF E yFP) : yTs E 4 ys355 := yver_s (k := 282) (n := 3) (x := yx355) (P := ys355.2.2.1) (f := 4000) h (yal_c (yt307 h) (by decide) yw307 (yal_c (yt354 h) (by decide) yw354 (yal_n))) yg282 yk355
def ys356 : ySp := (293, 3, (0, [], [], [], [(0, (0, yc 12, yc 0)), (1, (0, yc 66, yc 0)), (2, (7, yc 0, yc 0))], []), [(0, [], [], [], [], [(0, yc 12, yc 0)])], [])
def yx356 : yCx := ([], ys356.2.2.2.2, yFP, zm293.2.2.1, zm293.2.2.2.1, zc293, 0, ys356.2.2.2.1, [], [])
theorem yw356 : ywf ys356.2.2.1 = true := by decide +kernel
theorem yk356 : yver yx356 ys356.2.2.1 4000 = true := yverQ_ok (by decide +kernel)
theorem yt356 {E : zHp → Prop} (h : yEF E yFP) : yTs E 1 ys356 := yver_s (k := 293) (n := 0) (x := yx356) (P := ys356.2.2.1) (f := 4000) h (yal_n) yg293 yk356
def ys357 : ySp := (285, 2, (0, [], [], [], [(0, (0, yc 12, yc 0)), (1, (0, yc 66, yc 0))], []), [(0, [], [], [], [], [])], [])
def yx357 : yCx := ([ys356], ys357.2.2.2.2, yFP, zm285.2.2.1, zm285.2.2.2.1, zc285, 0, ys357.2.2.2.1, [], [])
theorem yw357 : ywf ys357.2.2.1 = true := by decide +kernel
theorem yk357 : yver yx357 ys357.2.2.1 4000 = true := yverQ_ok (by decide +kernel)
theorem yt357 {E : zHp → Prop} (h : yEF E yFP) : yTs E 2 ys357 := yver_s (k := 285) (n := 1) (x := yx357) (P := ys357.2.2.1) (f := 4000) h (yal_c (yt356 h) (by decide) yw356 (yal_n)) yg285 yk357
def ys358 : ySp := (286, 2, (0, [], [], [], [(0, (2, yc 1023, yc 0)), (1, (0, yc 12, yc 0))], []), [(0, [], [], [], [], [(0, yc 110, yc 0)])], [])
def yx358 : yCx := ([ys357], ys358.2.2.2.2, yFP, zm286.2.2.1, zm286.2.2.2.1, zc286, 0, ys358.2.2.2.1, [], [])
theorem yw358 : ywf ys358.2.2.1 = true := by decide +kernel
theorem yk358 : yver yx358 ys358.2.2.1 4000 = true := yverQ_ok (by decide +kernel)
theorem yt358 {E : zHp → Prop} (h : yEF E yFP) : yTs E 3 ys358 := yver_s (k := 286) (n := 2) (x := yx358) (P := ys358.2.2.1) (f := 4000) h (yal_c (yt357 h) (by decide) yw357 (yal_n)) yg286 yk358
def ys359 : ySp := (282, 2, (0, [], [], [], [(0, (2, yc 1004, yc 0)), (1, (0, yc 12, yc 0))], []), [(0, [], [], [], [], [(0, yc 110, yc 0)])], [])
def yx359 : yCx := ([ys307, ys358], ys359.2.2.2.2, yFP, zm282.2.2.1, zm282.2.2.2.1, zc282, 0, ys359.2.2.2.1, [], [])
theorem yw359 : ywf ys359.2.2.1 = true := by decide +kernel
theorem yk359 : yver yx359 ys359.2.2.1 4000 = true := yverQ_ok (by decide +kernel)
theorem yt359 {E : zHp → Prop} (h : yEF E yFP) : yTs E 4 ys359 := yver_s (k := 282) (n := 3) (x := yx359) (P := ys359.2.2.1) (f := 4000) h (yal_c (yt307 h) (by decide) yw307 (yal_c (yt358 h) (by decide) yw358 (yal_n))) yg282 yk359
def ys360 : ySp := (293, 3, (0, [], [], [], [(0, (0, yc 13, yc 0)), (1, (0, yc 66, yc 0)), (2, (7, yc 0, yc 0))], []), [(0, [], [], [], [], [(0, yc 13, yc 0)])], [])
def yx360 : yCx := ([], ys360.2.2.2.2, yFP, zm293.2.2.1, zm293.2.2.2.1, zc293, 0, ys360.2.2.2.1, [], [])
theorem yw360 : ywf ys360.2.2.1 = true := by decide +kernel
theorem yk360 : yver yx360 ys360.2.2.1 4000 = true := yverQ_ok (by decide +kernel)
theorem yt360 {E : zHp → Prop} (h : yEF E yFP) : yTs E 1 ys360 := yver_s (k := 293) (n := 0) (x := yx360) (P := ys360.2.2.1) (f := 4000) h (yal_n) yg293 yk360
def ys361 : ySp := (285, 2, (0, [], [], [], [(0, (0, yc 13, yc 0)), (1, (0, yc 66, yc 0))], []), [(0, [], [], [], [], [])], [])
def yx361 : yCx := ([ys360], ys361.2.2.2.2, yFP, zm285.2.2.1, zm285.2.2.2.1, zc285, 0, ys361.2.2.2.1, [], [])
theorem yw361 : ywf ys361.2.2.1 = true := by decide +kernel
theorem yk361 : yver yx361 ys361.2.2.1 4000 = true := yverQ_ok (by decide +kernel)
theorem yt361 {E : zHp → Prop} (h : yEF E yFP) : yTs E 2 ys361 := yver_s (k := 285) (n := 1) (x := yx361) (P := ys361.2.2.1) (f := 4000) h (yal_c (yt360 h) (by decide) yw360 (yal_n)) yg285 yk361
def ys362 : ySp := (286, 2, (0, [], [], [], [(0, (2, yc 1023, yc 0)), (1, (0, yc 13, yc 0))], []), [(0, [], [], [], [], [(0, yc 101, yc 0)])], [])
def yx362 : yCx := ([ys361], ys362.2.2.2.2, yFP, zm286.2.2.1, zm286.2.2.2.1, zc286, 0, ys362.2.2.2.1, [], [])
theorem yw362 : ywf ys362.2.2.1 = true := by decide +kernel
theorem yk362 : yver yx362 ys362.2.2.1 4000 = true := yverQ_ok (by decide +kernel)
theorem yt362 {E : zHp → Prop} (h : yEF E yFP) : yTs E 3 ys362 := yver_s (k := 286) (n := 2) (x := yx362) (P := ys362.2.2.1) (f := 4000) h (yal_c (yt361 h) (by decide) yw361 (yal_n)) yg286 yk362
def ys363 : ySp := (282, 2, (0, [], [], [], [(0, (2, yc 1004, yc 0)), (1, (0, yc 13, yc 0))], []), [(0, [], [], [], [], [(0, yc 101, yc 0)])], [])
def yx363 : yCx := ([ys307, ys362], ys363.2.2.2.2, yFP, zm282.2.2.1, zm282.2.2.2.1, zc282, 0, ys363.2.2.2.1, [], [])
theorem yw363 : ywf ys363.2.2.1 = true := by decide +kernel
theorem yk363 : yver yx363 ys363.2.2.1 4000 = true := yverQ_ok (by decide +kernel)
theorem yt363 {E : zHp → Prop} (h : yEF E yFP) : yTs E 4 ys363 := yver_s (k := 282) (n := 3) (x := yx363) (P := ys363.2.2.1) (f := 4000) h (yal_c (yt307 h) (by decide) yw307 (yal_c (yt362 h) (by decide) yw362 (yal_n))) yg282 yk363
def ys364 : ySp := (293, 3, (0, [], [], [], [(0, (0, yc 14, yc 0)), (1, (0, yc 66, yc 0)), (2, (7, yc 0, yc 0))], []), [(0, [], [], [], [], [(0, yc 14, yc 0)])], [])
def yx364 : yCx := ([], ys364.2.2.2.2, yFP, zm293.2.2.1, zm293.2.2.2.1, zc293, 0, ys364.2.2.2.1, [], [])
theorem yw364 : ywf ys364.2.2.1 = true := by decide +kernel
theorem yk364 : yver yx364 ys364.2.2.1 4000 = true := yverQ_ok (by decide +kernel)
theorem yt364 {E : zHp → Prop} (h : yEF E yFP) : yTs E 1 ys364 := yver_s (k := 293) (n := 0) (x := yx364) (P := ys364.2.2.1) (f := 4000) h (yal_n) yg293 yk364
def ys365 : ySp := (285, 2, (0, [], [], [], [(0, (0, yc 14, yc 0)), (1, (0, yc 66, yc 0))], []), [(0, [], [], [], [], [])], [])
def yx365 : yCx := ([ys364], ys365.2.2.2.2, yFP, zm285.2.2.1, zm285.2.2.2.1, zc285, 0, ys365.2.2.2.1, [], [])
theorem yw365 : ywf ys365.2.2.1 = true := by decide +kernel
theorem yk365 : yver yx365 ys365.2.2.1 4000 = true := yverQ_ok (by decide +kernel)
theorem yt365 {E : zHp → Prop} (h : yEF E yFP) : yTs E 2 ys365 := yver_s (k := 285) (n := 1) (x := yx365) (P := ys365.2.2.1) (f := 4000) h (yal_c (yt364 h) (by decide) yw364 (yal_n)) yg285 yk365
def ys366 : ySp := (286, 2, (0, [], [], [], [(0, (2, yc 1023, yc 0)), (1, (0, yc 14, yc 0))], []), [(0, [], [], [], [], [(0, yc 114, yc 0)])], [])
def yx366 : yCx := ([ys365], ys366.2.2.2.2, yFP, zm286.2.2.1, zm286.2.2.2.1, zc286, 0, ys366.2.2.2.1, [], [])
theorem yw366 : ywf ys366.2.2.1 = true := by decide +kernel
theorem yk366 : yver yx366 ys366.2.2.1 4000 = true := yverQ_ok (by decide +kernel)
theorem yt366 {E : zHp → Prop} (h : yEF E yFP) : yTs E 3 ys366 := yver_s (k := 286) (n := 2) (x := yx366) (P := ys366.2.2.1) (f := 4000) h (yal_c (yt365 h) (by decide) yw365 (yal_n)) yg286 yk366
def ys367 : ySp := (282, 2, (0, [], [], [], [(0, (2, yc 1004, yc 0)), (1, (0, yc 14, yc 0))], []), [(0, [], [], [], [], [(0, yc 114, yc 0)])], [])
def yx367 : yCx := ([ys307, ys366], ys367.2.2.2.2, yFP, zm282.2.2.1, zm282.2.2.2.1, zc282, 0, ys367.2.2.2.1, [], [])
theorem yw367 : ywf ys367.2.2.1 = true := by decide +kernel
theorem yk367 : yver yx367 ys367.2.2.1 4000 = true := yverQ_ok (by decide +kernel)
theorem yt367 {E : zHp → Prop} (h : yEF E yFP) : yTs E 4 ys367 := yver_s (k := 282) (n := 3) (x := yx367) (P := ys367.2.2.1) (f := 4000) h (yal_c (yt307 h) (by decide) yw307 (yal_c (yt366 h) (by decide) yw366 (yal_n))) yg282 yk367
def ys368 : ySp := (293, 3, (0, [], [], [], [(0, (0, yc 15, yc 0)), (1, (0, yc 66, yc 0)), (2, (7, yc 0, yc 0))], []), [(0, [], [], [], [], [(0, yc 15, yc 0)])], [])
def yx368 : yCx := ([], ys368.2.2.2.2, yFP, zm293.2.2.1, zm293.2.2.2.1, zc293, 0, ys368.2.2.2.1, [], [])
theorem yw368 : ywf ys368.2.2.1 = true := by decide +kernel
theorem yk368 : yver yx368 ys368.2.2.1 4000 = true := yverQ_ok (by decide +kernel)
theorem yt368 {E : zHp → Prop} (h : yEF E yFP) : yTs E 1 ys368 := yver_s (k := 293) (n := 0) (x := yx368) (P := ys368.2.2.1) (f := 4000) h (yal_n) yg293 yk368
def ys369 : ySp := (285, 2, (0, [], [], [], [(0, (0, yc 15, yc 0)), (1, (0, yc 66, yc 0))], []), [(0, [], [], [], [], [])], [])
def yx369 : yCx := ([ys368], ys369.2.2.2.2, yFP, zm285.2.2.1, zm285.2.2.2.1, zc285, 0, ys369.2.2.2.1, [], [])
theorem yw369 : ywf ys369.2.2.1 = true := by decide +kernel
theorem yk369 : yver yx369 ys369.2.2.1 4000 = true := yverQ_ok (by decide +kernel)
theorem yt369 {E : zHp → Prop} (h : yEF E yFP) : yTs E 2 ys369 := yver_s (k := 285) (n := 1) (x := yx369) (P := ys369.2.2.1) (f := 4000) h (yal_c (yt368 h) (by decide) yw368 (yal_n)) yg285 yk369
def ys370 : ySp := (286, 2, (0, [], [], [], [(0, (2, yc 1023, yc 0)), (1, (0, yc 15, yc 0))], []), [(0, [], [], [], [], [(0, yc 32, yc 0)])], [])
def yx370 : yCx := ([ys369], ys370.2.2.2.2, yFP, zm286.2.2.1, zm286.2.2.2.1, zc286, 0, ys370.2.2.2.1, [], [])
theorem yw370 : ywf ys370.2.2.1 = true := by decide +kernel
theorem yk370 : yver yx370 ys370.2.2.1 4000 = true := yverQ_ok (by decide +kernel)
theorem yt370 {E : zHp → Prop} (h : yEF E yFP) : yTs E 3 ys370 := yver_s (k := 286) (n := 2) (x := yx370) (P := ys370.2.2.1) (f := 4000) h (yal_c (yt369 h) (by decide) yw369 (yal_n)) yg286 yk370
end
section
def ys371 : ySp := (282, 2, (0, [], [], [], [(0, (2, yc 1004, yc 0)), (1, (0, yc 15, yc 0))], []), [(0, [], [], [], [], [(0, yc 32, yc 0)])], [])
def yx371 : yCx := ([ys307, ys370], ys371.2.2.2.2, yFP, zm282.2.2.1, zm282.2.2.2.1, zc282, 0, ys371.2.2.2.1, [], [])
theorem yw371 : ywf ys371.2.2.1 = true := by decide +kernel
theorem yk371 : yver yx371 ys371.2.2.1 4000 = true := yverQ_ok (by decide +kernel)
theorem yt371 {E : zHp → Prop} (h : yEF E yFP) : yTs E 4 ys371 := yver_s (k := 282) (n := 3) (x := yx371) (P := ys371.2.2.1) (f := 4000) h (yal_c (yt307 h) (by decide) yw307 (yal_c (yt370 h) (by decide) yw370 (yal_n))) yg282 yk371
def ys372 : ySp := (293, 3, (0, [], [], [], [(0, (0, yc 16, yc 0)), (1, (0, yc 66, yc 0)), (2, (7, yc 0, yc 0))], []), [(0, [], [], [], [], [(0, yc 16, yc 0)])], [])
def yx372 : yCx := ([], ys372.2.2.2.2, yFP, zm293.2.2.1, zm293.2.2.2.1, zc293, 0, ys372.2.2.2.1, [], [])
theorem yw372 : ywf ys372.2.2.1 = true := by decide +kernel
theorem yk372 : yver yx372 ys372.2.2.1 4000 = true := yverQ_ok (by decide +kernel)
theorem yt372 {E : zHp → Prop} (h : yEF E yFP) : yTs E 1 ys372 := yver_s (k := 293) (n := 0) (x := yx372) (P := ys372.2.2.1) (f := 4000) h (yal_n) yg293 yk372
def ys373 : ySp := (285, 2, (0, [], [], [], [(0, (0, yc 16, yc 0)), (1, (0, yc 66, yc 0))], []), [(0, [], [], [], [], [])], [])
def yx373 : yCx := ([ys372], ys373.2.2.2.2, yFP, zm285.2.2.1, zm285.2.2.2.1, zc285, 0, ys373.2.2.2.1, [], [])
theorem yw373 : ywf ys373.2.2.1 = true := by decide +kernel
theorem yk373 : yver yx373 ys373.2.2.1 4000 = true := yverQ_ok (by decide +kernel)
theorem yt373 {E : zHp → Prop} (h : yEF E yFP) : yTs E 2 ys373 := yver_s (k := 285) (n := 1) (x := yx373) (P := ys373.2.2.1) (f := 4000) h (yal_c (yt372 h) (by decide) yw372 (yal_n)) yg285 yk373
def ys374 : ySp := (286, 2, (0, [], [], [], [(0, (2, yc 1023, yc 0)), (1, (0, yc 16, yc 0))], []), [(0, [], [], [], [], [(0, yc 104, yc 0)])], [])
def yx374 : yCx := ([ys373], ys374.2.2.2.2, yFP, zm286.2.2.1, zm286.2.2.2.1, zc286, 0, ys374.2.2.2.1, [], [])
theorem yw374 : ywf ys374.2.2.1 = true := by decide +kernel
theorem yk374 : yver yx374 ys374.2.2.1 4000 = true := yverQ_ok (by decide +kernel)
theorem yt374 {E : zHp → Prop} (h : yEF E yFP) : yTs E 3 ys374 := yver_s (k := 286) (n := 2) (x := yx374) (P := ys374.2.2.1) (f := 4000) h (yal_c (yt373 h) (by decide) yw373 (yal_n)) yg286 yk374
def ys375 : ySp := (282, 2, (0, [], [], [], [(0, (2, yc 1004, yc 0)), (1, (0, yc 16, yc 0))], []), [(0, [], [], [], [], [(0, yc 104, yc 0)])], [])
def yx375 : yCx := ([ys307, ys374], ys375.2.2.2.2, yFP, zm282.2.2.1, zm282.2.2.2.1, zc282, 0, ys375.2.2.2.1, [], [])
theorem yw375 : ywf ys375.2.2.1 = true := by decide +kernel
theorem yk375 : yver yx375 ys375.2.2.1 4000 = true := yverQ_ok (by decide +kernel)
theorem yt375 {E : zHp → Prop} (h : yEF E yFP) : yTs E 4 ys375 := yver_s (k := 282) (n := 3) (x := yx375) (P := ys375.2.2.1) (f := 4000) h (yal_c (yt307 h) (by decide) yw307 (yal_c (yt374 h) (by decide) yw374 (yal_n))) yg282 yk375
def ys376 : ySp := (293, 3, (0, [], [], [], [(0, (0, yc 17, yc 0)), (1, (0, yc 66, yc 0)), (2, (7, yc 0, yc 0))], []), [(0, [], [], [], [], [(0, yc 17, yc 0)])], [])
def yx376 : yCx := ([], ys376.2.2.2.2, yFP, zm293.2.2.1, zm293.2.2.2.1, zc293, 0, ys376.2.2.2.1, [], [])
theorem yw376 : ywf ys376.2.2.1 = true := by decide +kernel
theorem yk376 : yver yx376 ys376.2.2.1 4000 = true := yverQ_ok (by decide +kernel)
theorem yt376 {E : zHp → Prop} (h : yEF E yFP) : yTs E 1 ys376 := yver_s (k := 293) (n := 0) (x := yx376) (P := ys376.2.2.1) (f := 4000) h (yal_n) yg293 yk376
def ys377 : ySp := (285, 2, (0, [], [], [], [(0, (0, yc 17, yc 0)), (1, (0, yc 66, yc 0))], []), [(0, [], [], [], [], [])], [])
def yx377 : yCx := ([ys376], ys377.2.2.2.2, yFP, zm285.2.2.1, zm285.2.2.2.1, zc285, 0, ys377.2.2.2.1, [], [])
theorem yw377 : ywf ys377.2.2.1 = true := by decide +kernel
theorem yk377 : yver yx377 ys377.2.2.1 4000 = true := yverQ_ok (by decide +kernel)
theorem yt377 {E : zHp → Prop} (h : yEF E yFP) : yTs E 2 ys377 := yver_s (k := 285) (n := 1) (x := yx377) (P := ys377.2.2.1) (f := 4000) h (yal_c (yt376 h) (by decide) yw376 (yal_n)) yg285 yk377
def ys378 : ySp := (286, 2, (0, [], [], [], [(0, (2, yc 1023, yc 0)), (1, (0, yc 17, yc 0))], []), [(0, [], [], [], [], [(0, yc 111, yc 0)])], [])
def yx378 : yCx := ([ys377], ys378.2.2.2.2, yFP, zm286.2.2.1, zm286.2.2.2.1, zc286, 0, ys378.2.2.2.1, [], [])
theorem yw378 : ywf ys378.2.2.1 = true := by decide +kernel
theorem yk378 : yver yx378 ys378.2.2.1 4000 = true := yverQ_ok (by decide +kernel)
theorem yt378 {E : zHp → Prop} (h : yEF E yFP) : yTs E 3 ys378 := yver_s (k := 286) (n := 2) (x := yx378) (P := ys378.2.2.1) (f := 4000) h (yal_c (yt377 h) (by decide) yw377 (yal_n)) yg286 yk378
def ys379 : ySp := (282, 2, (0, [], [], [], [(0, (2, yc 1004, yc 0)), (1, (0, yc 17, yc 0))], []), [(0, [], [], [], [], [(0, yc 111, yc 0)])], [])
def yx379 : yCx := ([ys307, ys378], ys379.2.2.2.2, yFP, zm282.2.2.1, zm282.2.2.2.1, zc282, 0, ys379.2.2.2.1, [], [])
theorem yw379 : ywf ys379.2.2.1 = true := by decide +kernel
theorem yk379 : yver yx379 ys379.2.2.1 4000 = true := yverQ_ok (by decide +kernel)
theorem yt379 {E : zHp → Prop} (h : yEF E yFP) : yTs E 4 ys379 := yver_s (k := 282) (n := 3) (x := yx379) (P := ys379.2.2.1) (f := 4000) h (yal_c (yt307 h) (by decide) yw307 (yal_c (yt378 h) (by decide) yw378 (yal_n))) yg282 yk379
def ys380 : ySp := (293, 3, (0, [], [], [], [(0, (0, yc 18, yc 0)), (1, (0, yc 66, yc 0)), (2, (7, yc 0, yc 0))], []), [(0, [], [], [], [], [(0, yc 18, yc 0)])], [])
def yx380 : yCx := ([], ys380.2.2.2.2, yFP, zm293.2.2.1, zm293.2.2.2.1, zc293, 0, ys380.2.2.2.1, [], [])
theorem yw380 : ywf ys380.2.2.1 = true := by decide +kernel
theorem yk380 : yver yx380 ys380.2.2.1 4000 = true := yverQ_ok (by decide +kernel)
theorem yt380 {E : zHp → Prop} (h : yEF E yFP) : yTs E 1 ys380 := yver_s (k := 293) (n := 0) (x := yx380) (P := ys380.2.2.1) (f := 4000) h (yal_n) yg293 yk380
def ys381 : ySp := (285, 2, (0, [], [], [], [(0, (0, yc 18, yc 0)), (1, (0, yc 66, yc 0))], []), [(0, [], [], [], [], [])], [])
def yx381 : yCx := ([ys380], ys381.2.2.2.2, yFP, zm285.2.2.1, zm285.2.2.2.1, zc285, 0, ys381.2.2.2.1, [], [])
theorem yw381 : ywf ys381.2.2.1 = true := by decide +kernel
theorem yk381 : yver yx381 ys381.2.2.1 4000 = true := yverQ_ok (by decide +kernel)
theorem yt381 {E : zHp → Prop} (h : yEF E yFP) : yTs E 2 ys381 := yver_s (k := 285) (n := 1) (x := yx381) (P := ys381.2.2.1) (f := 4000) h (yal_c (yt380 h) (by decide) yw380 (yal_n)) yg285 yk381
def ys382 : ySp := (286, 2, (0, [], [], [], [(0, (2, yc 1023, yc 0)), (1, (0, yc 18, yc 0))], []), [(0, [], [], [], [], [(0, yc 108, yc 0)])], [])
def yx382 : yCx := ([ys381], ys382.2.2.2.2, yFP, zm286.2.2.1, zm286.2.2.2.1, zc286, 0, ys382.2.2.2.1, [], [])
theorem yw382 : ywf ys382.2.2.1 = true := by decide +kernel
theorem yk382 : yver yx382 ys382.2.2.1 4000 = true := yverQ_ok (by decide +kernel)
theorem yt382 {E : zHp → Prop} (h : yEF E yFP) : yTs E 3 ys382 := yver_s (k := 286) (n := 2) (x := yx382) (P := ys382.2.2.1) (f := 4000) h (yal_c (yt381 h) (by decide) yw381 (yal_n)) yg286 yk382
def ys383 : ySp := (282, 2, (0, [], [], [], [(0, (2, yc 1004, yc 0)), (1, (0, yc 18, yc 0))], []), [(0, [], [], [], [], [(0, yc 108, yc 0)])], [])
def yx383 : yCx := ([ys307, ys382], ys383.2.2.2.2, yFP, zm282.2.2.1, zm282.2.2.2.1, zc282, 0, ys383.2.2.2.1, [], [])
theorem yw383 : ywf ys383.2.2.1 = true := by decide +kernel
theorem yk383 : yver yx383 ys383.2.2.1 4000 = true := yverQ_ok (by decide +kernel)
theorem yt383 {E : zHp → Prop} (h : yEF E yFP) : yTs E 4 ys383 := yver_s (k := 282) (n := 3) (x := yx383) (P := ys383.2.2.1) (f := 4000) h (yal_c (yt307 h) (by decide) yw307 (yal_c (yt382 h) (by decide) yw382 (yal_n))) yg282 yk383
def ys384 : ySp := (293, 3, (0, [], [], [], [(0, (0, yc 19, yc 0)), (1, (0, yc 66, yc 0)), (2, (7, yc 0, yc 0))], []), [(0, [], [], [], [], [(0, yc 19, yc 0)])], [])
def yx384 : yCx := ([], ys384.2.2.2.2, yFP, zm293.2.2.1, zm293.2.2.2.1, zc293, 0, ys384.2.2.2.1, [], [])
theorem yw384 : ywf ys384.2.2.1 = true := by decide +kernel
theorem yk384 : yver yx384 ys384.2.2.1 4000 = true := yverQ_ok (by decide +kernel)
theorem yt384 {E : zHp → Prop} (h : yEF E yFP) : yTs E 1 ys384 := yver_s (k := 293) (n := 0) (x := yx384) (P := ys384.2.2.1) (f := 4000) h (yal_n) yg293 yk384
def ys385 : ySp := (285, 2, (0, [], [], [], [(0, (0, yc 19, yc 0)), (1, (0, yc 66, yc 0))], []), [(0, [], [], [], [], [])], [])
def yx385 : yCx := ([ys384], ys385.2.2.2.2, yFP, zm285.2.2.1, zm285.2.2.2.1, zc285, 0, ys385.2.2.2.1, [], [])
theorem yw385 : ywf ys385.2.2.1 = true := by decide +kernel
theorem yk385 : yver yx385 ys385.2.2.1 4000 = true := yverQ_ok (by decide +kernel)
theorem yt385 {E : zHp → Prop} (h : yEF E yFP) : yTs E 2 ys385 := yver_s (k := 285) (n := 1) (x := yx385) (P := ys385.2.2.1) (f := 4000) h (yal_c (yt384 h) (by decide) yw384 (yal_n)) yg285 yk385
def ys386 : ySp := (286, 2, (0, [], [], [], [(0, (2, yc 1023, yc 0)), (1, (0, yc 19, yc 0))], []), [(0, [], [], [], [], [(0, yc 100, yc 0)])], [])
def yx386 : yCx := ([ys385], ys386.2.2.2.2, yFP, zm286.2.2.1, zm286.2.2.2.1, zc286, 0, ys386.2.2.2.1, [], [])
theorem yw386 : ywf ys386.2.2.1 = true := by decide +kernel
theorem yk386 : yver yx386 ys386.2.2.1 4000 = true := yverQ_ok (by decide +kernel)
theorem yt386 {E : zHp → Prop} (h : yEF E yFP) : yTs E 3 ys386 := yver_s (k := 286) (n := 2) (x := yx386) (P := ys386.2.2.1) (f := 4000) h (yal_c (yt385 h) (by decide) yw385 (yal_n)) yg286 yk386
def ys387 : ySp := (282, 2, (0, [], [], [], [(0, (2, yc 1004, yc 0)), (1, (0, yc 19, yc 0))], []), [(0, [], [], [], [], [(0, yc 100, yc 0)])], [])
def yx387 : yCx := ([ys307, ys386], ys387.2.2.2.2, yFP, zm282.2.2.1, zm282.2.2.2.1, zc282, 0, ys387.2.2.2.1, [], [])
theorem yw387 : ywf ys387.2.2.1 = true := by decide +kernel
theorem yk387 : yver yx387 ys387.2.2.1 4000 = true := yverQ_ok (by decide +kernel)
theorem yt387 {E : zHp → Prop} (h : yEF E yFP) : yTs E 4 ys387 := yver_s (k := 282) (n := 3) (x := yx387) (P := ys387.2.2.1) (f := 4000) h (yal_c (yt307 h) (by decide) yw307 (yal_c (yt386 h) (by decide) yw386 (yal_n))) yg282 yk387
def ys388 : ySp := (293, 3, (0, [], [], [], [(0, (0, yc 20, yc 0)), (1, (0, yc 66, yc 0)), (2, (7, yc 0, yc 0))], []), [(0, [], [], [], [], [(0, yc 20, yc 0)])], [])
def yx388 : yCx := ([], ys388.2.2.2.2, yFP, zm293.2.2.1, zm293.2.2.2.1, zc293, 0, ys388.2.2.2.1, [], [])
theorem yw388 : ywf ys388.2.2.1 = true := by decide +kernel
theorem yk388 : yver yx388 ys388.2.2.1 4000 = true := yverQ_ok (by decide +kernel)
theorem yt388 {E : zHp → Prop} (h : yEF E yFP) : yTs E 1 ys388 := yver_s (k := 293) (n := 0) (x := yx388) (P := ys388.2.2.1) (f := 4000) h (yal_n) yg293 yk388
def ys389 : ySp := (285, 2, (0, [], [], [], [(0, (0, yc 20, yc 0)), (1, (0, yc 66, yc 0))], []), [(0, [], [], [], [], [])], [])
def yx389 : yCx := ([ys388], ys389.2.2.2.2, yFP, zm285.2.2.1, zm285.2.2.2.1, zc285, 0, ys389.2.2.2.1, [], [])
theorem yw389 : ywf ys389.2.2.1 = true := by decide +kernel
theorem yk389 : yver yx389 ys389.2.2.1 4000 = true := yverQ_ok (by decide +kernel)
theorem yt389 {E : zHp → Prop} (h : yEF E yFP) : yTs E 2 ys389 := yver_s (k := 285) (n := 1) (x := yx389) (P := ys389.2.2.1) (f := 4000) h (yal_c (yt388 h) (by decide) yw388 (yal_n)) yg285 yk389
def ys390 : ySp := (286, 2, (0, [], [], [], [(0, (2, yc 1023, yc 0)), (1, (0, yc 20, yc 0))], []), [(0, [], [], [], [], [(0, yc 101, yc 0)])], [])
def yx390 : yCx := ([ys389], ys390.2.2.2.2, yFP, zm286.2.2.1, zm286.2.2.2.1, zc286, 0, ys390.2.2.2.1, [], [])
theorem yw390 : ywf ys390.2.2.1 = true := by decide +kernel
theorem yk390 : yver yx390 ys390.2.2.1 4000 = true := yverQ_ok (by decide +kernel)
theorem yt390 {E : zHp → Prop} (h : yEF E yFP) : yTs E 3 ys390 := yver_s (k := 286) (n := 2) (x := yx390) (P := ys390.2.2.1) (f := 4000) h (yal_c (yt389 h) (by decide) yw389 (yal_n)) yg286 yk390
def ys391 : ySp := (282, 2, (0, [], [], [], [(0, (2, yc 1004, yc 0)), (1, (0, yc 20, yc 0))], []), [(0, [], [], [], [], [(0, yc 101, yc 0)])], [])
def yx391 : yCx := ([ys307, ys390], ys391.2.2.2.2, yFP, zm282.2.2.1, zm282.2.2.2.1, zc282, 0, ys391.2.2.2.1, [], [])
theorem yw391 : ywf ys391.2.2.1 = true := by decide +kernel
theorem yk391 : yver yx391 ys391.2.2.1 4000 = true := yverQ_ok (by decide +kernel)
theorem yt391 {E : zHp → Prop} (h : yEF E yFP) : yTs E 4 ys391 := yver_s (k := 282) (n := 3) (x := yx391) (P := ys391.2.2.1) (f := 4000) h (yal_c (yt307 h) (by decide) yw307 (yal_c (yt390 h) (by decide) yw390 (yal_n))) yg282 yk391
def ys392 : ySp := (293, 3, (0, [], [], [], [(0, (0, yc 21, yc 0)), (1, (0, yc 66, yc 0)), (2, (7, yc 0, yc 0))], []), [(0, [], [], [], [], [(0, yc 21, yc 0)])], [])
def yx392 : yCx := ([], ys392.2.2.2.2, yFP, zm293.2.2.1, zm293.2.2.2.1, zc293, 0, ys392.2.2.2.1, [], [])
theorem yw392 : ywf ys392.2.2.1 = true := by decide +kernel
theorem yk392 : yver yx392 ys392.2.2.1 4000 = true := yverQ_ok (by decide +kernel)
theorem yt392 {E : zHp → Prop} (h : yEF E yFP) : yTs E 1 ys392 := yver_s (k := 293) (n := 0) (x := yx392) (P := ys392.2.2.1) (f := 4000) h (yal_n) yg293 yk392
def ys393 : ySp := (285, 2, (0, [], [], [], [(0, (0, yc 21, yc 0)), (1, (0, yc 66, yc 0))], []), [(0, [], [], [], [], [])], [])
def yx393 : yCx := ([ys392], ys393.2.2.2.2, yFP, zm285.2.2.1, zm285.2.2.2.1, zc285, 0, ys393.2.2.2.1, [], [])
theorem yw393 : ywf ys393.2.2.1 = true := by decide +kernel
theorem yk393 : yver yx393 ys393.2.2.1 4000 = true := yverQ_ok (by decide +kernel)
theorem yt393 {E : zHp → Prop} (h : yEF E yFP) : yTs E 2 ys393 := yver_s (k := 285) (n := 1) (x := yx393) (P := ys393.2.2.1) (f := 4000) h (yal_c (yt392 h) (by decide) yw392 (yal_n)) yg285 yk393
def ys394 : ySp := (286, 2, (0, [], [], [], [(0, (2, yc 1023, yc 0)), (1, (0, yc 21, yc 0))], []), [(0, [], [], [], [], [(0, yc 114, yc 0)])], [])
def yx394 : yCx := ([ys393], ys394.2.2.2.2, yFP, zm286.2.2.1, zm286.2.2.2.1, zc286, 0, ys394.2.2.2.1, [], [])
theorem yw394 : ywf ys394.2.2.1 = true := by decide +kernel
theorem yk394 : yver yx394 ys394.2.2.1 4000 = true := yverQ_ok (by decide +kernel)
theorem yt394 {E : zHp → Prop} (h : yEF E yFP) : yTs E 3 ys394 := yver_s (k := 286) (n := 2) (x := yx394) (P := ys394.2.2.1) (f := 4000) h (yal_c (yt393 h) (by decide) yw393 (yal_n)) yg286 yk394
def ys395 : ySp := (282, 2, (0, [], [], [], [(0, (2, yc 1004, yc 0)), (1, (0, yc 21, yc 0))], []), [(0, [], [], [], [], [(0, yc 114, yc 0)])], [])
def yx395 : yCx := ([ys307, ys394], ys395.2.2.2.2, yFP, zm282.2.2.1, zm282.2.2.2.1, zc282, 0, ys395.2.2.2.1, [], [])
theorem yw395 : ywf ys395.2.2.1 = true := by decide +kernel
theorem yk395 : yver yx395 ys395.2.2.1 4000 = true := yverQ_ok (by decide +kernel)
theorem yt395 {E : zHp → Prop} (h : yEF E yFP) : yTs E 4 ys395 := yver_s (k := 282) (n := 3) (x := yx395) (P := ys395.2.2.1) (f := 4000) h (yal_c (yt307 h) (by decide) yw307 (yal_c (yt394 h) (by decide) yw394 (yal_n))) yg282 yk395
def ys396 : ySp := (293, 3, (0, [], [], [], [(0, (0, yc 22, yc 0)), (1, (0, yc 66, yc 0)), (2, (7, yc 0, yc 0))], []), [(0, [], [], [], [], [(0, yc 22, yc 0)])], [])
def yx396 : yCx := ([], ys396.2.2.2.2, yFP, zm293.2.2.1, zm293.2.2.2.1, zc293, 0, ys396.2.2.2.1, [], [])
theorem yw396 : ywf ys396.2.2.1 = true := by decide +kernel
theorem yk396 : yver yx396 ys396.2.2.1 4000 = true := yverQ_ok (by decide +kernel)
theorem yt396 {E : zHp → Prop} (h : yEF E yFP) : yTs E 1 ys396 := yver_s (k := 293) (n := 0) (x := yx396) (P := ys396.2.2.1) (f := 4000) h (yal_n) yg293 yk396
def ys397 : ySp := (285, 2, (0, [], [], [], [(0, (0, yc 22, yc 0)), (1, (0, yc 66, yc 0))], []), [(0, [], [], [], [], [])], [])
def yx397 : yCx := ([ys396], ys397.2.2.2.2, yFP, zm285.2.2.1, zm285.2.2.2.1, zc285, 0, ys397.2.2.2.1, [], [])
theorem yw397 : ywf ys397.2.2.1 = true := by decide +kernel
theorem yk397 : yver yx397 ys397.2.2.1 4000 = true := yverQ_ok (by decide +kernel)
theorem yt397 {E : zHp → Prop} (h : yEF E yFP) : yTs E 2 ys397 := yver_s (k := 285) (n := 1) (x := yx397) (P := ys397.2.2.1) (f := 4000) h (yal_c (yt396 h) (by decide) yw396 (yal_n)) yg285 yk397
def ys398 : ySp := (286, 2, (0, [], [], [], [(0, (2, yc 1023, yc 0)), (1, (0, yc 22, yc 0))], []), [(0, [], [], [], [], [(0, yc 32, yc 0)])], [])
def yx398 : yCx := ([ys397], ys398.2.2.2.2, yFP, zm286.2.2.1, zm286.2.2.2.1, zc286, 0, ys398.2.2.2.1, [], [])
theorem yw398 : ywf ys398.2.2.1 = true := by decide +kernel
theorem yk398 : yver yx398 ys398.2.2.1 4000 = true := yverQ_ok (by decide +kernel)
theorem yt398 {E : zHp → Prop} (h : yEF E yFP) : yTs E 3 ys398 := yver_s (k := 286) (n := 2) (x := yx398) (P := ys398.2.2.1) (f := 4000) h (yal_c (yt397 h) (by decide) yw397 (yal_n)) yg286 yk398
def ys399 : ySp := (282, 2, (0, [], [], [], [(0, (2, yc 1004, yc 0)), (1, (0, yc 22, yc 0))], []), [(0, [], [], [], [], [(0, yc 32, yc 0)])], [])
def yx399 : yCx := ([ys307, ys398], ys399.2.2.2.2, yFP, zm282.2.2.1, zm282.2.2.2.1, zc282, 0, ys399.2.2.2.1, [], [])
theorem yw399 : ywf ys399.2.2.1 = true := by decide +kernel
theorem yk399 : yver yx399 ys399.2.2.1 4000 = true := yverQ_ok (by decide +kernel)
theorem yt399 {E : zHp → Prop} (h : yEF E yFP) : yTs E 4 ys399 := yver_s (k := 282) (n := 3) (x := yx399) (P := ys399.2.2.1) (f := 4000) h (yal_c (yt307 h) (by decide) yw307 (yal_c (yt398 h) (by decide) yw398 (yal_n))) yg282 yk399
def ys400 : ySp := (293, 3, (0, [], [], [], [(0, (0, yc 23, yc 0)), (1, (0, yc 66, yc 0)), (2, (7, yc 0, yc 0))], []), [(0, [], [], [], [], [(0, yc 23, yc 0)])], [])
def yx400 : yCx := ([], ys400.2.2.2.2, yFP, zm293.2.2.1, zm293.2.2.2.1, zc293, 0, ys400.2.2.2.1, [], [])
theorem yw400 : ywf ys400.2.2.1 = true := by decide +kernel
theorem yk400 : yver yx400 ys400.2.2.1 4000 = true := yverQ_ok (by decide +kernel)
theorem yt400 {E : zHp → Prop} (h : yEF E yFP) : yTs E 1 ys400 := yver_s (k := 293) (n := 0) (x := yx400) (P := ys400.2.2.1) (f := 4000) h (yal_n) yg293 yk400
def ys401 : ySp := (285, 2, (0, [], [], [], [(0, (0, yc 23, yc 0)), (1, (0, yc 66, yc 0))], []), [(0, [], [], [], [], [])], [])
def yx401 : yCx := ([ys400], ys401.2.2.2.2, yFP, zm285.2.2.1, zm285.2.2.2.1, zc285, 0, ys401.2.2.2.1, [], [])
theorem yw401 : ywf ys401.2.2.1 = true := by decide +kernel
theorem yk401 : yver yx401 ys401.2.2.1 4000 = true := yverQ_ok (by decide +kernel)
theorem yt401 {E : zHp → Prop} (h : yEF E yFP) : yTs E 2 ys401 := yver_s (k := 285) (n := 1) (x := yx401) (P := ys401.2.2.1) (f := 4000) h (yal_c (yt400 h) (by decide) yw400 (yal_n)) yg285 yk401
def ys402 : ySp := (286, 2, (0, [], [], [], [(0, (2, yc 1023, yc 0)), (1, (0, yc 23, yc 0))], []), [(0, [], [], [], [], [(0, yc 116, yc 0)])], [])
def yx402 : yCx := ([ys401], ys402.2.2.2.2, yFP, zm286.2.2.1, zm286.2.2.2.1, zc286, 0, ys402.2.2.2.1, [], [])
theorem yw402 : ywf ys402.2.2.1 = true := by decide +kernel
theorem yk402 : yver yx402 ys402.2.2.1 4000 = true := yverQ_ok (by decide +kernel)
theorem yt402 {E : zHp → Prop} (h : yEF E yFP) : yTs E 3 ys402 := yver_s (k := 286) (n := 2) (x := yx402) (P := ys402.2.2.1) (f := 4000) h (yal_c (yt401 h) (by decide) yw401 (yal_n)) yg286 yk402
def ys403 : ySp := (282, 2, (0, [], [], [], [(0, (2, yc 1004, yc 0)), (1, (0, yc 23, yc 0))], []), [(0, [], [], [], [], [(0, yc 116, yc 0)])], [])
def yx403 : yCx := ([ys307, ys402], ys403.2.2.2.2, yFP, zm282.2.2.1, zm282.2.2.2.1, zc282, 0, ys403.2.2.2.1, [], [])
theorem yw403 : ywf ys403.2.2.1 = true := by decide +kernel
theorem yk403 : yver yx403 ys403.2.2.1 4000 = true := yverQ_ok (by decide +kernel)
theorem yt403 {E : zHp → Prop} (h : yEF E yFP) : yTs E 4 ys403 := yver_s (k := 282) (n := 3) (x := yx403) (P := ys403.2.2.1) (f := 4000) h (yal_c (yt307 h) (by decide) yw307 (yal_c (yt402 h) (by decide) yw402 (yal_n))) yg282 yk403
def ys404 : ySp := (293, 3, (0, [], [], [], [(0, (0, yc 24, yc 0)), (1, (0, yc 66, yc 0)), (2, (7, yc 0, yc 0))], []), [(0, [], [], [], [], [(0, yc 24, yc 0)])], [])
def yx404 : yCx := ([], ys404.2.2.2.2, yFP, zm293.2.2.1, zm293.2.2.2.1, zc293, 0, ys404.2.2.2.1, [], [])
theorem yw404 : ywf ys404.2.2.1 = true := by decide +kernel
theorem yk404 : yver yx404 ys404.2.2.1 4000 = true := yverQ_ok (by decide +kernel)
theorem yt404 {E : zHp → Prop} (h : yEF E yFP) : yTs E 1 ys404 := yver_s (k := 293) (n := 0) (x := yx404) (P := ys404.2.2.1) (f := 4000) h (yal_n) yg293 yk404
def ys405 : ySp := (285, 2, (0, [], [], [], [(0, (0, yc 24, yc 0)), (1, (0, yc 66, yc 0))], []), [(0, [], [], [], [], [])], [])
def yx405 : yCx := ([ys404], ys405.2.2.2.2, yFP, zm285.2.2.1, zm285.2.2.2.1, zc285, 0, ys405.2.2.2.1, [], [])
theorem yw405 : ywf ys405.2.2.1 = true := by decide +kernel
theorem yk405 : yver yx405 ys405.2.2.1 4000 = true := yverQ_ok (by decide +kernel)
theorem yt405 {E : zHp → Prop} (h : yEF E yFP) : yTs E 2 ys405 := yver_s (k := 285) (n := 1) (x := yx405) (P := ys405.2.2.1) (f := 4000) h (yal_c (yt404 h) (by decide) yw404 (yal_n)) yg285 yk405
def ys406 : ySp := (286, 2, (0, [], [], [], [(0, (2, yc 1023, yc 0)), (1, (0, yc 24, yc 0))], []), [(0, [], [], [], [], [(0, yc 111, yc 0)])], [])
def yx406 : yCx := ([ys405], ys406.2.2.2.2, yFP, zm286.2.2.1, zm286.2.2.2.1, zc286, 0, ys406.2.2.2.1, [], [])
theorem yw406 : ywf ys406.2.2.1 = true := by decide +kernel
theorem yk406 : yver yx406 ys406.2.2.1 4000 = true := yverQ_ok (by decide +kernel)
theorem yt406 {E : zHp → Prop} (h : yEF E yFP) : yTs E 3 ys406 := yver_s (k := 286) (n := 2) (x := yx406) (P := ys406.2.2.1) (f := 4000) h (yal_c (yt405 h) (by decide) yw405 (yal_n)) yg286 yk406
def ys407 : ySp := (282, 2, (0, [], [], [], [(0, (2, yc 1004, yc 0)), (1, (0, yc 24, yc 0))], []), [(0, [], [], [], [], [(0, yc 111, yc 0)])], [])
def yx407 : yCx := ([ys307, ys406], ys407.2.2.2.2, yFP, zm282.2.2.1, zm282.2.2.2.1, zc282, 0, ys407.2.2.2.1, [], [])
theorem yw407 : ywf ys407.2.2.1 = true := by decide +kernel
theorem yk407 : yver yx407 ys407.2.2.1 4000 = true := yverQ_ok (by decide +kernel)
theorem yt407 {E : zHp → Prop} (h : yEF E yFP) : yTs E 4 ys407 := yver_s (k := 282) (n := 3) (x := yx407) (P := ys407.2.2.1) (f := 4000) h (yal_c (yt307 h) (by decide) yw307 (yal_c (yt406 h) (by decide) yw406 (yal_n))) yg282 yk407
def ys408 : ySp := (293, 3, (0, [], [], [], [(0, (0, yc 25, yc 0)), (1, (0, yc 66, yc 0)), (2, (7, yc 0, yc 0))], []), [(0, [], [], [], [], [(0, yc 25, yc 0)])], [])
def yx408 : yCx := ([], ys408.2.2.2.2, yFP, zm293.2.2.1, zm293.2.2.2.1, zc293, 0, ys408.2.2.2.1, [], [])
theorem yw408 : ywf ys408.2.2.1 = true := by decide +kernel
theorem yk408 : yver yx408 ys408.2.2.1 4000 = true := yverQ_ok (by decide +kernel)
theorem yt408 {E : zHp → Prop} (h : yEF E yFP) : yTs E 1 ys408 := yver_s (k := 293) (n := 0) (x := yx408) (P := ys408.2.2.1) (f := 4000) h (yal_n) yg293 yk408
def ys409 : ySp := (285, 2, (0, [], [], [], [(0, (0, yc 25, yc 0)), (1, (0, yc 66, yc 0))], []), [(0, [], [], [], [], [])], [])
def yx409 : yCx := ([ys408], ys409.2.2.2.2, yFP, zm285.2.2.1, zm285.2.2.2.1, zc285, 0, ys409.2.2.2.1, [], [])
theorem yw409 : ywf ys409.2.2.1 = true := by decide +kernel
theorem yk409 : yver yx409 ys409.2.2.1 4000 = true := yverQ_ok (by decide +kernel)
theorem yt409 {E : zHp → Prop} (h : yEF E yFP) : yTs E 2 ys409 := yver_s (k := 285) (n := 1) (x := yx409) (P := ys409.2.2.1) (f := 4000) h (yal_c (yt408 h) (by decide) yw408 (yal_n)) yg285 yk409
def ys410 : ySp := (286, 2, (0, [], [], [], [(0, (2, yc 1023, yc 0)), (1, (0, yc 25, yc 0))], []), [(0, [], [], [], [], [(0, yc 32, yc 0)])], [])
def yx410 : yCx := ([ys409], ys410.2.2.2.2, yFP, zm286.2.2.1, zm286.2.2.2.1, zc286, 0, ys410.2.2.2.1, [], [])
theorem yw410 : ywf ys410.2.2.1 = true := by decide +kernel
theorem yk410 : yver yx410 ys410.2.2.1 4000 = true := yverQ_ok (by decide +kernel)
theorem yt410 {E : zHp → Prop} (h : yEF E yFP) : yTs E 3 ys410 := yver_s (k := 286) (n := 2) (x := yx410) (P := ys410.2.2.1) (f := 4000) h (yal_c (yt409 h) (by decide) yw409 (yal_n)) yg286 yk410
def ys411 : ySp := (282, 2, (0, [], [], [], [(0, (2, yc 1004, yc 0)), (1, (0, yc 25, yc 0))], []), [(0, [], [], [], [], [(0, yc 32, yc 0)])], [])
def yx411 : yCx := ([ys307, ys410], ys411.2.2.2.2, yFP, zm282.2.2.1, zm282.2.2.2.1, zc282, 0, ys411.2.2.2.1, [], [])
theorem yw411 : ywf ys411.2.2.1 = true := by decide +kernel
theorem yk411 : yver yx411 ys411.2.2.1 4000 = true := yverQ_ok (by decide +kernel)
theorem yt411 {E : zHp → Prop} (h : yEF E yFP) : yTs E 4 ys411 := yver_s (k := 282) (n := 3) (x := yx411) (P := ys411.2.2.1) (f := 4000) h (yal_c (yt307 h) (by decide) yw307 (yal_c (yt410 h) (by decide) yw410 (yal_n))) yg282 yk411
def ys412 : ySp := (293, 3, (0, [], [], [], [(0, (0, yc 26, yc 0)), (1, (0, yc 66, yc 0)), (2, (7, yc 0, yc 0))], []), [(0, [], [], [], [], [(0, yc 26, yc 0)])], [])
def yx412 : yCx := ([], ys412.2.2.2.2, yFP, zm293.2.2.1, zm293.2.2.2.1, zc293, 0, ys412.2.2.2.1, [], [])
theorem yw412 : ywf ys412.2.2.1 = true := by decide +kernel
theorem yk412 : yver yx412 ys412.2.2.1 4000 = true := yverQ_ok (by decide +kernel)
theorem yt412 {E : zHp → Prop} (h : yEF E yFP) : yTs E 1 ys412 := yver_s (k := 293) (n := 0) (x := yx412) (P := ys412.2.2.1) (f := 4000) h (yal_n) yg293 yk412
def ys413 : ySp := (285, 2, (0, [], [], [], [(0, (0, yc 26, yc 0)), (1, (0, yc 66, yc 0))], []), [(0, [], [], [], [], [])], [])
def yx413 : yCx := ([ys412], ys413.2.2.2.2, yFP, zm285.2.2.1, zm285.2.2.2.1, zc285, 0, ys413.2.2.2.1, [], [])
theorem yw413 : ywf ys413.2.2.1 = true := by decide +kernel
theorem yk413 : yver yx413 ys413.2.2.1 4000 = true := yverQ_ok (by decide +kernel)
theorem yt413 {E : zHp → Prop} (h : yEF E yFP) : yTs E 2 ys413 := yver_s (k := 285) (n := 1) (x := yx413) (P := ys413.2.2.1) (f := 4000) h (yal_c (yt412 h) (by decide) yw412 (yal_n)) yg285 yk413
def ys414 : ySp := (286, 2, (0, [], [], [], [(0, (2, yc 1023, yc 0)), (1, (0, yc 26, yc 0))], []), [(0, [], [], [], [], [(0, yc 108, yc 0)])], [])
def yx414 : yCx := ([ys413], ys414.2.2.2.2, yFP, zm286.2.2.1, zm286.2.2.2.1, zc286, 0, ys414.2.2.2.1, [], [])
theorem yw414 : ywf ys414.2.2.1 = true := by decide +kernel
theorem yk414 : yver yx414 ys414.2.2.1 4000 = true := yverQ_ok (by decide +kernel)
theorem yt414 {E : zHp → Prop} (h : yEF E yFP) : yTs E 3 ys414 := yver_s (k := 286) (n := 2) (x := yx414) (P := ys414.2.2.1) (f := 4000) h (yal_c (yt413 h) (by decide) yw413 (yal_n)) yg286 yk414
def ys415 : ySp := (282, 2, (0, [], [], [], [(0, (2, yc 1004, yc 0)), (1, (0, yc 26, yc 0))], []), [(0, [], [], [], [], [(0, yc 108, yc 0)])], [])
def yx415 : yCx := ([ys307, ys414], ys415.2.2.2.2, yFP, zm282.2.2.1, zm282.2.2.2.1, zc282, 0, ys415.2.2.2.1, [], [])
theorem yw415 : ywf ys415.2.2.1 = true := by decide +kernel
theorem yk415 : yver yx415 ys415.2.2.1 4000 = true := yverQ_ok (by decide +kernel)
theorem yt415 {E : zHp → Prop} (h : yEF E yFP) : yTs E 4 ys415 := yver_s (k := 282) (n := 3) (x := yx415) (P := ys415.2.2.1) (f := 4000) h (yal_c (yt307 h) (by decide) yw307 (yal_c (yt414 h) (by decide) yw414 (yal_n))) yg282 yk415
def ys416 : ySp := (293, 3, (0, [], [], [], [(0, (0, yc 27, yc 0)), (1, (0, yc 66, yc 0)), (2, (7, yc 0, yc 0))], []), [(0, [], [], [], [], [(0, yc 27, yc 0)])], [])
def yx416 : yCx := ([], ys416.2.2.2.2, yFP, zm293.2.2.1, zm293.2.2.2.1, zc293, 0, ys416.2.2.2.1, [], [])
theorem yw416 : ywf ys416.2.2.1 = true := by decide +kernel
theorem yk416 : yver yx416 ys416.2.2.1 4000 = true := yverQ_ok (by decide +kernel)
theorem yt416 {E : zHp → Prop} (h : yEF E yFP) : yTs E 1 ys416 := yver_s (k := 293) (n := 0) (x := yx416) (P := ys416.2.2.1) (f := 4000) h (yal_n) yg293 yk416
def ys417 : ySp := (285, 2, (0, [], [], [], [(0, (0, yc 27, yc 0)), (1, (0, yc 66, yc 0))], []), [(0, [], [], [], [], [])], [])
def yx417 : yCx := ([ys416], ys417.2.2.2.2, yFP, zm285.2.2.1, zm285.2.2.2.1, zc285, 0, ys417.2.2.2.1, [], [])
theorem yw417 : ywf ys417.2.2.1 = true := by decide +kernel
theorem yk417 : yver yx417 ys417.2.2.1 4000 = true := yverQ_ok (by decide +kernel)
theorem yt417 {E : zHp → Prop} (h : yEF E yFP) : yTs E 2 ys417 := yver_s (k := 285) (n := 1) (x := yx417) (P := ys417.2.2.1) (f := 4000) h (yal_c (yt416 h) (by decide) yw416 (yal_n)) yg285 yk417
def ys418 : ySp := (286, 2, (0, [], [], [], [(0, (2, yc 1023, yc 0)), (1, (0, yc 27, yc 0))], []), [(0, [], [], [], [], [(0, yc 101, yc 0)])], [])
def yx418 : yCx := ([ys417], ys418.2.2.2.2, yFP, zm286.2.2.1, zm286.2.2.2.1, zc286, 0, ys418.2.2.2.1, [], [])
theorem yw418 : ywf ys418.2.2.1 = true := by decide +kernel
theorem yk418 : yver yx418 ys418.2.2.1 4000 = true := yverQ_ok (by decide +kernel)
theorem yt418 {E : zHp → Prop} (h : yEF E yFP) : yTs E 3 ys418 := yver_s (k := 286) (n := 2) (x := yx418) (P := ys418.2.2.1) (f := 4000) h (yal_c (yt417 h) (by decide) yw417 (yal_n)) yg286 yk418
def ys419 : ySp := (282, 2, (0, [], [], [], [(0, (2, yc 1004, yc 0)), (1, (0, yc 27, yc 0))], []), [(0, [], [], [], [], [(0, yc 101, yc 0)])], [])
def yx419 : yCx := ([ys307, ys418], ys419.2.2.2.2, yFP, zm282.2.2.1, zm282.2.2.2.1, zc282, 0, ys419.2.2.2.1, [], [])
theorem yw419 : ywf ys419.2.2.1 = true := by decide +kernel
theorem yk419 : yver yx419 ys419.2.2.1 4000 = true := yverQ_ok (by decide +kernel)
theorem yt419 {E : zHp → Prop} (h : yEF E yFP) : yTs E 4 ys419 := yver_s (k := 282) (n := 3) (x := yx419) (P := ys419.2.2.1) (f := 4000) h (yal_c (yt307 h) (by decide) yw307 (yal_c (yt418 h) (by decide) yw418 (yal_n))) yg282 yk419
def ys420 : ySp := (293, 3, (0, [], [], [], [(0, (0, yc 28, yc 0)), (1, (0, yc 66, yc 0)), (2, (7, yc 0, yc 0))], []), [(0, [], [], [], [], [(0, yc 28, yc 0)])], [])
def yx420 : yCx := ([], ys420.2.2.2.2, yFP, zm293.2.2.1, zm293.2.2.2.1, zc293, 0, ys420.2.2.2.1, [], [])
theorem yw420 : ywf ys420.2.2.1 = true := by decide +kernel
theorem yk420 : yver yx420 ys420.2.2.1 4000 = true := yverQ_ok (by decide +kernel)
theorem yt420 {E : zHp → Prop} (h : yEF E yFP) : yTs E 1 ys420 := yver_s (k := 293) (n := 0) (x := yx420) (P := ys420.2.2.1) (f := 4000) h (yal_n) yg293 yk420
def ys421 : ySp := (285, 2, (0, [], [], [], [(0, (0, yc 28, yc 0)), (1, (0, yc 66, yc 0))], []), [(0, [], [], [], [], [])], [])
def yx421 : yCx := ([ys420], ys421.2.2.2.2, yFP, zm285.2.2.1, zm285.2.2.2.1, zc285, 0, ys421.2.2.2.1, [], [])
theorem yw421 : ywf ys421.2.2.1 = true := by decide +kernel
theorem yk421 : yver yx421 ys421.2.2.1 4000 = true := yverQ_ok (by decide +kernel)
theorem yt421 {E : zHp → Prop} (h : yEF E yFP) : yTs E 2 ys421 := yver_s (k := 285) (n := 1) (x := yx421) (P := ys421.2.2.1) (f := 4000) h (yal_c (yt420 h) (by decide) yw420 (yal_n)) yg285 yk421
def ys422 : ySp := (286, 2, (0, [], [], [], [(0, (2, yc 1023, yc 0)), (1, (0, yc 28, yc 0))], []), [(0, [], [], [], [], [(0, yc 110, yc 0)])], [])
def yx422 : yCx := ([ys421], ys422.2.2.2.2, yFP, zm286.2.2.1, zm286.2.2.2.1, zc286, 0, ys422.2.2.2.1, [], [])
theorem yw422 : ywf ys422.2.2.1 = true := by decide +kernel
theorem yk422 : yver yx422 ys422.2.2.1 4000 = true := yverQ_ok (by decide +kernel)
theorem yt422 {E : zHp → Prop} (h : yEF E yFP) : yTs E 3 ys422 := yver_s (k := 286) (n := 2) (x := yx422) (P := ys422.2.2.1) (f := 4000) h (yal_c (yt421 h) (by decide) yw421 (yal_n)) yg286 yk422
def ys423 : ySp := (282, 2, (0, [], [], [], [(0, (2, yc 1004, yc 0)), (1, (0, yc 28, yc 0))], []), [(0, [], [], [], [], [(0, yc 110, yc 0)])], [])
def yx423 : yCx := ([ys307, ys422], ys423.2.2.2.2, yFP, zm282.2.2.1, zm282.2.2.2.1, zc282, 0, ys423.2.2.2.1, [], [])
theorem yw423 : ywf ys423.2.2.1 = true := by decide +kernel
theorem yk423 : yver yx423 ys423.2.2.1 4000 = true := yverQ_ok (by decide +kernel)
theorem yt423 {E : zHp → Prop} (h : yEF E yFP) : yTs E 4 ys423 := yver_s (k := 282) (n := 3) (x := yx423) (P := ys423.2.2.1) (f := 4000) h (yal_c (yt307 h) (by decide) yw307 (yal_c (yt422 h) (by decide) yw422 (yal_n))) yg282 yk423
def ys424 : ySp := (293, 3, (0, [], [], [], [(0, (0, yc 29, yc 0)), (1, (0, yc 66, yc 0)), (2, (7, yc 0, yc 0))], []), [(0, [], [], [], [], [(0, yc 29, yc 0)])], [])
def yx424 : yCx := ([], ys424.2.2.2.2, yFP, zm293.2.2.1, zm293.2.2.2.1, zc293, 0, ys424.2.2.2.1, [], [])
theorem yw424 : ywf ys424.2.2.1 = true := by decide +kernel
theorem yk424 : yver yx424 ys424.2.2.1 4000 = true := yverQ_ok (by decide +kernel)
theorem yt424 {E : zHp → Prop} (h : yEF E yFP) : yTs E 1 ys424 := yver_s (k := 293) (n := 0) (x := yx424) (P := ys424.2.2.1) (f := 4000) h (yal_n) yg293 yk424
def ys425 : ySp := (285, 2, (0, [], [], [], [(0, (0, yc 29, yc 0)), (1, (0, yc 66, yc 0))], []), [(0, [], [], [], [], [])], [])
def yx425 : yCx := ([ys424], ys425.2.2.2.2, yFP, zm285.2.2.1, zm285.2.2.2.1, zc285, 0, ys425.2.2.2.1, [], [])
theorem yw425 : ywf ys425.2.2.1 = true := by decide +kernel
theorem yk425 : yver yx425 ys425.2.2.1 4000 = true := yverQ_ok (by decide +kernel)
theorem yt425 {E : zHp → Prop} (h : yEF E yFP) : yTs E 2 ys425 := yver_s (k := 285) (n := 1) (x := yx425) (P := ys425.2.2.1) (f := 4000) h (yal_c (yt424 h) (by decide) yw424 (yal_n)) yg285 yk425
def ys426 : ySp := (286, 2, (0, [], [], [], [(0, (2, yc 1023, yc 0)), (1, (0, yc 29, yc 0))], []), [(0, [], [], [], [], [(0, yc 116, yc 0)])], [])
def yx426 : yCx := ([ys425], ys426.2.2.2.2, yFP, zm286.2.2.1, zm286.2.2.2.1, zc286, 0, ys426.2.2.2.1, [], [])
theorem yw426 : ywf ys426.2.2.1 = true := by decide +kernel
theorem yk426 : yver yx426 ys426.2.2.1 4000 = true := yverQ_ok (by decide +kernel)
theorem yt426 {E : zHp → Prop} (h : yEF E yFP) : yTs E 3 ys426 := yver_s (k := 286) (n := 2) (x := yx426) (P := ys426.2.2.1) (f := 4000) h (yal_c (yt425 h) (by decide) yw425 (yal_n)) yg286 yk426
def ys427 : ySp := (282, 2, (0, [], [], [], [(0, (2, yc 1004, yc 0)), (1, (0, yc 29, yc 0))], []), [(0, [], [], [], [], [(0, yc 116, yc 0)])], [])
def yx427 : yCx := ([ys307, ys426], ys427.2.2.2.2, yFP, zm282.2.2.1, zm282.2.2.2.1, zc282, 0, ys427.2.2.2.1, [], [])
theorem yw427 : ywf ys427.2.2.1 = true := by decide +kernel
theorem yk427 : yver yx427 ys427.2.2.1 4000 = true := yverQ_ok (by decide +kernel)
theorem yt427 {E : zHp → Prop} (h : yEF E yFP) : yTs E 4 ys427 := yver_s (k := 282) (n := 3) (x := yx427) (P := ys427.2.2.1) (f := 4000) h (yal_c (yt307 h) (by decide) yw307 (yal_c (yt426 h) (by decide) yw426 (yal_n))) yg282 yk427
def ys428 : ySp := (293, 3, (0, [], [], [], [(0, (0, yc 30, yc 0)), (1, (0, yc 66, yc 0)), (2, (7, yc 0, yc 0))], []), [(0, [], [], [], [], [(0, yc 30, yc 0)])], [])
def yx428 : yCx := ([], ys428.2.2.2.2, yFP, zm293.2.2.1, zm293.2.2.2.1, zc293, 0, ys428.2.2.2.1, [], [])
theorem yw428 : ywf ys428.2.2.1 = true := by decide +kernel
theorem yk428 : yver yx428 ys428.2.2.1 4000 = true := yverQ_ok (by decide +kernel)
theorem yt428 {E : zHp → Prop} (h : yEF E yFP) : yTs E 1 ys428 := yver_s (k := 293) (n := 0) (x := yx428) (P := ys428.2.2.1) (f := 4000) h (yal_n) yg293 yk428
def ys429 : ySp := (285, 2, (0, [], [], [], [(0, (0, yc 30, yc 0)), (1, (0, yc 66, yc 0))], []), [(0, [], [], [], [], [])], [])
def yx429 : yCx := ([ys428], ys429.2.2.2.2, yFP, zm285.2.2.1, zm285.2.2.2.1, zc285, 0, ys429.2.2.2.1, [], [])
theorem yw429 : ywf ys429.2.2.1 = true := by decide +kernel
theorem yk429 : yver yx429 ys429.2.2.1 4000 = true := yverQ_ok (by decide +kernel)
theorem yt429 {E : zHp → Prop} (h : yEF E yFP) : yTs E 2 ys429 := yver_s (k := 285) (n := 1) (x := yx429) (P := ys429.2.2.1) (f := 4000) h (yal_c (yt428 h) (by decide) yw428 (yal_n)) yg285 yk429
def ys430 : ySp := (286, 2, (0, [], [], [], [(0, (2, yc 1023, yc 0)), (1, (0, yc 30, yc 0))], []), [(0, [], [], [], [], [(0, yc 32, yc 0)])], [])
def yx430 : yCx := ([ys429], ys430.2.2.2.2, yFP, zm286.2.2.1, zm286.2.2.2.1, zc286, 0, ys430.2.2.2.1, [], [])
theorem yw430 : ywf ys430.2.2.1 = true := by decide +kernel
theorem yk430 : yver yx430 ys430.2.2.1 4000 = true := yverQ_ok (by decide +kernel)
theorem yt430 {E : zHp → Prop} (h : yEF E yFP) : yTs E 3 ys430 := yver_s (k := 286) (n := 2) (x := yx430) (P := ys430.2.2.1) (f := 4000) h (yal_c (yt429 h) (by decide) yw429 (yal_n)) yg286 yk430
def ys431 : ySp := (282, 2, (0, [], [], [], [(0, (2, yc 1004, yc 0)), (1, (0, yc 30, yc 0))], []), [(0, [], [], [], [], [(0, yc 32, yc 0)])], [])
def yx431 : yCx := ([ys307, ys430], ys431.2.2.2.2, yFP, zm282.2.2.1, zm282.2.2.2.1, zc282, 0, ys431.2.2.2.1, [], [])
theorem yw431 : ywf ys431.2.2.1 = true := by decide +kernel
theorem yk431 : yver yx431 ys431.2.2.1 4000 = true := yverQ_ok (by decide +kernel)
theorem yt431 {E : zHp → Prop} (h : yEF E yFP) : yTs E 4 ys431 := yver_s (k := 282) (n := 3) (x := yx431) (P := ys431.2.2.1) (f := 4000) h (yal_c (yt307 h) (by decide) yw307 (yal_c (yt430 h) (by decide) yw430 (yal_n))) yg282 yk431
def ys432 : ySp := (293, 3, (0, [], [], [], [(0, (0, yc 31, yc 0)), (1, (0, yc 66, yc 0)), (2, (7, yc 0, yc 0))], []), [(0, [], [], [], [], [(0, yc 31, yc 0)])], [])
def yx432 : yCx := ([], ys432.2.2.2.2, yFP, zm293.2.2.1, zm293.2.2.2.1, zc293, 0, ys432.2.2.2.1, [], [])
theorem yw432 : ywf ys432.2.2.1 = true := by decide +kernel
theorem yk432 : yver yx432 ys432.2.2.1 4000 = true := yverQ_ok (by decide +kernel)
theorem yt432 {E : zHp → Prop} (h : yEF E yFP) : yTs E 1 ys432 := yver_s (k := 293) (n := 0) (x := yx432) (P := ys432.2.2.1) (f := 4000) h (yal_n) yg293 yk432
end
section
def ys433 : ySp := (285, 2, (0, [], [], [], [(0, (0, yc 31, yc 0)), (1, (0, yc 66, yc 0))], []), [(0, [], [], [], [], [])], [])
def yx433 : yCx := ([ys432], ys433.2.2.2.2, yFP, zm285.2.2.1, zm285.2.2.2.1, zc285, 0, ys433.2.2.2.1, [], [])
theorem yw433 : ywf ys433.2.2.1 = true := by decide +kernel
theorem yk433 : yver yx433 ys433.2.2.1 4000 = true := yverQ_ok (by decide +kernel)
theorem yt433 {E : zHp → Prop} (h : yEF E yFP) : yTs E 2 ys433 := yver_s (k := 285) (n := 1) (x := yx433) (P := ys433.2.2.1) (f := 4000) h (yal_c (yt432 h) (by decide) yw432 (yal_n)) yg285 yk433
def ys434 : ySp := (286, 2, (0, [], [], [], [(0, (2, yc 1023, yc 0)), (1, (0, yc 31, yc 0))], []), [(0, [], [], [], [], [(0, yc 115, yc 0)])], [])
def yx434 : yCx := ([ys433], ys434.2.2.2.2, yFP, zm286.2.2.1, zm286.2.2.2.1, zc286, 0, ys434.2.2.2.1, [], [])
theorem yw434 : ywf ys434.2.2.1 = true := by decide +kernel
theorem yk434 : yver yx434 ys434.2.2.1 4000 = true := yverQ_ok (by decide +kernel)
theorem yt434 {E : zHp → Prop} (h : yEF E yFP) : yTs E 3 ys434 := yver_s (k := 286) (n := 2) (x := yx434) (P := ys434.2.2.1) (f := 4000) h (yal_c (yt433 h) (by decide) yw433 (yal_n)) yg286 yk434
def ys435 : ySp := (282, 2, (0, [], [], [], [(0, (2, yc 1004, yc 0)), (1, (0, yc 31, yc 0))], []), [(0, [], [], [], [], [(0, yc 115, yc 0)])], [])
def yx435 : yCx := ([ys307, ys434], ys435.2.2.2.2, yFP, zm282.2.2.1, zm282.2.2.2.1, zc282, 0, ys435.2.2.2.1, [], [])
theorem yw435 : ywf ys435.2.2.1 = true := by decide +kernel
theorem yk435 : yver yx435 ys435.2.2.1 4000 = true := yverQ_ok (by decide +kernel)
theorem yt435 {E : zHp → Prop} (h : yEF E yFP) : yTs E 4 ys435 := yver_s (k := 282) (n := 3) (x := yx435) (P := ys435.2.2.1) (f := 4000) h (yal_c (yt307 h) (by decide) yw307 (yal_c (yt434 h) (by decide) yw434 (yal_n))) yg282 yk435
def ys436 : ySp := (293, 3, (0, [], [], [], [(0, (0, yc 32, yc 0)), (1, (0, yc 66, yc 0)), (2, (7, yc 0, yc 0))], []), [(0, [], [], [], [], [(0, yc 32, yc 0)])], [])
def yx436 : yCx := ([], ys436.2.2.2.2, yFP, zm293.2.2.1, zm293.2.2.2.1, zc293, 0, ys436.2.2.2.1, [], [])
theorem yw436 : ywf ys436.2.2.1 = true := by decide +kernel
theorem yk436 : yver yx436 ys436.2.2.1 4000 = true := yverQ_ok (by decide +kernel)
theorem yt436 {E : zHp → Prop} (h : yEF E yFP) : yTs E 1 ys436 := yver_s (k := 293) (n := 0) (x := yx436) (P := ys436.2.2.1) (f := 4000) h (yal_n) yg293 yk436
def ys437 : ySp := (285, 2, (0, [], [], [], [(0, (0, yc 32, yc 0)), (1, (0, yc 66, yc 0))], []), [(0, [], [], [], [], [])], [])
def yx437 : yCx := ([ys436], ys437.2.2.2.2, yFP, zm285.2.2.1, zm285.2.2.2.1, zc285, 0, ys437.2.2.2.1, [], [])
theorem yw437 : ywf ys437.2.2.1 = true := by decide +kernel
theorem yk437 : yver yx437 ys437.2.2.1 4000 = true := yverQ_ok (by decide +kernel)
theorem yt437 {E : zHp → Prop} (h : yEF E yFP) : yTs E 2 ys437 := yver_s (k := 285) (n := 1) (x := yx437) (P := ys437.2.2.1) (f := 4000) h (yal_c (yt436 h) (by decide) yw436 (yal_n)) yg285 yk437
def ys438 : ySp := (286, 2, (0, [], [], [], [(0, (2, yc 1023, yc 0)), (1, (0, yc 32, yc 0))], []), [(0, [], [], [], [], [(0, yc 104, yc 0)])], [])
def yx438 : yCx := ([ys437], ys438.2.2.2.2, yFP, zm286.2.2.1, zm286.2.2.2.1, zc286, 0, ys438.2.2.2.1, [], [])
theorem yw438 : ywf ys438.2.2.1 = true := by decide +kernel
theorem yk438 : yver yx438 ys438.2.2.1 4000 = true := yverQ_ok (by decide +kernel)
theorem yt438 {E : zHp → Prop} (h : yEF E yFP) : yTs E 3 ys438 := yver_s (k := 286) (n := 2) (x := yx438) (P := ys438.2.2.1) (f := 4000) h (yal_c (yt437 h) (by decide) yw437 (yal_n)) yg286 yk438
def ys439 : ySp := (282, 2, (0, [], [], [], [(0, (2, yc 1004, yc 0)), (1, (0, yc 32, yc 0))], []), [(0, [], [], [], [], [(0, yc 104, yc 0)])], [])
def yx439 : yCx := ([ys307, ys438], ys439.2.2.2.2, yFP, zm282.2.2.1, zm282.2.2.2.1, zc282, 0, ys439.2.2.2.1, [], [])
theorem yw439 : ywf ys439.2.2.1 = true := by decide +kernel
theorem yk439 : yver yx439 ys439.2.2.1 4000 = true := yverQ_ok (by decide +kernel)
theorem yt439 {E : zHp → Prop} (h : yEF E yFP) : yTs E 4 ys439 := yver_s (k := 282) (n := 3) (x := yx439) (P := ys439.2.2.1) (f := 4000) h (yal_c (yt307 h) (by decide) yw307 (yal_c (yt438 h) (by decide) yw438 (yal_n))) yg282 yk439
def ys440 : ySp := (293, 3, (0, [], [], [], [(0, (0, yc 33, yc 0)), (1, (0, yc 66, yc 0)), (2, (7, yc 0, yc 0))], []), [(0, [], [], [], [], [(0, yc 33, yc 0)])], [])
def yx440 : yCx := ([], ys440.2.2.2.2, yFP, zm293.2.2.1, zm293.2.2.2.1, zc293, 0, ys440.2.2.2.1, [], [])
theorem yw440 : ywf ys440.2.2.1 = true := by decide +kernel
theorem yk440 : yver yx440 ys440.2.2.1 4000 = true := yverQ_ok (by decide +kernel)
theorem yt440 {E : zHp → Prop} (h : yEF E yFP) : yTs E 1 ys440 := yver_s (k := 293) (n := 0) (x := yx440) (P := ys440.2.2.1) (f := 4000) h (yal_n) yg293 yk440
def ys441 : ySp := (285, 2, (0, [], [], [], [(0, (0, yc 33, yc 0)), (1, (0, yc 66, yc 0))], []), [(0, [], [], [], [], [])], [])
def yx441 : yCx := ([ys440], ys441.2.2.2.2, yFP, zm285.2.2.1, zm285.2.2.2.1, zc285, 0, ys441.2.2.2.1, [], [])
theorem yw441 : ywf ys441.2.2.1 = true := by decide +kernel
theorem yk441 : yver yx441 ys441.2.2.1 4000 = true := yverQ_ok (by decide +kernel)
theorem yt441 {E : zHp → Prop} (h : yEF E yFP) : yTs E 2 ys441 := yver_s (k := 285) (n := 1) (x := yx441) (P := ys441.2.2.1) (f := 4000) h (yal_c (yt440 h) (by decide) yw440 (yal_n)) yg285 yk441
def ys442 : ySp := (286, 2, (0, [], [], [], [(0, (2, yc 1023, yc 0)), (1, (0, yc 33, yc 0))], []), [(0, [], [], [], [], [(0, yc 97, yc 0)])], [])
def yx442 : yCx := ([ys441], ys442.2.2.2.2, yFP, zm286.2.2.1, zm286.2.2.2.1, zc286, 0, ys442.2.2.2.1, [], [])
theorem yw442 : ywf ys442.2.2.1 = true := by decide +kernel
theorem yk442 : yver yx442 ys442.2.2.1 4000 = true := yverQ_ok (by decide +kernel)
theorem yt442 {E : zHp → Prop} (h : yEF E yFP) : yTs E 3 ys442 := yver_s (k := 286) (n := 2) (x := yx442) (P := ys442.2.2.1) (f := 4000) h (yal_c (yt441 h) (by decide) yw441 (yal_n)) yg286 yk442
def ys443 : ySp := (282, 2, (0, [], [], [], [(0, (2, yc 1004, yc 0)), (1, (0, yc 33, yc 0))], []), [(0, [], [], [], [], [(0, yc 97, yc 0)])], [])
def yx443 : yCx := ([ys307, ys442], ys443.2.2.2.2, yFP, zm282.2.2.1, zm282.2.2.2.1, zc282, 0, ys443.2.2.2.1, [], [])
theorem yw443 : ywf ys443.2.2.1 = true := by decide +kernel
theorem yk443 : yver yx443 ys443.2.2.1 4000 = true := yverQ_ok (by decide +kernel)
theorem yt443 {E : zHp → Prop} (h : yEF E yFP) : yTs E 4 ys443 := yver_s (k := 282) (n := 3) (x := yx443) (P := ys443.2.2.1) (f := 4000) h (yal_c (yt307 h) (by decide) yw307 (yal_c (yt442 h) (by decide) yw442 (yal_n))) yg282 yk443
def ys444 : ySp := (293, 3, (0, [], [], [], [(0, (0, yc 34, yc 0)), (1, (0, yc 66, yc 0)), (2, (7, yc 0, yc 0))], []), [(0, [], [], [], [], [(0, yc 34, yc 0)])], [])
def yx444 : yCx := ([], ys444.2.2.2.2, yFP, zm293.2.2.1, zm293.2.2.2.1, zc293, 0, ys444.2.2.2.1, [], [])
theorem yw444 : ywf ys444.2.2.1 = true := by decide +kernel
theorem yk444 : yver yx444 ys444.2.2.1 4000 = true := yverQ_ok (by decide +kernel)
theorem yt444 {E : zHp → Prop} (h : yEF E yFP) : yTs E 1 ys444 := yver_s (k := 293) (n := 0) (x := yx444) (P := ys444.2.2.1) (f := 4000) h (yal_n) yg293 yk444
def ys445 : ySp := (285, 2, (0, [], [], [], [(0, (0, yc 34, yc 0)), (1, (0, yc 66, yc 0))], []), [(0, [], [], [], [], [])], [])
def yx445 : yCx := ([ys444], ys445.2.2.2.2, yFP, zm285.2.2.1, zm285.2.2.2.1, zc285, 0, ys445.2.2.2.1, [], [])
theorem yw445 : ywf ys445.2.2.1 = true := by decide +kernel
theorem yk445 : yver yx445 ys445.2.2.1 4000 = true := yverQ_ok (by decide +kernel)
theorem yt445 {E : zHp → Prop} (h : yEF E yFP) : yTs E 2 ys445 := yver_s (k := 285) (n := 1) (x := yx445) (P := ys445.2.2.1) (f := 4000) h (yal_c (yt444 h) (by decide) yw444 (yal_n)) yg285 yk445
def ys446 : ySp := (286, 2, (0, [], [], [], [(0, (2, yc 1023, yc 0)), (1, (0, yc 34, yc 0))], []), [(0, [], [], [], [], [(0, yc 114, yc 0)])], [])
def yx446 : yCx := ([ys445], ys446.2.2.2.2, yFP, zm286.2.2.1, zm286.2.2.2.1, zc286, 0, ys446.2.2.2.1, [], [])
theorem yw446 : ywf ys446.2.2.1 = true := by decide +kernel
theorem yk446 : yver yx446 ys446.2.2.1 4000 = true := yverQ_ok (by decide +kernel)
theorem yt446 {E : zHp → Prop} (h : yEF E yFP) : yTs E 3 ys446 := yver_s (k := 286) (n := 2) (x := yx446) (P := ys446.2.2.1) (f := 4000) h (yal_c (yt445 h) (by decide) yw445 (yal_n)) yg286 yk446
def ys447 : ySp := (282, 2, (0, [], [], [], [(0, (2, yc 1004, yc 0)), (1, (0, yc 34, yc 0))], []), [(0, [], [], [], [], [(0, yc 114, yc 0)])], [])
def yx447 : yCx := ([ys307, ys446], ys447.2.2.2.2, yFP, zm282.2.2.1, zm282.2.2.2.1, zc282, 0, ys447.2.2.2.1, [], [])
theorem yw447 : ywf ys447.2.2.1 = true := by decide +kernel
theorem yk447 : yver yx447 ys447.2.2.1 4000 = true := yverQ_ok (by decide +kernel)
theorem yt447 {E : zHp → Prop} (h : yEF E yFP) : yTs E 4 ys447 := yver_s (k := 282) (n := 3) (x := yx447) (P := ys447.2.2.1) (f := 4000) h (yal_c (yt307 h) (by decide) yw307 (yal_c (yt446 h) (by decide) yw446 (yal_n))) yg282 yk447
def ys448 : ySp := (293, 3, (0, [], [], [], [(0, (0, yc 35, yc 0)), (1, (0, yc 66, yc 0)), (2, (7, yc 0, yc 0))], []), [(0, [], [], [], [], [(0, yc 35, yc 0)])], [])
def yx448 : yCx := ([], ys448.2.2.2.2, yFP, zm293.2.2.1, zm293.2.2.2.1, zc293, 0, ys448.2.2.2.1, [], [])
theorem yw448 : ywf ys448.2.2.1 = true := by decide +kernel
theorem yk448 : yver yx448 ys448.2.2.1 4000 = true := yverQ_ok (by decide +kernel)
theorem yt448 {E : zHp → Prop} (h : yEF E yFP) : yTs E 1 ys448 := yver_s (k := 293) (n := 0) (x := yx448) (P := ys448.2.2.1) (f := 4000) h (yal_n) yg293 yk448
def ys449 : ySp := (285, 2, (0, [], [], [], [(0, (0, yc 35, yc 0)), (1, (0, yc 66, yc 0))], []), [(0, [], [], [], [], [])], [])
def yx449 : yCx := ([ys448], ys449.2.2.2.2, yFP, zm285.2.2.1, zm285.2.2.2.1, zc285, 0, ys449.2.2.2.1, [], [])
theorem yw449 : ywf ys449.2.2.1 = true := by decide +kernel
theorem yk449 : yver yx449 ys449.2.2.1 4000 = true := yverQ_ok (by decide +kernel)
theorem yt449 {E : zHp → Prop} (h : yEF E yFP) : yTs E 2 ys449 := yver_s (k := 285) (n := 1) (x := yx449) (P := ys449.2.2.1) (f := 4000) h (yal_c (yt448 h) (by decide) yw448 (yal_n)) yg285 yk449
def ys450 : ySp := (286, 2, (0, [], [], [], [(0, (2, yc 1023, yc 0)), (1, (0, yc 35, yc 0))], []), [(0, [], [], [], [], [(0, yc 112, yc 0)])], [])
def yx450 : yCx := ([ys449], ys450.2.2.2.2, yFP, zm286.2.2.1, zm286.2.2.2.1, zc286, 0, ys450.2.2.2.1, [], [])
theorem yw450 : ywf ys450.2.2.1 = true := by decide +kernel
theorem yk450 : yver yx450 ys450.2.2.1 4000 = true := yverQ_ok (by decide +kernel)
theorem yt450 {E : zHp → Prop} (h : yEF E yFP) : yTs E 3 ys450 := yver_s (k := 286) (n := 2) (x := yx450) (P := ys450.2.2.1) (f := 4000) h (yal_c (yt449 h) (by decide) yw449 (yal_n)) yg286 yk450
def ys451 : ySp := (282, 2, (0, [], [], [], [(0, (2, yc 1004, yc 0)), (1, (0, yc 35, yc 0))], []), [(0, [], [], [], [], [(0, yc 112, yc 0)])], [])
def yx451 : yCx := ([ys307, ys450], ys451.2.2.2.2, yFP, zm282.2.2.1, zm282.2.2.2.1, zc282, 0, ys451.2.2.2.1, [], [])
theorem yw451 : ywf ys451.2.2.1 = true := by decide +kernel
theorem yk451 : yver yx451 ys451.2.2.1 4000 = true := yverQ_ok (by decide +kernel)
theorem yt451 {E : zHp → Prop} (h : yEF E yFP) : yTs E 4 ys451 := yver_s (k := 282) (n := 3) (x := yx451) (P := ys451.2.2.1) (f := 4000) h (yal_c (yt307 h) (by decide) yw307 (yal_c (yt450 h) (by decide) yw450 (yal_n))) yg282 yk451
def ys452 : ySp := (293, 3, (0, [], [], [], [(0, (0, yc 36, yc 0)), (1, (0, yc 66, yc 0)), (2, (7, yc 0, yc 0))], []), [(0, [], [], [], [], [(0, yc 36, yc 0)])], [])
def yx452 : yCx := ([], ys452.2.2.2.2, yFP, zm293.2.2.1, zm293.2.2.2.1, zc293, 0, ys452.2.2.2.1, [], [])
theorem yw452 : ywf ys452.2.2.1 = true := by decide +kernel
theorem yk452 : yver yx452 ys452.2.2.1 4000 = true := yverQ_ok (by decide +kernel)
theorem yt452 {E : zHp → Prop} (h : yEF E yFP) : yTs E 1 ys452 := yver_s (k := 293) (n := 0) (x := yx452) (P := ys452.2.2.1) (f := 4000) h (yal_n) yg293 yk452
def ys453 : ySp := (285, 2, (0, [], [], [], [(0, (0, yc 36, yc 0)), (1, (0, yc 66, yc 0))], []), [(0, [], [], [], [], [])], [])
def yx453 : yCx := ([ys452], ys453.2.2.2.2, yFP, zm285.2.2.1, zm285.2.2.2.1, zc285, 0, ys453.2.2.2.1, [], [])
theorem yw453 : ywf ys453.2.2.1 = true := by decide +kernel
theorem yk453 : yver yx453 ys453.2.2.1 4000 = true := yverQ_ok (by decide +kernel)
theorem yt453 {E : zHp → Prop} (h : yEF E yFP) : yTs E 2 ys453 := yver_s (k := 285) (n := 1) (x := yx453) (P := ys453.2.2.1) (f := 4000) h (yal_c (yt452 h) (by decide) yw452 (yal_n)) yg285 yk453
def ys454 : ySp := (286, 2, (0, [], [], [], [(0, (2, yc 1023, yc 0)), (1, (0, yc 36, yc 0))], []), [(0, [], [], [], [], [(0, yc 32, yc 0)])], [])
def yx454 : yCx := ([ys453], ys454.2.2.2.2, yFP, zm286.2.2.1, zm286.2.2.2.1, zc286, 0, ys454.2.2.2.1, [], [])
theorem yw454 : ywf ys454.2.2.1 = true := by decide +kernel
theorem yk454 : yver yx454 ys454.2.2.1 4000 = true := yverQ_ok (by decide +kernel)
theorem yt454 {E : zHp → Prop} (h : yEF E yFP) : yTs E 3 ys454 := yver_s (k := 286) (n := 2) (x := yx454) (P := ys454.2.2.1) (f := 4000) h (yal_c (yt453 h) (by decide) yw453 (yal_n)) yg286 yk454
def ys455 : ySp := (282, 2, (0, [], [], [], [(0, (2, yc 1004, yc 0)), (1, (0, yc 36, yc 0))], []), [(0, [], [], [], [], [(0, yc 32, yc 0)])], [])
def yx455 : yCx := ([ys307, ys454], ys455.2.2.2.2, yFP, zm282.2.2.1, zm282.2.2.2.1, zc282, 0, ys455.2.2.2.1, [], [])
theorem yw455 : ywf ys455.2.2.1 = true := by decide +kernel
theorem yk455 : yver yx455 ys455.2.2.1 4000 = true := yverQ_ok (by decide +kernel)
theorem yt455 {E : zHp → Prop} (h : yEF E yFP) : yTs E 4 ys455 := yver_s (k := 282) (n := 3) (x := yx455) (P := ys455.2.2.1) (f := 4000) h (yal_c (yt307 h) (by decide) yw307 (yal_c (yt454 h) (by decide) yw454 (yal_n))) yg282 yk455
def ys456 : ySp := (293, 3, (0, [], [], [], [(0, (0, yc 37, yc 0)), (1, (0, yc 66, yc 0)), (2, (7, yc 0, yc 0))], []), [(0, [], [], [], [], [(0, yc 37, yc 0)])], [])
def yx456 : yCx := ([], ys456.2.2.2.2, yFP, zm293.2.2.1, zm293.2.2.2.1, zc293, 0, ys456.2.2.2.1, [], [])
theorem yw456 : ywf ys456.2.2.1 = true := by decide +kernel
theorem yk456 : yver yx456 ys456.2.2.1 4000 = true := yverQ_ok (by decide +kernel)
theorem yt456 {E : zHp → Prop} (h : yEF E yFP) : yTs E 1 ys456 := yver_s (k := 293) (n := 0) (x := yx456) (P := ys456.2.2.1) (f := 4000) h (yal_n) yg293 yk456
def ys457 : ySp := (285, 2, (0, [], [], [], [(0, (0, yc 37, yc 0)), (1, (0, yc 66, yc 0))], []), [(0, [], [], [], [], [])], [])
def yx457 : yCx := ([ys456], ys457.2.2.2.2, yFP, zm285.2.2.1, zm285.2.2.2.1, zc285, 0, ys457.2.2.2.1, [], [])
theorem yw457 : ywf ys457.2.2.1 = true := by decide +kernel
theorem yk457 : yver yx457 ys457.2.2.1 4000 = true := yverQ_ok (by decide +kernel)
theorem yt457 {E : zHp → Prop} (h : yEF E yFP) : yTs E 2 ys457 := yver_s (k := 285) (n := 1) (x := yx457) (P := ys457.2.2.1) (f := 4000) h (yal_c (yt456 h) (by decide) yw456 (yal_n)) yg285 yk457
def ys458 : ySp := (286, 2, (0, [], [], [], [(0, (2, yc 1023, yc 0)), (1, (0, yc 37, yc 0))], []), [(0, [], [], [], [], [(0, yc 111, yc 0)])], [])
def yx458 : yCx := ([ys457], ys458.2.2.2.2, yFP, zm286.2.2.1, zm286.2.2.2.1, zc286, 0, ys458.2.2.2.1, [], [])
theorem yw458 : ywf ys458.2.2.1 = true := by decide +kernel
theorem yk458 : yver yx458 ys458.2.2.1 4000 = true := yverQ_ok (by decide +kernel)
theorem yt458 {E : zHp → Prop} (h : yEF E yFP) : yTs E 3 ys458 := yver_s (k := 286) (n := 2) (x := yx458) (P := ys458.2.2.1) (f := 4000) h (yal_c (yt457 h) (by decide) yw457 (yal_n)) yg286 yk458
def ys459 : ySp := (282, 2, (0, [], [], [], [(0, (2, yc 1004, yc 0)), (1, (0, yc 37, yc 0))], []), [(0, [], [], [], [], [(0, yc 111, yc 0)])], [])
def yx459 : yCx := ([ys307, ys458], ys459.2.2.2.2, yFP, zm282.2.2.1, zm282.2.2.2.1, zc282, 0, ys459.2.2.2.1, [], [])
theorem yw459 : ywf ys459.2.2.1 = true := by decide +kernel
theorem yk459 : yver yx459 ys459.2.2.1 4000 = true := yverQ_ok (by decide +kernel)
theorem yt459 {E : zHp → Prop} (h : yEF E yFP) : yTs E 4 ys459 := yver_s (k := 282) (n := 3) (x := yx459) (P := ys459.2.2.1) (f := 4000) h (yal_c (yt307 h) (by decide) yw307 (yal_c (yt458 h) (by decide) yw458 (yal_n))) yg282 yk459
def ys460 : ySp := (293, 3, (0, [], [], [], [(0, (0, yc 38, yc 0)), (1, (0, yc 66, yc 0)), (2, (7, yc 0, yc 0))], []), [(0, [], [], [], [], [(0, yc 38, yc 0)])], [])
def yx460 : yCx := ([], ys460.2.2.2.2, yFP, zm293.2.2.1, zm293.2.2.2.1, zc293, 0, ys460.2.2.2.1, [], [])
theorem yw460 : ywf ys460.2.2.1 = true := by decide +kernel
theorem yk460 : yver yx460 ys460.2.2.1 4000 = true := yverQ_ok (by decide +kernel)
theorem yt460 {E : zHp → Prop} (h : yEF E yFP) : yTs E 1 ys460 := yver_s (k := 293) (n := 0) (x := yx460) (P := ys460.2.2.1) (f := 4000) h (yal_n) yg293 yk460
def ys461 : ySp := (285, 2, (0, [], [], [], [(0, (0, yc 38, yc 0)), (1, (0, yc 66, yc 0))], []), [(0, [], [], [], [], [])], [])
def yx461 : yCx := ([ys460], ys461.2.2.2.2, yFP, zm285.2.2.1, zm285.2.2.2.1, zc285, 0, ys461.2.2.2.1, [], [])
theorem yw461 : ywf ys461.2.2.1 = true := by decide +kernel
theorem yk461 : yver yx461 ys461.2.2.1 4000 = true := yverQ_ok (by decide +kernel)
theorem yt461 {E : zHp → Prop} (h : yEF E yFP) : yTs E 2 ys461 := yver_s (k := 285) (n := 1) (x := yx461) (P := ys461.2.2.1) (f := 4000) h (yal_c (yt460 h) (by decide) yw460 (yal_n)) yg285 yk461
def ys462 : ySp := (286, 2, (0, [], [], [], [(0, (2, yc 1023, yc 0)), (1, (0, yc 38, yc 0))], []), [(0, [], [], [], [], [(0, yc 117, yc 0)])], [])
def yx462 : yCx := ([ys461], ys462.2.2.2.2, yFP, zm286.2.2.1, zm286.2.2.2.1, zc286, 0, ys462.2.2.2.1, [], [])
theorem yw462 : ywf ys462.2.2.1 = true := by decide +kernel
theorem yk462 : yver yx462 ys462.2.2.1 4000 = true := yverQ_ok (by decide +kernel)
theorem yt462 {E : zHp → Prop} (h : yEF E yFP) : yTs E 3 ys462 := yver_s (k := 286) (n := 2) (x := yx462) (P := ys462.2.2.1) (f := 4000) h (yal_c (yt461 h) (by decide) yw461 (yal_n)) yg286 yk462
def ys463 : ySp := (282, 2, (0, [], [], [], [(0, (2, yc 1004, yc 0)), (1, (0, yc 38, yc 0))], []), [(0, [], [], [], [], [(0, yc 117, yc 0)])], [])
def yx463 : yCx := ([ys307, ys462], ys463.2.2.2.2, yFP, zm282.2.2.1, zm282.2.2.2.1, zc282, 0, ys463.2.2.2.1, [], [])
theorem yw463 : ywf ys463.2.2.1 = true := by decide +kernel
theorem yk463 : yver yx463 ys463.2.2.1 4000 = true := yverQ_ok (by decide +kernel)
theorem yt463 {E : zHp → Prop} (h : yEF E yFP) : yTs E 4 ys463 := yver_s (k := 282) (n := 3) (x := yx463) (P := ys463.2.2.1) (f := 4000) h (yal_c (yt307 h) (by decide) yw307 (yal_c (yt462 h) (by decide) yw462 (yal_n))) yg282 yk463
def ys464 : ySp := (293, 3, (0, [], [], [], [(0, (0, yc 39, yc 0)), (1, (0, yc 66, yc 0)), (2, (7, yc 0, yc 0))], []), [(0, [], [], [], [], [(0, yc 39, yc 0)])], [])
def yx464 : yCx := ([], ys464.2.2.2.2, yFP, zm293.2.2.1, zm293.2.2.2.1, zc293, 0, ys464.2.2.2.1, [], [])
theorem yw464 : ywf ys464.2.2.1 = true := by decide +kernel
theorem yk464 : yver yx464 ys464.2.2.1 4000 = true := yverQ_ok (by decide +kernel)
theorem yt464 {E : zHp → Prop} (h : yEF E yFP) : yTs E 1 ys464 := yver_s (k := 293) (n := 0) (x := yx464) (P := ys464.2.2.1) (f := 4000) h (yal_n) yg293 yk464
def ys465 : ySp := (285, 2, (0, [], [], [], [(0, (0, yc 39, yc 0)), (1, (0, yc 66, yc 0))], []), [(0, [], [], [], [], [])], [])
def yx465 : yCx := ([ys464], ys465.2.2.2.2, yFP, zm285.2.2.1, zm285.2.2.2.1, zc285, 0, ys465.2.2.2.1, [], [])
theorem yw465 : ywf ys465.2.2.1 = true := by decide +kernel
theorem yk465 : yver yx465 ys465.2.2.1 4000 = true := yverQ_ok (by decide +kernel)
theorem yt465 {E : zHp → Prop} (h : yEF E yFP) : yTs E 2 ys465 := yver_s (k := 285) (n := 1) (x := yx465) (P := ys465.2.2.1) (f := 4000) h (yal_c (yt464 h) (by decide) yw464 (yal_n)) yg285 yk465
def ys466 : ySp := (286, 2, (0, [], [], [], [(0, (2, yc 1023, yc 0)), (1, (0, yc 39, yc 0))], []), [(0, [], [], [], [], [(0, yc 116, yc 0)])], [])
def yx466 : yCx := ([ys465], ys466.2.2.2.2, yFP, zm286.2.2.1, zm286.2.2.2.1, zc286, 0, ys466.2.2.2.1, [], [])
theorem yw466 : ywf ys466.2.2.1 = true := by decide +kernel
theorem yk466 : yver yx466 ys466.2.2.1 4000 = true := yverQ_ok (by decide +kernel)
theorem yt466 {E : zHp → Prop} (h : yEF E yFP) : yTs E 3 ys466 := yver_s (k := 286) (n := 2) (x := yx466) (P := ys466.2.2.1) (f := 4000) h (yal_c (yt465 h) (by decide) yw465 (yal_n)) yg286 yk466
def ys467 : ySp := (282, 2, (0, [], [], [], [(0, (2, yc 1004, yc 0)), (1, (0, yc 39, yc 0))], []), [(0, [], [], [], [], [(0, yc 116, yc 0)])], [])
def yx467 : yCx := ([ys307, ys466], ys467.2.2.2.2, yFP, zm282.2.2.1, zm282.2.2.2.1, zc282, 0, ys467.2.2.2.1, [], [])
theorem yw467 : ywf ys467.2.2.1 = true := by decide +kernel
theorem yk467 : yver yx467 ys467.2.2.1 4000 = true := yverQ_ok (by decide +kernel)
theorem yt467 {E : zHp → Prop} (h : yEF E yFP) : yTs E 4 ys467 := yver_s (k := 282) (n := 3) (x := yx467) (P := ys467.2.2.1) (f := 4000) h (yal_c (yt307 h) (by decide) yw307 (yal_c (yt466 h) (by decide) yw466 (yal_n))) yg282 yk467
def ys468 : ySp := (293, 3, (0, [], [], [], [(0, (0, yc 40, yc 0)), (1, (0, yc 66, yc 0)), (2, (7, yc 0, yc 0))], []), [(0, [], [], [], [], [(0, yc 40, yc 0)])], [])
def yx468 : yCx := ([], ys468.2.2.2.2, yFP, zm293.2.2.1, zm293.2.2.2.1, zc293, 0, ys468.2.2.2.1, [], [])
theorem yw468 : ywf ys468.2.2.1 = true := by decide +kernel
theorem yk468 : yver yx468 ys468.2.2.1 4000 = true := yverQ_ok (by decide +kernel)
theorem yt468 {E : zHp → Prop} (h : yEF E yFP) : yTs E 1 ys468 := yver_s (k := 293) (n := 0) (x := yx468) (P := ys468.2.2.1) (f := 4000) h (yal_n) yg293 yk468
def ys469 : ySp := (285, 2, (0, [], [], [], [(0, (0, yc 40, yc 0)), (1, (0, yc 66, yc 0))], []), [(0, [], [], [], [], [])], [])
def yx469 : yCx := ([ys468], ys469.2.2.2.2, yFP, zm285.2.2.1, zm285.2.2.2.1, zc285, 0, ys469.2.2.2.1, [], [])
theorem yw469 : ywf ys469.2.2.1 = true := by decide +kernel
theorem yk469 : yver yx469 ys469.2.2.1 4000 = true := yverQ_ok (by decide +kernel)
theorem yt469 {E : zHp → Prop} (h : yEF E yFP) : yTs E 2 ys469 := yver_s (k := 285) (n := 1) (x := yx469) (P := ys469.2.2.1) (f := 4000) h (yal_c (yt468 h) (by decide) yw468 (yal_n)) yg285 yk469
def ys470 : ySp := (286, 2, (0, [], [], [], [(0, (2, yc 1023, yc 0)), (1, (0, yc 40, yc 0))], []), [(0, [], [], [], [], [(0, yc 32, yc 0)])], [])
def yx470 : yCx := ([ys469], ys470.2.2.2.2, yFP, zm286.2.2.1, zm286.2.2.2.1, zc286, 0, ys470.2.2.2.1, [], [])
theorem yw470 : ywf ys470.2.2.1 = true := by decide +kernel
theorem yk470 : yver yx470 ys470.2.2.1 4000 = true := yverQ_ok (by decide +kernel)
theorem yt470 {E : zHp → Prop} (h : yEF E yFP) : yTs E 3 ys470 := yver_s (k := 286) (n := 2) (x := yx470) (P := ys470.2.2.1) (f := 4000) h (yal_c (yt469 h) (by decide) yw469 (yal_n)) yg286 yk470
def ys471 : ySp := (282, 2, (0, [], [], [], [(0, (2, yc 1004, yc 0)), (1, (0, yc 40, yc 0))], []), [(0, [], [], [], [], [(0, yc 32, yc 0)])], [])
def yx471 : yCx := ([ys307, ys470], ys471.2.2.2.2, yFP, zm282.2.2.1, zm282.2.2.2.1, zc282, 0, ys471.2.2.2.1, [], [])
theorem yw471 : ywf ys471.2.2.1 = true := by decide +kernel
theorem yk471 : yver yx471 ys471.2.2.1 4000 = true := yverQ_ok (by decide +kernel)
theorem yt471 {E : zHp → Prop} (h : yEF E yFP) : yTs E 4 ys471 := yver_s (k := 282) (n := 3) (x := yx471) (P := ys471.2.2.1) (f := 4000) h (yal_c (yt307 h) (by decide) yw307 (yal_c (yt470 h) (by decide) yw470 (yal_n))) yg282 yk471
def ys472 : ySp := (293, 3, (0, [], [], [], [(0, (0, yc 41, yc 0)), (1, (0, yc 66, yc 0)), (2, (7, yc 0, yc 0))], []), [(0, [], [], [], [], [(0, yc 41, yc 0)])], [])
def yx472 : yCx := ([], ys472.2.2.2.2, yFP, zm293.2.2.1, zm293.2.2.2.1, zc293, 0, ys472.2.2.2.1, [], [])
theorem yw472 : ywf ys472.2.2.1 = true := by decide +kernel
theorem yk472 : yver yx472 ys472.2.2.1 4000 = true := yverQ_ok (by decide +kernel)
theorem yt472 {E : zHp → Prop} (h : yEF E yFP) : yTs E 1 ys472 := yver_s (k := 293) (n := 0) (x := yx472) (P := ys472.2.2.1) (f := 4000) h (yal_n) yg293 yk472
def ys473 : ySp := (285, 2, (0, [], [], [], [(0, (0, yc 41, yc 0)), (1, (0, yc 66, yc 0))], []), [(0, [], [], [], [], [])], [])
def yx473 : yCx := ([ys472], ys473.2.2.2.2, yFP, zm285.2.2.1, zm285.2.2.2.1, zc285, 0, ys473.2.2.2.1, [], [])
theorem yw473 : ywf ys473.2.2.1 = true := by decide +kernel
theorem yk473 : yver yx473 ys473.2.2.1 4000 = true := yverQ_ok (by decide +kernel)
theorem yt473 {E : zHp → Prop} (h : yEF E yFP) : yTs E 2 ys473 := yver_s (k := 285) (n := 1) (x := yx473) (P := ys473.2.2.1) (f := 4000) h (yal_c (yt472 h) (by decide) yw472 (yal_n)) yg285 yk473
def ys474 : ySp := (286, 2, (0, [], [], [], [(0, (2, yc 1023, yc 0)), (1, (0, yc 41, yc 0))], []), [(0, [], [], [], [], [(0, yc 100, yc 0)])], [])
def yx474 : yCx := ([ys473], ys474.2.2.2.2, yFP, zm286.2.2.1, zm286.2.2.2.1, zc286, 0, ys474.2.2.2.1, [], [])
theorem yw474 : ywf ys474.2.2.1 = true := by decide +kernel
theorem yk474 : yver yx474 ys474.2.2.1 4000 = true := yverQ_ok (by decide +kernel)
theorem yt474 {E : zHp → Prop} (h : yEF E yFP) : yTs E 3 ys474 := yver_s (k := 286) (n := 2) (x := yx474) (P := ys474.2.2.1) (f := 4000) h (yal_c (yt473 h) (by decide) yw473 (yal_n)) yg286 yk474
def ys475 : ySp := (282, 2, (0, [], [], [], [(0, (2, yc 1004, yc 0)), (1, (0, yc 41, yc 0))], []), [(0, [], [], [], [], [(0, yc 100, yc 0)])], [])
def yx475 : yCx := ([ys307, ys474], ys475.2.2.2.2, yFP, zm282.2.2.1, zm282.2.2.2.1, zc282, 0, ys475.2.2.2.1, [], [])
theorem yw475 : ywf ys475.2.2.1 = true := by decide +kernel
theorem yk475 : yver yx475 ys475.2.2.1 4000 = true := yverQ_ok (by decide +kernel)
theorem yt475 {E : zHp → Prop} (h : yEF E yFP) : yTs E 4 ys475 := yver_s (k := 282) (n := 3) (x := yx475) (P := ys475.2.2.1) (f := 4000) h (yal_c (yt307 h) (by decide) yw307 (yal_c (yt474 h) (by decide) yw474 (yal_n))) yg282 yk475
def ys476 : ySp := (293, 3, (0, [], [], [], [(0, (0, yc 42, yc 0)), (1, (0, yc 66, yc 0)), (2, (7, yc 0, yc 0))], []), [(0, [], [], [], [], [(0, yc 42, yc 0)])], [])
def yx476 : yCx := ([], ys476.2.2.2.2, yFP, zm293.2.2.1, zm293.2.2.2.1, zc293, 0, ys476.2.2.2.1, [], [])
theorem yw476 : ywf ys476.2.2.1 = true := by decide +kernel
theorem yk476 : yver yx476 ys476.2.2.1 4000 = true := yverQ_ok (by decide +kernel)
theorem yt476 {E : zHp → Prop} (h : yEF E yFP) : yTs E 1 ys476 := yver_s (k := 293) (n := 0) (x := yx476) (P := ys476.2.2.1) (f := 4000) h (yal_n) yg293 yk476
def ys477 : ySp := (285, 2, (0, [], [], [], [(0, (0, yc 42, yc 0)), (1, (0, yc 66, yc 0))], []), [(0, [], [], [], [], [])], [])
def yx477 : yCx := ([ys476], ys477.2.2.2.2, yFP, zm285.2.2.1, zm285.2.2.2.1, zc285, 0, ys477.2.2.2.1, [], [])
theorem yw477 : ywf ys477.2.2.1 = true := by decide +kernel
theorem yk477 : yver yx477 ys477.2.2.1 4000 = true := yverQ_ok (by decide +kernel)
theorem yt477 {E : zHp → Prop} (h : yEF E yFP) : yTs E 2 ys477 := yver_s (k := 285) (n := 1) (x := yx477) (P := ys477.2.2.1) (f := 4000) h (yal_c (yt476 h) (by decide) yw476 (yal_n)) yg285 yk477
def ys478 : ySp := (286, 2, (0, [], [], [], [(0, (2, yc 1023, yc 0)), (1, (0, yc 42, yc 0))], []), [(0, [], [], [], [], [(0, yc 97, yc 0)])], [])
def yx478 : yCx := ([ys477], ys478.2.2.2.2, yFP, zm286.2.2.1, zm286.2.2.2.1, zc286, 0, ys478.2.2.2.1, [], [])
theorem yw478 : ywf ys478.2.2.1 = true := by decide +kernel
theorem yk478 : yver yx478 ys478.2.2.1 4000 = true := yverQ_ok (by decide +kernel)
theorem yt478 {E : zHp → Prop} (h : yEF E yFP) : yTs E 3 ys478 := yver_s (k := 286) (n := 2) (x := yx478) (P := ys478.2.2.1) (f := 4000) h (yal_c (yt477 h) (by decide) yw477 (yal_n)) yg286 yk478
def ys479 : ySp := (282, 2, (0, [], [], [], [(0, (2, yc 1004, yc 0)), (1, (0, yc 42, yc 0))], []), [(0, [], [], [], [], [(0, yc 97, yc 0)])], [])
def yx479 : yCx := ([ys307, ys478], ys479.2.2.2.2, yFP, zm282.2.2.1, zm282.2.2.2.1, zc282, 0, ys479.2.2.2.1, [], [])
theorem yw479 : ywf ys479.2.2.1 = true := by decide +kernel
theorem yk479 : yver yx479 ys479.2.2.1 4000 = true := yverQ_ok (by decide +kernel)
theorem yt479 {E : zHp → Prop} (h : yEF E yFP) : yTs E 4 ys479 := yver_s (k := 282) (n := 3) (x := yx479) (P := ys479.2.2.1) (f := 4000) h (yal_c (yt307 h) (by decide) yw307 (yal_c (yt478 h) (by decide) yw478 (yal_n))) yg282 yk479
def ys480 : ySp := (293, 3, (0, [], [], [], [(0, (0, yc 43, yc 0)), (1, (0, yc 66, yc 0)), (2, (7, yc 0, yc 0))], []), [(0, [], [], [], [], [(0, yc 43, yc 0)])], [])
def yx480 : yCx := ([], ys480.2.2.2.2, yFP, zm293.2.2.1, zm293.2.2.2.1, zc293, 0, ys480.2.2.2.1, [], [])
theorem yw480 : ywf ys480.2.2.1 = true := by decide +kernel
theorem yk480 : yver yx480 ys480.2.2.1 4000 = true := yverQ_ok (by decide +kernel)
theorem yt480 {E : zHp → Prop} (h : yEF E yFP) : yTs E 1 ys480 := yver_s (k := 293) (n := 0) (x := yx480) (P := ys480.2.2.1) (f := 4000) h (yal_n) yg293 yk480
def ys481 : ySp := (285, 2, (0, [], [], [], [(0, (0, yc 43, yc 0)), (1, (0, yc 66, yc 0))], []), [(0, [], [], [], [], [])], [])
def yx481 : yCx := ([ys480], ys481.2.2.2.2, yFP, zm285.2.2.1, zm285.2.2.2.1, zc285, 0, ys481.2.2.2.1, [], [])
theorem yw481 : ywf ys481.2.2.1 = true := by decide +kernel
theorem yk481 : yver yx481 ys481.2.2.1 4000 = true := yverQ_ok (by decide +kernel)
theorem yt481 {E : zHp → Prop} (h : yEF E yFP) : yTs E 2 ys481 := yver_s (k := 285) (n := 1) (x := yx481) (P := ys481.2.2.1) (f := 4000) h (yal_c (yt480 h) (by decide) yw480 (yal_n)) yg285 yk481
def ys482 : ySp := (286, 2, (0, [], [], [], [(0, (2, yc 1023, yc 0)), (1, (0, yc 43, yc 0))], []), [(0, [], [], [], [], [(0, yc 121, yc 0)])], [])
def yx482 : yCx := ([ys481], ys482.2.2.2.2, yFP, zm286.2.2.1, zm286.2.2.2.1, zc286, 0, ys482.2.2.2.1, [], [])
theorem yw482 : ywf ys482.2.2.1 = true := by decide +kernel
theorem yk482 : yver yx482 ys482.2.2.1 4000 = true := yverQ_ok (by decide +kernel)
theorem yt482 {E : zHp → Prop} (h : yEF E yFP) : yTs E 3 ys482 := yver_s (k := 286) (n := 2) (x := yx482) (P := ys482.2.2.1) (f := 4000) h (yal_c (yt481 h) (by decide) yw481 (yal_n)) yg286 yk482
def ys483 : ySp := (282, 2, (0, [], [], [], [(0, (2, yc 1004, yc 0)), (1, (0, yc 43, yc 0))], []), [(0, [], [], [], [], [(0, yc 121, yc 0)])], [])
def yx483 : yCx := ([ys307, ys482], ys483.2.2.2.2, yFP, zm282.2.2.1, zm282.2.2.2.1, zc282, 0, ys483.2.2.2.1, [], [])
theorem yw483 : ywf ys483.2.2.1 = true := by decide +kernel
theorem yk483 : yver yx483 ys483.2.2.1 4000 = true := yverQ_ok (by decide +kernel)
theorem yt483 {E : zHp → Prop} (h : yEF E yFP) : yTs E 4 ys483 := yver_s (k := 282) (n := 3) (x := yx483) (P := ys483.2.2.1) (f := 4000) h (yal_c (yt307 h) (by decide) yw307 (yal_c (yt482 h) (by decide) yw482 (yal_n))) yg282 yk483
def ys484 : ySp := (293, 3, (0, [], [], [], [(0, (0, yc 44, yc 0)), (1, (0, yc 66, yc 0)), (2, (7, yc 0, yc 0))], []), [(0, [], [], [], [], [(0, yc 44, yc 0)])], [])
def yx484 : yCx := ([], ys484.2.2.2.2, yFP, zm293.2.2.1, zm293.2.2.2.1, zc293, 0, ys484.2.2.2.1, [], [])
theorem yw484 : ywf ys484.2.2.1 = true := by decide +kernel
theorem yk484 : yver yx484 ys484.2.2.1 4000 = true := yverQ_ok (by decide +kernel)
theorem yt484 {E : zHp → Prop} (h : yEF E yFP) : yTs E 1 ys484 := yver_s (k := 293) (n := 0) (x := yx484) (P := ys484.2.2.1) (f := 4000) h (yal_n) yg293 yk484
def ys485 : ySp := (285, 2, (0, [], [], [], [(0, (0, yc 44, yc 0)), (1, (0, yc 66, yc 0))], []), [(0, [], [], [], [], [])], [])
def yx485 : yCx := ([ys484], ys485.2.2.2.2, yFP, zm285.2.2.1, zm285.2.2.2.1, zc285, 0, ys485.2.2.2.1, [], [])
theorem yw485 : ywf ys485.2.2.1 = true := by decide +kernel
theorem yk485 : yver yx485 ys485.2.2.1 4000 = true := yverQ_ok (by decide +kernel)
theorem yt485 {E : zHp → Prop} (h : yEF E yFP) : yTs E 2 ys485 := yver_s (k := 285) (n := 1) (x := yx485) (P := ys485.2.2.1) (f := 4000) h (yal_c (yt484 h) (by decide) yw484 (yal_n)) yg285 yk485
def ys486 : ySp := (286, 2, (0, [], [], [], [(0, (2, yc 1023, yc 0)), (1, (0, yc 44, yc 0))], []), [(0, [], [], [], [], [(0, yc 32, yc 0)])], [])
def yx486 : yCx := ([ys485], ys486.2.2.2.2, yFP, zm286.2.2.1, zm286.2.2.2.1, zc286, 0, ys486.2.2.2.1, [], [])
theorem yw486 : ywf ys486.2.2.1 = true := by decide +kernel
theorem yk486 : yver yx486 ys486.2.2.1 4000 = true := yverQ_ok (by decide +kernel)
theorem yt486 {E : zHp → Prop} (h : yEF E yFP) : yTs E 3 ys486 := yver_s (k := 286) (n := 2) (x := yx486) (P := ys486.2.2.1) (f := 4000) h (yal_c (yt485 h) (by decide) yw485 (yal_n)) yg286 yk486
def ys487 : ySp := (282, 2, (0, [], [], [], [(0, (2, yc 1004, yc 0)), (1, (0, yc 44, yc 0))], []), [(0, [], [], [], [], [(0, yc 32, yc 0)])], [])
def yx487 : yCx := ([ys307, ys486], ys487.2.2.2.2, yFP, zm282.2.2.1, zm282.2.2.2.1, zc282, 0, ys487.2.2.2.1, [], [])
theorem yw487 : ywf ys487.2.2.1 = true := by decide +kernel
theorem yk487 : yver yx487 ys487.2.2.1 4000 = true := yverQ_ok (by decide +kernel)
theorem yt487 {E : zHp → Prop} (h : yEF E yFP) : yTs E 4 ys487 := yver_s (k := 282) (n := 3) (x := yx487) (P := ys487.2.2.1) (f := 4000) h (yal_c (yt307 h) (by decide) yw307 (yal_c (yt486 h) (by decide) yw486 (yal_n))) yg282 yk487
def ys488 : ySp := (293, 3, (0, [], [], [], [(0, (0, yc 45, yc 0)), (1, (0, yc 66, yc 0)), (2, (7, yc 0, yc 0))], []), [(0, [], [], [], [], [(0, yc 45, yc 0)])], [])
def yx488 : yCx := ([], ys488.2.2.2.2, yFP, zm293.2.2.1, zm293.2.2.2.1, zc293, 0, ys488.2.2.2.1, [], [])
theorem yw488 : ywf ys488.2.2.1 = true := by decide +kernel
theorem yk488 : yver yx488 ys488.2.2.1 4000 = true := yverQ_ok (by decide +kernel)
theorem yt488 {E : zHp → Prop} (h : yEF E yFP) : yTs E 1 ys488 := yver_s (k := 293) (n := 0) (x := yx488) (P := ys488.2.2.1) (f := 4000) h (yal_n) yg293 yk488
def ys489 : ySp := (285, 2, (0, [], [], [], [(0, (0, yc 45, yc 0)), (1, (0, yc 66, yc 0))], []), [(0, [], [], [], [], [])], [])
def yx489 : yCx := ([ys488], ys489.2.2.2.2, yFP, zm285.2.2.1, zm285.2.2.2.1, zc285, 0, ys489.2.2.2.1, [], [])
theorem yw489 : ywf ys489.2.2.1 = true := by decide +kernel
theorem yk489 : yver yx489 ys489.2.2.1 4000 = true := yverQ_ok (by decide +kernel)
theorem yt489 {E : zHp → Prop} (h : yEF E yFP) : yTs E 2 ys489 := yver_s (k := 285) (n := 1) (x := yx489) (P := ys489.2.2.1) (f := 4000) h (yal_c (yt488 h) (by decide) yw488 (yal_n)) yg285 yk489
def ys490 : ySp := (286, 2, (0, [], [], [], [(0, (2, yc 1023, yc 0)), (1, (0, yc 45, yc 0))], []), [(0, [], [], [], [], [(0, yc 110, yc 0)])], [])
def yx490 : yCx := ([ys489], ys490.2.2.2.2, yFP, zm286.2.2.1, zm286.2.2.2.1, zc286, 0, ys490.2.2.2.1, [], [])
theorem yw490 : ywf ys490.2.2.1 = true := by decide +kernel
theorem yk490 : yver yx490 ys490.2.2.1 4000 = true := yverQ_ok (by decide +kernel)
theorem yt490 {E : zHp → Prop} (h : yEF E yFP) : yTs E 3 ys490 := yver_s (k := 286) (n := 2) (x := yx490) (P := ys490.2.2.1) (f := 4000) h (yal_c (yt489 h) (by decide) yw489 (yal_n)) yg286 yk490
def ys491 : ySp := (282, 2, (0, [], [], [], [(0, (2, yc 1004, yc 0)), (1, (0, yc 45, yc 0))], []), [(0, [], [], [], [], [(0, yc 110, yc 0)])], [])
def yx491 : yCx := ([ys307, ys490], ys491.2.2.2.2, yFP, zm282.2.2.1, zm282.2.2.2.1, zc282, 0, ys491.2.2.2.1, [], [])
theorem yw491 : ywf ys491.2.2.1 = true := by decide +kernel
theorem yk491 : yver yx491 ys491.2.2.1 4000 = true := yverQ_ok (by decide +kernel)
theorem yt491 {E : zHp → Prop} (h : yEF E yFP) : yTs E 4 ys491 := yver_s (k := 282) (n := 3) (x := yx491) (P := ys491.2.2.1) (f := 4000) h (yal_c (yt307 h) (by decide) yw307 (yal_c (yt490 h) (by decide) yw490 (yal_n))) yg282 yk491
def ys492 : ySp := (293, 3, (0, [], [], [], [(0, (0, yc 46, yc 0)), (1, (0, yc 66, yc 0)), (2, (7, yc 0, yc 0))], []), [(0, [], [], [], [], [(0, yc 46, yc 0)])], [])
def yx492 : yCx := ([], ys492.2.2.2.2, yFP, zm293.2.2.1, zm293.2.2.2.1, zc293, 0, ys492.2.2.2.1, [], [])
theorem yw492 : ywf ys492.2.2.1 = true := by decide +kernel
theorem yk492 : yver yx492 ys492.2.2.1 4000 = true := yverQ_ok (by decide +kernel)
theorem yt492 {E : zHp → Prop} (h : yEF E yFP) : yTs E 1 ys492 := yver_s (k := 293) (n := 0) (x := yx492) (P := ys492.2.2.1) (f := 4000) h (yal_n) yg293 yk492
def ys493 : ySp := (285, 2, (0, [], [], [], [(0, (0, yc 46, yc 0)), (1, (0, yc 66, yc 0))], []), [(0, [], [], [], [], [])], [])
def yx493 : yCx := ([ys492], ys493.2.2.2.2, yFP, zm285.2.2.1, zm285.2.2.2.1, zc285, 0, ys493.2.2.2.1, [], [])
theorem yw493 : ywf ys493.2.2.1 = true := by decide +kernel
theorem yk493 : yver yx493 ys493.2.2.1 4000 = true := yverQ_ok (by decide +kernel)
theorem yt493 {E : zHp → Prop} (h : yEF E yFP) : yTs E 2 ys493 := yver_s (k := 285) (n := 1) (x := yx493) (P := ys493.2.2.1) (f := 4000) h (yal_c (yt492 h) (by decide) yw492 (yal_n)) yg285 yk493
def ys494 : ySp := (286, 2, (0, [], [], [], [(0, (2, yc 1023, yc 0)), (1, (0, yc 46, yc 0))], []), [(0, [], [], [], [], [(0, yc 101, yc 0)])], [])
def yx494 : yCx := ([ys493], ys494.2.2.2.2, yFP, zm286.2.2.1, zm286.2.2.2.1, zc286, 0, ys494.2.2.2.1, [], [])
theorem yw494 : ywf ys494.2.2.1 = true := by decide +kernel
theorem yk494 : yver yx494 ys494.2.2.1 4000 = true := yverQ_ok (by decide +kernel)
theorem yt494 {E : zHp → Prop} (h : yEF E yFP) : yTs E 3 ys494 := yver_s (k := 286) (n := 2) (x := yx494) (P := ys494.2.2.1) (f := 4000) h (yal_c (yt493 h) (by decide) yw493 (yal_n)) yg286 yk494
end
section
def ys495 : ySp := (282, 2, (0, [], [], [], [(0, (2, yc 1004, yc 0)), (1, (0, yc 46, yc 0))], []), [(0, [], [], [], [], [(0, yc 101, yc 0)])], [])
def yx495 : yCx := ([ys307, ys494], ys495.2.2.2.2, yFP, zm282.2.2.1, zm282.2.2.2.1, zc282, 0, ys495.2.2.2.1, [], [])
theorem yw495 : ywf ys495.2.2.1 = true := by decide +kernel
theorem yk495 : yver yx495 ys495.2.2.1 4000 = true := yverQ_ok (by decide +kernel)
theorem yt495 {E : zHp → Prop} (h : yEF E yFP) : yTs E 4 ys495 := yver_s (k := 282) (n := 3) (x := yx495) (P := ys495.2.2.1) (f := 4000) h (yal_c (yt307 h) (by decide) yw307 (yal_c (yt494 h) (by decide) yw494 (yal_n))) yg282 yk495
def ys496 : ySp := (293, 3, (0, [], [], [], [(0, (0, yc 47, yc 0)), (1, (0, yc 66, yc 0)), (2, (7, yc 0, yc 0))], []), [(0, [], [], [], [], [(0, yc 47, yc 0)])], [])
def yx496 : yCx := ([], ys496.2.2.2.2, yFP, zm293.2.2.1, zm293.2.2.2.1, zc293, 0, ys496.2.2.2.1, [], [])
theorem yw496 : ywf ys496.2.2.1 = true := by decide +kernel
theorem yk496 : yver yx496 ys496.2.2.1 4000 = true := yverQ_ok (by decide +kernel)
theorem yt496 {E : zHp → Prop} (h : yEF E yFP) : yTs E 1 ys496 := yver_s (k := 293) (n := 0) (x := yx496) (P := ys496.2.2.1) (f := 4000) h (yal_n) yg293 yk496
def ys497 : ySp := (285, 2, (0, [], [], [], [(0, (0, yc 47, yc 0)), (1, (0, yc 66, yc 0))], []), [(0, [], [], [], [], [])], [])
def yx497 : yCx := ([ys496], ys497.2.2.2.2, yFP, zm285.2.2.1, zm285.2.2.2.1, zc285, 0, ys497.2.2.2.1, [], [])
theorem yw497 : ywf ys497.2.2.1 = true := by decide +kernel
theorem yk497 : yver yx497 ys497.2.2.1 4000 = true := yverQ_ok (by decide +kernel)
theorem yt497 {E : zHp → Prop} (h : yEF E yFP) : yTs E 2 ys497 := yver_s (k := 285) (n := 1) (x := yx497) (P := ys497.2.2.1) (f := 4000) h (yal_c (yt496 h) (by decide) yw496 (yal_n)) yg285 yk497
def ys498 : ySp := (286, 2, (0, [], [], [], [(0, (2, yc 1023, yc 0)), (1, (0, yc 47, yc 0))], []), [(0, [], [], [], [], [(0, yc 101, yc 0)])], [])
def yx498 : yCx := ([ys497], ys498.2.2.2.2, yFP, zm286.2.2.1, zm286.2.2.2.1, zc286, 0, ys498.2.2.2.1, [], [])
theorem yw498 : ywf ys498.2.2.1 = true := by decide +kernel
theorem yk498 : yver yx498 ys498.2.2.1 4000 = true := yverQ_ok (by decide +kernel)
theorem yt498 {E : zHp → Prop} (h : yEF E yFP) : yTs E 3 ys498 := yver_s (k := 286) (n := 2) (x := yx498) (P := ys498.2.2.1) (f := 4000) h (yal_c (yt497 h) (by decide) yw497 (yal_n)) yg286 yk498
def ys499 : ySp := (282, 2, (0, [], [], [], [(0, (2, yc 1004, yc 0)), (1, (0, yc 47, yc 0))], []), [(0, [], [], [], [], [(0, yc 101, yc 0)])], [])
def yx499 : yCx := ([ys307, ys498], ys499.2.2.2.2, yFP, zm282.2.2.1, zm282.2.2.2.1, zc282, 0, ys499.2.2.2.1, [], [])
theorem yw499 : ywf ys499.2.2.1 = true := by decide +kernel
theorem yk499 : yver yx499 ys499.2.2.1 4000 = true := yverQ_ok (by decide +kernel)
theorem yt499 {E : zHp → Prop} (h : yEF E yFP) : yTs E 4 ys499 := yver_s (k := 282) (n := 3) (x := yx499) (P := ys499.2.2.1) (f := 4000) h (yal_c (yt307 h) (by decide) yw307 (yal_c (yt498 h) (by decide) yw498 (yal_n))) yg282 yk499
def ys500 : ySp := (293, 3, (0, [], [], [], [(0, (0, yc 48, yc 0)), (1, (0, yc 66, yc 0)), (2, (7, yc 0, yc 0))], []), [(0, [], [], [], [], [(0, yc 48, yc 0)])], [])
def yx500 : yCx := ([], ys500.2.2.2.2, yFP, zm293.2.2.1, zm293.2.2.2.1, zc293, 0, ys500.2.2.2.1, [], [])
theorem yw500 : ywf ys500.2.2.1 = true := by decide +kernel
theorem yk500 : yver yx500 ys500.2.2.1 4000 = true := yverQ_ok (by decide +kernel)
theorem yt500 {E : zHp → Prop} (h : yEF E yFP) : yTs E 1 ys500 := yver_s (k := 293) (n := 0) (x := yx500) (P := ys500.2.2.1) (f := 4000) h (yal_n) yg293 yk500
def ys501 : ySp := (285, 2, (0, [], [], [], [(0, (0, yc 48, yc 0)), (1, (0, yc 66, yc 0))], []), [(0, [], [], [], [], [])], [])
def yx501 : yCx := ([ys500], ys501.2.2.2.2, yFP, zm285.2.2.1, zm285.2.2.2.1, zc285, 0, ys501.2.2.2.1, [], [])
theorem yw501 : ywf ys501.2.2.1 = true := by decide +kernel
theorem yk501 : yver yx501 ys501.2.2.1 4000 = true := yverQ_ok (by decide +kernel)
theorem yt501 {E : zHp → Prop} (h : yEF E yFP) : yTs E 2 ys501 := yver_s (k := 285) (n := 1) (x := yx501) (P := ys501.2.2.1) (f := 4000) h (yal_c (yt500 h) (by decide) yw500 (yal_n)) yg285 yk501
def ys502 : ySp := (286, 2, (0, [], [], [], [(0, (2, yc 1023, yc 0)), (1, (0, yc 48, yc 0))], []), [(0, [], [], [], [], [(0, yc 100, yc 0)])], [])
def yx502 : yCx := ([ys501], ys502.2.2.2.2, yFP, zm286.2.2.1, zm286.2.2.2.1, zc286, 0, ys502.2.2.2.1, [], [])
theorem yw502 : ywf ys502.2.2.1 = true := by decide +kernel
theorem yk502 : yver yx502 ys502.2.2.1 4000 = true := yverQ_ok (by decide +kernel)
theorem yt502 {E : zHp → Prop} (h : yEF E yFP) : yTs E 3 ys502 := yver_s (k := 286) (n := 2) (x := yx502) (P := ys502.2.2.1) (f := 4000) h (yal_c (yt501 h) (by decide) yw501 (yal_n)) yg286 yk502
def ys503 : ySp := (282, 2, (0, [], [], [], [(0, (2, yc 1004, yc 0)), (1, (0, yc 48, yc 0))], []), [(0, [], [], [], [], [(0, yc 100, yc 0)])], [])
def yx503 : yCx := ([ys307, ys502], ys503.2.2.2.2, yFP, zm282.2.2.1, zm282.2.2.2.1, zc282, 0, ys503.2.2.2.1, [], [])
theorem yw503 : ywf ys503.2.2.1 = true := by decide +kernel
theorem yk503 : yver yx503 ys503.2.2.1 4000 = true := yverQ_ok (by decide +kernel)
theorem yt503 {E : zHp → Prop} (h : yEF E yFP) : yTs E 4 ys503 := yver_s (k := 282) (n := 3) (x := yx503) (P := ys503.2.2.1) (f := 4000) h (yal_c (yt307 h) (by decide) yw307 (yal_c (yt502 h) (by decide) yw502 (yal_n))) yg282 yk503
def ys504 : ySp := (293, 3, (0, [], [], [], [(0, (0, yc 49, yc 0)), (1, (0, yc 66, yc 0)), (2, (7, yc 0, yc 0))], []), [(0, [], [], [], [], [(0, yc 49, yc 0)])], [])
def yx504 : yCx := ([], ys504.2.2.2.2, yFP, zm293.2.2.1, zm293.2.2.2.1, zc293, 0, ys504.2.2.2.1, [], [])
theorem yw504 : ywf ys504.2.2.1 = true := by decide +kernel
theorem yk504 : yver yx504 ys504.2.2.1 4000 = true := yverQ_ok (by decide +kernel)
theorem yt504 {E : zHp → Prop} (h : yEF E yFP) : yTs E 1 ys504 := yver_s (k := 293) (n := 0) (x := yx504) (P := ys504.2.2.1) (f := 4000) h (yal_n) yg293 yk504
def ys505 : ySp := (285, 2, (0, [], [], [], [(0, (0, yc 49, yc 0)), (1, (0, yc 66, yc 0))], []), [(0, [], [], [], [], [])], [])
def yx505 : yCx := ([ys504], ys505.2.2.2.2, yFP, zm285.2.2.1, zm285.2.2.2.1, zc285, 0, ys505.2.2.2.1, [], [])
theorem yw505 : ywf ys505.2.2.1 = true := by decide +kernel
theorem yk505 : yver yx505 ys505.2.2.1 4000 = true := yverQ_ok (by decide +kernel)
theorem yt505 {E : zHp → Prop} (h : yEF E yFP) : yTs E 2 ys505 := yver_s (k := 285) (n := 1) (x := yx505) (P := ys505.2.2.1) (f := 4000) h (yal_c (yt504 h) (by decide) yw504 (yal_n)) yg285 yk505
def ys506 : ySp := (286, 2, (0, [], [], [], [(0, (2, yc 1023, yc 0)), (1, (0, yc 49, yc 0))], []), [(0, [], [], [], [], [(0, yc 32, yc 0)])], [])
def yx506 : yCx := ([ys505], ys506.2.2.2.2, yFP, zm286.2.2.1, zm286.2.2.2.1, zc286, 0, ys506.2.2.2.1, [], [])
theorem yw506 : ywf ys506.2.2.1 = true := by decide +kernel
theorem yk506 : yver yx506 ys506.2.2.1 4000 = true := yverQ_ok (by decide +kernel)
theorem yt506 {E : zHp → Prop} (h : yEF E yFP) : yTs E 3 ys506 := yver_s (k := 286) (n := 2) (x := yx506) (P := ys506.2.2.1) (f := 4000) h (yal_c (yt505 h) (by decide) yw505 (yal_n)) yg286 yk506
def ys507 : ySp := (282, 2, (0, [], [], [], [(0, (2, yc 1004, yc 0)), (1, (0, yc 49, yc 0))], []), [(0, [], [], [], [], [(0, yc 32, yc 0)])], [])
def yx507 : yCx := ([ys307, ys506], ys507.2.2.2.2, yFP, zm282.2.2.1, zm282.2.2.2.1, zc282, 0, ys507.2.2.2.1, [], [])
theorem yw507 : ywf ys507.2.2.1 = true := by decide +kernel
theorem yk507 : yver yx507 ys507.2.2.1 4000 = true := yverQ_ok (by decide +kernel)
theorem yt507 {E : zHp → Prop} (h : yEF E yFP) : yTs E 4 ys507 := yver_s (k := 282) (n := 3) (x := yx507) (P := ys507.2.2.1) (f := 4000) h (yal_c (yt307 h) (by decide) yw307 (yal_c (yt506 h) (by decide) yw506 (yal_n))) yg282 yk507
def ys508 : ySp := (293, 3, (0, [], [], [], [(0, (0, yc 50, yc 0)), (1, (0, yc 66, yc 0)), (2, (7, yc 0, yc 0))], []), [(0, [], [], [], [], [(0, yc 50, yc 0)])], [])
def yx508 : yCx := ([], ys508.2.2.2.2, yFP, zm293.2.2.1, zm293.2.2.2.1, zc293, 0, ys508.2.2.2.1, [], [])
theorem yw508 : ywf ys508.2.2.1 = true := by decide +kernel
theorem yk508 : yver yx508 ys508.2.2.1 4000 = true := yverQ_ok (by decide +kernel)
theorem yt508 {E : zHp → Prop} (h : yEF E yFP) : yTs E 1 ys508 := yver_s (k := 293) (n := 0) (x := yx508) (P := ys508.2.2.1) (f := 4000) h (yal_n) yg293 yk508
def ys509 : ySp := (285, 2, (0, [], [], [], [(0, (0, yc 50, yc 0)), (1, (0, yc 66, yc 0))], []), [(0, [], [], [], [], [])], [])
def yx509 : yCx := ([ys508], ys509.2.2.2.2, yFP, zm285.2.2.1, zm285.2.2.2.1, zc285, 0, ys509.2.2.2.1, [], [])
theorem yw509 : ywf ys509.2.2.1 = true := by decide +kernel
theorem yk509 : yver yx509 ys509.2.2.1 4000 = true := yverQ_ok (by decide +kernel)
theorem yt509 {E : zHp → Prop} (h : yEF E yFP) : yTs E 2 ys509 := yver_s (k := 285) (n := 1) (x := yx509) (P := ys509.2.2.1) (f := 4000) h (yal_c (yt508 h) (by decide) yw508 (yal_n)) yg285 yk509
def ys510 : ySp := (286, 2, (0, [], [], [], [(0, (2, yc 1023, yc 0)), (1, (0, yc 50, yc 0))], []), [(0, [], [], [], [], [(0, yc 112, yc 0)])], [])
def yx510 : yCx := ([ys509], ys510.2.2.2.2, yFP, zm286.2.2.1, zm286.2.2.2.1, zc286, 0, ys510.2.2.2.1, [], [])
theorem yw510 : ywf ys510.2.2.1 = true := by decide +kernel
theorem yk510 : yver yx510 ys510.2.2.1 4000 = true := yverQ_ok (by decide +kernel)
theorem yt510 {E : zHp → Prop} (h : yEF E yFP) : yTs E 3 ys510 := yver_s (k := 286) (n := 2) (x := yx510) (P := ys510.2.2.1) (f := 4000) h (yal_c (yt509 h) (by decide) yw509 (yal_n)) yg286 yk510
def ys511 : ySp := (282, 2, (0, [], [], [], [(0, (2, yc 1004, yc 0)), (1, (0, yc 50, yc 0))], []), [(0, [], [], [], [], [(0, yc 112, yc 0)])], [])
def yx511 : yCx := ([ys307, ys510], ys511.2.2.2.2, yFP, zm282.2.2.1, zm282.2.2.2.1, zc282, 0, ys511.2.2.2.1, [], [])
theorem yw511 : ywf ys511.2.2.1 = true := by decide +kernel
theorem yk511 : yver yx511 ys511.2.2.1 4000 = true := yverQ_ok (by decide +kernel)
theorem yt511 {E : zHp → Prop} (h : yEF E yFP) : yTs E 4 ys511 := yver_s (k := 282) (n := 3) (x := yx511) (P := ys511.2.2.1) (f := 4000) h (yal_c (yt307 h) (by decide) yw307 (yal_c (yt510 h) (by decide) yw510 (yal_n))) yg282 yk511
def ys512 : ySp := (293, 3, (0, [], [], [], [(0, (0, yc 51, yc 0)), (1, (0, yc 66, yc 0)), (2, (7, yc 0, yc 0))], []), [(0, [], [], [], [], [(0, yc 51, yc 0)])], [])
def yx512 : yCx := ([], ys512.2.2.2.2, yFP, zm293.2.2.1, zm293.2.2.2.1, zc293, 0, ys512.2.2.2.1, [], [])
theorem yw512 : ywf ys512.2.2.1 = true := by decide +kernel
theorem yk512 : yver yx512 ys512.2.2.1 4000 = true := yverQ_ok (by decide +kernel)
theorem yt512 {E : zHp → Prop} (h : yEF E yFP) : yTs E 1 ys512 := yver_s (k := 293) (n := 0) (x := yx512) (P := ys512.2.2.1) (f := 4000) h (yal_n) yg293 yk512
def ys513 : ySp := (285, 2, (0, [], [], [], [(0, (0, yc 51, yc 0)), (1, (0, yc 66, yc 0))], []), [(0, [], [], [], [], [])], [])
def yx513 : yCx := ([ys512], ys513.2.2.2.2, yFP, zm285.2.2.1, zm285.2.2.2.1, zc285, 0, ys513.2.2.2.1, [], [])
theorem yw513 : ywf ys513.2.2.1 = true := by decide +kernel
theorem yk513 : yver yx513 ys513.2.2.1 4000 = true := yverQ_ok (by decide +kernel)
theorem yt513 {E : zHp → Prop} (h : yEF E yFP) : yTs E 2 ys513 := yver_s (k := 285) (n := 1) (x := yx513) (P := ys513.2.2.1) (f := 4000) h (yal_c (yt512 h) (by decide) yw512 (yal_n)) yg285 yk513
def ys514 : ySp := (286, 2, (0, [], [], [], [(0, (2, yc 1023, yc 0)), (1, (0, yc 51, yc 0))], []), [(0, [], [], [], [], [(0, yc 97, yc 0)])], [])
def yx514 : yCx := ([ys513], ys514.2.2.2.2, yFP, zm286.2.2.1, zm286.2.2.2.1, zc286, 0, ys514.2.2.2.1, [], [])
theorem yw514 : ywf ys514.2.2.1 = true := by decide +kernel
theorem yk514 : yver yx514 ys514.2.2.1 4000 = true := yverQ_ok (by decide +kernel)
theorem yt514 {E : zHp → Prop} (h : yEF E yFP) : yTs E 3 ys514 := yver_s (k := 286) (n := 2) (x := yx514) (P := ys514.2.2.1) (f := 4000) h (yal_c (yt513 h) (by decide) yw513 (yal_n)) yg286 yk514
def ys515 : ySp := (282, 2, (0, [], [], [], [(0, (2, yc 1004, yc 0)), (1, (0, yc 51, yc 0))], []), [(0, [], [], [], [], [(0, yc 97, yc 0)])], [])
def yx515 : yCx := ([ys307, ys514], ys515.2.2.2.2, yFP, zm282.2.2.1, zm282.2.2.2.1, zc282, 0, ys515.2.2.2.1, [], [])
theorem yw515 : ywf ys515.2.2.1 = true := by decide +kernel
theorem yk515 : yver yx515 ys515.2.2.1 4000 = true := yverQ_ok (by decide +kernel)
theorem yt515 {E : zHp → Prop} (h : yEF E yFP) : yTs E 4 ys515 := yver_s (k := 282) (n := 3) (x := yx515) (P := ys515.2.2.1) (f := 4000) h (yal_c (yt307 h) (by decide) yw307 (yal_c (yt514 h) (by decide) yw514 (yal_n))) yg282 yk515
def ys516 : ySp := (293, 3, (0, [], [], [], [(0, (0, yc 52, yc 0)), (1, (0, yc 66, yc 0)), (2, (7, yc 0, yc 0))], []), [(0, [], [], [], [], [(0, yc 52, yc 0)])], [])
def yx516 : yCx := ([], ys516.2.2.2.2, yFP, zm293.2.2.1, zm293.2.2.2.1, zc293, 0, ys516.2.2.2.1, [], [])
theorem yw516 : ywf ys516.2.2.1 = true := by decide +kernel
theorem yk516 : yver yx516 ys516.2.2.1 4000 = true := yverQ_ok (by decide +kernel)
theorem yt516 {E : zHp → Prop} (h : yEF E yFP) : yTs E 1 ys516 := yver_s (k := 293) (n := 0) (x := yx516) (P := ys516.2.2.1) (f := 4000) h (yal_n) yg293 yk516
def ys517 : ySp := (285, 2, (0, [], [], [], [(0, (0, yc 52, yc 0)), (1, (0, yc 66, yc 0))], []), [(0, [], [], [], [], [])], [])
def yx517 : yCx := ([ys516], ys517.2.2.2.2, yFP, zm285.2.2.1, zm285.2.2.2.1, zc285, 0, ys517.2.2.2.1, [], [])
theorem yw517 : ywf ys517.2.2.1 = true := by decide +kernel
theorem yk517 : yver yx517 ys517.2.2.1 4000 = true := yverQ_ok (by decide +kernel)
theorem yt517 {E : zHp → Prop} (h : yEF E yFP) : yTs E 2 ys517 := yver_s (k := 285) (n := 1) (x := yx517) (P := ys517.2.2.1) (f := 4000) h (yal_c (yt516 h) (by decide) yw516 (yal_n)) yg285 yk517
def ys518 : ySp := (286, 2, (0, [], [], [], [(0, (2, yc 1023, yc 0)), (1, (0, yc 52, yc 0))], []), [(0, [], [], [], [], [(0, yc 121, yc 0)])], [])
def yx518 : yCx := ([ys517], ys518.2.2.2.2, yFP, zm286.2.2.1, zm286.2.2.2.1, zc286, 0, ys518.2.2.2.1, [], [])
theorem yw518 : ywf ys518.2.2.1 = true := by decide +kernel
theorem yk518 : yver yx518 ys518.2.2.1 4000 = true := yverQ_ok (by decide +kernel)
theorem yt518 {E : zHp → Prop} (h : yEF E yFP) : yTs E 3 ys518 := yver_s (k := 286) (n := 2) (x := yx518) (P := ys518.2.2.1) (f := 4000) h (yal_c (yt517 h) (by decide) yw517 (yal_n)) yg286 yk518
def ys519 : ySp := (282, 2, (0, [], [], [], [(0, (2, yc 1004, yc 0)), (1, (0, yc 52, yc 0))], []), [(0, [], [], [], [], [(0, yc 121, yc 0)])], [])
def yx519 : yCx := ([ys307, ys518], ys519.2.2.2.2, yFP, zm282.2.2.1, zm282.2.2.2.1, zc282, 0, ys519.2.2.2.1, [], [])
theorem yw519 : ywf ys519.2.2.1 = true := by decide +kernel
theorem yk519 : yver yx519 ys519.2.2.1 4000 = true := yverQ_ok (by decide +kernel)
theorem yt519 {E : zHp → Prop} (h : yEF E yFP) : yTs E 4 ys519 := yver_s (k := 282) (n := 3) (x := yx519) (P := ys519.2.2.1) (f := 4000) h (yal_c (yt307 h) (by decide) yw307 (yal_c (yt518 h) (by decide) yw518 (yal_n))) yg282 yk519
def ys520 : ySp := (293, 3, (0, [], [], [], [(0, (0, yc 53, yc 0)), (1, (0, yc 66, yc 0)), (2, (7, yc 0, yc 0))], []), [(0, [], [], [], [], [(0, yc 53, yc 0)])], [])
def yx520 : yCx := ([], ys520.2.2.2.2, yFP, zm293.2.2.1, zm293.2.2.2.1, zc293, 0, ys520.2.2.2.1, [], [])
theorem yw520 : ywf ys520.2.2.1 = true := by decide +kernel
theorem yk520 : yver yx520 ys520.2.2.1 4000 = true := yverQ_ok (by decide +kernel)
theorem yt520 {E : zHp → Prop} (h : yEF E yFP) : yTs E 1 ys520 := yver_s (k := 293) (n := 0) (x := yx520) (P := ys520.2.2.1) (f := 4000) h (yal_n) yg293 yk520
def ys521 : ySp := (285, 2, (0, [], [], [], [(0, (0, yc 53, yc 0)), (1, (0, yc 66, yc 0))], []), [(0, [], [], [], [], [])], [])
def yx521 : yCx := ([ys520], ys521.2.2.2.2, yFP, zm285.2.2.1, zm285.2.2.2.1, zc285, 0, ys521.2.2.2.1, [], [])
theorem yw521 : ywf ys521.2.2.1 = true := by decide +kernel
theorem yk521 : yver yx521 ys521.2.2.1 4000 = true := yverQ_ok (by decide +kernel)
theorem yt521 {E : zHp → Prop} (h : yEF E yFP) : yTs E 2 ys521 := yver_s (k := 285) (n := 1) (x := yx521) (P := ys521.2.2.1) (f := 4000) h (yal_c (yt520 h) (by decide) yw520 (yal_n)) yg285 yk521
def ys522 : ySp := (286, 2, (0, [], [], [], [(0, (2, yc 1023, yc 0)), (1, (0, yc 53, yc 0))], []), [(0, [], [], [], [], [(0, yc 32, yc 0)])], [])
def yx522 : yCx := ([ys521], ys522.2.2.2.2, yFP, zm286.2.2.1, zm286.2.2.2.1, zc286, 0, ys522.2.2.2.1, [], [])
theorem yw522 : ywf ys522.2.2.1 = true := by decide +kernel
theorem yk522 : yver yx522 ys522.2.2.1 4000 = true := yverQ_ok (by decide +kernel)
theorem yt522 {E : zHp → Prop} (h : yEF E yFP) : yTs E 3 ys522 := yver_s (k := 286) (n := 2) (x := yx522) (P := ys522.2.2.1) (f := 4000) h (yal_c (yt521 h) (by decide) yw521 (yal_n)) yg286 yk522
def ys523 : ySp := (282, 2, (0, [], [], [], [(0, (2, yc 1004, yc 0)), (1, (0, yc 53, yc 0))], []), [(0, [], [], [], [], [(0, yc 32, yc 0)])], [])
def yx523 : yCx := ([ys307, ys522], ys523.2.2.2.2, yFP, zm282.2.2.1, zm282.2.2.2.1, zc282, 0, ys523.2.2.2.1, [], [])
theorem yw523 : ywf ys523.2.2.1 = true := by decide +kernel
theorem yk523 : yver yx523 ys523.2.2.1 4000 = true := yverQ_ok (by decide +kernel)
theorem yt523 {E : zHp → Prop} (h : yEF E yFP) : yTs E 4 ys523 := yver_s (k := 282) (n := 3) (x := yx523) (P := ys523.2.2.1) (f := 4000) h (yal_c (yt307 h) (by decide) yw307 (yal_c (yt522 h) (by decide) yw522 (yal_n))) yg282 yk523
def ys524 : ySp := (293, 3, (0, [], [], [], [(0, (0, yc 54, yc 0)), (1, (0, yc 66, yc 0)), (2, (7, yc 0, yc 0))], []), [(0, [], [], [], [], [(0, yc 54, yc 0)])], [])
def yx524 : yCx := ([], ys524.2.2.2.2, yFP, zm293.2.2.1, zm293.2.2.2.1, zc293, 0, ys524.2.2.2.1, [], [])
theorem yw524 : ywf ys524.2.2.1 = true := by decide +kernel
theorem yk524 : yver yx524 ys524.2.2.1 4000 = true := yverQ_ok (by decide +kernel)
theorem yt524 {E : zHp → Prop} (h : yEF E yFP) : yTs E 1 ys524 := yver_s (k := 293) (n := 0) (x := yx524) (P := ys524.2.2.1) (f := 4000) h (yal_n) yg293 yk524
def ys525 : ySp := (285, 2, (0, [], [], [], [(0, (0, yc 54, yc 0)), (1, (0, yc 66, yc 0))], []), [(0, [], [], [], [], [])], [])
def yx525 : yCx := ([ys524], ys525.2.2.2.2, yFP, zm285.2.2.1, zm285.2.2.2.1, zc285, 0, ys525.2.2.2.1, [], [])
theorem yw525 : ywf ys525.2.2.1 = true := by decide +kernel
theorem yk525 : yver yx525 ys525.2.2.1 4000 = true := yverQ_ok (by decide +kernel)
theorem yt525 {E : zHp → Prop} (h : yEF E yFP) : yTs E 2 ys525 := yver_s (k := 285) (n := 1) (x := yx525) (P := ys525.2.2.1) (f := 4000) h (yal_c (yt524 h) (by decide) yw524 (yal_n)) yg285 yk525
def ys526 : ySp := (286, 2, (0, [], [], [], [(0, (2, yc 1023, yc 0)), (1, (0, yc 54, yc 0))], []), [(0, [], [], [], [], [(0, yc 111, yc 0)])], [])
def yx526 : yCx := ([ys525], ys526.2.2.2.2, yFP, zm286.2.2.1, zm286.2.2.2.1, zc286, 0, ys526.2.2.2.1, [], [])
theorem yw526 : ywf ys526.2.2.1 = true := by decide +kernel
theorem yk526 : yver yx526 ys526.2.2.1 4000 = true := yverQ_ok (by decide +kernel)
theorem yt526 {E : zHp → Prop} (h : yEF E yFP) : yTs E 3 ys526 := yver_s (k := 286) (n := 2) (x := yx526) (P := ys526.2.2.1) (f := 4000) h (yal_c (yt525 h) (by decide) yw525 (yal_n)) yg286 yk526
def ys527 : ySp := (282, 2, (0, [], [], [], [(0, (2, yc 1004, yc 0)), (1, (0, yc 54, yc 0))], []), [(0, [], [], [], [], [(0, yc 111, yc 0)])], [])
def yx527 : yCx := ([ys307, ys526], ys527.2.2.2.2, yFP, zm282.2.2.1, zm282.2.2.2.1, zc282, 0, ys527.2.2.2.1, [], [])
theorem yw527 : ywf ys527.2.2.1 = true := by decide +kernel
theorem yk527 : yver yx527 ys527.2.2.1 4000 = true := yverQ_ok (by decide +kernel)
theorem yt527 {E : zHp → Prop} (h : yEF E yFP) : yTs E 4 ys527 := yver_s (k := 282) (n := 3) (x := yx527) (P := ys527.2.2.1) (f := 4000) h (yal_c (yt307 h) (by decide) yw307 (yal_c (yt526 h) (by decide) yw526 (yal_n))) yg282 yk527
def ys528 : ySp := (293, 3, (0, [], [], [], [(0, (0, yc 55, yc 0)), (1, (0, yc 66, yc 0)), (2, (7, yc 0, yc 0))], []), [(0, [], [], [], [], [(0, yc 55, yc 0)])], [])
def yx528 : yCx := ([], ys528.2.2.2.2, yFP, zm293.2.2.1, zm293.2.2.2.1, zc293, 0, ys528.2.2.2.1, [], [])
theorem yw528 : ywf ys528.2.2.1 = true := by decide +kernel
theorem yk528 : yver yx528 ys528.2.2.1 4000 = true := yverQ_ok (by decide +kernel)
theorem yt528 {E : zHp → Prop} (h : yEF E yFP) : yTs E 1 ys528 := yver_s (k := 293) (n := 0) (x := yx528) (P := ys528.2.2.1) (f := 4000) h (yal_n) yg293 yk528
def ys529 : ySp := (285, 2, (0, [], [], [], [(0, (0, yc 55, yc 0)), (1, (0, yc 66, yc 0))], []), [(0, [], [], [], [], [])], [])
def yx529 : yCx := ([ys528], ys529.2.2.2.2, yFP, zm285.2.2.1, zm285.2.2.2.1, zc285, 0, ys529.2.2.2.1, [], [])
theorem yw529 : ywf ys529.2.2.1 = true := by decide +kernel
theorem yk529 : yver yx529 ys529.2.2.1 4000 = true := yverQ_ok (by decide +kernel)
theorem yt529 {E : zHp → Prop} (h : yEF E yFP) : yTs E 2 ys529 := yver_s (k := 285) (n := 1) (x := yx529) (P := ys529.2.2.1) (f := 4000) h (yal_c (yt528 h) (by decide) yw528 (yal_n)) yg285 yk529
def ys530 : ySp := (286, 2, (0, [], [], [], [(0, (2, yc 1023, yc 0)), (1, (0, yc 55, yc 0))], []), [(0, [], [], [], [], [(0, yc 119, yc 0)])], [])
def yx530 : yCx := ([ys529], ys530.2.2.2.2, yFP, zm286.2.2.1, zm286.2.2.2.1, zc286, 0, ys530.2.2.2.1, [], [])
theorem yw530 : ywf ys530.2.2.1 = true := by decide +kernel
theorem yk530 : yver yx530 ys530.2.2.1 4000 = true := yverQ_ok (by decide +kernel)
theorem yt530 {E : zHp → Prop} (h : yEF E yFP) : yTs E 3 ys530 := yver_s (k := 286) (n := 2) (x := yx530) (P := ys530.2.2.1) (f := 4000) h (yal_c (yt529 h) (by decide) yw529 (yal_n)) yg286 yk530
def ys531 : ySp := (282, 2, (0, [], [], [], [(0, (2, yc 1004, yc 0)), (1, (0, yc 55, yc 0))], []), [(0, [], [], [], [], [(0, yc 119, yc 0)])], [])
def yx531 : yCx := ([ys307, ys530], ys531.2.2.2.2, yFP, zm282.2.2.1, zm282.2.2.2.1, zc282, 0, ys531.2.2.2.1, [], [])
theorem yw531 : ywf ys531.2.2.1 = true := by decide +kernel
theorem yk531 : yver yx531 ys531.2.2.1 4000 = true := yverQ_ok (by decide +kernel)
theorem yt531 {E : zHp → Prop} (h : yEF E yFP) : yTs E 4 ys531 := yver_s (k := 282) (n := 3) (x := yx531) (P := ys531.2.2.1) (f := 4000) h (yal_c (yt307 h) (by decide) yw307 (yal_c (yt530 h) (by decide) yw530 (yal_n))) yg282 yk531
def ys532 : ySp := (293, 3, (0, [], [], [], [(0, (0, yc 56, yc 0)), (1, (0, yc 66, yc 0)), (2, (7, yc 0, yc 0))], []), [(0, [], [], [], [], [(0, yc 56, yc 0)])], [])
def yx532 : yCx := ([], ys532.2.2.2.2, yFP, zm293.2.2.1, zm293.2.2.2.1, zc293, 0, ys532.2.2.2.1, [], [])
theorem yw532 : ywf ys532.2.2.1 = true := by decide +kernel
theorem yk532 : yver yx532 ys532.2.2.1 4000 = true := yverQ_ok (by decide +kernel)
theorem yt532 {E : zHp → Prop} (h : yEF E yFP) : yTs E 1 ys532 := yver_s (k := 293) (n := 0) (x := yx532) (P := ys532.2.2.1) (f := 4000) h (yal_n) yg293 yk532
def ys533 : ySp := (285, 2, (0, [], [], [], [(0, (0, yc 56, yc 0)), (1, (0, yc 66, yc 0))], []), [(0, [], [], [], [], [])], [])
def yx533 : yCx := ([ys532], ys533.2.2.2.2, yFP, zm285.2.2.1, zm285.2.2.2.1, zc285, 0, ys533.2.2.2.1, [], [])
theorem yw533 : ywf ys533.2.2.1 = true := by decide +kernel
theorem yk533 : yver yx533 ys533.2.2.1 4000 = true := yverQ_ok (by decide +kernel)
theorem yt533 {E : zHp → Prop} (h : yEF E yFP) : yTs E 2 ys533 := yver_s (k := 285) (n := 1) (x := yx533) (P := ys533.2.2.1) (f := 4000) h (yal_c (yt532 h) (by decide) yw532 (yal_n)) yg285 yk533
def ys534 : ySp := (286, 2, (0, [], [], [], [(0, (2, yc 1023, yc 0)), (1, (0, yc 56, yc 0))], []), [(0, [], [], [], [], [(0, yc 101, yc 0)])], [])
def yx534 : yCx := ([ys533], ys534.2.2.2.2, yFP, zm286.2.2.1, zm286.2.2.2.1, zc286, 0, ys534.2.2.2.1, [], [])
theorem yw534 : ywf ys534.2.2.1 = true := by decide +kernel
theorem yk534 : yver yx534 ys534.2.2.1 4000 = true := yverQ_ok (by decide +kernel)
theorem yt534 {E : zHp → Prop} (h : yEF E yFP) : yTs E 3 ys534 := yver_s (k := 286) (n := 2) (x := yx534) (P := ys534.2.2.1) (f := 4000) h (yal_c (yt533 h) (by decide) yw533 (yal_n)) yg286 yk534
def ys535 : ySp := (282, 2, (0, [], [], [], [(0, (2, yc 1004, yc 0)), (1, (0, yc 56, yc 0))], []), [(0, [], [], [], [], [(0, yc 101, yc 0)])], [])
def yx535 : yCx := ([ys307, ys534], ys535.2.2.2.2, yFP, zm282.2.2.1, zm282.2.2.2.1, zc282, 0, ys535.2.2.2.1, [], [])
theorem yw535 : ywf ys535.2.2.1 = true := by decide +kernel
theorem yk535 : yver yx535 ys535.2.2.1 4000 = true := yverQ_ok (by decide +kernel)
theorem yt535 {E : zHp → Prop} (h : yEF E yFP) : yTs E 4 ys535 := yver_s (k := 282) (n := 3) (x := yx535) (P := ys535.2.2.1) (f := 4000) h (yal_c (yt307 h) (by decide) yw307 (yal_c (yt534 h) (by decide) yw534 (yal_n))) yg282 yk535
def ys536 : ySp := (293, 3, (0, [], [], [], [(0, (0, yc 57, yc 0)), (1, (0, yc 66, yc 0)), (2, (7, yc 0, yc 0))], []), [(0, [], [], [], [], [(0, yc 57, yc 0)])], [])
def yx536 : yCx := ([], ys536.2.2.2.2, yFP, zm293.2.2.1, zm293.2.2.2.1, zc293, 0, ys536.2.2.2.1, [], [])
theorem yw536 : ywf ys536.2.2.1 = true := by decide +kernel
theorem yk536 : yver yx536 ys536.2.2.1 4000 = true := yverQ_ok (by decide +kernel)
theorem yt536 {E : zHp → Prop} (h : yEF E yFP) : yTs E 1 ys536 := yver_s (k := 293) (n := 0) (x := yx536) (P := ys536.2.2.1) (f := 4000) h (yal_n) yg293 yk536
def ys537 : ySp := (285, 2, (0, [], [], [], [(0, (0, yc 57, yc 0)), (1, (0, yc 66, yc 0))], []), [(0, [], [], [], [], [])], [])
def yx537 : yCx := ([ys536], ys537.2.2.2.2, yFP, zm285.2.2.1, zm285.2.2.2.1, zc285, 0, ys537.2.2.2.1, [], [])
theorem yw537 : ywf ys537.2.2.1 = true := by decide +kernel
theorem yk537 : yver yx537 ys537.2.2.1 4000 = true := yverQ_ok (by decide +kernel)
theorem yt537 {E : zHp → Prop} (h : yEF E yFP) : yTs E 2 ys537 := yver_s (k := 285) (n := 1) (x := yx537) (P := ys537.2.2.1) (f := 4000) h (yal_c (yt536 h) (by decide) yw536 (yal_n)) yg285 yk537
def ys538 : ySp := (286, 2, (0, [], [], [], [(0, (2, yc 1023, yc 0)), (1, (0, yc 57, yc 0))], []), [(0, [], [], [], [], [(0, yc 115, yc 0)])], [])
def yx538 : yCx := ([ys537], ys538.2.2.2.2, yFP, zm286.2.2.1, zm286.2.2.2.1, zc286, 0, ys538.2.2.2.1, [], [])
theorem yw538 : ywf ys538.2.2.1 = true := by decide +kernel
theorem yk538 : yver yx538 ys538.2.2.1 4000 = true := yverQ_ok (by decide +kernel)
theorem yt538 {E : zHp → Prop} (h : yEF E yFP) : yTs E 3 ys538 := yver_s (k := 286) (n := 2) (x := yx538) (P := ys538.2.2.1) (f := 4000) h (yal_c (yt537 h) (by decide) yw537 (yal_n)) yg286 yk538
def ys539 : ySp := (282, 2, (0, [], [], [], [(0, (2, yc 1004, yc 0)), (1, (0, yc 57, yc 0))], []), [(0, [], [], [], [], [(0, yc 115, yc 0)])], [])
def yx539 : yCx := ([ys307, ys538], ys539.2.2.2.2, yFP, zm282.2.2.1, zm282.2.2.2.1, zc282, 0, ys539.2.2.2.1, [], [])
theorem yw539 : ywf ys539.2.2.1 = true := by decide +kernel
theorem yk539 : yver yx539 ys539.2.2.1 4000 = true := yverQ_ok (by decide +kernel)
theorem yt539 {E : zHp → Prop} (h : yEF E yFP) : yTs E 4 ys539 := yver_s (k := 282) (n := 3) (x := yx539) (P := ys539.2.2.1) (f := 4000) h (yal_c (yt307 h) (by decide) yw307 (yal_c (yt538 h) (by decide) yw538 (yal_n))) yg282 yk539
def ys540 : ySp := (293, 3, (0, [], [], [], [(0, (0, yc 58, yc 0)), (1, (0, yc 66, yc 0)), (2, (7, yc 0, yc 0))], []), [(0, [], [], [], [], [(0, yc 58, yc 0)])], [])
def yx540 : yCx := ([], ys540.2.2.2.2, yFP, zm293.2.2.1, zm293.2.2.2.1, zc293, 0, ys540.2.2.2.1, [], [])
theorem yw540 : ywf ys540.2.2.1 = true := by decide +kernel
theorem yk540 : yver yx540 ys540.2.2.1 4000 = true := yverQ_ok (by decide +kernel)
theorem yt540 {E : zHp → Prop} (h : yEF E yFP) : yTs E 1 ys540 := yver_s (k := 293) (n := 0) (x := yx540) (P := ys540.2.2.1) (f := 4000) h (yal_n) yg293 yk540
def ys541 : ySp := (285, 2, (0, [], [], [], [(0, (0, yc 58, yc 0)), (1, (0, yc 66, yc 0))], []), [(0, [], [], [], [], [])], [])
def yx541 : yCx := ([ys540], ys541.2.2.2.2, yFP, zm285.2.2.1, zm285.2.2.2.1, zc285, 0, ys541.2.2.2.1, [], [])
theorem yw541 : ywf ys541.2.2.1 = true := by decide +kernel
theorem yk541 : yver yx541 ys541.2.2.1 4000 = true := yverQ_ok (by decide +kernel)
theorem yt541 {E : zHp → Prop} (h : yEF E yFP) : yTs E 2 ys541 := yver_s (k := 285) (n := 1) (x := yx541) (P := ys541.2.2.1) (f := 4000) h (yal_c (yt540 h) (by decide) yw540 (yal_n)) yg285 yk541
def ys542 : ySp := (286, 2, (0, [], [], [], [(0, (2, yc 1023, yc 0)), (1, (0, yc 58, yc 0))], []), [(0, [], [], [], [], [(0, yc 32, yc 0)])], [])
def yx542 : yCx := ([ys541], ys542.2.2.2.2, yFP, zm286.2.2.1, zm286.2.2.2.1, zc286, 0, ys542.2.2.2.1, [], [])
theorem yw542 : ywf ys542.2.2.1 = true := by decide +kernel
theorem yk542 : yver yx542 ys542.2.2.1 4000 = true := yverQ_ok (by decide +kernel)
theorem yt542 {E : zHp → Prop} (h : yEF E yFP) : yTs E 3 ys542 := yver_s (k := 286) (n := 2) (x := yx542) (P := ys542.2.2.1) (f := 4000) h (yal_c (yt541 h) (by decide) yw541 (yal_n)) yg286 yk542
def ys543 : ySp := (282, 2, (0, [], [], [], [(0, (2, yc 1004, yc 0)), (1, (0, yc 58, yc 0))], []), [(0, [], [], [], [], [(0, yc 32, yc 0)])], [])
def yx543 : yCx := ([ys307, ys542], ys543.2.2.2.2, yFP, zm282.2.2.1, zm282.2.2.2.1, zc282, 0, ys543.2.2.2.1, [], [])
theorem yw543 : ywf ys543.2.2.1 = true := by decide +kernel
theorem yk543 : yver yx543 ys543.2.2.1 4000 = true := yverQ_ok (by decide +kernel)
theorem yt543 {E : zHp → Prop} (h : yEF E yFP) : yTs E 4 ys543 := yver_s (k := 282) (n := 3) (x := yx543) (P := ys543.2.2.1) (f := 4000) h (yal_c (yt307 h) (by decide) yw307 (yal_c (yt542 h) (by decide) yw542 (yal_n))) yg282 yk543
def ys544 : ySp := (293, 3, (0, [], [], [], [(0, (0, yc 59, yc 0)), (1, (0, yc 66, yc 0)), (2, (7, yc 0, yc 0))], []), [(0, [], [], [], [], [(0, yc 59, yc 0)])], [])
def yx544 : yCx := ([], ys544.2.2.2.2, yFP, zm293.2.2.1, zm293.2.2.2.1, zc293, 0, ys544.2.2.2.1, [], [])
theorem yw544 : ywf ys544.2.2.1 = true := by decide +kernel
theorem yk544 : yver yx544 ys544.2.2.1 4000 = true := yverQ_ok (by decide +kernel)
theorem yt544 {E : zHp → Prop} (h : yEF E yFP) : yTs E 1 ys544 := yver_s (k := 293) (n := 0) (x := yx544) (P := ys544.2.2.1) (f := 4000) h (yal_n) yg293 yk544
def ys545 : ySp := (285, 2, (0, [], [], [], [(0, (0, yc 59, yc 0)), (1, (0, yc 66, yc 0))], []), [(0, [], [], [], [], [])], [])
def yx545 : yCx := ([ys544], ys545.2.2.2.2, yFP, zm285.2.2.1, zm285.2.2.2.1, zc285, 0, ys545.2.2.2.1, [], [])
theorem yw545 : ywf ys545.2.2.1 = true := by decide +kernel
theorem yk545 : yver yx545 ys545.2.2.1 4000 = true := yverQ_ok (by decide +kernel)
theorem yt545 {E : zHp → Prop} (h : yEF E yFP) : yTs E 2 ys545 := yver_s (k := 285) (n := 1) (x := yx545) (P := ys545.2.2.1) (f := 4000) h (yal_c (yt544 h) (by decide) yw544 (yal_n)) yg285 yk545
def ys546 : ySp := (286, 2, (0, [], [], [], [(0, (2, yc 1023, yc 0)), (1, (0, yc 59, yc 0))], []), [(0, [], [], [], [], [(0, yc 116, yc 0)])], [])
def yx546 : yCx := ([ys545], ys546.2.2.2.2, yFP, zm286.2.2.1, zm286.2.2.2.1, zc286, 0, ys546.2.2.2.1, [], [])
theorem yw546 : ywf ys546.2.2.1 = true := by decide +kernel
theorem yk546 : yver yx546 ys546.2.2.1 4000 = true := yverQ_ok (by decide +kernel)
theorem yt546 {E : zHp → Prop} (h : yEF E yFP) : yTs E 3 ys546 := yver_s (k := 286) (n := 2) (x := yx546) (P := ys546.2.2.1) (f := 4000) h (yal_c (yt545 h) (by decide) yw545 (yal_n)) yg286 yk546
def ys547 : ySp := (282, 2, (0, [], [], [], [(0, (2, yc 1004, yc 0)), (1, (0, yc 59, yc 0))], []), [(0, [], [], [], [], [(0, yc 116, yc 0)])], [])
def yx547 : yCx := ([ys307, ys546], ys547.2.2.2.2, yFP, zm282.2.2.1, zm282.2.2.2.1, zc282, 0, ys547.2.2.2.1, [], [])
theorem yw547 : ywf ys547.2.2.1 = true := by decide +kernel
theorem yk547 : yver yx547 ys547.2.2.1 4000 = true := yverQ_ok (by decide +kernel)
theorem yt547 {E : zHp → Prop} (h : yEF E yFP) : yTs E 4 ys547 := yver_s (k := 282) (n := 3) (x := yx547) (P := ys547.2.2.1) (f := 4000) h (yal_c (yt307 h) (by decide) yw307 (yal_c (yt546 h) (by decide) yw546 (yal_n))) yg282 yk547
def ys548 : ySp := (293, 3, (0, [], [], [], [(0, (0, yc 60, yc 0)), (1, (0, yc 66, yc 0)), (2, (7, yc 0, yc 0))], []), [(0, [], [], [], [], [(0, yc 60, yc 0)])], [])
def yx548 : yCx := ([], ys548.2.2.2.2, yFP, zm293.2.2.1, zm293.2.2.2.1, zc293, 0, ys548.2.2.2.1, [], [])
theorem yw548 : ywf ys548.2.2.1 = true := by decide +kernel
theorem yk548 : yver yx548 ys548.2.2.1 4000 = true := yverQ_ok (by decide +kernel)
theorem yt548 {E : zHp → Prop} (h : yEF E yFP) : yTs E 1 ys548 := yver_s (k := 293) (n := 0) (x := yx548) (P := ys548.2.2.1) (f := 4000) h (yal_n) yg293 yk548
def ys549 : ySp := (285, 2, (0, [], [], [], [(0, (0, yc 60, yc 0)), (1, (0, yc 66, yc 0))], []), [(0, [], [], [], [], [])], [])
def yx549 : yCx := ([ys548], ys549.2.2.2.2, yFP, zm285.2.2.1, zm285.2.2.2.1, zc285, 0, ys549.2.2.2.1, [], [])
theorem yw549 : ywf ys549.2.2.1 = true := by decide +kernel
theorem yk549 : yver yx549 ys549.2.2.1 4000 = true := yverQ_ok (by decide +kernel)
theorem yt549 {E : zHp → Prop} (h : yEF E yFP) : yTs E 2 ys549 := yver_s (k := 285) (n := 1) (x := yx549) (P := ys549.2.2.1) (f := 4000) h (yal_c (yt548 h) (by decide) yw548 (yal_n)) yg285 yk549
def ys550 : ySp := (286, 2, (0, [], [], [], [(0, (2, yc 1023, yc 0)), (1, (0, yc 60, yc 0))], []), [(0, [], [], [], [], [(0, yc 114, yc 0)])], [])
def yx550 : yCx := ([ys549], ys550.2.2.2.2, yFP, zm286.2.2.1, zm286.2.2.2.1, zc286, 0, ys550.2.2.2.1, [], [])
theorem yw550 : ywf ys550.2.2.1 = true := by decide +kernel
theorem yk550 : yver yx550 ys550.2.2.1 4000 = true := yverQ_ok (by decide +kernel)
theorem yt550 {E : zHp → Prop} (h : yEF E yFP) : yTs E 3 ys550 := yver_s (k := 286) (n := 2) (x := yx550) (P := ys550.2.2.1) (f := 4000) h (yal_c (yt549 h) (by decide) yw549 (yal_n)) yg286 yk550
def ys551 : ySp := (282, 2, (0, [], [], [], [(0, (2, yc 1004, yc 0)), (1, (0, yc 60, yc 0))], []), [(0, [], [], [], [], [(0, yc 114, yc 0)])], [])
def yx551 : yCx := ([ys307, ys550], ys551.2.2.2.2, yFP, zm282.2.2.1, zm282.2.2.2.1, zc282, 0, ys551.2.2.2.1, [], [])
theorem yw551 : ywf ys551.2.2.1 = true := by decide +kernel
theorem yk551 : yver yx551 ys551.2.2.1 4000 = true := yverQ_ok (by decide +kernel)
theorem yt551 {E : zHp → Prop} (h : yEF E yFP) : yTs E 4 ys551 := yver_s (k := 282) (n := 3) (x := yx551) (P := ys551.2.2.1) (f := 4000) h (yal_c (yt307 h) (by decide) yw307 (yal_c (yt550 h) (by decide) yw550 (yal_n))) yg282 yk551
def ys552 : ySp := (293, 3, (0, [], [], [], [(0, (0, yc 61, yc 0)), (1, (0, yc 66, yc 0)), (2, (7, yc 0, yc 0))], []), [(0, [], [], [], [], [(0, yc 61, yc 0)])], [])
def yx552 : yCx := ([], ys552.2.2.2.2, yFP, zm293.2.2.1, zm293.2.2.2.1, zc293, 0, ys552.2.2.2.1, [], [])
theorem yw552 : ywf ys552.2.2.1 = true := by decide +kernel
theorem yk552 : yver yx552 ys552.2.2.1 4000 = true := yverQ_ok (by decide +kernel)
theorem yt552 {E : zHp → Prop} (h : yEF E yFP) : yTs E 1 ys552 := yver_s (k := 293) (n := 0) (x := yx552) (P := ys552.2.2.1) (f := 4000) h (yal_n) yg293 yk552
def ys553 : ySp := (285, 2, (0, [], [], [], [(0, (0, yc 61, yc 0)), (1, (0, yc 66, yc 0))], []), [(0, [], [], [], [], [])], [])
def yx553 : yCx := ([ys552], ys553.2.2.2.2, yFP, zm285.2.2.1, zm285.2.2.2.1, zc285, 0, ys553.2.2.2.1, [], [])
theorem yw553 : ywf ys553.2.2.1 = true := by decide +kernel
theorem yk553 : yver yx553 ys553.2.2.1 4000 = true := yverQ_ok (by decide +kernel)
theorem yt553 {E : zHp → Prop} (h : yEF E yFP) : yTs E 2 ys553 := yver_s (k := 285) (n := 1) (x := yx553) (P := ys553.2.2.1) (f := 4000) h (yal_c (yt552 h) (by decide) yw552 (yal_n)) yg285 yk553
def ys554 : ySp := (286, 2, (0, [], [], [], [(0, (2, yc 1023, yc 0)), (1, (0, yc 61, yc 0))], []), [(0, [], [], [], [], [(0, yc 117, yc 0)])], [])
def yx554 : yCx := ([ys553], ys554.2.2.2.2, yFP, zm286.2.2.1, zm286.2.2.2.1, zc286, 0, ys554.2.2.2.1, [], [])
theorem yw554 : ywf ys554.2.2.1 = true := by decide +kernel
theorem yk554 : yver yx554 ys554.2.2.1 4000 = true := yverQ_ok (by decide +kernel)
theorem yt554 {E : zHp → Prop} (h : yEF E yFP) : yTs E 3 ys554 := yver_s (k := 286) (n := 2) (x := yx554) (P := ys554.2.2.1) (f := 4000) h (yal_c (yt553 h) (by decide) yw553 (yal_n)) yg286 yk554
def ys555 : ySp := (282, 2, (0, [], [], [], [(0, (2, yc 1004, yc 0)), (1, (0, yc 61, yc 0))], []), [(0, [], [], [], [], [(0, yc 117, yc 0)])], [])
def yx555 : yCx := ([ys307, ys554], ys555.2.2.2.2, yFP, zm282.2.2.1, zm282.2.2.2.1, zc282, 0, ys555.2.2.2.1, [], [])
theorem yw555 : ywf ys555.2.2.1 = true := by decide +kernel
theorem yk555 : yver yx555 ys555.2.2.1 4000 = true := yverQ_ok (by decide +kernel)
theorem yt555 {E : zHp → Prop} (h : yEF E yFP) : yTs E 4 ys555 := yver_s (k := 282) (n := 3) (x := yx555) (P := ys555.2.2.1) (f := 4000) h (yal_c (yt307 h) (by decide) yw307 (yal_c (yt554 h) (by decide) yw554 (yal_n))) yg282 yk555
def ys556 : ySp := (293, 3, (0, [], [], [], [(0, (0, yc 62, yc 0)), (1, (0, yc 66, yc 0)), (2, (7, yc 0, yc 0))], []), [(0, [], [], [], [], [(0, yc 62, yc 0)])], [])
def yx556 : yCx := ([], ys556.2.2.2.2, yFP, zm293.2.2.1, zm293.2.2.2.1, zc293, 0, ys556.2.2.2.1, [], [])
theorem yw556 : ywf ys556.2.2.1 = true := by decide +kernel
theorem yk556 : yver yx556 ys556.2.2.1 4000 = true := yverQ_ok (by decide +kernel)
theorem yt556 {E : zHp → Prop} (h : yEF E yFP) : yTs E 1 ys556 := yver_s (k := 293) (n := 0) (x := yx556) (P := ys556.2.2.1) (f := 4000) h (yal_n) yg293 yk556
end
section
def ys557 : ySp := (285, 2, (0, [], [], [], [(0, (0, yc 62, yc 0)), (1, (0, yc 66, yc 0))], []), [(0, [], [], [], [], [])], [])
def yx557 : yCx := ([ys556], ys557.2.2.2.2, yFP, zm285.2.2.1, zm285.2.2.2.1, zc285, 0, ys557.2.2.2.1, [], [])
theorem yw557 : ywf ys557.2.2.1 = true := by decide +kernel
theorem yk557 : yver yx557 ys557.2.2.1 4000 = true := yverQ_ok (by decide +kernel)
theorem yt557 {E : zHp → Prop} (h : yEF E yFP) : yTs E 2 ys557 := yver_s (k := 285) (n := 1) (x := yx557) (P := ys557.2.2.1) (f := 4000) h (yal_c (yt556 h) (by decide) yw556 (yal_n)) yg285 yk557
def ys558 : ySp := (286, 2, (0, [], [], [], [(0, (2, yc 1023, yc 0)), (1, (0, yc 62, yc 0))], []), [(0, [], [], [], [], [(0, yc 115, yc 0)])], [])
def yx558 : yCx := ([ys557], ys558.2.2.2.2, yFP, zm286.2.2.1, zm286.2.2.2.1, zc286, 0, ys558.2.2.2.1, [], [])
theorem yw558 : ywf ys558.2.2.1 = true := by decide +kernel
theorem yk558 : yver yx558 ys558.2.2.1 4000 = true := yverQ_ok (by decide +kernel)
theorem yt558 {E : zHp → Prop} (h : yEF E yFP) : yTs E 3 ys558 := yver_s (k := 286) (n := 2) (x := yx558) (P := ys558.2.2.1) (f := 4000) h (yal_c (yt557 h) (by decide) yw557 (yal_n)) yg286 yk558
def ys559 : ySp := (282, 2, (0, [], [], [], [(0, (2, yc 1004, yc 0)), (1, (0, yc 62, yc 0))], []), [(0, [], [], [], [], [(0, yc 115, yc 0)])], [])
def yx559 : yCx := ([ys307, ys558], ys559.2.2.2.2, yFP, zm282.2.2.1, zm282.2.2.2.1, zc282, 0, ys559.2.2.2.1, [], [])
theorem yw559 : ywf ys559.2.2.1 = true := by decide +kernel
theorem yk559 : yver yx559 ys559.2.2.1 4000 = true := yverQ_ok (by decide +kernel)
theorem yt559 {E : zHp → Prop} (h : yEF E yFP) : yTs E 4 ys559 := yver_s (k := 282) (n := 3) (x := yx559) (P := ys559.2.2.1) (f := 4000) h (yal_c (yt307 h) (by decide) yw307 (yal_c (yt558 h) (by decide) yw558 (yal_n))) yg282 yk559
def ys560 : ySp := (293, 3, (0, [], [], [], [(0, (0, yc 63, yc 0)), (1, (0, yc 66, yc 0)), (2, (7, yc 0, yc 0))], []), [(0, [], [], [], [], [(0, yc 63, yc 0)])], [])
def yx560 : yCx := ([], ys560.2.2.2.2, yFP, zm293.2.2.1, zm293.2.2.2.1, zc293, 0, ys560.2.2.2.1, [], [])
theorem yw560 : ywf ys560.2.2.1 = true := by decide +kernel
theorem yk560 : yver yx560 ys560.2.2.1 4000 = true := yverQ_ok (by decide +kernel)
theorem yt560 {E : zHp → Prop} (h : yEF E yFP) : yTs E 1 ys560 := yver_s (k := 293) (n := 0) (x := yx560) (P := ys560.2.2.1) (f := 4000) h (yal_n) yg293 yk560
def ys561 : ySp := (285, 2, (0, [], [], [], [(0, (0, yc 63, yc 0)), (1, (0, yc 66, yc 0))], []), [(0, [], [], [], [], [])], [])
def yx561 : yCx := ([ys560], ys561.2.2.2.2, yFP, zm285.2.2.1, zm285.2.2.2.1, zc285, 0, ys561.2.2.2.1, [], [])
theorem yw561 : ywf ys561.2.2.1 = true := by decide +kernel
theorem yk561 : yver yx561 ys561.2.2.1 4000 = true := yverQ_ok (by decide +kernel)
theorem yt561 {E : zHp → Prop} (h : yEF E yFP) : yTs E 2 ys561 := yver_s (k := 285) (n := 1) (x := yx561) (P := ys561.2.2.1) (f := 4000) h (yal_c (yt560 h) (by decide) yw560 (yal_n)) yg285 yk561
def ys562 : ySp := (286, 2, (0, [], [], [], [(0, (2, yc 1023, yc 0)), (1, (0, yc 63, yc 0))], []), [(0, [], [], [], [], [(0, yc 116, yc 0)])], [])
def yx562 : yCx := ([ys561], ys562.2.2.2.2, yFP, zm286.2.2.1, zm286.2.2.2.1, zc286, 0, ys562.2.2.2.1, [], [])
theorem yw562 : ywf ys562.2.2.1 = true := by decide +kernel
theorem yk562 : yver yx562 ys562.2.2.1 4000 = true := yverQ_ok (by decide +kernel)
theorem yt562 {E : zHp → Prop} (h : yEF E yFP) : yTs E 3 ys562 := yver_s (k := 286) (n := 2) (x := yx562) (P := ys562.2.2.1) (f := 4000) h (yal_c (yt561 h) (by decide) yw561 (yal_n)) yg286 yk562
def ys563 : ySp := (282, 2, (0, [], [], [], [(0, (2, yc 1004, yc 0)), (1, (0, yc 63, yc 0))], []), [(0, [], [], [], [], [(0, yc 116, yc 0)])], [])
def yx563 : yCx := ([ys307, ys562], ys563.2.2.2.2, yFP, zm282.2.2.1, zm282.2.2.2.1, zc282, 0, ys563.2.2.2.1, [], [])
theorem yw563 : ywf ys563.2.2.1 = true := by decide +kernel
theorem yk563 : yver yx563 ys563.2.2.1 4000 = true := yverQ_ok (by decide +kernel)
theorem yt563 {E : zHp → Prop} (h : yEF E yFP) : yTs E 4 ys563 := yver_s (k := 282) (n := 3) (x := yx563) (P := ys563.2.2.1) (f := 4000) h (yal_c (yt307 h) (by decide) yw307 (yal_c (yt562 h) (by decide) yw562 (yal_n))) yg282 yk563
def ys564 : ySp := (293, 3, (0, [], [], [], [(0, (0, yc 64, yc 0)), (1, (0, yc 66, yc 0)), (2, (7, yc 0, yc 0))], []), [(0, [], [], [], [], [(0, yc 64, yc 0)])], [])
def yx564 : yCx := ([], ys564.2.2.2.2, yFP, zm293.2.2.1, zm293.2.2.2.1, zc293, 0, ys564.2.2.2.1, [], [])
theorem yw564 : ywf ys564.2.2.1 = true := by decide +kernel
theorem yk564 : yver yx564 ys564.2.2.1 4000 = true := yverQ_ok (by decide +kernel)
theorem yt564 {E : zHp → Prop} (h : yEF E yFP) : yTs E 1 ys564 := yver_s (k := 293) (n := 0) (x := yx564) (P := ys564.2.2.1) (f := 4000) h (yal_n) yg293 yk564
def ys565 : ySp := (285, 2, (0, [], [], [], [(0, (0, yc 64, yc 0)), (1, (0, yc 66, yc 0))], []), [(0, [], [], [], [], [])], [])
def yx565 : yCx := ([ys564], ys565.2.2.2.2, yFP, zm285.2.2.1, zm285.2.2.2.1, zc285, 0, ys565.2.2.2.1, [], [])
theorem yw565 : ywf ys565.2.2.1 = true := by decide +kernel
theorem yk565 : yver yx565 ys565.2.2.1 4000 = true := yverQ_ok (by decide +kernel)
theorem yt565 {E : zHp → Prop} (h : yEF E yFP) : yTs E 2 ys565 := yver_s (k := 285) (n := 1) (x := yx565) (P := ys565.2.2.1) (f := 4000) h (yal_c (yt564 h) (by decide) yw564 (yal_n)) yg285 yk565
def ys566 : ySp := (286, 2, (0, [], [], [], [(0, (2, yc 1023, yc 0)), (1, (0, yc 64, yc 0))], []), [(0, [], [], [], [], [(0, yc 115, yc 0)])], [])
def yx566 : yCx := ([ys565], ys566.2.2.2.2, yFP, zm286.2.2.1, zm286.2.2.2.1, zc286, 0, ys566.2.2.2.1, [], [])
theorem yw566 : ywf ys566.2.2.1 = true := by decide +kernel
theorem yk566 : yver yx566 ys566.2.2.1 4000 = true := yverQ_ok (by decide +kernel)
theorem yt566 {E : zHp → Prop} (h : yEF E yFP) : yTs E 3 ys566 := yver_s (k := 286) (n := 2) (x := yx566) (P := ys566.2.2.1) (f := 4000) h (yal_c (yt565 h) (by decide) yw565 (yal_n)) yg286 yk566
def ys567 : ySp := (282, 2, (0, [], [], [], [(0, (2, yc 1004, yc 0)), (1, (0, yc 64, yc 0))], []), [(0, [], [], [], [], [(0, yc 115, yc 0)])], [])
def yx567 : yCx := ([ys307, ys566], ys567.2.2.2.2, yFP, zm282.2.2.1, zm282.2.2.2.1, zc282, 0, ys567.2.2.2.1, [], [])
theorem yw567 : ywf ys567.2.2.1 = true := by decide +kernel
theorem yk567 : yver yx567 ys567.2.2.1 4000 = true := yverQ_ok (by decide +kernel)
theorem yt567 {E : zHp → Prop} (h : yEF E yFP) : yTs E 4 ys567 := yver_s (k := 282) (n := 3) (x := yx567) (P := ys567.2.2.1) (f := 4000) h (yal_c (yt307 h) (by decide) yw307 (yal_c (yt566 h) (by decide) yw566 (yal_n))) yg282 yk567
def ys568 : ySp := (293, 3, (0, [], [], [], [(0, (0, yc 65, yc 0)), (1, (0, yc 66, yc 0)), (2, (7, yc 0, yc 0))], []), [(0, [], [], [], [], [(0, yc 65, yc 0)])], [])
def yx568 : yCx := ([], ys568.2.2.2.2, yFP, zm293.2.2.1, zm293.2.2.2.1, zc293, 0, ys568.2.2.2.1, [], [])
theorem yw568 : ywf ys568.2.2.1 = true := by decide +kernel
theorem yk568 : yver yx568 ys568.2.2.1 4000 = true := yverQ_ok (by decide +kernel)
theorem yt568 {E : zHp → Prop} (h : yEF E yFP) : yTs E 1 ys568 := yver_s (k := 293) (n := 0) (x := yx568) (P := ys568.2.2.1) (f := 4000) h (yal_n) yg293 yk568
def ys569 : ySp := (285, 2, (0, [], [], [], [(0, (0, yc 65, yc 0)), (1, (0, yc 66, yc 0))], []), [(0, [], [], [], [], [])], [])
def yx569 : yCx := ([ys568], ys569.2.2.2.2, yFP, zm285.2.2.1, zm285.2.2.2.1, zc285, 0, ys569.2.2.2.1, [], [])
theorem yw569 : ywf ys569.2.2.1 = true := by decide +kernel
theorem yk569 : yver yx569 ys569.2.2.1 4000 = true := yverQ_ok (by decide +kernel)
theorem yt569 {E : zHp → Prop} (h : yEF E yFP) : yTs E 2 ys569 := yver_s (k := 285) (n := 1) (x := yx569) (P := ys569.2.2.1) (f := 4000) h (yal_c (yt568 h) (by decide) yw568 (yal_n)) yg285 yk569
def ys570 : ySp := (286, 2, (0, [], [], [], [(0, (2, yc 1023, yc 0)), (1, (0, yc 65, yc 0))], []), [(0, [], [], [], [], [(0, yc 32, yc 0)])], [])
def yx570 : yCx := ([ys569], ys570.2.2.2.2, yFP, zm286.2.2.1, zm286.2.2.2.1, zc286, 0, ys570.2.2.2.1, [], [])
theorem yw570 : ywf ys570.2.2.1 = true := by decide +kernel
theorem yk570 : yver yx570 ys570.2.2.1 4000 = true := yverQ_ok (by decide +kernel)
theorem yt570 {E : zHp → Prop} (h : yEF E yFP) : yTs E 3 ys570 := yver_s (k := 286) (n := 2) (x := yx570) (P := ys570.2.2.1) (f := 4000) h (yal_c (yt569 h) (by decide) yw569 (yal_n)) yg286 yk570
def ys571 : ySp := (282, 2, (0, [], [], [], [(0, (2, yc 1004, yc 0)), (1, (0, yc 65, yc 0))], []), [(0, [], [], [], [], [(0, yc 32, yc 0)])], [])
def yx571 : yCx := ([ys307, ys570], ys571.2.2.2.2, yFP, zm282.2.2.1, zm282.2.2.2.1, zc282, 0, ys571.2.2.2.1, [], [])
theorem yw571 : ywf ys571.2.2.1 = true := by decide +kernel
theorem yk571 : yver yx571 ys571.2.2.1 4000 = true := yverQ_ok (by decide +kernel)
theorem yt571 {E : zHp → Prop} (h : yEF E yFP) : yTs E 4 ys571 := yver_s (k := 282) (n := 3) (x := yx571) (P := ys571.2.2.1) (f := 4000) h (yal_c (yt307 h) (by decide) yw307 (yal_c (yt570 h) (by decide) yw570 (yal_n))) yg282 yk571
end
