def ys218 : ySp := (282, 2, (0, [], [], [], [(0, (2, yc 1004, yc 0)), (1, (0, yc 15, yc 0))], []), [(0, [], [], [], [], [(0, yc 32, yc 0)])], [])
def yx218 : yCx := ([ys154, ys217], ys218.2.2.2.2, yFP, zm282.2.2.1, zm282.2.2.2.1, zc282, 0, ys218.2.2.2.1, [], [])
theorem yw218 : ywf ys218.2.2.1 = true := by decide +kernel
theorem yk218 : yver yx218 ys218.2.2.1 4000 = true := by decide +kernel
theorem yt218 {E : zHp → Prop} (h : yEF E yFP) : yTs E 4 ys218 := yver_s (x := yx218) h (yal_c (yt154 h) (by decide) yw154 (yal_c (yt217 h) (by decide) yw217 (yal_n))) yg282 yk218
def ys219 : ySp := (293, 3, (0, [], [], [], [(0, (0, yc 16, yc 0)), (1, (0, yc 66, yc 0)), (2, (7, yc 0, yc 0))], []), [(0, [], [], [], [], [(0, yc 16, yc 0)])], [])
def yx219 : yCx := ([], ys219.2.2.2.2, yFP, zm293.2.2.1, zm293.2.2.2.1, zc293, 0, ys219.2.2.2.1, [], [])
theorem yw219 : ywf ys219.2.2.1 = true := by decide +kernel
theorem yk219 : yver yx219 ys219.2.2.1 4000 = true := by decide +kernel
theorem yt219 {E : zHp → Prop} (h : yEF E yFP) : yTs E 1 ys219 := yver_s (x := yx219) h (yal_n) yg293 yk219
def ys220 : ySp := (285, 2, (0, [], [], [], [(0, (0, yc 16, yc 0)), (1, (0, yc 66, yc 0))], []), [(0, [], [], [], [], [])], [])
def yx220 : yCx := ([ys219], ys220.2.2.2.2, yFP, zm285.2.2.1, zm285.2.2.2.1, zc285, 0, ys220.2.2.2.1, [], [])
theorem yw220 : ywf ys220.2.2.1 = true := by decide +kernel
theorem yk220 : yver yx220 ys220.2.2.1 4000 = true := by decide +kernel
theorem yt220 {E : zHp → Prop} (h : yEF E yFP) : yTs E 2 ys220 := yver_s (x := yx220) h (yal_c (yt219 h) (by decide) yw219 (yal_n)) yg285 yk220
def ys221 : ySp := (286, 2, (0, [], [], [], [(0, (2, yc 1023, yc 0)), (1, (0, yc 16, yc 0))], []), [(0, [], [], [], [], [(0, yc 104, yc 0)])], [])
def yx221 : yCx := ([ys220], ys221.2.2.2.2, yFP, zm286.2.2.1, zm286.2.2.2.1, zc286, 0, ys221.2.2.2.1, [], [])
theorem yw221 : ywf ys221.2.2.1 = true := by decide +kernel
theorem yk221 : yver yx221 ys221.2.2.1 4000 = true := by decide +kernel
theorem yt221 {E : zHp → Prop} (h : yEF E yFP) : yTs E 3 ys221 := yver_s (x := yx221) h (yal_c (yt220 h) (by decide) yw220 (yal_n)) yg286 yk221
def ys222 : ySp := (282, 2, (0, [], [], [], [(0, (2, yc 1004, yc 0)), (1, (0, yc 16, yc 0))], []), [(0, [], [], [], [], [(0, yc 104, yc 0)])], [])
def yx222 : yCx := ([ys154, ys221], ys222.2.2.2.2, yFP, zm282.2.2.1, zm282.2.2.2.1, zc282, 0, ys222.2.2.2.1, [], [])
theorem yw222 : ywf ys222.2.2.1 = true := by decide +kernel
theorem yk222 : yver yx222 ys222.2.2.1 4000 = true := by decide +kernel
theorem yt222 {E : zHp → Prop} (h : yEF E yFP) : yTs E 4 ys222 := yver_s (x := yx222) h (yal_c (yt154 h) (by decide) yw154 (yal_c (yt221 h) (by decide) yw221 (yal_n))) yg282 yk222
def ys223 : ySp := (293, 3, (0, [], [], [], [(0, (0, yc 17, yc 0)), (1, (0, yc 66, yc 0)), (2, (7, yc 0, yc 0))], []), [(0, [], [], [], [], [(0, yc 17, yc 0)])], [])
def yx223 : yCx := ([], ys223.2.2.2.2, yFP, zm293.2.2.1, zm293.2.2.2.1, zc293, 0, ys223.2.2.2.1, [], [])
theorem yw223 : ywf ys223.2.2.1 = true := by decide +kernel
theorem yk223 : yver yx223 ys223.2.2.1 4000 = true := by decide +kernel
theorem yt223 {E : zHp → Prop} (h : yEF E yFP) : yTs E 1 ys223 := yver_s (x := yx223) h (yal_n) yg293 yk223
def ys224 : ySp := (285, 2, (0, [], [], [], [(0, (0, yc 17, yc 0)), (1, (0, yc 66, yc 0))], []), [(0, [], [], [], [], [])], [])
def yx224 : yCx := ([ys223], ys224.2.2.2.2, yFP, zm285.2.2.1, zm285.2.2.2.1, zc285, 0, ys224.2.2.2.1, [], [])
theorem yw224 : ywf ys224.2.2.1 = true := by decide +kernel
theorem yk224 : yver yx224 ys224.2.2.1 4000 = true := by decide +kernel
theorem yt224 {E : zHp → Prop} (h : yEF E yFP) : yTs E 2 ys224 := yver_s (x := yx224) h (yal_c (yt223 h) (by decide) yw223 (yal_n)) yg285 yk224
def ys225 : ySp := (286, 2, (0, [], [], [], [(0, (2, yc 1023, yc 0)), (1, (0, yc 17, yc 0))], []), [(0, [], [], [], [], [(0, yc 111, yc 0)])], [])
def yx225 : yCx := ([ys224], ys225.2.2.2.2, yFP, zm286.2.2.1, zm286.2.2.2.1, zc286, 0, ys225.2.2.2.1, [], [])
theorem yw225 : ywf ys225.2.2.1 = true := by decide +kernel
theorem yk225 : yver yx225 ys225.2.2.1 4000 = true := by decide +kernel
theorem yt225 {E : zHp → Prop} (h : yEF E yFP) : yTs E 3 ys225 := yver_s (x := yx225) h (yal_c (yt224 h) (by decide) yw224 (yal_n)) yg286 yk225
def ys226 : ySp := (282, 2, (0, [], [], [], [(0, (2, yc 1004, yc 0)), (1, (0, yc 17, yc 0))], []), [(0, [], [], [], [], [(0, yc 111, yc 0)])], [])
def yx226 : yCx := ([ys154, ys225], ys226.2.2.2.2, yFP, zm282.2.2.1, zm282.2.2.2.1, zc282, 0, ys226.2.2.2.1, [], [])
theorem yw226 : ywf ys226.2.2.1 = true := by decide +kernel
theorem yk226 : yver yx226 ys226.2.2.1 4000 = true := by decide +kernel
theorem yt226 {E : zHp → Prop} (h : yEF E yFP) : yTs E 4 ys226 := yver_s (x := yx226) h (yal_c (yt154 h) (by decide) yw154 (yal_c (yt225 h) (by decide) yw225 (yal_n))) yg282 yk226
def ys227 : ySp := (293, 3, (0, [], [], [], [(0, (0, yc 18, yc 0)), (1, (0, yc 66, yc 0)), (2, (7, yc 0, yc 0))], []), [(0, [], [], [], [], [(0, yc 18, yc 0)])], [])
def yx227 : yCx := ([], ys227.2.2.2.2, yFP, zm293.2.2.1, zm293.2.2.2.1, zc293, 0, ys227.2.2.2.1, [], [])
theorem yw227 : ywf ys227.2.2.1 = true := by decide +kernel
theorem yk227 : yver yx227 ys227.2.2.1 4000 = true := by decide +kernel
theorem yt227 {E : zHp → Prop} (h : yEF E yFP) : yTs E 1 ys227 := yver_s (x := yx227) h (yal_n) yg293 yk227
def ys228 : ySp := (285, 2, (0, [], [], [], [(0, (0, yc 18, yc 0)), (1, (0, yc 66, yc 0))], []), [(0, [], [], [], [], [])], [])
def yx228 : yCx := ([ys227], ys228.2.2.2.2, yFP, zm285.2.2.1, zm285.2.2.2.1, zc285, 0, ys228.2.2.2.1, [], [])
theorem yw228 : ywf ys228.2.2.1 = true := by decide +kernel
theorem yk228 : yver yx228 ys228.2.2.1 4000 = true := by decide +kernel
theorem yt228 {E : zHp → Prop} (h : yEF E yFP) : yTs E 2 ys228 := yver_s (x := yx228) h (yal_c (yt227 h) (by decide) yw227 (yal_n)) yg285 yk228
def ys229 : ySp := (286, 2, (0, [], [], [], [(0, (2, yc 1023, yc 0)), (1, (0, yc 18, yc 0))], []), [(0, [], [], [], [], [(0, yc 108, yc 0)])], [])
def yx229 : yCx := ([ys228], ys229.2.2.2.2, yFP, zm286.2.2.1, zm286.2.2.2.1, zc286, 0, ys229.2.2.2.1, [], [])
theorem yw229 : ywf ys229.2.2.1 = true := by decide +kernel
theorem yk229 : yver yx229 ys229.2.2.1 4000 = true := by decide +kernel
theorem yt229 {E : zHp → Prop} (h : yEF E yFP) : yTs E 3 ys229 := yver_s (x := yx229) h (yal_c (yt228 h) (by decide) yw228 (yal_n)) yg286 yk229
def ys230 : ySp := (282, 2, (0, [], [], [], [(0, (2, yc 1004, yc 0)), (1, (0, yc 18, yc 0))], []), [(0, [], [], [], [], [(0, yc 108, yc 0)])], [])
def yx230 : yCx := ([ys154, ys229], ys230.2.2.2.2, yFP, zm282.2.2.1, zm282.2.2.2.1, zc282, 0, ys230.2.2.2.1, [], [])
theorem yw230 : ywf ys230.2.2.1 = true := by decide +kernel
theorem yk230 : yver yx230 ys230.2.2.1 4000 = true := by decide +kernel
theorem yt230 {E : zHp → Prop} (h : yEF E yFP) : yTs E 4 ys230 := yver_s (x := yx230) h (yal_c (yt154 h) (by decide) yw154 (yal_c (yt229 h) (by decide) yw229 (yal_n))) yg282 yk230
def ys231 : ySp := (293, 3, (0, [], [], [], [(0, (0, yc 19, yc 0)), (1, (0, yc 66, yc 0)), (2, (7, yc 0, yc 0))], []), [(0, [], [], [], [], [(0, yc 19, yc 0)])], [])
def yx231 : yCx := ([], ys231.2.2.2.2, yFP, zm293.2.2.1, zm293.2.2.2.1, zc293, 0, ys231.2.2.2.1, [], [])
theorem yw231 : ywf ys231.2.2.1 = true := by decide +kernel
theorem yk231 : yver yx231 ys231.2.2.1 4000 = true := by decide +kernel
theorem yt231 {E : zHp → Prop} (h : yEF E yFP) : yTs E 1 ys231 := yver_s (x := yx231) h (yal_n) yg293 yk231
def ys232 : ySp := (285, 2, (0, [], [], [], [(0, (0, yc 19, yc 0)), (1, (0, yc 66, yc 0))], []), [(0, [], [], [], [], [])], [])
def yx232 : yCx := ([ys231], ys232.2.2.2.2, yFP, zm285.2.2.1, zm285.2.2.2.1, zc285, 0, ys232.2.2.2.1, [], [])
theorem yw232 : ywf ys232.2.2.1 = true := by decide +kernel
theorem yk232 : yver yx232 ys232.2.2.1 4000 = true := by decide +kernel
theorem yt232 {E : zHp → Prop} (h : yEF E yFP) : yTs E 2 ys232 := yver_s (x := yx232) h (yal_c (yt231 h) (by decide) yw231 (yal_n)) yg285 yk232
def ys233 : ySp := (286, 2, (0, [], [], [], [(0, (2, yc 1023, yc 0)), (1, (0, yc 19, yc 0))], []), [(0, [], [], [], [], [(0, yc 100, yc 0)])], [])
def yx233 : yCx := ([ys232], ys233.2.2.2.2, yFP, zm286.2.2.1, zm286.2.2.2.1, zc286, 0, ys233.2.2.2.1, [], [])
theorem yw233 : ywf ys233.2.2.1 = true := by decide +kernel
theorem yk233 : yver yx233 ys233.2.2.1 4000 = true := by decide +kernel
theorem yt233 {E : zHp → Prop} (h : yEF E yFP) : yTs E 3 ys233 := yver_s (x := yx233) h (yal_c (yt232 h) (by decide) yw232 (yal_n)) yg286 yk233
def ys234 : ySp := (282, 2, (0, [], [], [], [(0, (2, yc 1004, yc 0)), (1, (0, yc 19, yc 0))], []), [(0, [], [], [], [], [(0, yc 100, yc 0)])], [])
def yx234 : yCx := ([ys154, ys233], ys234.2.2.2.2, yFP, zm282.2.2.1, zm282.2.2.2.1, zc282, 0, ys234.2.2.2.1, [], [])
theorem yw234 : ywf ys234.2.2.1 = true := by decide +kernel
theorem yk234 : yver yx234 ys234.2.2.1 4000 = true := by decide +kernel
theorem yt234 {E : zHp → Prop} (h : yEF E yFP) : yTs E 4 ys234 := yver_s (x := yx234) h (yal_c (yt154 h) (by decide) yw154 (yal_c (yt233 h) (by decide) yw233 (yal_n))) yg282 yk234
def ys235 : ySp := (293, 3, (0, [], [], [], [(0, (0, yc 20, yc 0)), (1, (0, yc 66, yc 0)), (2, (7, yc 0, yc 0))], []), [(0, [], [], [], [], [(0, yc 20, yc 0)])], [])
def yx235 : yCx := ([], ys235.2.2.2.2, yFP, zm293.2.2.1, zm293.2.2.2.1, zc293, 0, ys235.2.2.2.1, [], [])
theorem yw235 : ywf ys235.2.2.1 = true := by decide +kernel
theorem yk235 : yver yx235 ys235.2.2.1 4000 = true := by decide +kernel
theorem yt235 {E : zHp → Prop} (h : yEF E yFP) : yTs E 1 ys235 := yver_s (x := yx235) h (yal_n) yg293 yk235
def ys236 : ySp := (285, 2, (0, [], [], [], [(0, (0, yc 20, yc 0)), (1, (0, yc 66, yc 0))], []), [(0, [], [], [], [], [])], [])
def yx236 : yCx := ([ys235], ys236.2.2.2.2, yFP, zm285.2.2.1, zm285.2.2.2.1, zc285, 0, ys236.2.2.2.1, [], [])
theorem yw236 : ywf ys236.2.2.1 = true := by decide +kernel
theorem yk236 : yver yx236 ys236.2.2.1 4000 = true := by decide +kernel
theorem yt236 {E : zHp → Prop} (h : yEF E yFP) : yTs E 2 ys236 := yver_s (x := yx236) h (yal_c (yt235 h) (by decide) yw235 (yal_n)) yg285 yk236
def ys237 : ySp := (286, 2, (0, [], [], [], [(0, (2, yc 1023, yc 0)), (1, (0, yc 20, yc 0))], []), [(0, [], [], [], [], [(0, yc 101, yc 0)])], [])
def yx237 : yCx := ([ys236], ys237.2.2.2.2, yFP, zm286.2.2.1, zm286.2.2.2.1, zc286, 0, ys237.2.2.2.1, [], [])
theorem yw237 : ywf ys237.2.2.1 = true := by decide +kernel
theorem yk237 : yver yx237 ys237.2.2.1 4000 = true := by decide +kernel
theorem yt237 {E : zHp → Prop} (h : yEF E yFP) : yTs E 3 ys237 := yver_s (x := yx237) h (yal_c (yt236 h) (by decide) yw236 (yal_n)) yg286 yk237
def ys238 : ySp := (282, 2, (0, [], [], [], [(0, (2, yc 1004, yc 0)), (1, (0, yc 20, yc 0))], []), [(0, [], [], [], [], [(0, yc 101, yc 0)])], [])
def yx238 : yCx := ([ys154, ys237], ys238.2.2.2.2, yFP, zm282.2.2.1, zm282.2.2.2.1, zc282, 0, ys238.2.2.2.1, [], [])
theorem yw238 : ywf ys238.2.2.1 = true := by decide +kernel
theorem yk238 : yver yx238 ys238.2.2.1 4000 = true := by decide +kernel
theorem yt238 {E : zHp → Prop} (h : yEF E yFP) : yTs E 4 ys238 := yver_s (x := yx238) h (yal_c (yt154 h) (by decide) yw154 (yal_c (yt237 h) (by decide) yw237 (yal_n))) yg282 yk238
def ys239 : ySp := (293, 3, (0, [], [], [], [(0, (0, yc 21, yc 0)), (1, (0, yc 66, yc 0)), (2, (7, yc 0, yc 0))], []), [(0, [], [], [], [], [(0, yc 21, yc 0)])], [])
def yx239 : yCx := ([], ys239.2.2.2.2, yFP, zm293.2.2.1, zm293.2.2.2.1, zc293, 0, ys239.2.2.2.1, [], [])
theorem yw239 : ywf ys239.2.2.1 = true := by decide +kernel
theorem yk239 : yver yx239 ys239.2.2.1 4000 = true := by decide +kernel
theorem yt239 {E : zHp → Prop} (h : yEF E yFP) : yTs E 1 ys239 := yver_s (x := yx239) h (yal_n) yg293 yk239
def ys240 : ySp := (285, 2, (0, [], [], [], [(0, (0, yc 21, yc 0)), (1, (0, yc 66, yc 0))], []), [(0, [], [], [], [], [])], [])
def yx240 : yCx := ([ys239], ys240.2.2.2.2, yFP, zm285.2.2.1, zm285.2.2.2.1, zc285, 0, ys240.2.2.2.1, [], [])
theorem yw240 : ywf ys240.2.2.1 = true := by decide +kernel
theorem yk240 : yver yx240 ys240.2.2.1 4000 = true := by decide +kernel
theorem yt240 {E : zHp → Prop} (h : yEF E yFP) : yTs E 2 ys240 := yver_s (x := yx240) h (yal_c (yt239 h) (by decide) yw239 (yal_n)) yg285 yk240
def ys241 : ySp := (286, 2, (0, [], [], [], [(0, (2, yc 1023, yc 0)), (1, (0, yc 21, yc 0))], []), [(0, [], [], [], [], [(0, yc 114, yc 0)])], [])
def yx241 : yCx := ([ys240], ys241.2.2.2.2, yFP, zm286.2.2.1, zm286.2.2.2.1, zc286, 0, ys241.2.2.2.1, [], [])
theorem yw241 : ywf ys241.2.2.1 = true := by decide +kernel
theorem yk241 : yver yx241 ys241.2.2.1 4000 = true := by decide +kernel
theorem yt241 {E : zHp → Prop} (h : yEF E yFP) : yTs E 3 ys241 := yver_s (x := yx241) h (yal_c (yt240 h) (by decide) yw240 (yal_n)) yg286 yk241
def ys242 : ySp := (282, 2, (0, [], [], [], [(0, (2, yc 1004, yc 0)), (1, (0, yc 21, yc 0))], []), [(0, [], [], [], [], [(0, yc 114, yc 0)])], [])
def yx242 : yCx := ([ys154, ys241], ys242.2.2.2.2, yFP, zm282.2.2.1, zm282.2.2.2.1, zc282, 0, ys242.2.2.2.1, [], [])
theorem yw242 : ywf ys242.2.2.1 = true := by decide +kernel
theorem yk242 : yver yx242 ys242.2.2.1 4000 = true := by decide +kernel
theorem yt242 {E : zHp → Prop} (h : yEF E yFP) : yTs E 4 ys242 := yver_s (x := yx242) h (yal_c (yt154 h) (by decide) yw154 (yal_c (yt241 h) (by decide) yw241 (yal_n))) yg282 yk242
def ys243 : ySp := (293, 3, (0, [], [], [], [(0, (0, yc 22, yc 0)), (1, (0, yc 66, yc 0)), (2, (7, yc 0, yc 0))], []), [(0, [], [], [], [], [(0, yc 22, yc 0)])], [])
def yx243 : yCx := ([], ys243.2.2.2.2, yFP, zm293.2.2.1, zm293.2.2.2.1, zc293, 0, ys243.2.2.2.1, [], [])
theorem yw243 : ywf ys243.2.2.1 = true := by decide +kernel
theorem yk243 : yver yx243 ys243.2.2.1 4000 = true := by decide +kernel
theorem yt243 {E : zHp → Prop} (h : yEF E yFP) : yTs E 1 ys243 := yver_s (x := yx243) h (yal_n) yg293 yk243
def ys244 : ySp := (285, 2, (0, [], [], [], [(0, (0, yc 22, yc 0)), (1, (0, yc 66, yc 0))], []), [(0, [], [], [], [], [])], [])
def yx244 : yCx := ([ys243], ys244.2.2.2.2, yFP, zm285.2.2.1, zm285.2.2.2.1, zc285, 0, ys244.2.2.2.1, [], [])
theorem yw244 : ywf ys244.2.2.1 = true := by decide +kernel
theorem yk244 : yver yx244 ys244.2.2.1 4000 = true := by decide +kernel
theorem yt244 {E : zHp → Prop} (h : yEF E yFP) : yTs E 2 ys244 := yver_s (x := yx244) h (yal_c (yt243 h) (by decide) yw243 (yal_n)) yg285 yk244
def ys245 : ySp := (286, 2, (0, [], [], [], [(0, (2, yc 1023, yc 0)), (1, (0, yc 22, yc 0))], []), [(0, [], [], [], [], [(0, yc 32, yc 0)])], [])
def yx245 : yCx := ([ys244], ys245.2.2.2.2, yFP, zm286.2.2.1, zm286.2.2.2.1, zc286, 0, ys245.2.2.2.1, [], [])
theorem yw245 : ywf ys245.2.2.1 = true := by decide +kernel
theorem yk245 : yver yx245 ys245.2.2.1 4000 = true := by decide +kernel
theorem yt245 {E : zHp → Prop} (h : yEF E yFP) : yTs E 3 ys245 := yver_s (x := yx245) h (yal_c (yt244 h) (by decide) yw244 (yal_n)) yg286 yk245
def ys246 : ySp := (282, 2, (0, [], [], [], [(0, (2, yc 1004, yc 0)), (1, (0, yc 22, yc 0))], []), [(0, [], [], [], [], [(0, yc 32, yc 0)])], [])
def yx246 : yCx := ([ys154, ys245], ys246.2.2.2.2, yFP, zm282.2.2.1, zm282.2.2.2.1, zc282, 0, ys246.2.2.2.1, [], [])
theorem yw246 : ywf ys246.2.2.1 = true := by decide +kernel
theorem yk246 : yver yx246 ys246.2.2.1 4000 = true := by decide +kernel
theorem yt246 {E : zHp → Prop} (h : yEF E yFP) : yTs E 4 ys246 := yver_s (x := yx246) h (yal_c (yt154 h) (by decide) yw154 (yal_c (yt245 h) (by decide) yw245 (yal_n))) yg282 yk246
def ys247 : ySp := (293, 3, (0, [], [], [], [(0, (0, yc 23, yc 0)), (1, (0, yc 66, yc 0)), (2, (7, yc 0, yc 0))], []), [(0, [], [], [], [], [(0, yc 23, yc 0)])], [])
def yx247 : yCx := ([], ys247.2.2.2.2, yFP, zm293.2.2.1, zm293.2.2.2.1, zc293, 0, ys247.2.2.2.1, [], [])
theorem yw247 : ywf ys247.2.2.1 = true := by decide +kernel
theorem yk247 : yver yx247 ys247.2.2.1 4000 = true := by decide +kernel
theorem yt247 {E : zHp → Prop} (h : yEF E yFP) : yTs E 1 ys247 := yver_s (x := yx247) h (yal_n) yg293 yk247
def ys248 : ySp := (285, 2, (0, [], [], [], [(0, (0, yc 23, yc 0)), (1, (0, yc 66, yc 0))], []), [(0, [], [], [], [], [])], [])
def yx248 : yCx := ([ys247], ys248.2.2.2.2, yFP, zm285.2.2.1, zm285.2.2.2.1, zc285, 0, ys248.2.2.2.1, [], [])
theorem yw248 : ywf ys248.2.2.1 = true := by decide +kernel
theorem yk248 : yver yx248 ys248.2.2.1 4000 = true := by decide +kernel
theorem yt248 {E : zHp → Prop} (h : yEF E yFP) : yTs E 2 ys248 := yver_s (x := yx248) h (yal_c (yt247 h) (by decide) yw247 (yal_n)) yg285 yk248
def ys249 : ySp := (286, 2, (0, [], [], [], [(0, (2, yc 1023, yc 0)), (1, (0, yc 23, yc 0))], []), [(0, [], [], [], [], [(0, yc 116, yc 0)])], [])
def yx249 : yCx := ([ys248], ys249.2.2.2.2, yFP, zm286.2.2.1, zm286.2.2.2.1, zc286, 0, ys249.2.2.2.1, [], [])
theorem yw249 : ywf ys249.2.2.1 = true := by decide +kernel
theorem yk249 : yver yx249 ys249.2.2.1 4000 = true := by decide +kernel
theorem yt249 {E : zHp → Prop} (h : yEF E yFP) : yTs E 3 ys249 := yver_s (x := yx249) h (yal_c (yt248 h) (by decide) yw248 (yal_n)) yg286 yk249
def ys250 : ySp := (282, 2, (0, [], [], [], [(0, (2, yc 1004, yc 0)), (1, (0, yc 23, yc 0))], []), [(0, [], [], [], [], [(0, yc 116, yc 0)])], [])
def yx250 : yCx := ([ys154, ys249], ys250.2.2.2.2, yFP, zm282.2.2.1, zm282.2.2.2.1, zc282, 0, ys250.2.2.2.1, [], [])
theorem yw250 : ywf ys250.2.2.1 = true := by decide +kernel
theorem yk250 : yver yx250 ys250.2.2.1 4000 = true := by decide +kernel
theorem yt250 {E : zHp → Prop} (h : yEF E yFP) : yTs E 4 ys250 := yver_s (x := yx250) h (yal_c (yt154 h) (by decide) yw154 (yal_c (yt249 h) (by decide) yw249 (yal_n))) yg282 yk250
def ys251 : ySp := (293, 3, (0, [], [], [], [(0, (0, yc 24, yc 0)), (1, (0, yc 66, yc 0)), (2, (7, yc 0, yc 0))], []), [(0, [], [], [], [], [(0, yc 24, yc 0)])], [])
def yx251 : yCx := ([], ys251.2.2.2.2, yFP, zm293.2.2.1, zm293.2.2.2.1, zc293, 0, ys251.2.2.2.1, [], [])
theorem yw251 : ywf ys251.2.2.1 = true := by decide +kernel
theorem yk251 : yver yx251 ys251.2.2.1 4000 = true := by decide +kernel
theorem yt251 {E : zHp → Prop} (h : yEF E yFP) : yTs E 1 ys251 := yver_s (x := yx251) h (yal_n) yg293 yk251
def ys252 : ySp := (285, 2, (0, [], [], [], [(0, (0, yc 24, yc 0)), (1, (0, yc 66, yc 0))], []), [(0, [], [], [], [], [])], [])
def yx252 : yCx := ([ys251], ys252.2.2.2.2, yFP, zm285.2.2.1, zm285.2.2.2.1, zc285, 0, ys252.2.2.2.1, [], [])
theorem yw252 : ywf ys252.2.2.1 = true := by decide +kernel
theorem yk252 : yver yx252 ys252.2.2.1 4000 = true := by decide +kernel
theorem yt252 {E : zHp → Prop} (h : yEF E yFP) : yTs E 2 ys252 := yver_s (x := yx252) h (yal_c (yt251 h) (by decide) yw251 (yal_n)) yg285 yk252
def ys253 : ySp := (286, 2, (0, [], [], [], [(0, (2, yc 1023, yc 0)), (1, (0, yc 24, yc 0))], []), [(0, [], [], [], [], [(0, yc 111, yc 0)])], [])
def yx253 : yCx := ([ys252], ys253.2.2.2.2, yFP, zm286.2.2.1, zm286.2.2.2.1, zc286, 0, ys253.2.2.2.1, [], [])
theorem yw253 : ywf ys253.2.2.1 = true := by decide +kernel
theorem yk253 : yver yx253 ys253.2.2.1 4000 = true := by decide +kernel
theorem yt253 {E : zHp → Prop} (h : yEF E yFP) : yTs E 3 ys253 := yver_s (x := yx253) h (yal_c (yt252 h) (by decide) yw252 (yal_n)) yg286 yk253
def ys254 : ySp := (282, 2, (0, [], [], [], [(0, (2, yc 1004, yc 0)), (1, (0, yc 24, yc 0))], []), [(0, [], [], [], [], [(0, yc 111, yc 0)])], [])
def yx254 : yCx := ([ys154, ys253], ys254.2.2.2.2, yFP, zm282.2.2.1, zm282.2.2.2.1, zc282, 0, ys254.2.2.2.1, [], [])
theorem yw254 : ywf ys254.2.2.1 = true := by decide +kernel
theorem yk254 : yver yx254 ys254.2.2.1 4000 = true := by decide +kernel
theorem yt254 {E : zHp → Prop} (h : yEF E yFP) : yTs E 4 ys254 := yver_s (x := yx254) h (yal_c (yt154 h) (by decide) yw154 (yal_c (yt253 h) (by decide) yw253 (yal_n))) yg282 yk254
def ys255 : ySp := (293, 3, (0, [], [], [], [(0, (0, yc 25, yc 0)), (1, (0, yc 66, yc 0)), (2, (7, yc 0, yc 0))], []), [(0, [], [], [], [], [(0, yc 25, yc 0)])], [])
def yx255 : yCx := ([], ys255.2.2.2.2, yFP, zm293.2.2.1, zm293.2.2.2.1, zc293, 0, ys255.2.2.2.1, [], [])
theorem yw255 : ywf ys255.2.2.1 = true := by decide +kernel
theorem yk255 : yver yx255 ys255.2.2.1 4000 = true := by decide +kernel
theorem yt255 {E : zHp → Prop} (h : yEF E yFP) : yTs E 1 ys255 := yver_s (x := yx255) h (yal_n) yg293 yk255
def ys256 : ySp := (285, 2, (0, [], [], [], [(0, (0, yc 25, yc 0)), (1, (0, yc 66, yc 0))], []), [(0, [], [], [], [], [])], [])
def yx256 : yCx := ([ys255], ys256.2.2.2.2, yFP, zm285.2.2.1, zm285.2.2.2.1, zc285, 0, ys256.2.2.2.1, [], [])
theorem yw256 : ywf ys256.2.2.1 = true := by decide +kernel
theorem yk256 : yver yx256 ys256.2.2.1 4000 = true := by decide +kernel
theorem yt256 {E : zHp → Prop} (h : yEF E yFP) : yTs E 2 ys256 := yver_s (x := yx256) h (yal_c (yt255 h) (by decide) yw255 (yal_n)) yg285 yk256
def ys257 : ySp := (286, 2, (0, [], [], [], [(0, (2, yc 1023, yc 0)), (1, (0, yc 25, yc 0))], []), [(0, [], [], [], [], [(0, yc 32, yc 0)])], [])
def yx257 : yCx := ([ys256], ys257.2.2.2.2, yFP, zm286.2.2.1, zm286.2.2.2.1, zc286, 0, ys257.2.2.2.1, [], [])
theorem yw257 : ywf ys257.2.2.1 = true := by decide +kernel
theorem yk257 : yver yx257 ys257.2.2.1 4000 = true := by decide +kernel
theorem yt257 {E : zHp → Prop} (h : yEF E yFP) : yTs E 3 ys257 := yver_s (x := yx257) h (yal_c (yt256 h) (by decide) yw256 (yal_n)) yg286 yk257
def ys258 : ySp := (282, 2, (0, [], [], [], [(0, (2, yc 1004, yc 0)), (1, (0, yc 25, yc 0))], []), [(0, [], [], [], [], [(0, yc 32, yc 0)])], [])
def yx258 : yCx := ([ys154, ys257], ys258.2.2.2.2, yFP, zm282.2.2.1, zm282.2.2.2.1, zc282, 0, ys258.2.2.2.1, [], [])
theorem yw258 : ywf ys258.2.2.1 = true := by decide +kernel
theorem yk258 : yver yx258 ys258.2.2.1 4000 = true := by decide +kernel
theorem yt258 {E : zHp → Prop} (h : yEF E yFP) : yTs E 4 ys258 := yver_s (x := yx258) h (yal_c (yt154 h) (by decide) yw154 (yal_c (yt257 h) (by decide) yw257 (yal_n))) yg282 yk258
def ys259 : ySp := (293, 3, (0, [], [], [], [(0, (0, yc 26, yc 0)), (1, (0, yc 66, yc 0)), (2, (7, yc 0, yc 0))], []), [(0, [], [], [], [], [(0, yc 26, yc 0)])], [])
def yx259 : yCx := ([], ys259.2.2.2.2, yFP, zm293.2.2.1, zm293.2.2.2.1, zc293, 0, ys259.2.2.2.1, [], [])
theorem yw259 : ywf ys259.2.2.1 = true := by decide +kernel
theorem yk259 : yver yx259 ys259.2.2.1 4000 = true := by decide +kernel
theorem yt259 {E : zHp → Prop} (h : yEF E yFP) : yTs E 1 ys259 := yver_s (x := yx259) h (yal_n) yg293 yk259
def ys260 : ySp := (285, 2, (0, [], [], [], [(0, (0, yc 26, yc 0)), (1, (0, yc 66, yc 0))], []), [(0, [], [], [], [], [])], [])
def yx260 : yCx := ([ys259], ys260.2.2.2.2, yFP, zm285.2.2.1, zm285.2.2.2.1, zc285, 0, ys260.2.2.2.1, [], [])
theorem yw260 : ywf ys260.2.2.1 = true := by decide +kernel
theorem yk260 : yver yx260 ys260.2.2.1 4000 = true := by decide +kernel
theorem yt260 {E : zHp → Prop} (h : yEF E yFP) : yTs E 2 ys260 := yver_s (x := yx260) h (yal_c (yt259 h) (by decide) yw259 (yal_n)) yg285 yk260
def ys261 : ySp := (286, 2, (0, [], [], [], [(0, (2, yc 1023, yc 0)), (1, (0, yc 26, yc 0))], []), [(0, [], [], [], [], [(0, yc 108, yc 0)])], [])
def yx261 : yCx := ([ys260], ys261.2.2.2.2, yFP, zm286.2.2.1, zm286.2.2.2.1, zc286, 0, ys261.2.2.2.1, [], [])
theorem yw261 : ywf ys261.2.2.1 = true := by decide +kernel
theorem yk261 : yver yx261 ys261.2.2.1 4000 = true := by decide +kernel
theorem yt261 {E : zHp → Prop} (h : yEF E yFP) : yTs E 3 ys261 := yver_s (x := yx261) h (yal_c (yt260 h) (by decide) yw260 (yal_n)) yg286 yk261
def ys262 : ySp := (282, 2, (0, [], [], [], [(0, (2, yc 1004, yc 0)), (1, (0, yc 26, yc 0))], []), [(0, [], [], [], [], [(0, yc 108, yc 0)])], [])
def yx262 : yCx := ([ys154, ys261], ys262.2.2.2.2, yFP, zm282.2.2.1, zm282.2.2.2.1, zc282, 0, ys262.2.2.2.1, [], [])
theorem yw262 : ywf ys262.2.2.1 = true := by decide +kernel
theorem yk262 : yver yx262 ys262.2.2.1 4000 = true := by decide +kernel
theorem yt262 {E : zHp → Prop} (h : yEF E yFP) : yTs E 4 ys262 := yver_s (x := yx262) h (yal_c (yt154 h) (by decide) yw154 (yal_c (yt261 h) (by decide) yw261 (yal_n))) yg282 yk262
def ys263 : ySp := (293, 3, (0, [], [], [], [(0, (0, yc 27, yc 0)), (1, (0, yc 66, yc 0)), (2, (7, yc 0, yc 0))], []), [(0, [], [], [], [], [(0, yc 27, yc 0)])], [])
def yx263 : yCx := ([], ys263.2.2.2.2, yFP, zm293.2.2.1, zm293.2.2.2.1, zc293, 0, ys263.2.2.2.1, [], [])
theorem yw263 : ywf ys263.2.2.1 = true := by decide +kernel
theorem yk263 : yver yx263 ys263.2.2.1 4000 = true := by decide +kernel
theorem yt263 {E : zHp → Prop} (h : yEF E yFP) : yTs E 1 ys263 := yver_s (x := yx263) h (yal_n) yg293 yk263
def ys264 : ySp := (285, 2, (0, [], [], [], [(0, (0, yc 27, yc 0)), (1, (0, yc 66, yc 0))], []), [(0, [], [], [], [], [])], [])
def yx264 : yCx := ([ys263], ys264.2.2.2.2, yFP, zm285.2.2.1, zm285.2.2.2.1, zc285, 0, ys264.2.2.2.1, [], [])
theorem yw264 : ywf ys264.2.2.1 = true := by decide +kernel
theorem yk264 : yver yx264 ys264.2.2.1 4000 = true := by decide +kernel
theorem yt264 {E : zHp → Prop} (h : yEF E yFP) : yTs E 2 ys264 := yver_s (x := yx264) h (yal_c (yt263 h) (by decide) yw263 (yal_n)) yg285 yk264
def ys265 : ySp := (286, 2, (0, [], [], [], [(0, (2, yc 1023, yc 0)), (1, (0, yc 27, yc 0))], []), [(0, [], [], [], [], [(0, yc 101, yc 0)])], [])
def yx265 : yCx := ([ys264], ys265.2.2.2.2, yFP, zm286.2.2.1, zm286.2.2.2.1, zc286, 0, ys265.2.2.2.1, [], [])
theorem yw265 : ywf ys265.2.2.1 = true := by decide +kernel
theorem yk265 : yver yx265 ys265.2.2.1 4000 = true := by decide +kernel
theorem yt265 {E : zHp → Prop} (h : yEF E yFP) : yTs E 3 ys265 := yver_s (x := yx265) h (yal_c (yt264 h) (by decide) yw264 (yal_n)) yg286 yk265
def ys266 : ySp := (282, 2, (0, [], [], [], [(0, (2, yc 1004, yc 0)), (1, (0, yc 27, yc 0))], []), [(0, [], [], [], [], [(0, yc 101, yc 0)])], [])
def yx266 : yCx := ([ys154, ys265], ys266.2.2.2.2, yFP, zm282.2.2.1, zm282.2.2.2.1, zc282, 0, ys266.2.2.2.1, [], [])
theorem yw266 : ywf ys266.2.2.1 = true := by decide +kernel
theorem yk266 : yver yx266 ys266.2.2.1 4000 = true := by decide +kernel
theorem yt266 {E : zHp → Prop} (h : yEF E yFP) : yTs E 4 ys266 := yver_s (x := yx266) h (yal_c (yt154 h) (by decide) yw154 (yal_c (yt265 h) (by decide) yw265 (yal_n))) yg282 yk266
def ys267 : ySp := (293, 3, (0, [], [], [], [(0, (0, yc 28, yc 0)), (1, (0, yc 66, yc 0)), (2, (7, yc 0, yc 0))], []), [(0, [], [], [], [], [(0, yc 28, yc 0)])], [])
def yx267 : yCx := ([], ys267.2.2.2.2, yFP, zm293.2.2.1, zm293.2.2.2.1, zc293, 0, ys267.2.2.2.1, [], [])
theorem yw267 : ywf ys267.2.2.1 = true := by decide +kernel
theorem yk267 : yver yx267 ys267.2.2.1 4000 = true := by decide +kernel
theorem yt267 {E : zHp → Prop} (h : yEF E yFP) : yTs E 1 ys267 := yver_s (x := yx267) h (yal_n) yg293 yk267
def ys268 : ySp := (285, 2, (0, [], [], [], [(0, (0, yc 28, yc 0)), (1, (0, yc 66, yc 0))], []), [(0, [], [], [], [], [])], [])
def yx268 : yCx := ([ys267], ys268.2.2.2.2, yFP, zm285.2.2.1, zm285.2.2.2.1, zc285, 0, ys268.2.2.2.1, [], [])
theorem yw268 : ywf ys268.2.2.1 = true := by decide +kernel
theorem yk268 : yver yx268 ys268.2.2.1 4000 = true := by decide +kernel
theorem yt268 {E : zHp → Prop} (h : yEF E yFP) : yTs E 2 ys268 := yver_s (x := yx268) h (yal_c (yt267 h) (by decide) yw267 (yal_n)) yg285 yk268
def ys269 : ySp := (286, 2, (0, [], [], [], [(0, (2, yc 1023, yc 0)), (1, (0, yc 28, yc 0))], []), [(0, [], [], [], [], [(0, yc 110, yc 0)])], [])
def yx269 : yCx := ([ys268], ys269.2.2.2.2, yFP, zm286.2.2.1, zm286.2.2.2.1, zc286, 0, ys269.2.2.2.1, [], [])
theorem yw269 : ywf ys269.2.2.1 = true := by decide +kernel
theorem yk269 : yver yx269 ys269.2.2.1 4000 = true := by decide +kernel
theorem yt269 {E : zHp → Prop} (h : yEF E yFP) : yTs E 3 ys269 := yver_s (x := yx269) h (yal_c (yt268 h) (by decide) yw268 (yal_n)) yg286 yk269
def ys270 : ySp := (282, 2, (0, [], [], [], [(0, (2, yc 1004, yc 0)), (1, (0, yc 28, yc 0))], []), [(0, [], [], [], [], [(0, yc 110, yc 0)])], [])
def yx270 : yCx := ([ys154, ys269], ys270.2.2.2.2, yFP, zm282.2.2.1, zm282.2.2.2.1, zc282, 0, ys270.2.2.2.1, [], [])
theorem yw270 : ywf ys270.2.2.1 = true := by decide +kernel
theorem yk270 : yver yx270 ys270.2.2.1 4000 = true := by decide +kernel
theorem yt270 {E : zHp → Prop} (h : yEF E yFP) : yTs E 4 ys270 := yver_s (x := yx270) h (yal_c (yt154 h) (by decide) yw154 (yal_c (yt269 h) (by decide) yw269 (yal_n))) yg282 yk270
def ys271 : ySp := (293, 3, (0, [], [], [], [(0, (0, yc 29, yc 0)), (1, (0, yc 66, yc 0)), (2, (7, yc 0, yc 0))], []), [(0, [], [], [], [], [(0, yc 29, yc 0)])], [])
def yx271 : yCx := ([], ys271.2.2.2.2, yFP, zm293.2.2.1, zm293.2.2.2.1, zc293, 0, ys271.2.2.2.1, [], [])
theorem yw271 : ywf ys271.2.2.1 = true := by decide +kernel
theorem yk271 : yver yx271 ys271.2.2.1 4000 = true := by decide +kernel
theorem yt271 {E : zHp → Prop} (h : yEF E yFP) : yTs E 1 ys271 := yver_s (x := yx271) h (yal_n) yg293 yk271
def ys272 : ySp := (285, 2, (0, [], [], [], [(0, (0, yc 29, yc 0)), (1, (0, yc 66, yc 0))], []), [(0, [], [], [], [], [])], [])
def yx272 : yCx := ([ys271], ys272.2.2.2.2, yFP, zm285.2.2.1, zm285.2.2.2.1, zc285, 0, ys272.2.2.2.1, [], [])
theorem yw272 : ywf ys272.2.2.1 = true := by decide +kernel
theorem yk272 : yver yx272 ys272.2.2.1 4000 = true := by decide +kernel
theorem yt272 {E : zHp → Prop} (h : yEF E yFP) : yTs E 2 ys272 := yver_s (x := yx272) h (yal_c (yt271 h) (by decide) yw271 (yal_n)) yg285 yk272
def ys273 : ySp := (286, 2, (0, [], [], [], [(0, (2, yc 1023, yc 0)), (1, (0, yc 29, yc 0))], []), [(0, [], [], [], [], [(0, yc 116, yc 0)])], [])
def yx273 : yCx := ([ys272], ys273.2.2.2.2, yFP, zm286.2.2.1, zm286.2.2.2.1, zc286, 0, ys273.2.2.2.1, [], [])
theorem yw273 : ywf ys273.2.2.1 = true := by decide +kernel
theorem yk273 : yver yx273 ys273.2.2.1 4000 = true := by decide +kernel
theorem yt273 {E : zHp → Prop} (h : yEF E yFP) : yTs E 3 ys273 := yver_s (x := yx273) h (yal_c (yt272 h) (by decide) yw272 (yal_n)) yg286 yk273
def ys274 : ySp := (282, 2, (0, [], [], [], [(0, (2, yc 1004, yc 0)), (1, (0, yc 29, yc 0))], []), [(0, [], [], [], [], [(0, yc 116, yc 0)])], [])
def yx274 : yCx := ([ys154, ys273], ys274.2.2.2.2, yFP, zm282.2.2.1, zm282.2.2.2.1, zc282, 0, ys274.2.2.2.1, [], [])
theorem yw274 : ywf ys274.2.2.1 = true := by decide +kernel
theorem yk274 : yver yx274 ys274.2.2.1 4000 = true := by decide +kernel
theorem yt274 {E : zHp → Prop} (h : yEF E yFP) : yTs E 4 ys274 := yver_s (x := yx274) h (yal_c (yt154 h) (by decide) yw154 (yal_c (yt273 h) (by decide) yw273 (yal_n))) yg282 yk274
def ys275 : ySp := (293, 3, (0, [], [], [], [(0, (0, yc 30, yc 0)), (1, (0, yc 66, yc 0)), (2, (7, yc 0, yc 0))], []), [(0, [], [], [], [], [(0, yc 30, yc 0)])], [])
def yx275 : yCx := ([], ys275.2.2.2.2, yFP, zm293.2.2.1, zm293.2.2.2.1, zc293, 0, ys275.2.2.2.1, [], [])
theorem yw275 : ywf ys275.2.2.1 = true := by decide +kernel
theorem yk275 : yver yx275 ys275.2.2.1 4000 = true := by decide +kernel
theorem yt275 {E : zHp → Prop} (h : yEF E yFP) : yTs E 1 ys275 := yver_s (x := yx275) h (yal_n) yg293 yk275
def ys276 : ySp := (285, 2, (0, [], [], [], [(0, (0, yc 30, yc 0)), (1, (0, yc 66, yc 0))], []), [(0, [], [], [], [], [])], [])
def yx276 : yCx := ([ys275], ys276.2.2.2.2, yFP, zm285.2.2.1, zm285.2.2.2.1, zc285, 0, ys276.2.2.2.1, [], [])
theorem yw276 : ywf ys276.2.2.1 = true := by decide +kernel
theorem yk276 : yver yx276 ys276.2.2.1 4000 = true := by decide +kernel
theorem yt276 {E : zHp → Prop} (h : yEF E yFP) : yTs E 2 ys276 := yver_s (x := yx276) h (yal_c (yt275 h) (by decide) yw275 (yal_n)) yg285 yk276
def ys277 : ySp := (286, 2, (0, [], [], [], [(0, (2, yc 1023, yc 0)), (1, (0, yc 30, yc 0))], []), [(0, [], [], [], [], [(0, yc 32, yc 0)])], [])
def yx277 : yCx := ([ys276], ys277.2.2.2.2, yFP, zm286.2.2.1, zm286.2.2.2.1, zc286, 0, ys277.2.2.2.1, [], [])
theorem yw277 : ywf ys277.2.2.1 = true := by decide +kernel
theorem yk277 : yver yx277 ys277.2.2.1 4000 = true := by decide +kernel
theorem yt277 {E : zHp → Prop} (h : yEF E yFP) : yTs E 3 ys277 := yver_s (x := yx277) h (yal_c (yt276 h) (by decide) yw276 (yal_n)) yg286 yk277
def ys278 : ySp := (282, 2, (0, [], [], [], [(0, (2, yc 1004, yc 0)), (1, (0, yc 30, yc 0))], []), [(0, [], [], [], [], [(0, yc 32, yc 0)])], [])
def yx278 : yCx := ([ys154, ys277], ys278.2.2.2.2, yFP, zm282.2.2.1, zm282.2.2.2.1, zc282, 0, ys278.2.2.2.1, [], [])
theorem yw278 : ywf ys278.2.2.1 = true := by decide +kernel
theorem yk278 : yver yx278 ys278.2.2.1 4000 = true := by decide +kernel
theorem yt278 {E : zHp → Prop} (h : yEF E yFP) : yTs E 4 ys278 := yver_s (x := yx278) h (yal_c (yt154 h) (by decide) yw154 (yal_c (yt277 h) (by decide) yw277 (yal_n))) yg282 yk278
def ys279 : ySp := (293, 3, (0, [], [], [], [(0, (0, yc 31, yc 0)), (1, (0, yc 66, yc 0)), (2, (7, yc 0, yc 0))], []), [(0, [], [], [], [], [(0, yc 31, yc 0)])], [])
def yx279 : yCx := ([], ys279.2.2.2.2, yFP, zm293.2.2.1, zm293.2.2.2.1, zc293, 0, ys279.2.2.2.1, [], [])
theorem yw279 : ywf ys279.2.2.1 = true := by decide +kernel
theorem yk279 : yver yx279 ys279.2.2.1 4000 = true := by decide +kernel
theorem yt279 {E : zHp → Prop} (h : yEF E yFP) : yTs E 1 ys279 := yver_s (x := yx279) h (yal_n) yg293 yk279
