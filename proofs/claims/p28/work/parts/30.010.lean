def ys156 : ySp := (285, 2, (0, [], [], [], [(0, (0, yc 0, yc 0)), (1, (0, yc 66, yc 0))], []), [(0, [], [], [], [], [])], [])
def yx156 : yCx := ([ys155], ys156.2.2.2.2, yFP, zm285.2.2.1, zm285.2.2.2.1, zc285, 0, ys156.2.2.2.1, [], [])
theorem yw156 : ywf ys156.2.2.1 = true := by decide +kernel
theorem yk156 : yver yx156 ys156.2.2.1 4000 = true := by decide +kernel
theorem yt156 {E : zHp → Prop} (h : yEF E yFP) : yTs E 2 ys156 := yver_s (x := yx156) h (yal_c (yt155 h) (by decide) yw155 (yal_n)) yg285 yk156
def ys157 : ySp := (286, 2, (0, [], [], [], [(0, (2, yc 1023, yc 0)), (1, (0, yc 0, yc 0))], []), [(0, [], [], [], [], [(0, yc 116, yc 0)])], [])
def yx157 : yCx := ([ys156], ys157.2.2.2.2, yFP, zm286.2.2.1, zm286.2.2.2.1, zc286, 0, ys157.2.2.2.1, [], [])
theorem yw157 : ywf ys157.2.2.1 = true := by decide +kernel
theorem yk157 : yver yx157 ys157.2.2.1 4000 = true := by decide +kernel
theorem yt157 {E : zHp → Prop} (h : yEF E yFP) : yTs E 3 ys157 := yver_s (x := yx157) h (yal_c (yt156 h) (by decide) yw156 (yal_n)) yg286 yk157
def ys158 : ySp := (282, 2, (0, [], [], [], [(0, (2, yc 1004, yc 0)), (1, (0, yc 0, yc 0))], []), [(0, [], [], [], [], [(0, yc 116, yc 0)])], [])
def yx158 : yCx := ([ys154, ys157], ys158.2.2.2.2, yFP, zm282.2.2.1, zm282.2.2.2.1, zc282, 0, ys158.2.2.2.1, [], [])
theorem yw158 : ywf ys158.2.2.1 = true := by decide +kernel
theorem yk158 : yver yx158 ys158.2.2.1 4000 = true := by decide +kernel
theorem yt158 {E : zHp → Prop} (h : yEF E yFP) : yTs E 4 ys158 := yver_s (x := yx158) h (yal_c (yt154 h) (by decide) yw154 (yal_c (yt157 h) (by decide) yw157 (yal_n))) yg282 yk158
def ys159 : ySp := (293, 3, (0, [], [], [], [(0, (0, yc 1, yc 0)), (1, (0, yc 66, yc 0)), (2, (7, yc 0, yc 0))], []), [(0, [], [], [], [], [(0, yc 1, yc 0)])], [])
def yx159 : yCx := ([], ys159.2.2.2.2, yFP, zm293.2.2.1, zm293.2.2.2.1, zc293, 0, ys159.2.2.2.1, [], [])
theorem yw159 : ywf ys159.2.2.1 = true := by decide +kernel
theorem yk159 : yver yx159 ys159.2.2.1 4000 = true := by decide +kernel
theorem yt159 {E : zHp → Prop} (h : yEF E yFP) : yTs E 1 ys159 := yver_s (x := yx159) h (yal_n) yg293 yk159
def ys160 : ySp := (285, 2, (0, [], [], [], [(0, (0, yc 1, yc 0)), (1, (0, yc 66, yc 0))], []), [(0, [], [], [], [], [])], [])
def yx160 : yCx := ([ys159], ys160.2.2.2.2, yFP, zm285.2.2.1, zm285.2.2.2.1, zc285, 0, ys160.2.2.2.1, [], [])
theorem yw160 : ywf ys160.2.2.1 = true := by decide +kernel
theorem yk160 : yver yx160 ys160.2.2.1 4000 = true := by decide +kernel
theorem yt160 {E : zHp → Prop} (h : yEF E yFP) : yTs E 2 ys160 := yver_s (x := yx160) h (yal_c (yt159 h) (by decide) yw159 (yal_n)) yg285 yk160
def ys161 : ySp := (286, 2, (0, [], [], [], [(0, (2, yc 1023, yc 0)), (1, (0, yc 1, yc 0))], []), [(0, [], [], [], [], [(0, yc 111, yc 0)])], [])
def yx161 : yCx := ([ys160], ys161.2.2.2.2, yFP, zm286.2.2.1, zm286.2.2.2.1, zc286, 0, ys161.2.2.2.1, [], [])
theorem yw161 : ywf ys161.2.2.1 = true := by decide +kernel
theorem yk161 : yver yx161 ys161.2.2.1 4000 = true := by decide +kernel
theorem yt161 {E : zHp → Prop} (h : yEF E yFP) : yTs E 3 ys161 := yver_s (x := yx161) h (yal_c (yt160 h) (by decide) yw160 (yal_n)) yg286 yk161
def ys162 : ySp := (282, 2, (0, [], [], [], [(0, (2, yc 1004, yc 0)), (1, (0, yc 1, yc 0))], []), [(0, [], [], [], [], [(0, yc 111, yc 0)])], [])
def yx162 : yCx := ([ys154, ys161], ys162.2.2.2.2, yFP, zm282.2.2.1, zm282.2.2.2.1, zc282, 0, ys162.2.2.2.1, [], [])
theorem yw162 : ywf ys162.2.2.1 = true := by decide +kernel
theorem yk162 : yver yx162 ys162.2.2.1 4000 = true := by decide +kernel
theorem yt162 {E : zHp → Prop} (h : yEF E yFP) : yTs E 4 ys162 := yver_s (x := yx162) h (yal_c (yt154 h) (by decide) yw154 (yal_c (yt161 h) (by decide) yw161 (yal_n))) yg282 yk162
def ys163 : ySp := (293, 3, (0, [], [], [], [(0, (0, yc 2, yc 0)), (1, (0, yc 66, yc 0)), (2, (7, yc 0, yc 0))], []), [(0, [], [], [], [], [(0, yc 2, yc 0)])], [])
def yx163 : yCx := ([], ys163.2.2.2.2, yFP, zm293.2.2.1, zm293.2.2.2.1, zc293, 0, ys163.2.2.2.1, [], [])
theorem yw163 : ywf ys163.2.2.1 = true := by decide +kernel
theorem yk163 : yver yx163 ys163.2.2.1 4000 = true := by decide +kernel
theorem yt163 {E : zHp → Prop} (h : yEF E yFP) : yTs E 1 ys163 := yver_s (x := yx163) h (yal_n) yg293 yk163
def ys164 : ySp := (285, 2, (0, [], [], [], [(0, (0, yc 2, yc 0)), (1, (0, yc 66, yc 0))], []), [(0, [], [], [], [], [])], [])
def yx164 : yCx := ([ys163], ys164.2.2.2.2, yFP, zm285.2.2.1, zm285.2.2.2.1, zc285, 0, ys164.2.2.2.1, [], [])
theorem yw164 : ywf ys164.2.2.1 = true := by decide +kernel
theorem yk164 : yver yx164 ys164.2.2.1 4000 = true := by decide +kernel
theorem yt164 {E : zHp → Prop} (h : yEF E yFP) : yTs E 2 ys164 := yver_s (x := yx164) h (yal_c (yt163 h) (by decide) yw163 (yal_n)) yg285 yk164
def ys165 : ySp := (286, 2, (0, [], [], [], [(0, (2, yc 1023, yc 0)), (1, (0, yc 2, yc 0))], []), [(0, [], [], [], [], [(0, yc 111, yc 0)])], [])
def yx165 : yCx := ([ys164], ys165.2.2.2.2, yFP, zm286.2.2.1, zm286.2.2.2.1, zc286, 0, ys165.2.2.2.1, [], [])
theorem yw165 : ywf ys165.2.2.1 = true := by decide +kernel
theorem yk165 : yver yx165 ys165.2.2.1 4000 = true := by decide +kernel
theorem yt165 {E : zHp → Prop} (h : yEF E yFP) : yTs E 3 ys165 := yver_s (x := yx165) h (yal_c (yt164 h) (by decide) yw164 (yal_n)) yg286 yk165
def ys166 : ySp := (282, 2, (0, [], [], [], [(0, (2, yc 1004, yc 0)), (1, (0, yc 2, yc 0))], []), [(0, [], [], [], [], [(0, yc 111, yc 0)])], [])
def yx166 : yCx := ([ys154, ys165], ys166.2.2.2.2, yFP, zm282.2.2.1, zm282.2.2.2.1, zc282, 0, ys166.2.2.2.1, [], [])
theorem yw166 : ywf ys166.2.2.1 = true := by decide +kernel
theorem yk166 : yver yx166 ys166.2.2.1 4000 = true := by decide +kernel
theorem yt166 {E : zHp → Prop} (h : yEF E yFP) : yTs E 4 ys166 := yver_s (x := yx166) h (yal_c (yt154 h) (by decide) yw154 (yal_c (yt165 h) (by decide) yw165 (yal_n))) yg282 yk166
def ys167 : ySp := (293, 3, (0, [], [], [], [(0, (0, yc 3, yc 0)), (1, (0, yc 66, yc 0)), (2, (7, yc 0, yc 0))], []), [(0, [], [], [], [], [(0, yc 3, yc 0)])], [])
def yx167 : yCx := ([], ys167.2.2.2.2, yFP, zm293.2.2.1, zm293.2.2.2.1, zc293, 0, ys167.2.2.2.1, [], [])
theorem yw167 : ywf ys167.2.2.1 = true := by decide +kernel
theorem yk167 : yver yx167 ys167.2.2.1 4000 = true := by decide +kernel
theorem yt167 {E : zHp → Prop} (h : yEF E yFP) : yTs E 1 ys167 := yver_s (x := yx167) h (yal_n) yg293 yk167
def ys168 : ySp := (285, 2, (0, [], [], [], [(0, (0, yc 3, yc 0)), (1, (0, yc 66, yc 0))], []), [(0, [], [], [], [], [])], [])
def yx168 : yCx := ([ys167], ys168.2.2.2.2, yFP, zm285.2.2.1, zm285.2.2.2.1, zc285, 0, ys168.2.2.2.1, [], [])
theorem yw168 : ywf ys168.2.2.1 = true := by decide +kernel
theorem yk168 : yver yx168 ys168.2.2.1 4000 = true := by decide +kernel
theorem yt168 {E : zHp → Prop} (h : yEF E yFP) : yTs E 2 ys168 := yver_s (x := yx168) h (yal_c (yt167 h) (by decide) yw167 (yal_n)) yg285 yk168
def ys169 : ySp := (286, 2, (0, [], [], [], [(0, (2, yc 1023, yc 0)), (1, (0, yc 3, yc 0))], []), [(0, [], [], [], [], [(0, yc 108, yc 0)])], [])
def yx169 : yCx := ([ys168], ys169.2.2.2.2, yFP, zm286.2.2.1, zm286.2.2.2.1, zc286, 0, ys169.2.2.2.1, [], [])
theorem yw169 : ywf ys169.2.2.1 = true := by decide +kernel
theorem yk169 : yver yx169 ys169.2.2.1 4000 = true := by decide +kernel
theorem yt169 {E : zHp → Prop} (h : yEF E yFP) : yTs E 3 ys169 := yver_s (x := yx169) h (yal_c (yt168 h) (by decide) yw168 (yal_n)) yg286 yk169
def ys170 : ySp := (282, 2, (0, [], [], [], [(0, (2, yc 1004, yc 0)), (1, (0, yc 3, yc 0))], []), [(0, [], [], [], [], [(0, yc 108, yc 0)])], [])
def yx170 : yCx := ([ys154, ys169], ys170.2.2.2.2, yFP, zm282.2.2.1, zm282.2.2.2.1, zc282, 0, ys170.2.2.2.1, [], [])
theorem yw170 : ywf ys170.2.2.1 = true := by decide +kernel
theorem yk170 : yver yx170 ys170.2.2.1 4000 = true := by decide +kernel
theorem yt170 {E : zHp → Prop} (h : yEF E yFP) : yTs E 4 ys170 := yver_s (x := yx170) h (yal_c (yt154 h) (by decide) yw154 (yal_c (yt169 h) (by decide) yw169 (yal_n))) yg282 yk170
def ys171 : ySp := (293, 3, (0, [], [], [], [(0, (0, yc 4, yc 0)), (1, (0, yc 66, yc 0)), (2, (7, yc 0, yc 0))], []), [(0, [], [], [], [], [(0, yc 4, yc 0)])], [])
def yx171 : yCx := ([], ys171.2.2.2.2, yFP, zm293.2.2.1, zm293.2.2.2.1, zc293, 0, ys171.2.2.2.1, [], [])
theorem yw171 : ywf ys171.2.2.1 = true := by decide +kernel
theorem yk171 : yver yx171 ys171.2.2.1 4000 = true := by decide +kernel
theorem yt171 {E : zHp → Prop} (h : yEF E yFP) : yTs E 1 ys171 := yver_s (x := yx171) h (yal_n) yg293 yk171
def ys172 : ySp := (285, 2, (0, [], [], [], [(0, (0, yc 4, yc 0)), (1, (0, yc 66, yc 0))], []), [(0, [], [], [], [], [])], [])
def yx172 : yCx := ([ys171], ys172.2.2.2.2, yFP, zm285.2.2.1, zm285.2.2.2.1, zc285, 0, ys172.2.2.2.1, [], [])
theorem yw172 : ywf ys172.2.2.1 = true := by decide +kernel
theorem yk172 : yver yx172 ys172.2.2.1 4000 = true := by decide +kernel
theorem yt172 {E : zHp → Prop} (h : yEF E yFP) : yTs E 2 ys172 := yver_s (x := yx172) h (yal_c (yt171 h) (by decide) yw171 (yal_n)) yg285 yk172
def ys173 : ySp := (286, 2, (0, [], [], [], [(0, (2, yc 1023, yc 0)), (1, (0, yc 4, yc 0))], []), [(0, [], [], [], [], [(0, yc 32, yc 0)])], [])
def yx173 : yCx := ([ys172], ys173.2.2.2.2, yFP, zm286.2.2.1, zm286.2.2.2.1, zc286, 0, ys173.2.2.2.1, [], [])
theorem yw173 : ywf ys173.2.2.1 = true := by decide +kernel
theorem yk173 : yver yx173 ys173.2.2.1 4000 = true := by decide +kernel
theorem yt173 {E : zHp → Prop} (h : yEF E yFP) : yTs E 3 ys173 := yver_s (x := yx173) h (yal_c (yt172 h) (by decide) yw172 (yal_n)) yg286 yk173
def ys174 : ySp := (282, 2, (0, [], [], [], [(0, (2, yc 1004, yc 0)), (1, (0, yc 4, yc 0))], []), [(0, [], [], [], [], [(0, yc 32, yc 0)])], [])
def yx174 : yCx := ([ys154, ys173], ys174.2.2.2.2, yFP, zm282.2.2.1, zm282.2.2.2.1, zc282, 0, ys174.2.2.2.1, [], [])
theorem yw174 : ywf ys174.2.2.1 = true := by decide +kernel
theorem yk174 : yver yx174 ys174.2.2.1 4000 = true := by decide +kernel
theorem yt174 {E : zHp → Prop} (h : yEF E yFP) : yTs E 4 ys174 := yver_s (x := yx174) h (yal_c (yt154 h) (by decide) yw154 (yal_c (yt173 h) (by decide) yw173 (yal_n))) yg282 yk174
def ys175 : ySp := (293, 3, (0, [], [], [], [(0, (0, yc 5, yc 0)), (1, (0, yc 66, yc 0)), (2, (7, yc 0, yc 0))], []), [(0, [], [], [], [], [(0, yc 5, yc 0)])], [])
def yx175 : yCx := ([], ys175.2.2.2.2, yFP, zm293.2.2.1, zm293.2.2.2.1, zc293, 0, ys175.2.2.2.1, [], [])
theorem yw175 : ywf ys175.2.2.1 = true := by decide +kernel
theorem yk175 : yver yx175 ys175.2.2.1 4000 = true := by decide +kernel
theorem yt175 {E : zHp → Prop} (h : yEF E yFP) : yTs E 1 ys175 := yver_s (x := yx175) h (yal_n) yg293 yk175
def ys176 : ySp := (285, 2, (0, [], [], [], [(0, (0, yc 5, yc 0)), (1, (0, yc 66, yc 0))], []), [(0, [], [], [], [], [])], [])
def yx176 : yCx := ([ys175], ys176.2.2.2.2, yFP, zm285.2.2.1, zm285.2.2.2.1, zc285, 0, ys176.2.2.2.1, [], [])
theorem yw176 : ywf ys176.2.2.1 = true := by decide +kernel
theorem yk176 : yver yx176 ys176.2.2.1 4000 = true := by decide +kernel
theorem yt176 {E : zHp → Prop} (h : yEF E yFP) : yTs E 2 ys176 := yver_s (x := yx176) h (yal_c (yt175 h) (by decide) yw175 (yal_n)) yg285 yk176
def ys177 : ySp := (286, 2, (0, [], [], [], [(0, (2, yc 1023, yc 0)), (1, (0, yc 5, yc 0))], []), [(0, [], [], [], [], [(0, yc 107, yc 0)])], [])
def yx177 : yCx := ([ys176], ys177.2.2.2.2, yFP, zm286.2.2.1, zm286.2.2.2.1, zc286, 0, ys177.2.2.2.1, [], [])
theorem yw177 : ywf ys177.2.2.1 = true := by decide +kernel
theorem yk177 : yver yx177 ys177.2.2.1 4000 = true := by decide +kernel
theorem yt177 {E : zHp → Prop} (h : yEF E yFP) : yTs E 3 ys177 := yver_s (x := yx177) h (yal_c (yt176 h) (by decide) yw176 (yal_n)) yg286 yk177
def ys178 : ySp := (282, 2, (0, [], [], [], [(0, (2, yc 1004, yc 0)), (1, (0, yc 5, yc 0))], []), [(0, [], [], [], [], [(0, yc 107, yc 0)])], [])
def yx178 : yCx := ([ys154, ys177], ys178.2.2.2.2, yFP, zm282.2.2.1, zm282.2.2.2.1, zc282, 0, ys178.2.2.2.1, [], [])
theorem yw178 : ywf ys178.2.2.1 = true := by decide +kernel
theorem yk178 : yver yx178 ys178.2.2.1 4000 = true := by decide +kernel
theorem yt178 {E : zHp → Prop} (h : yEF E yFP) : yTs E 4 ys178 := yver_s (x := yx178) h (yal_c (yt154 h) (by decide) yw154 (yal_c (yt177 h) (by decide) yw177 (yal_n))) yg282 yk178
def ys179 : ySp := (293, 3, (0, [], [], [], [(0, (0, yc 6, yc 0)), (1, (0, yc 66, yc 0)), (2, (7, yc 0, yc 0))], []), [(0, [], [], [], [], [(0, yc 6, yc 0)])], [])
def yx179 : yCx := ([], ys179.2.2.2.2, yFP, zm293.2.2.1, zm293.2.2.2.1, zc293, 0, ys179.2.2.2.1, [], [])
theorem yw179 : ywf ys179.2.2.1 = true := by decide +kernel
theorem yk179 : yver yx179 ys179.2.2.1 4000 = true := by decide +kernel
theorem yt179 {E : zHp → Prop} (h : yEF E yFP) : yTs E 1 ys179 := yver_s (x := yx179) h (yal_n) yg293 yk179
def ys180 : ySp := (285, 2, (0, [], [], [], [(0, (0, yc 6, yc 0)), (1, (0, yc 66, yc 0))], []), [(0, [], [], [], [], [])], [])
def yx180 : yCx := ([ys179], ys180.2.2.2.2, yFP, zm285.2.2.1, zm285.2.2.2.1, zc285, 0, ys180.2.2.2.1, [], [])
theorem yw180 : ywf ys180.2.2.1 = true := by decide +kernel
theorem yk180 : yver yx180 ys180.2.2.1 4000 = true := by decide +kernel
theorem yt180 {E : zHp → Prop} (h : yEF E yFP) : yTs E 2 ys180 := yver_s (x := yx180) h (yal_c (yt179 h) (by decide) yw179 (yal_n)) yg285 yk180
def ys181 : ySp := (286, 2, (0, [], [], [], [(0, (2, yc 1023, yc 0)), (1, (0, yc 6, yc 0))], []), [(0, [], [], [], [], [(0, yc 105, yc 0)])], [])
def yx181 : yCx := ([ys180], ys181.2.2.2.2, yFP, zm286.2.2.1, zm286.2.2.2.1, zc286, 0, ys181.2.2.2.1, [], [])
theorem yw181 : ywf ys181.2.2.1 = true := by decide +kernel
theorem yk181 : yver yx181 ys181.2.2.1 4000 = true := by decide +kernel
theorem yt181 {E : zHp → Prop} (h : yEF E yFP) : yTs E 3 ys181 := yver_s (x := yx181) h (yal_c (yt180 h) (by decide) yw180 (yal_n)) yg286 yk181
def ys182 : ySp := (282, 2, (0, [], [], [], [(0, (2, yc 1004, yc 0)), (1, (0, yc 6, yc 0))], []), [(0, [], [], [], [], [(0, yc 105, yc 0)])], [])
def yx182 : yCx := ([ys154, ys181], ys182.2.2.2.2, yFP, zm282.2.2.1, zm282.2.2.2.1, zc282, 0, ys182.2.2.2.1, [], [])
theorem yw182 : ywf ys182.2.2.1 = true := by decide +kernel
theorem yk182 : yver yx182 ys182.2.2.1 4000 = true := by decide +kernel
theorem yt182 {E : zHp → Prop} (h : yEF E yFP) : yTs E 4 ys182 := yver_s (x := yx182) h (yal_c (yt154 h) (by decide) yw154 (yal_c (yt181 h) (by decide) yw181 (yal_n))) yg282 yk182
def ys183 : ySp := (293, 3, (0, [], [], [], [(0, (0, yc 7, yc 0)), (1, (0, yc 66, yc 0)), (2, (7, yc 0, yc 0))], []), [(0, [], [], [], [], [(0, yc 7, yc 0)])], [])
def yx183 : yCx := ([], ys183.2.2.2.2, yFP, zm293.2.2.1, zm293.2.2.2.1, zc293, 0, ys183.2.2.2.1, [], [])
theorem yw183 : ywf ys183.2.2.1 = true := by decide +kernel
theorem yk183 : yver yx183 ys183.2.2.1 4000 = true := by decide +kernel
theorem yt183 {E : zHp → Prop} (h : yEF E yFP) : yTs E 1 ys183 := yver_s (x := yx183) h (yal_n) yg293 yk183
def ys184 : ySp := (285, 2, (0, [], [], [], [(0, (0, yc 7, yc 0)), (1, (0, yc 66, yc 0))], []), [(0, [], [], [], [], [])], [])
def yx184 : yCx := ([ys183], ys184.2.2.2.2, yFP, zm285.2.2.1, zm285.2.2.2.1, zc285, 0, ys184.2.2.2.1, [], [])
theorem yw184 : ywf ys184.2.2.1 = true := by decide +kernel
theorem yk184 : yver yx184 ys184.2.2.1 4000 = true := by decide +kernel
theorem yt184 {E : zHp → Prop} (h : yEF E yFP) : yTs E 2 ys184 := yver_s (x := yx184) h (yal_c (yt183 h) (by decide) yw183 (yal_n)) yg285 yk184
def ys185 : ySp := (286, 2, (0, [], [], [], [(0, (2, yc 1023, yc 0)), (1, (0, yc 7, yc 0))], []), [(0, [], [], [], [], [(0, yc 110, yc 0)])], [])
def yx185 : yCx := ([ys184], ys185.2.2.2.2, yFP, zm286.2.2.1, zm286.2.2.2.1, zc286, 0, ys185.2.2.2.1, [], [])
theorem yw185 : ywf ys185.2.2.1 = true := by decide +kernel
theorem yk185 : yver yx185 ys185.2.2.1 4000 = true := by decide +kernel
theorem yt185 {E : zHp → Prop} (h : yEF E yFP) : yTs E 3 ys185 := yver_s (x := yx185) h (yal_c (yt184 h) (by decide) yw184 (yal_n)) yg286 yk185
def ys186 : ySp := (282, 2, (0, [], [], [], [(0, (2, yc 1004, yc 0)), (1, (0, yc 7, yc 0))], []), [(0, [], [], [], [], [(0, yc 110, yc 0)])], [])
def yx186 : yCx := ([ys154, ys185], ys186.2.2.2.2, yFP, zm282.2.2.1, zm282.2.2.2.1, zc282, 0, ys186.2.2.2.1, [], [])
theorem yw186 : ywf ys186.2.2.1 = true := by decide +kernel
theorem yk186 : yver yx186 ys186.2.2.1 4000 = true := by decide +kernel
theorem yt186 {E : zHp → Prop} (h : yEF E yFP) : yTs E 4 ys186 := yver_s (x := yx186) h (yal_c (yt154 h) (by decide) yw154 (yal_c (yt185 h) (by decide) yw185 (yal_n))) yg282 yk186
def ys187 : ySp := (293, 3, (0, [], [], [], [(0, (0, yc 8, yc 0)), (1, (0, yc 66, yc 0)), (2, (7, yc 0, yc 0))], []), [(0, [], [], [], [], [(0, yc 8, yc 0)])], [])
def yx187 : yCx := ([], ys187.2.2.2.2, yFP, zm293.2.2.1, zm293.2.2.2.1, zc293, 0, ys187.2.2.2.1, [], [])
theorem yw187 : ywf ys187.2.2.1 = true := by decide +kernel
theorem yk187 : yver yx187 ys187.2.2.1 4000 = true := by decide +kernel
theorem yt187 {E : zHp → Prop} (h : yEF E yFP) : yTs E 1 ys187 := yver_s (x := yx187) h (yal_n) yg293 yk187
def ys188 : ySp := (285, 2, (0, [], [], [], [(0, (0, yc 8, yc 0)), (1, (0, yc 66, yc 0))], []), [(0, [], [], [], [], [])], [])
def yx188 : yCx := ([ys187], ys188.2.2.2.2, yFP, zm285.2.2.1, zm285.2.2.2.1, zc285, 0, ys188.2.2.2.1, [], [])
theorem yw188 : ywf ys188.2.2.1 = true := by decide +kernel
theorem yk188 : yver yx188 ys188.2.2.1 4000 = true := by decide +kernel
theorem yt188 {E : zHp → Prop} (h : yEF E yFP) : yTs E 2 ys188 := yver_s (x := yx188) h (yal_c (yt187 h) (by decide) yw187 (yal_n)) yg285 yk188
def ys189 : ySp := (286, 2, (0, [], [], [], [(0, (2, yc 1023, yc 0)), (1, (0, yc 8, yc 0))], []), [(0, [], [], [], [], [(0, yc 100, yc 0)])], [])
def yx189 : yCx := ([ys188], ys189.2.2.2.2, yFP, zm286.2.2.1, zm286.2.2.2.1, zc286, 0, ys189.2.2.2.1, [], [])
theorem yw189 : ywf ys189.2.2.1 = true := by decide +kernel
theorem yk189 : yver yx189 ys189.2.2.1 4000 = true := by decide +kernel
theorem yt189 {E : zHp → Prop} (h : yEF E yFP) : yTs E 3 ys189 := yver_s (x := yx189) h (yal_c (yt188 h) (by decide) yw188 (yal_n)) yg286 yk189
def ys190 : ySp := (282, 2, (0, [], [], [], [(0, (2, yc 1004, yc 0)), (1, (0, yc 8, yc 0))], []), [(0, [], [], [], [], [(0, yc 100, yc 0)])], [])
def yx190 : yCx := ([ys154, ys189], ys190.2.2.2.2, yFP, zm282.2.2.1, zm282.2.2.2.1, zc282, 0, ys190.2.2.2.1, [], [])
theorem yw190 : ywf ys190.2.2.1 = true := by decide +kernel
theorem yk190 : yver yx190 ys190.2.2.1 4000 = true := by decide +kernel
theorem yt190 {E : zHp → Prop} (h : yEF E yFP) : yTs E 4 ys190 := yver_s (x := yx190) h (yal_c (yt154 h) (by decide) yw154 (yal_c (yt189 h) (by decide) yw189 (yal_n))) yg282 yk190
def ys191 : ySp := (293, 3, (0, [], [], [], [(0, (0, yc 9, yc 0)), (1, (0, yc 66, yc 0)), (2, (7, yc 0, yc 0))], []), [(0, [], [], [], [], [(0, yc 9, yc 0)])], [])
def yx191 : yCx := ([], ys191.2.2.2.2, yFP, zm293.2.2.1, zm293.2.2.2.1, zc293, 0, ys191.2.2.2.1, [], [])
theorem yw191 : ywf ys191.2.2.1 = true := by decide +kernel
theorem yk191 : yver yx191 ys191.2.2.1 4000 = true := by decide +kernel
theorem yt191 {E : zHp → Prop} (h : yEF E yFP) : yTs E 1 ys191 := yver_s (x := yx191) h (yal_n) yg293 yk191
def ys192 : ySp := (285, 2, (0, [], [], [], [(0, (0, yc 9, yc 0)), (1, (0, yc 66, yc 0))], []), [(0, [], [], [], [], [])], [])
def yx192 : yCx := ([ys191], ys192.2.2.2.2, yFP, zm285.2.2.1, zm285.2.2.2.1, zc285, 0, ys192.2.2.2.1, [], [])
theorem yw192 : ywf ys192.2.2.1 = true := by decide +kernel
theorem yk192 : yver yx192 ys192.2.2.1 4000 = true := by decide +kernel
theorem yt192 {E : zHp → Prop} (h : yEF E yFP) : yTs E 2 ys192 := yver_s (x := yx192) h (yal_c (yt191 h) (by decide) yw191 (yal_n)) yg285 yk192
def ys193 : ySp := (286, 2, (0, [], [], [], [(0, (2, yc 1023, yc 0)), (1, (0, yc 9, yc 0))], []), [(0, [], [], [], [], [(0, yc 32, yc 0)])], [])
def yx193 : yCx := ([ys192], ys193.2.2.2.2, yFP, zm286.2.2.1, zm286.2.2.2.1, zc286, 0, ys193.2.2.2.1, [], [])
theorem yw193 : ywf ys193.2.2.1 = true := by decide +kernel
theorem yk193 : yver yx193 ys193.2.2.1 4000 = true := by decide +kernel
theorem yt193 {E : zHp → Prop} (h : yEF E yFP) : yTs E 3 ys193 := yver_s (x := yx193) h (yal_c (yt192 h) (by decide) yw192 (yal_n)) yg286 yk193
def ys194 : ySp := (282, 2, (0, [], [], [], [(0, (2, yc 1004, yc 0)), (1, (0, yc 9, yc 0))], []), [(0, [], [], [], [], [(0, yc 32, yc 0)])], [])
def yx194 : yCx := ([ys154, ys193], ys194.2.2.2.2, yFP, zm282.2.2.1, zm282.2.2.2.1, zc282, 0, ys194.2.2.2.1, [], [])
theorem yw194 : ywf ys194.2.2.1 = true := by decide +kernel
theorem yk194 : yver yx194 ys194.2.2.1 4000 = true := by decide +kernel
theorem yt194 {E : zHp → Prop} (h : yEF E yFP) : yTs E 4 ys194 := yver_s (x := yx194) h (yal_c (yt154 h) (by decide) yw154 (yal_c (yt193 h) (by decide) yw193 (yal_n))) yg282 yk194
def ys195 : ySp := (293, 3, (0, [], [], [], [(0, (0, yc 10, yc 0)), (1, (0, yc 66, yc 0)), (2, (7, yc 0, yc 0))], []), [(0, [], [], [], [], [(0, yc 10, yc 0)])], [])
def yx195 : yCx := ([], ys195.2.2.2.2, yFP, zm293.2.2.1, zm293.2.2.2.1, zc293, 0, ys195.2.2.2.1, [], [])
theorem yw195 : ywf ys195.2.2.1 = true := by decide +kernel
theorem yk195 : yver yx195 ys195.2.2.1 4000 = true := by decide +kernel
theorem yt195 {E : zHp → Prop} (h : yEF E yFP) : yTs E 1 ys195 := yver_s (x := yx195) h (yal_n) yg293 yk195
def ys196 : ySp := (285, 2, (0, [], [], [], [(0, (0, yc 10, yc 0)), (1, (0, yc 66, yc 0))], []), [(0, [], [], [], [], [])], [])
def yx196 : yCx := ([ys195], ys196.2.2.2.2, yFP, zm285.2.2.1, zm285.2.2.2.1, zc285, 0, ys196.2.2.2.1, [], [])
theorem yw196 : ywf ys196.2.2.1 = true := by decide +kernel
theorem yk196 : yver yx196 ys196.2.2.1 4000 = true := by decide +kernel
theorem yt196 {E : zHp → Prop} (h : yEF E yFP) : yTs E 2 ys196 := yver_s (x := yx196) h (yal_c (yt195 h) (by decide) yw195 (yal_n)) yg285 yk196
def ys197 : ySp := (286, 2, (0, [], [], [], [(0, (2, yc 1023, yc 0)), (1, (0, yc 10, yc 0))], []), [(0, [], [], [], [], [(0, yc 111, yc 0)])], [])
def yx197 : yCx := ([ys196], ys197.2.2.2.2, yFP, zm286.2.2.1, zm286.2.2.2.1, zc286, 0, ys197.2.2.2.1, [], [])
theorem yw197 : ywf ys197.2.2.1 = true := by decide +kernel
theorem yk197 : yver yx197 ys197.2.2.1 4000 = true := by decide +kernel
theorem yt197 {E : zHp → Prop} (h : yEF E yFP) : yTs E 3 ys197 := yver_s (x := yx197) h (yal_c (yt196 h) (by decide) yw196 (yal_n)) yg286 yk197
def ys198 : ySp := (282, 2, (0, [], [], [], [(0, (2, yc 1004, yc 0)), (1, (0, yc 10, yc 0))], []), [(0, [], [], [], [], [(0, yc 111, yc 0)])], [])
def yx198 : yCx := ([ys154, ys197], ys198.2.2.2.2, yFP, zm282.2.2.1, zm282.2.2.2.1, zc282, 0, ys198.2.2.2.1, [], [])
theorem yw198 : ywf ys198.2.2.1 = true := by decide +kernel
theorem yk198 : yver yx198 ys198.2.2.1 4000 = true := by decide +kernel
theorem yt198 {E : zHp → Prop} (h : yEF E yFP) : yTs E 4 ys198 := yver_s (x := yx198) h (yal_c (yt154 h) (by decide) yw154 (yal_c (yt197 h) (by decide) yw197 (yal_n))) yg282 yk198
def ys199 : ySp := (293, 3, (0, [], [], [], [(0, (0, yc 11, yc 0)), (1, (0, yc 66, yc 0)), (2, (7, yc 0, yc 0))], []), [(0, [], [], [], [], [(0, yc 11, yc 0)])], [])
def yx199 : yCx := ([], ys199.2.2.2.2, yFP, zm293.2.2.1, zm293.2.2.2.1, zc293, 0, ys199.2.2.2.1, [], [])
theorem yw199 : ywf ys199.2.2.1 = true := by decide +kernel
theorem yk199 : yver yx199 ys199.2.2.1 4000 = true := by decide +kernel
theorem yt199 {E : zHp → Prop} (h : yEF E yFP) : yTs E 1 ys199 := yver_s (x := yx199) h (yal_n) yg293 yk199
def ys200 : ySp := (285, 2, (0, [], [], [], [(0, (0, yc 11, yc 0)), (1, (0, yc 66, yc 0))], []), [(0, [], [], [], [], [])], [])
def yx200 : yCx := ([ys199], ys200.2.2.2.2, yFP, zm285.2.2.1, zm285.2.2.2.1, zc285, 0, ys200.2.2.2.1, [], [])
theorem yw200 : ywf ys200.2.2.1 = true := by decide +kernel
theorem yk200 : yver yx200 ys200.2.2.1 4000 = true := by decide +kernel
theorem yt200 {E : zHp → Prop} (h : yEF E yFP) : yTs E 2 ys200 := yver_s (x := yx200) h (yal_c (yt199 h) (by decide) yw199 (yal_n)) yg285 yk200
def ys201 : ySp := (286, 2, (0, [], [], [], [(0, (2, yc 1023, yc 0)), (1, (0, yc 11, yc 0))], []), [(0, [], [], [], [], [(0, yc 119, yc 0)])], [])
def yx201 : yCx := ([ys200], ys201.2.2.2.2, yFP, zm286.2.2.1, zm286.2.2.2.1, zc286, 0, ys201.2.2.2.1, [], [])
theorem yw201 : ywf ys201.2.2.1 = true := by decide +kernel
theorem yk201 : yver yx201 ys201.2.2.1 4000 = true := by decide +kernel
theorem yt201 {E : zHp → Prop} (h : yEF E yFP) : yTs E 3 ys201 := yver_s (x := yx201) h (yal_c (yt200 h) (by decide) yw200 (yal_n)) yg286 yk201
def ys202 : ySp := (282, 2, (0, [], [], [], [(0, (2, yc 1004, yc 0)), (1, (0, yc 11, yc 0))], []), [(0, [], [], [], [], [(0, yc 119, yc 0)])], [])
def yx202 : yCx := ([ys154, ys201], ys202.2.2.2.2, yFP, zm282.2.2.1, zm282.2.2.2.1, zc282, 0, ys202.2.2.2.1, [], [])
theorem yw202 : ywf ys202.2.2.1 = true := by decide +kernel
theorem yk202 : yver yx202 ys202.2.2.1 4000 = true := by decide +kernel
theorem yt202 {E : zHp → Prop} (h : yEF E yFP) : yTs E 4 ys202 := yver_s (x := yx202) h (yal_c (yt154 h) (by decide) yw154 (yal_c (yt201 h) (by decide) yw201 (yal_n))) yg282 yk202
def ys203 : ySp := (293, 3, (0, [], [], [], [(0, (0, yc 12, yc 0)), (1, (0, yc 66, yc 0)), (2, (7, yc 0, yc 0))], []), [(0, [], [], [], [], [(0, yc 12, yc 0)])], [])
def yx203 : yCx := ([], ys203.2.2.2.2, yFP, zm293.2.2.1, zm293.2.2.2.1, zc293, 0, ys203.2.2.2.1, [], [])
theorem yw203 : ywf ys203.2.2.1 = true := by decide +kernel
theorem yk203 : yver yx203 ys203.2.2.1 4000 = true := by decide +kernel
theorem yt203 {E : zHp → Prop} (h : yEF E yFP) : yTs E 1 ys203 := yver_s (x := yx203) h (yal_n) yg293 yk203
def ys204 : ySp := (285, 2, (0, [], [], [], [(0, (0, yc 12, yc 0)), (1, (0, yc 66, yc 0))], []), [(0, [], [], [], [], [])], [])
def yx204 : yCx := ([ys203], ys204.2.2.2.2, yFP, zm285.2.2.1, zm285.2.2.2.1, zc285, 0, ys204.2.2.2.1, [], [])
theorem yw204 : ywf ys204.2.2.1 = true := by decide +kernel
theorem yk204 : yver yx204 ys204.2.2.1 4000 = true := by decide +kernel
theorem yt204 {E : zHp → Prop} (h : yEF E yFP) : yTs E 2 ys204 := yver_s (x := yx204) h (yal_c (yt203 h) (by decide) yw203 (yal_n)) yg285 yk204
def ys205 : ySp := (286, 2, (0, [], [], [], [(0, (2, yc 1023, yc 0)), (1, (0, yc 12, yc 0))], []), [(0, [], [], [], [], [(0, yc 110, yc 0)])], [])
def yx205 : yCx := ([ys204], ys205.2.2.2.2, yFP, zm286.2.2.1, zm286.2.2.2.1, zc286, 0, ys205.2.2.2.1, [], [])
theorem yw205 : ywf ys205.2.2.1 = true := by decide +kernel
theorem yk205 : yver yx205 ys205.2.2.1 4000 = true := by decide +kernel
theorem yt205 {E : zHp → Prop} (h : yEF E yFP) : yTs E 3 ys205 := yver_s (x := yx205) h (yal_c (yt204 h) (by decide) yw204 (yal_n)) yg286 yk205
def ys206 : ySp := (282, 2, (0, [], [], [], [(0, (2, yc 1004, yc 0)), (1, (0, yc 12, yc 0))], []), [(0, [], [], [], [], [(0, yc 110, yc 0)])], [])
def yx206 : yCx := ([ys154, ys205], ys206.2.2.2.2, yFP, zm282.2.2.1, zm282.2.2.2.1, zc282, 0, ys206.2.2.2.1, [], [])
theorem yw206 : ywf ys206.2.2.1 = true := by decide +kernel
theorem yk206 : yver yx206 ys206.2.2.1 4000 = true := by decide +kernel
theorem yt206 {E : zHp → Prop} (h : yEF E yFP) : yTs E 4 ys206 := yver_s (x := yx206) h (yal_c (yt154 h) (by decide) yw154 (yal_c (yt205 h) (by decide) yw205 (yal_n))) yg282 yk206
def ys207 : ySp := (293, 3, (0, [], [], [], [(0, (0, yc 13, yc 0)), (1, (0, yc 66, yc 0)), (2, (7, yc 0, yc 0))], []), [(0, [], [], [], [], [(0, yc 13, yc 0)])], [])
def yx207 : yCx := ([], ys207.2.2.2.2, yFP, zm293.2.2.1, zm293.2.2.2.1, zc293, 0, ys207.2.2.2.1, [], [])
theorem yw207 : ywf ys207.2.2.1 = true := by decide +kernel
theorem yk207 : yver yx207 ys207.2.2.1 4000 = true := by decide +kernel
theorem yt207 {E : zHp → Prop} (h : yEF E yFP) : yTs E 1 ys207 := yver_s (x := yx207) h (yal_n) yg293 yk207
def ys208 : ySp := (285, 2, (0, [], [], [], [(0, (0, yc 13, yc 0)), (1, (0, yc 66, yc 0))], []), [(0, [], [], [], [], [])], [])
def yx208 : yCx := ([ys207], ys208.2.2.2.2, yFP, zm285.2.2.1, zm285.2.2.2.1, zc285, 0, ys208.2.2.2.1, [], [])
theorem yw208 : ywf ys208.2.2.1 = true := by decide +kernel
theorem yk208 : yver yx208 ys208.2.2.1 4000 = true := by decide +kernel
theorem yt208 {E : zHp → Prop} (h : yEF E yFP) : yTs E 2 ys208 := yver_s (x := yx208) h (yal_c (yt207 h) (by decide) yw207 (yal_n)) yg285 yk208
def ys209 : ySp := (286, 2, (0, [], [], [], [(0, (2, yc 1023, yc 0)), (1, (0, yc 13, yc 0))], []), [(0, [], [], [], [], [(0, yc 101, yc 0)])], [])
def yx209 : yCx := ([ys208], ys209.2.2.2.2, yFP, zm286.2.2.1, zm286.2.2.2.1, zc286, 0, ys209.2.2.2.1, [], [])
theorem yw209 : ywf ys209.2.2.1 = true := by decide +kernel
theorem yk209 : yver yx209 ys209.2.2.1 4000 = true := by decide +kernel
theorem yt209 {E : zHp → Prop} (h : yEF E yFP) : yTs E 3 ys209 := yver_s (x := yx209) h (yal_c (yt208 h) (by decide) yw208 (yal_n)) yg286 yk209
def ys210 : ySp := (282, 2, (0, [], [], [], [(0, (2, yc 1004, yc 0)), (1, (0, yc 13, yc 0))], []), [(0, [], [], [], [], [(0, yc 101, yc 0)])], [])
def yx210 : yCx := ([ys154, ys209], ys210.2.2.2.2, yFP, zm282.2.2.1, zm282.2.2.2.1, zc282, 0, ys210.2.2.2.1, [], [])
theorem yw210 : ywf ys210.2.2.1 = true := by decide +kernel
theorem yk210 : yver yx210 ys210.2.2.1 4000 = true := by decide +kernel
theorem yt210 {E : zHp → Prop} (h : yEF E yFP) : yTs E 4 ys210 := yver_s (x := yx210) h (yal_c (yt154 h) (by decide) yw154 (yal_c (yt209 h) (by decide) yw209 (yal_n))) yg282 yk210
def ys211 : ySp := (293, 3, (0, [], [], [], [(0, (0, yc 14, yc 0)), (1, (0, yc 66, yc 0)), (2, (7, yc 0, yc 0))], []), [(0, [], [], [], [], [(0, yc 14, yc 0)])], [])
def yx211 : yCx := ([], ys211.2.2.2.2, yFP, zm293.2.2.1, zm293.2.2.2.1, zc293, 0, ys211.2.2.2.1, [], [])
theorem yw211 : ywf ys211.2.2.1 = true := by decide +kernel
theorem yk211 : yver yx211 ys211.2.2.1 4000 = true := by decide +kernel
theorem yt211 {E : zHp → Prop} (h : yEF E yFP) : yTs E 1 ys211 := yver_s (x := yx211) h (yal_n) yg293 yk211
def ys212 : ySp := (285, 2, (0, [], [], [], [(0, (0, yc 14, yc 0)), (1, (0, yc 66, yc 0))], []), [(0, [], [], [], [], [])], [])
def yx212 : yCx := ([ys211], ys212.2.2.2.2, yFP, zm285.2.2.1, zm285.2.2.2.1, zc285, 0, ys212.2.2.2.1, [], [])
theorem yw212 : ywf ys212.2.2.1 = true := by decide +kernel
theorem yk212 : yver yx212 ys212.2.2.1 4000 = true := by decide +kernel
theorem yt212 {E : zHp → Prop} (h : yEF E yFP) : yTs E 2 ys212 := yver_s (x := yx212) h (yal_c (yt211 h) (by decide) yw211 (yal_n)) yg285 yk212
def ys213 : ySp := (286, 2, (0, [], [], [], [(0, (2, yc 1023, yc 0)), (1, (0, yc 14, yc 0))], []), [(0, [], [], [], [], [(0, yc 114, yc 0)])], [])
def yx213 : yCx := ([ys212], ys213.2.2.2.2, yFP, zm286.2.2.1, zm286.2.2.2.1, zc286, 0, ys213.2.2.2.1, [], [])
theorem yw213 : ywf ys213.2.2.1 = true := by decide +kernel
theorem yk213 : yver yx213 ys213.2.2.1 4000 = true := by decide +kernel
theorem yt213 {E : zHp → Prop} (h : yEF E yFP) : yTs E 3 ys213 := yver_s (x := yx213) h (yal_c (yt212 h) (by decide) yw212 (yal_n)) yg286 yk213
def ys214 : ySp := (282, 2, (0, [], [], [], [(0, (2, yc 1004, yc 0)), (1, (0, yc 14, yc 0))], []), [(0, [], [], [], [], [(0, yc 114, yc 0)])], [])
def yx214 : yCx := ([ys154, ys213], ys214.2.2.2.2, yFP, zm282.2.2.1, zm282.2.2.2.1, zc282, 0, ys214.2.2.2.1, [], [])
theorem yw214 : ywf ys214.2.2.1 = true := by decide +kernel
theorem yk214 : yver yx214 ys214.2.2.1 4000 = true := by decide +kernel
theorem yt214 {E : zHp → Prop} (h : yEF E yFP) : yTs E 4 ys214 := yver_s (x := yx214) h (yal_c (yt154 h) (by decide) yw154 (yal_c (yt213 h) (by decide) yw213 (yal_n))) yg282 yk214
def ys215 : ySp := (293, 3, (0, [], [], [], [(0, (0, yc 15, yc 0)), (1, (0, yc 66, yc 0)), (2, (7, yc 0, yc 0))], []), [(0, [], [], [], [], [(0, yc 15, yc 0)])], [])
def yx215 : yCx := ([], ys215.2.2.2.2, yFP, zm293.2.2.1, zm293.2.2.2.1, zc293, 0, ys215.2.2.2.1, [], [])
theorem yw215 : ywf ys215.2.2.1 = true := by decide +kernel
theorem yk215 : yver yx215 ys215.2.2.1 4000 = true := by decide +kernel
theorem yt215 {E : zHp → Prop} (h : yEF E yFP) : yTs E 1 ys215 := yver_s (x := yx215) h (yal_n) yg293 yk215
def ys216 : ySp := (285, 2, (0, [], [], [], [(0, (0, yc 15, yc 0)), (1, (0, yc 66, yc 0))], []), [(0, [], [], [], [], [])], [])
def yx216 : yCx := ([ys215], ys216.2.2.2.2, yFP, zm285.2.2.1, zm285.2.2.2.1, zc285, 0, ys216.2.2.2.1, [], [])
theorem yw216 : ywf ys216.2.2.1 = true := by decide +kernel
theorem yk216 : yver yx216 ys216.2.2.1 4000 = true := by decide +kernel
theorem yt216 {E : zHp → Prop} (h : yEF E yFP) : yTs E 2 ys216 := yver_s (x := yx216) h (yal_c (yt215 h) (by decide) yw215 (yal_n)) yg285 yk216
def ys217 : ySp := (286, 2, (0, [], [], [], [(0, (2, yc 1023, yc 0)), (1, (0, yc 15, yc 0))], []), [(0, [], [], [], [], [(0, yc 32, yc 0)])], [])
def yx217 : yCx := ([ys216], ys217.2.2.2.2, yFP, zm286.2.2.1, zm286.2.2.2.1, zc286, 0, ys217.2.2.2.1, [], [])
theorem yw217 : ywf ys217.2.2.1 = true := by decide +kernel
theorem yk217 : yver yx217 ys217.2.2.1 4000 = true := by decide +kernel
theorem yt217 {E : zHp → Prop} (h : yEF E yFP) : yTs E 3 ys217 := yver_s (x := yx217) h (yal_c (yt216 h) (by decide) yw216 (yal_n)) yg286 yk217
