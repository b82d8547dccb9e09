def ys196 : ySp := (118, 3, (1, [(0, 0, 3)], [], [], [(0, (2, yc 11, yc 0)), (1, (0, yc 2, yc 0)), (2, (0, (1, 0, 0), yc 0))], []), [(1, [(0, 0, 0)], [], [], [], [(0, yc 0, yc 0)]), (1, [(0, 1, 3)], [], [], [], [(0, yc 1, yc 0)])], [])
def yx196 : yCx := ([], ys196.2.2.2.2, yFP, zm118.2.2.1, zm118.2.2.2.1, zc118, 1, ys196.2.2.2.1, [], [])
theorem yw196 : ywf ys196.2.2.1 = true := by decide +kernel
theorem yk196 : yver yx196 ys196.2.2.1 4000 = true := by decide +kernel
theorem yt196 {E : zHp → Prop} (h : yXt E) : yTs E ys196 := yver_s (x := yx196) h.1 (yal_n) yg118 yk196
def ys197 : ySp := (118, 3, (1, [(0, 0, 3)], [], [], [(0, (2, yc 11, yc 0)), (1, (0, yc 1, yc 0)), (2, (0, (1, 0, 0), yc 0))], []), [(1, [], [], [], [], [(0, yc 0, yc 0)]), (1, [(0, 1, 3)], [], [], [], [(0, yc 1, yc 0)])], [])
def yx197 : yCx := ([ys176], ys197.2.2.2.2, yFP, zm118.2.2.1, zm118.2.2.2.1, zc118, 1, ys197.2.2.2.1, [], [])
theorem yw197 : ywf ys197.2.2.1 = true := by decide +kernel
theorem yk197 : yver yx197 ys197.2.2.1 4000 = true := by decide +kernel
theorem yt197 {E : zHp → Prop} (h : yXt E) : yTs E ys197 := yver_s (x := yx197) h.1 (yal_c (yt176 h) yw176 (yal_n)) yg118 yk197
def ys198 : ySp := (118, 3, (1, [(0, 0, 3)], [], [], [(0, (2, yc 11, yc 0)), (1, (0, yc 0, yc 0)), (2, (0, (1, 0, 0), yc 0))], []), [(1, [(0, 1, 3)], [], [], [], [(0, yc 0, yc 0)]), (1, [(0, 0, 0)], [], [], [], [(0, yc 1, yc 0)])], [])
def yx198 : yCx := ([], ys198.2.2.2.2, yFP, zm118.2.2.1, zm118.2.2.2.1, zc118, 1, ys198.2.2.2.1, [], [])
theorem yw198 : ywf ys198.2.2.1 = true := by decide +kernel
theorem yk198 : yver yx198 ys198.2.2.1 4000 = true := by decide +kernel
theorem yt198 {E : zHp → Prop} (h : yXt E) : yTs E ys198 := yver_s (x := yx198) h.1 (yal_n) yg118 yk198
def ys199 : ySp := (117, 5, (1, [(0, 0, 3)], [], [(yc 2, yc 0, (2, yc 1, yc 0)), (yc 2, yc 4, (0, yc 0, yc 0))], [(0, (2, yc 4, yc 0)), (1, (2, yc 2, yc 0)), (2, (2, yc 11, yc 0)), (3, (0, (1, 0, 0), yc 0))], []), [(5, [(1, 0, 400), (2, 0, 400), (3, (-2147483648), 2147483647), (4, 0, 2147483647)], [], [(yc 2, yc 0, (2, yc 1, yc 0)), (yc 2, yc 2, (0, (1, 1, 0), yc 0)), (yc 2, yc 1, (0, (1, 2, 0), yc 0)), (yc 5, yc 0, (0, (1, 3, 0), yc 0)), (yc 2, yc 4, (0, (1, 4, 0), yc 0))], [], [])], [(2, 2, 2), (2, 2, 3), (2, 2, 4), (5, 5, 0), (5, 5, 1), (5, 5, 2), (5, 5, 3), (12, 12, 1000)])
def yx199 : yCx := ([ys149, ys152, ys158, ys146, ys148, ys194, ys195, ys196, ys197, ys198, ys155, ys164, ys173, ys178, ys187, ys171, ys184, ys157, ys175, ys190], ys199.2.2.2.2, yFP, zm117.2.2.1, zm117.2.2.2.1, zc117, 1, ys199.2.2.2.1, [], [(18, 0, 4, 0)])
theorem yw199 : ywf ys199.2.2.1 = true := by decide +kernel
theorem yk199 : yver yx199 ys199.2.2.1 4000 = true := by decide +kernel
theorem yt199 {E : zHp → Prop} (h : yXt E) : yTs E ys199 := yver_s (x := yx199) h.1 (yal_c (yt149 h) yw149 (yal_c (yt152 h) yw152 (yal_c (yt158 h) yw158 (yal_c (yt146 h) yw146 (yal_c (yt148 h) yw148 (yal_c (yt194 h) yw194 (yal_c (yt195 h) yw195 (yal_c (yt196 h) yw196 (yal_c (yt197 h) yw197 (yal_c (yt198 h) yw198 (yal_c (yt155 h) yw155 (yal_c (yt164 h) yw164 (yal_c (yt173 h) yw173 (yal_c (yt178 h) yw178 (yal_c (yt187 h) yw187 (yal_c (yt171 h) yw171 (yal_c (yt184 h) yw184 (yal_c (yt157 h) yw157 (yal_c (yt175 h) yw175 (yal_c (yt190 h) yw190 (yal_n))))))))))))))))))))) yg117 yk199
def ys200 : ySp := (118, 3, (1, [(0, 0, 5)], [], [], [(0, (2, yc 11, yc 0)), (1, (0, yc 4, yc 0)), (2, (0, (1, 0, 0), yc 0))], []), [(1, [(0, 0, 0)], [], [], [], [(0, yc 0, yc 0)]), (1, [(0, 1, 5)], [], [], [], [(0, yc 1, yc 0)])], [])
def yx200 : yCx := ([], ys200.2.2.2.2, yFP, zm118.2.2.1, zm118.2.2.2.1, zc118, 1, ys200.2.2.2.1, [], [])
theorem yw200 : ywf ys200.2.2.1 = true := by decide +kernel
theorem yk200 : yver yx200 ys200.2.2.1 4000 = true := by decide +kernel
theorem yt200 {E : zHp → Prop} (h : yXt E) : yTs E ys200 := yver_s (x := yx200) h.1 (yal_n) yg118 yk200
def ys201 : ySp := (118, 3, (1, [(0, 0, 5)], [], [], [(0, (2, yc 11, yc 0)), (1, (0, yc 3, yc 0)), (2, (0, (1, 0, 0), yc 0))], []), [(1, [], [], [], [], [(0, yc 0, yc 0)]), (1, [(0, 1, 5)], [], [], [], [(0, yc 1, yc 0)])], [])
def yx201 : yCx := ([ys159], ys201.2.2.2.2, yFP, zm118.2.2.1, zm118.2.2.2.1, zc118, 1, ys201.2.2.2.1, [], [])
theorem yw201 : ywf ys201.2.2.1 = true := by decide +kernel
theorem yk201 : yver yx201 ys201.2.2.1 4000 = true := by decide +kernel
theorem yt201 {E : zHp → Prop} (h : yXt E) : yTs E ys201 := yver_s (x := yx201) h.1 (yal_c (yt159 h) yw159 (yal_n)) yg118 yk201
def ys202 : ySp := (118, 3, (1, [(0, 0, 5)], [], [], [(0, (2, yc 11, yc 0)), (1, (0, yc 2, yc 0)), (2, (0, (1, 0, 0), yc 0))], []), [(1, [(0, 0, 0)], [], [], [], [(0, yc 0, yc 0)]), (1, [(0, 1, 5)], [], [], [], [(0, yc 1, yc 0)])], [])
def yx202 : yCx := ([], ys202.2.2.2.2, yFP, zm118.2.2.1, zm118.2.2.2.1, zc118, 1, ys202.2.2.2.1, [], [])
theorem yw202 : ywf ys202.2.2.1 = true := by decide +kernel
theorem yk202 : yver yx202 ys202.2.2.1 4000 = true := by decide +kernel
theorem yt202 {E : zHp → Prop} (h : yXt E) : yTs E ys202 := yver_s (x := yx202) h.1 (yal_n) yg118 yk202
def ys203 : ySp := (118, 3, (1, [(0, 0, 5)], [], [], [(0, (2, yc 11, yc 0)), (1, (0, yc 1, yc 0)), (2, (0, (1, 0, 0), yc 0))], []), [(1, [], [], [], [], [(0, yc 0, yc 0)]), (1, [(0, 1, 5)], [], [], [], [(0, yc 1, yc 0)])], [])
def yx203 : yCx := ([ys176], ys203.2.2.2.2, yFP, zm118.2.2.1, zm118.2.2.2.1, zc118, 1, ys203.2.2.2.1, [], [])
theorem yw203 : ywf ys203.2.2.1 = true := by decide +kernel
theorem yk203 : yver yx203 ys203.2.2.1 4000 = true := by decide +kernel
theorem yt203 {E : zHp → Prop} (h : yXt E) : yTs E ys203 := yver_s (x := yx203) h.1 (yal_c (yt176 h) yw176 (yal_n)) yg118 yk203
def ys204 : ySp := (118, 3, (1, [(0, 0, 5)], [], [], [(0, (2, yc 11, yc 0)), (1, (0, yc 0, yc 0)), (2, (0, (1, 0, 0), yc 0))], []), [(1, [(0, 1, 5)], [], [], [], [(0, yc 0, yc 0)]), (1, [(0, 0, 0)], [], [], [], [(0, yc 1, yc 0)])], [])
def yx204 : yCx := ([], ys204.2.2.2.2, yFP, zm118.2.2.1, zm118.2.2.2.1, zc118, 1, ys204.2.2.2.1, [], [])
theorem yw204 : ywf ys204.2.2.1 = true := by decide +kernel
theorem yk204 : yver yx204 ys204.2.2.1 4000 = true := by decide +kernel
theorem yt204 {E : zHp → Prop} (h : yXt E) : yTs E ys204 := yver_s (x := yx204) h.1 (yal_n) yg118 yk204
def ys205 : ySp := (117, 5, (1, [(0, 0, 5)], [], [(yc 2, yc 0, (2, yc 1, yc 0)), (yc 2, yc 4, (0, yc 0, yc 0))], [(0, (2, yc 4, yc 0)), (1, (2, yc 2, yc 0)), (2, (2, yc 11, yc 0)), (3, (0, (1, 0, 0), yc 0))], []), [(5, [(1, 0, 400), (2, 0, 400), (3, (-2147483648), 2147483647), (4, 0, 2147483647)], [], [(yc 2, yc 0, (2, yc 1, yc 0)), (yc 2, yc 2, (0, (1, 1, 0), yc 0)), (yc 2, yc 1, (0, (1, 2, 0), yc 0)), (yc 5, yc 0, (0, (1, 3, 0), yc 0)), (yc 2, yc 4, (0, (1, 4, 0), yc 0))], [], [])], [(2, 2, 2), (2, 2, 3), (2, 2, 4), (5, 5, 0), (5, 5, 1), (5, 5, 2), (5, 5, 3), (12, 12, 1000)])
def yx205 : yCx := ([ys149, ys152, ys158, ys146, ys148, ys200, ys201, ys202, ys203, ys204, ys155, ys164, ys173, ys178, ys187, ys171, ys184, ys157, ys175, ys190], ys205.2.2.2.2, yFP, zm117.2.2.1, zm117.2.2.2.1, zc117, 1, ys205.2.2.2.1, [], [(18, 0, 4, 0)])
theorem yw205 : ywf ys205.2.2.1 = true := by decide +kernel
theorem yk205 : yver yx205 ys205.2.2.1 4000 = true := by decide +kernel
theorem yt205 {E : zHp → Prop} (h : yXt E) : yTs E ys205 := yver_s (x := yx205) h.1 (yal_c (yt149 h) yw149 (yal_c (yt152 h) yw152 (yal_c (yt158 h) yw158 (yal_c (yt146 h) yw146 (yal_c (yt148 h) yw148 (yal_c (yt200 h) yw200 (yal_c (yt201 h) yw201 (yal_c (yt202 h) yw202 (yal_c (yt203 h) yw203 (yal_c (yt204 h) yw204 (yal_c (yt155 h) yw155 (yal_c (yt164 h) yw164 (yal_c (yt173 h) yw173 (yal_c (yt178 h) yw178 (yal_c (yt187 h) yw187 (yal_c (yt171 h) yw171 (yal_c (yt184 h) yw184 (yal_c (yt157 h) yw157 (yal_c (yt175 h) yw175 (yal_c (yt190 h) yw190 (yal_n))))))))))))))))))))) yg117 yk205
def ys206 : ySp := (118, 3, (1, [(0, 0, 6)], [], [], [(0, (2, yc 11, yc 0)), (1, (0, yc 4, yc 0)), (2, (0, (1, 0, 0), yc 0))], []), [(1, [(0, 0, 0)], [], [], [], [(0, yc 0, yc 0)]), (1, [(0, 1, 6)], [], [], [], [(0, yc 1, yc 0)])], [])
def yx206 : yCx := ([], ys206.2.2.2.2, yFP, zm118.2.2.1, zm118.2.2.2.1, zc118, 1, ys206.2.2.2.1, [], [])
theorem yw206 : ywf ys206.2.2.1 = true := by decide +kernel
theorem yk206 : yver yx206 ys206.2.2.1 4000 = true := by decide +kernel
theorem yt206 {E : zHp → Prop} (h : yXt E) : yTs E ys206 := yver_s (x := yx206) h.1 (yal_n) yg118 yk206
def ys207 : ySp := (118, 3, (1, [(0, 0, 6)], [], [], [(0, (2, yc 11, yc 0)), (1, (0, yc 3, yc 0)), (2, (0, (1, 0, 0), yc 0))], []), [(1, [], [], [], [], [(0, yc 0, yc 0)]), (1, [(0, 1, 6)], [], [], [], [(0, yc 1, yc 0)])], [])
def yx207 : yCx := ([ys159], ys207.2.2.2.2, yFP, zm118.2.2.1, zm118.2.2.2.1, zc118, 1, ys207.2.2.2.1, [], [])
theorem yw207 : ywf ys207.2.2.1 = true := by decide +kernel
theorem yk207 : yver yx207 ys207.2.2.1 4000 = true := by decide +kernel
theorem yt207 {E : zHp → Prop} (h : yXt E) : yTs E ys207 := yver_s (x := yx207) h.1 (yal_c (yt159 h) yw159 (yal_n)) yg118 yk207
def ys208 : ySp := (118, 3, (1, [(0, 0, 6)], [], [], [(0, (2, yc 11, yc 0)), (1, (0, yc 2, yc 0)), (2, (0, (1, 0, 0), yc 0))], []), [(1, [(0, 0, 0)], [], [], [], [(0, yc 0, yc 0)]), (1, [(0, 1, 6)], [], [], [], [(0, yc 1, yc 0)])], [])
def yx208 : yCx := ([], ys208.2.2.2.2, yFP, zm118.2.2.1, zm118.2.2.2.1, zc118, 1, ys208.2.2.2.1, [], [])
theorem yw208 : ywf ys208.2.2.1 = true := by decide +kernel
theorem yk208 : yver yx208 ys208.2.2.1 4000 = true := by decide +kernel
theorem yt208 {E : zHp → Prop} (h : yXt E) : yTs E ys208 := yver_s (x := yx208) h.1 (yal_n) yg118 yk208
def ys209 : ySp := (118, 3, (1, [(0, 0, 6)], [], [], [(0, (2, yc 11, yc 0)), (1, (0, yc 1, yc 0)), (2, (0, (1, 0, 0), yc 0))], []), [(1, [], [], [], [], [(0, yc 0, yc 0)]), (1, [(0, 1, 6)], [], [], [], [(0, yc 1, yc 0)])], [])
def yx209 : yCx := ([ys176], ys209.2.2.2.2, yFP, zm118.2.2.1, zm118.2.2.2.1, zc118, 1, ys209.2.2.2.1, [], [])
theorem yw209 : ywf ys209.2.2.1 = true := by decide +kernel
theorem yk209 : yver yx209 ys209.2.2.1 4000 = true := by decide +kernel
theorem yt209 {E : zHp → Prop} (h : yXt E) : yTs E ys209 := yver_s (x := yx209) h.1 (yal_c (yt176 h) yw176 (yal_n)) yg118 yk209
def ys210 : ySp := (118, 3, (1, [(0, 0, 6)], [], [], [(0, (2, yc 11, yc 0)), (1, (0, yc 0, yc 0)), (2, (0, (1, 0, 0), yc 0))], []), [(1, [(0, 1, 6)], [], [], [], [(0, yc 0, yc 0)]), (1, [(0, 0, 0)], [], [], [], [(0, yc 1, yc 0)])], [])
def yx210 : yCx := ([], ys210.2.2.2.2, yFP, zm118.2.2.1, zm118.2.2.2.1, zc118, 1, ys210.2.2.2.1, [], [])
theorem yw210 : ywf ys210.2.2.1 = true := by decide +kernel
theorem yk210 : yver yx210 ys210.2.2.1 4000 = true := by decide +kernel
theorem yt210 {E : zHp → Prop} (h : yXt E) : yTs E ys210 := yver_s (x := yx210) h.1 (yal_n) yg118 yk210
def ys211 : ySp := (117, 5, (1, [(0, 0, 6)], [], [(yc 2, yc 0, (2, yc 1, yc 0)), (yc 2, yc 4, (0, yc 0, yc 0))], [(0, (2, yc 4, yc 0)), (1, (2, yc 2, yc 0)), (2, (2, yc 11, yc 0)), (3, (0, (1, 0, 0), yc 0))], []), [(5, [(1, 0, 400), (2, 0, 400), (3, (-2147483648), 2147483647), (4, 0, 2147483647)], [], [(yc 2, yc 0, (2, yc 1, yc 0)), (yc 2, yc 2, (0, (1, 1, 0), yc 0)), (yc 2, yc 1, (0, (1, 2, 0), yc 0)), (yc 5, yc 0, (0, (1, 3, 0), yc 0)), (yc 2, yc 4, (0, (1, 4, 0), yc 0))], [], [])], [(2, 2, 2), (2, 2, 3), (2, 2, 4), (5, 5, 0), (5, 5, 1), (5, 5, 2), (5, 5, 3), (12, 12, 1000)])
def yx211 : yCx := ([ys149, ys152, ys158, ys146, ys148, ys206, ys207, ys208, ys209, ys210, ys155, ys164, ys173, ys178, ys187, ys171, ys184, ys157, ys175, ys190], ys211.2.2.2.2, yFP, zm117.2.2.1, zm117.2.2.2.1, zc117, 1, ys211.2.2.2.1, [], [(18, 0, 4, 0)])
theorem yw211 : ywf ys211.2.2.1 = true := by decide +kernel
theorem yk211 : yver yx211 ys211.2.2.1 4000 = true := by decide +kernel
theorem yt211 {E : zHp → Prop} (h : yXt E) : yTs E ys211 := yver_s (x := yx211) h.1 (yal_c (yt149 h) yw149 (yal_c (yt152 h) yw152 (yal_c (yt158 h) yw158 (yal_c (yt146 h) yw146 (yal_c (yt148 h) yw148 (yal_c (yt206 h) yw206 (yal_c (yt207 h) yw207 (yal_c (yt208 h) yw208 (yal_c (yt209 h) yw209 (yal_c (yt210 h) yw210 (yal_c (yt155 h) yw155 (yal_c (yt164 h) yw164 (yal_c (yt173 h) yw173 (yal_c (yt178 h) yw178 (yal_c (yt187 h) yw187 (yal_c (yt171 h) yw171 (yal_c (yt184 h) yw184 (yal_c (yt157 h) yw157 (yal_c (yt175 h) yw175 (yal_c (yt190 h) yw190 (yal_n))))))))))))))))))))) yg117 yk211
def ys212 : ySp := (118, 3, (1, [(0, 0, 7)], [], [], [(0, (2, yc 11, yc 0)), (1, (0, yc 4, yc 0)), (2, (0, (1, 0, 0), yc 0))], []), [(1, [(0, 0, 0)], [], [], [], [(0, yc 0, yc 0)]), (1, [(0, 1, 7)], [], [], [], [(0, yc 1, yc 0)])], [])
def yx212 : yCx := ([], ys212.2.2.2.2, yFP, zm118.2.2.1, zm118.2.2.2.1, zc118, 1, ys212.2.2.2.1, [], [])
theorem yw212 : ywf ys212.2.2.1 = true := by decide +kernel
theorem yk212 : yver yx212 ys212.2.2.1 4000 = true := by decide +kernel
theorem yt212 {E : zHp → Prop} (h : yXt E) : yTs E ys212 := yver_s (x := yx212) h.1 (yal_n) yg118 yk212
def ys213 : ySp := (118, 3, (1, [(0, 0, 7)], [], [], [(0, (2, yc 11, yc 0)), (1, (0, yc 3, yc 0)), (2, (0, (1, 0, 0), yc 0))], []), [(1, [], [], [], [], [(0, yc 0, yc 0)]), (1, [(0, 1, 7)], [], [], [], [(0, yc 1, yc 0)])], [])
def yx213 : yCx := ([ys159], ys213.2.2.2.2, yFP, zm118.2.2.1, zm118.2.2.2.1, zc118, 1, ys213.2.2.2.1, [], [])
theorem yw213 : ywf ys213.2.2.1 = true := by decide +kernel
theorem yk213 : yver yx213 ys213.2.2.1 4000 = true := by decide +kernel
theorem yt213 {E : zHp → Prop} (h : yXt E) : yTs E ys213 := yver_s (x := yx213) h.1 (yal_c (yt159 h) yw159 (yal_n)) yg118 yk213
def ys214 : ySp := (118, 3, (1, [(0, 0, 7)], [], [], [(0, (2, yc 11, yc 0)), (1, (0, yc 2, yc 0)), (2, (0, (1, 0, 0), yc 0))], []), [(1, [(0, 0, 0)], [], [], [], [(0, yc 0, yc 0)]), (1, [(0, 1, 7)], [], [], [], [(0, yc 1, yc 0)])], [])
def yx214 : yCx := ([], ys214.2.2.2.2, yFP, zm118.2.2.1, zm118.2.2.2.1, zc118, 1, ys214.2.2.2.1, [], [])
theorem yw214 : ywf ys214.2.2.1 = true := by decide +kernel
theorem yk214 : yver yx214 ys214.2.2.1 4000 = true := by decide +kernel
theorem yt214 {E : zHp → Prop} (h : yXt E) : yTs E ys214 := yver_s (x := yx214) h.1 (yal_n) yg118 yk214
def ys215 : ySp := (118, 3, (1, [(0, 0, 7)], [], [], [(0, (2, yc 11, yc 0)), (1, (0, yc 1, yc 0)), (2, (0, (1, 0, 0), yc 0))], []), [(1, [], [], [], [], [(0, yc 0, yc 0)]), (1, [(0, 1, 7)], [], [], [], [(0, yc 1, yc 0)])], [])
def yx215 : yCx := ([ys176], ys215.2.2.2.2, yFP, zm118.2.2.1, zm118.2.2.2.1, zc118, 1, ys215.2.2.2.1, [], [])
theorem yw215 : ywf ys215.2.2.1 = true := by decide +kernel
theorem yk215 : yver yx215 ys215.2.2.1 4000 = true := by decide +kernel
theorem yt215 {E : zHp → Prop} (h : yXt E) : yTs E ys215 := yver_s (x := yx215) h.1 (yal_c (yt176 h) yw176 (yal_n)) yg118 yk215
def ys216 : ySp := (118, 3, (1, [(0, 0, 7)], [], [], [(0, (2, yc 11, yc 0)), (1, (0, yc 0, yc 0)), (2, (0, (1, 0, 0), yc 0))], []), [(1, [(0, 1, 7)], [], [], [], [(0, yc 0, yc 0)]), (1, [(0, 0, 0)], [], [], [], [(0, yc 1, yc 0)])], [])
def yx216 : yCx := ([], ys216.2.2.2.2, yFP, zm118.2.2.1, zm118.2.2.2.1, zc118, 1, ys216.2.2.2.1, [], [])
theorem yw216 : ywf ys216.2.2.1 = true := by decide +kernel
theorem yk216 : yver yx216 ys216.2.2.1 4000 = true := by decide +kernel
theorem yt216 {E : zHp → Prop} (h : yXt E) : yTs E ys216 := yver_s (x := yx216) h.1 (yal_n) yg118 yk216
def ys217 : ySp := (117, 5, (1, [(0, 0, 7)], [], [(yc 2, yc 0, (2, yc 1, yc 0)), (yc 2, yc 4, (0, yc 0, yc 0))], [(0, (2, yc 4, yc 0)), (1, (2, yc 2, yc 0)), (2, (2, yc 11, yc 0)), (3, (0, (1, 0, 0), yc 0))], []), [(5, [(1, 0, 400), (2, 0, 400), (3, (-2147483648), 2147483647), (4, 0, 2147483647)], [], [(yc 2, yc 0, (2, yc 1, yc 0)), (yc 2, yc 2, (0, (1, 1, 0), yc 0)), (yc 2, yc 1, (0, (1, 2, 0), yc 0)), (yc 5, yc 0, (0, (1, 3, 0), yc 0)), (yc 2, yc 4, (0, (1, 4, 0), yc 0))], [], [])], [(2, 2, 2), (2, 2, 3), (2, 2, 4), (5, 5, 0), (5, 5, 1), (5, 5, 2), (5, 5, 3), (12, 12, 1000)])
def yx217 : yCx := ([ys149, ys152, ys158, ys146, ys148, ys212, ys213, ys214, ys215, ys216, ys155, ys164, ys173, ys178, ys187, ys171, ys184, ys157, ys175, ys190], ys217.2.2.2.2, yFP, zm117.2.2.1, zm117.2.2.2.1, zc117, 1, ys217.2.2.2.1, [], [(18, 0, 4, 0)])
theorem yw217 : ywf ys217.2.2.1 = true := by decide +kernel
theorem yk217 : yver yx217 ys217.2.2.1 4000 = true := by decide +kernel
theorem yt217 {E : zHp → Prop} (h : yXt E) : yTs E ys217 := yver_s (x := yx217) h.1 (yal_c (yt149 h) yw149 (yal_c (yt152 h) yw152 (yal_c (yt158 h) yw158 (yal_c (yt146 h) yw146 (yal_c (yt148 h) yw148 (yal_c (yt212 h) yw212 (yal_c (yt213 h) yw213 (yal_c (yt214 h) yw214 (yal_c (yt215 h) yw215 (yal_c (yt216 h) yw216 (yal_c (yt155 h) yw155 (yal_c (yt164 h) yw164 (yal_c (yt173 h) yw173 (yal_c (yt178 h) yw178 (yal_c (yt187 h) yw187 (yal_c (yt171 h) yw171 (yal_c (yt184 h) yw184 (yal_c (yt157 h) yw157 (yal_c (yt175 h) yw175 (yal_c (yt190 h) yw190 (yal_n))))))))))))))))))))) yg117 yk217
def ys218 : ySp := (118, 3, (1, [(0, 0, 63)], [], [], [(0, (2, yc 11, yc 0)), (1, (0, yc 4, yc 0)), (2, (0, (1, 0, 0), yc 0))], []), [(1, [], [], [], [], [(0, yc 0, yc 0)]), (1, [(0, 1, 39)], [], [], [], [(0, yc 1, yc 0)])], [])
def yx218 : yCx := ([], ys218.2.2.2.2, yFP, zm118.2.2.1, zm118.2.2.2.1, zc118, 1, ys218.2.2.2.1, [], [])
theorem yw218 : ywf ys218.2.2.1 = true := by decide +kernel
theorem yk218 : yver yx218 ys218.2.2.1 4000 = true := by decide +kernel
theorem yt218 {E : zHp → Prop} (h : yXt E) : yTs E ys218 := yver_s (x := yx218) h.1 (yal_n) yg118 yk218
def ys219 : ySp := (118, 3, (1, [(0, 0, 63)], [], [], [(0, (2, yc 11, yc 0)), (1, (0, yc 3, yc 0)), (2, (0, (1, 0, 0), yc 0))], []), [(1, [], [], [], [], [(0, yc 0, yc 0)]), (1, [(0, 1, 39)], [], [], [], [(0, yc 1, yc 0)])], [])
def yx219 : yCx := ([ys159], ys219.2.2.2.2, yFP, zm118.2.2.1, zm118.2.2.2.1, zc118, 1, ys219.2.2.2.1, [], [])
theorem yw219 : ywf ys219.2.2.1 = true := by decide +kernel
theorem yk219 : yver yx219 ys219.2.2.1 4000 = true := by decide +kernel
theorem yt219 {E : zHp → Prop} (h : yXt E) : yTs E ys219 := yver_s (x := yx219) h.1 (yal_c (yt159 h) yw159 (yal_n)) yg118 yk219
def ys220 : ySp := (118, 3, (1, [(0, 0, 63)], [], [], [(0, (2, yc 11, yc 0)), (1, (0, yc 2, yc 0)), (2, (0, (1, 0, 0), yc 0))], []), [(1, [], [], [], [], [(0, yc 0, yc 0)]), (1, [(0, 1, 39)], [], [], [], [(0, yc 1, yc 0)])], [])
def yx220 : yCx := ([], ys220.2.2.2.2, yFP, zm118.2.2.1, zm118.2.2.2.1, zc118, 1, ys220.2.2.2.1, [], [])
theorem yw220 : ywf ys220.2.2.1 = true := by decide +kernel
theorem yk220 : yver yx220 ys220.2.2.1 4000 = true := by decide +kernel
theorem yt220 {E : zHp → Prop} (h : yXt E) : yTs E ys220 := yver_s (x := yx220) h.1 (yal_n) yg118 yk220
def ys221 : ySp := (118, 3, (1, [(0, 0, 63)], [], [], [(0, (2, yc 11, yc 0)), (1, (0, yc 1, yc 0)), (2, (0, (1, 0, 0), yc 0))], []), [(1, [], [], [], [], [(0, yc 0, yc 0)]), (1, [(0, 1, 39)], [], [], [], [(0, yc 1, yc 0)])], [])
def yx221 : yCx := ([ys176], ys221.2.2.2.2, yFP, zm118.2.2.1, zm118.2.2.2.1, zc118, 1, ys221.2.2.2.1, [], [])
theorem yw221 : ywf ys221.2.2.1 = true := by decide +kernel
theorem yk221 : yver yx221 ys221.2.2.1 4000 = true := by decide +kernel
theorem yt221 {E : zHp → Prop} (h : yXt E) : yTs E ys221 := yver_s (x := yx221) h.1 (yal_c (yt176 h) yw176 (yal_n)) yg118 yk221
def ys222 : ySp := (118, 3, (1, [(0, 0, 63)], [], [], [(0, (2, yc 11, yc 0)), (1, (0, yc 0, yc 0)), (2, (0, (1, 0, 0), yc 0))], []), [(1, [(0, 1, 63)], [], [], [], [(0, yc 0, yc 0)]), (1, [(0, 0, 0)], [], [], [], [(0, yc 1, yc 0)])], [])
def yx222 : yCx := ([], ys222.2.2.2.2, yFP, zm118.2.2.1, zm118.2.2.2.1, zc118, 1, ys222.2.2.2.1, [], [])
theorem yw222 : ywf ys222.2.2.1 = true := by decide +kernel
theorem yk222 : yver yx222 ys222.2.2.1 4000 = true := by decide +kernel
theorem yt222 {E : zHp → Prop} (h : yXt E) : yTs E ys222 := yver_s (x := yx222) h.1 (yal_n) yg118 yk222
def ys223 : ySp := (117, 5, (1, [(0, 0, 63)], [], [(yc 2, yc 0, (2, yc 1, yc 0)), (yc 2, yc 4, (0, yc 0, yc 0))], [(0, (2, yc 4, yc 0)), (1, (2, yc 2, yc 0)), (2, (2, yc 11, yc 0)), (3, (0, (1, 0, 0), yc 0))], []), [(5, [(1, 0, 400), (2, 0, 400), (3, (-2147483648), 2147483647), (4, 0, 2147483647)], [], [(yc 2, yc 0, (2, yc 1, yc 0)), (yc 2, yc 2, (0, (1, 1, 0), yc 0)), (yc 2, yc 1, (0, (1, 2, 0), yc 0)), (yc 5, yc 0, (0, (1, 3, 0), yc 0)), (yc 2, yc 4, (0, (1, 4, 0), yc 0))], [], [])], [(2, 2, 2), (2, 2, 3), (2, 2, 4), (5, 5, 0), (5, 5, 1), (5, 5, 2), (5, 5, 3), (12, 12, 1000)])
def yx223 : yCx := ([ys149, ys152, ys158, ys146, ys148, ys218, ys219, ys220, ys221, ys222, ys155, ys164, ys173, ys178, ys187, ys171, ys184, ys157, ys175, ys190], ys223.2.2.2.2, yFP, zm117.2.2.1, zm117.2.2.2.1, zc117, 1, ys223.2.2.2.1, [], [(18, 0, 4, 0)])
theorem yw223 : ywf ys223.2.2.1 = true := by decide +kernel
theorem yk223 : yver yx223 ys223.2.2.1 4000 = true := by decide +kernel
theorem yt223 {E : zHp → Prop} (h : yXt E) : yTs E ys223 := yver_s (x := yx223) h.1 (yal_c (yt149 h) yw149 (yal_c (yt152 h) yw152 (yal_c (yt158 h) yw158 (yal_c (yt146 h) yw146 (yal_c (yt148 h) yw148 (yal_c (yt218 h) yw218 (yal_c (yt219 h) yw219 (yal_c (yt220 h) yw220 (yal_c (yt221 h) yw221 (yal_c (yt222 h) yw222 (yal_c (yt155 h) yw155 (yal_c (yt164 h) yw164 (yal_c (yt173 h) yw173 (yal_c (yt178 h) yw178 (yal_c (yt187 h) yw187 (yal_c (yt171 h) yw171 (yal_c (yt184 h) yw184 (yal_c (yt157 h) yw157 (yal_c (yt175 h) yw175 (yal_c (yt190 h) yw190 (yal_n))))))))))))))))))))) yg117 yk223
def ys224 : ySp := (116, 4, (0, [], [], [(yc 2, yc 0, (2, yc 1, yc 0)), (yc 2, yc 4, (0, yc 0, yc 0))], [(0, (2, yc 4, yc 0)), (1, (2, yc 2, yc 0)), (2, (2, yc 11, yc 0))], []), [(4, [(0, (-2147483648), 2147483647), (1, 0, 400), (2, 0, 400), (3, 0, 2147483647)], [], [(yc 5, yc 0, (0, (1, 0, 0), yc 0)), (yc 2, yc 0, (2, yc 1, yc 0)), (yc 2, yc 2, (0, (1, 1, 0), yc 0)), (yc 2, yc 1, (0, (1, 2, 0), yc 0)), (yc 2, yc 4, (0, (1, 3, 0), yc 0))], [], [])], [(2, 2, 2), (2, 2, 3), (2, 2, 4), (5, 5, 0), (5, 5, 1), (5, 5, 2), (5, 5, 3), (12, 12, 1000)])
def yx224 : yCx := ([ys193, ys223], ys224.2.2.2.2, yFP, zm116.2.2.1, zm116.2.2.2.1, zc116, 0, ys224.2.2.2.1, [(2, (1, [(0, 0, 41)], [], [(yc 2, yc 0, (2, yc 1, yc 0)), (yc 2, yc 4, (0, yc 0, yc 0))], [(0, (2, yc 4, yc 0)), (1, (2, yc 2, yc 0)), (2, (2, yc 11, yc 0)), (3, (0, (1, 0, 0), yc 0))], []), ([((-1), 0)], 41))], [])
theorem yw224 : ywf ys224.2.2.1 = true := by decide +kernel
theorem yk224 : yver yx224 ys224.2.2.1 4000 = true := by decide +kernel
theorem yt224 {E : zHp → Prop} (h : yXt E) : yTs E ys224 := yver_s (x := yx224) h.1 (yal_c (yt193 h) yw193 (yal_c (yt223 h) yw223 (yal_n))) yg116 yk224
def ys225 : ySp := (70, 2, (0, [], [], [], [(0, (2, yc 9, yc 0)), (1, (2, yc 11, yc 0))], []), [(0, [], [], [], [], [])], [(10, 10, 1000)])
def yx225 : yCx := ([], ys225.2.2.2.2, yFP, zm70.2.2.1, zm70.2.2.2.1, zc70, 0, ys225.2.2.2.1, [], [])
theorem yw225 : ywf ys225.2.2.1 = true := by decide +kernel
theorem yk225 : yver yx225 ys225.2.2.1 4000 = true := by decide +kernel
theorem yt225 {E : zHp → Prop} (h : yXt E) : yTs E ys225 := yver_s (x := yx225) h.1 (yal_n) yg70 yk225
def ys226 : ySp := (15, 1, (0, [], [], [], [(0, (2, yc 14, yc 0))], []), [(0, [], [], [], [], [])], [(14, 14, 2)])
def yx226 : yCx := ([], ys226.2.2.2.2, yFP, zm15.2.2.1, zm15.2.2.2.1, zc15, 0, ys226.2.2.2.1, [], [])
theorem yw226 : ywf ys226.2.2.1 = true := by decide +kernel
theorem yk226 : yver yx226 ys226.2.2.1 4000 = true := by decide +kernel
theorem yt226 {E : zHp → Prop} (h : yXt E) : yTs E ys226 := yver_s (x := yx226) h.1 (yal_n) yg15 yk226
def ys227 : ySp := (79, 1, (1, [(0, 0, 6)], [], [(yc 10, yc 2, (0, (1, 0, 0), yc 0))], [(0, (2, yc 9, yc 0))], []), [(1, [], [], [(yc 10, yc 2, (0, (1, 0, 0), yc 0))], [], [(0, (1, 0, 0), yc 0)])], [])
def yx227 : yCx := ([], ys227.2.2.2.2, yFP, zm79.2.2.1, zm79.2.2.2.1, zc79, 1, ys227.2.2.2.1, [], [])
theorem yw227 : ywf ys227.2.2.1 = true := by decide +kernel
theorem yk227 : yver yx227 ys227.2.2.1 4000 = true := by decide +kernel
theorem yt227 {E : zHp → Prop} (h : yXt E) : yTs E ys227 := yver_s (x := yx227) h.1 (yal_n) yg79 yk227
def ys228 : ySp := (125, 1, (0, [], [], [], [(0, (2, yc 0, yc 0))], []), [(5, [(0, (-2147483648), 2147483647), (1, (-2147483648), 2147483647), (2, 0, 400), (3, 0, 400), (4, 0, 2147483647)], [], [(yc 5, yc 0, (0, (1, 1, 0), yc 0)), (yc 2, yc 0, (2, yc 1, yc 0)), (yc 2, yc 2, (0, (1, 2, 0), yc 0)), (yc 2, yc 1, (0, (1, 3, 0), yc 0)), (yc 2, yc 4, (0, (1, 4, 0), yc 0))], [], [(0, (1, 0, 0), yc 0)])], [(0, 0, 1), (2, 2, 0), (2, 2, 1), (2, 2, 2), (2, 2, 3), (2, 2, 4), (5, 5, 0), (5, 5, 1), (5, 5, 2), (5, 5, 3), (10, 10, 1000), (12, 12, 1000), (14, 14, 2)])
def yx228 : yCx := ([ys226, ys152, ys225, ys227, ys224, ys14], ys228.2.2.2.2, yFP, zm125.2.2.1, zm125.2.2.2.1, zc125, 0, ys228.2.2.2.1, [], [])
theorem yw228 : ywf ys228.2.2.1 = true := by decide +kernel
theorem yk228 : yver yx228 ys228.2.2.1 4000 = true := by decide +kernel
theorem yt228 {E : zHp → Prop} (h : yXt E) : yTs E ys228 := yver_s (x := yx228) h.1 (yal_c (yt226 h) yw226 (yal_c (yt152 h) yw152 (yal_c (yt225 h) yw225 (yal_c (yt227 h) yw227 (yal_c (yt224 h) yw224 (yal_c (yt14 h) yw14 (yal_n))))))) yg125 yk228
def ys229 : ySp := (83, 2, (1, [(0, (-2147483648), 2147483647)], [], [], [(0, (2, yc 9, yc 0)), (1, (0, (1, 0, 0), yc 0))], []), [(1, [], [], [], [], [(0, yc 0, yc 0)]), (1, [(0, 0, 5)], [], [], [], [(0, yc 1, yc 0)])], [])
def yx229 : yCx := ([ys227], ys229.2.2.2.2, yFP, zm83.2.2.1, zm83.2.2.2.1, zc83, 1, ys229.2.2.2.1, [], [])
theorem yw229 : ywf ys229.2.2.1 = true := by decide +kernel
theorem yk229 : yver yx229 ys229.2.2.1 4000 = true := by decide +kernel
theorem yt229 {E : zHp → Prop} (h : yXt E) : yTs E ys229 := yver_s (x := yx229) h.1 (yal_c (yt227 h) yw227 (yal_n)) yg83 yk229
def ys230 : ySp := (87, 3, (1, [(0, 0, 5)], [], [], [(0, (2, yc 9, yc 0)), (1, (0, (1, 0, 0), yc 0)), (2, (0, yc 3, yc 0))], []), [(2, [(1, 0, 5)], [], [], [], [(0, (1, 1, 0), yc 0)])], [])
def yx230 : yCx := ([], ys230.2.2.2.2, yFP, zm87.2.2.1, zm87.2.2.2.1, zc87, 1, ys230.2.2.2.1, [], [])
theorem yw230 : ywf ys230.2.2.1 = true := by decide +kernel
theorem yk230 : yver yx230 ys230.2.2.1 4000 = true := by decide +kernel
theorem yt230 {E : zHp → Prop} (h : yXt E) : yTs E ys230 := yver_s (x := yx230) h.1 (yal_n) yg87 yk230
def ys231 : ySp := (87, 3, (1, [(0, 0, 5)], [], [], [(0, (2, yc 9, yc 0)), (1, (0, (1, 0, 0), yc 0)), (2, (0, yc 0, yc 0))], []), [(2, [(1, 0, 5)], [], [], [], [(0, (1, 1, 0), yc 0)])], [])
def yx231 : yCx := ([], ys231.2.2.2.2, yFP, zm87.2.2.1, zm87.2.2.2.1, zc87, 1, ys231.2.2.2.1, [], [])
theorem yw231 : ywf ys231.2.2.1 = true := by decide +kernel
theorem yk231 : yver yx231 ys231.2.2.1 4000 = true := by decide +kernel
theorem yt231 {E : zHp → Prop} (h : yXt E) : yTs E ys231 := yver_s (x := yx231) h.1 (yal_n) yg87 yk231
def ys232 : ySp := (97, 2, (1, [(0, 0, 5)], [], [], [(0, (2, yc 9, yc 0)), (1, (0, (1, 0, 0), yc 0))], []), [(1, [], [], [], [], [(0, yc 0, yc 0)]), (1, [], [], [], [], [(0, yc 1, yc 0)])], [])
def yx232 : yCx := ([ys230, ys231], ys232.2.2.2.2, yFP, zm97.2.2.1, zm97.2.2.2.1, zc97, 1, ys232.2.2.2.1, [], [])
theorem yw232 : ywf ys232.2.2.1 = true := by decide +kernel
theorem yk232 : yver yx232 ys232.2.2.1 4000 = true := by decide +kernel
theorem yt232 {E : zHp → Prop} (h : yXt E) : yTs E ys232 := yver_s (x := yx232) h.1 (yal_c (yt230 h) yw230 (yal_c (yt231 h) yw231 (yal_n))) yg97 yk232
def ys233 : ySp := (87, 3, (1, [(0, 0, 5)], [], [], [(0, (2, yc 9, yc 0)), (1, (0, (1, 0, 0), yc 0)), (2, (0, yc 2, yc 0))], []), [(2, [(1, (-2147483648), 2147483647)], [], [], [], [(0, (1, 1, 0), yc 0)])], [])
def yx233 : yCx := ([], ys233.2.2.2.2, yFP, zm87.2.2.1, zm87.2.2.2.1, zc87, 1, ys233.2.2.2.1, [], [])
theorem yw233 : ywf ys233.2.2.1 = true := by decide +kernel
theorem yk233 : yver yx233 ys233.2.2.1 4000 = true := by decide +kernel
theorem yt233 {E : zHp → Prop} (h : yXt E) : yTs E ys233 := yver_s (x := yx233) h.1 (yal_n) yg87 yk233
def ys234 : ySp := (87, 3, (1, [(0, 0, 5)], [], [], [(0, (2, yc 9, yc 0)), (1, (0, (1, 0, 0), yc 0)), (2, (0, yc 4, yc 0))], []), [(2, [(1, (-2147483648), 2147483647)], [], [], [], [(0, (1, 1, 0), yc 0)])], [])
def yx234 : yCx := ([], ys234.2.2.2.2, yFP, zm87.2.2.1, zm87.2.2.2.1, zc87, 1, ys234.2.2.2.1, [], [])
theorem yw234 : ywf ys234.2.2.1 = true := by decide +kernel
theorem yk234 : yver yx234 ys234.2.2.1 4000 = true := by decide +kernel
theorem yt234 {E : zHp → Prop} (h : yXt E) : yTs E ys234 := yver_s (x := yx234) h.1 (yal_n) yg87 yk234
def ys235 : ySp := (87, 3, (1, [(0, 0, 5)], [], [], [(0, (2, yc 9, yc 0)), (1, (0, (1, 0, 0), yc 0)), (2, (0, yc 5, yc 0))], []), [(2, [(1, (-2147483648), 2147483647)], [], [], [], [(0, (1, 1, 0), yc 0)])], [])
def yx235 : yCx := ([], ys235.2.2.2.2, yFP, zm87.2.2.1, zm87.2.2.2.1, zc87, 1, ys235.2.2.2.1, [], [])
theorem yw235 : ywf ys235.2.2.1 = true := by decide +kernel
theorem yk235 : yver yx235 ys235.2.2.1 4000 = true := by decide +kernel
theorem yt235 {E : zHp → Prop} (h : yXt E) : yTs E ys235 := yver_s (x := yx235) h.1 (yal_n) yg87 yk235
def ys236 : ySp := (78, 1, (0, [], [], [], [(0, (2, yc 9, yc 0))], []), [(1, [(0, (-2147483648), 2147483647)], [], [], [], [(0, (1, 0, 0), yc 0)])], [])
def yx236 : yCx := ([], ys236.2.2.2.2, yFP, zm78.2.2.1, zm78.2.2.2.1, zc78, 0, ys236.2.2.2.1, [], [])
theorem yw236 : ywf ys236.2.2.1 = true := by decide +kernel
theorem yk236 : yver yx236 ys236.2.2.1 4000 = true := by decide +kernel
theorem yt236 {E : zHp → Prop} (h : yXt E) : yTs E ys236 := yver_s (x := yx236) h.1 (yal_n) yg78 yk236
def ys237 : ySp := (98, 2, (1, [(0, 0, 5)], [], [], [(0, (2, yc 9, yc 0)), (1, (0, (1, 0, 0), yc 0))], []), [(2, [(1, 0, 2147483647)], [], [], [], [(0, (1, 1, 0), yc 0)])], [])
def yx237 : yCx := ([ys236, ys235], ys237.2.2.2.2, yFP, zm98.2.2.1, zm98.2.2.2.1, zc98, 1, ys237.2.2.2.1, [], [])
theorem yw237 : ywf ys237.2.2.1 = true := by decide +kernel
theorem yk237 : yver yx237 ys237.2.2.1 4000 = true := by decide +kernel
theorem yt237 {E : zHp → Prop} (h : yXt E) : yTs E ys237 := yver_s (x := yx237) h.1 (yal_c (yt236 h) yw236 (yal_c (yt235 h) yw235 (yal_n))) yg98 yk237
def ys238 : ySp := (100, 3, (1, [(0, 0, 5)], [], [], [(0, (2, yc 9, yc 0)), (1, (0, (1, 0, 0), yc 0)), (2, (0, yc 0, yc 0))], []), [(1, [], [], [], [], [(0, yc 0, yc 0)]), (2, [(1, 0, 2147483647)], [], [], [], [(0, (1, 1, 0), yc 0)])], [])
def yx238 : yCx := ([ys233, ys234, ys232, ys237], ys238.2.2.2.2, yFP, zm100.2.2.1, zm100.2.2.2.1, zc100, 1, ys238.2.2.2.1, [], [])
theorem yw238 : ywf ys238.2.2.1 = true := by decide +kernel
theorem yk238 : yver yx238 ys238.2.2.1 4000 = true := by decide +kernel
theorem yt238 {E : zHp → Prop} (h : yXt E) : yTs E ys238 := yver_s (x := yx238) h.1 (yal_c (yt233 h) yw233 (yal_c (yt234 h) yw234 (yal_c (yt232 h) yw232 (yal_c (yt237 h) yw237 (yal_n))))) yg100 yk238
def ys239 : ySp := (99, 2, (1, [(0, 0, 5)], [], [], [(0, (2, yc 9, yc 0)), (1, (0, (1, 0, 0), yc 0))], []), [(1, [], [], [], [], [(0, yc 0, yc 0)]), (2, [(1, 0, 2147483647)], [], [], [], [(0, (1, 1, 0), yc 0)])], [])
def yx239 : yCx := ([ys238], ys239.2.2.2.2, yFP, zm99.2.2.1, zm99.2.2.2.1, zc99, 1, ys239.2.2.2.1, [], [])
theorem yw239 : ywf ys239.2.2.1 = true := by decide +kernel
theorem yk239 : yver yx239 ys239.2.2.1 4000 = true := by decide +kernel
theorem yt239 {E : zHp → Prop} (h : yXt E) : yTs E ys239 := yver_s (x := yx239) h.1 (yal_c (yt238 h) yw238 (yal_n)) yg99 yk239
def ys240 : ySp := (87, 3, (2, [(0, 0, 5), (1, 0, 6)], [], [], [(0, (2, yc 9, yc 0)), (1, (0, (1, 0, 0), yc 0)), (2, (0, (1, 1, 0), yc 0))], []), [(3, [(2, (-2147483648), 2147483647)], [], [], [], [(0, (1, 2, 0), yc 0)])], [])
def yx240 : yCx := ([], ys240.2.2.2.2, yFP, zm87.2.2.1, zm87.2.2.2.1, zc87, 2, ys240.2.2.2.1, [], [])
theorem yw240 : ywf ys240.2.2.1 = true := by decide +kernel
theorem yk240 : yver yx240 ys240.2.2.1 4000 = true := by decide +kernel
theorem yt240 {E : zHp → Prop} (h : yXt E) : yTs E ys240 := yver_s (x := yx240) h.1 (yal_n) yg87 yk240
def ys241 : ySp := (128, 3, (2, [(0, (-2147483648), 2147483647), (1, (-2147483648), 2147483647)], [], [], [(0, (2, yc 0, yc 0)), (1, (0, (1, 0, 0), yc 0)), (2, (0, (1, 1, 0), yc 0))], []), [(2, [], [], [], [], [(0, yc (-1), yc 0)]), (2, [(0, 0, 5), (1, 6, 6)], [], [], [], [(0, yc 0, yc 0)]), (3, [(0, 0, 5), (1, 0, 7), (2, (-2147483648), 2147483647)], [], [], [], [(0, (1, 2, 0), yc 0)])], [])
def yx241 : yCx := ([ys229, ys240, ys237, ys239], ys241.2.2.2.2, yFP, zm128.2.2.1, zm128.2.2.2.1, zc128, 2, ys241.2.2.2.1, [], [])
theorem yw241 : ywf ys241.2.2.1 = true := by decide +kernel
theorem yk241 : yver yx241 ys241.2.2.1 4000 = true := by decide +kernel
theorem yt241 {E : zHp → Prop} (h : yXt E) : yTs E ys241 := yver_s (x := yx241) h.1 (yal_c (yt229 h) yw229 (yal_c (yt240 h) yw240 (yal_c (yt237 h) yw237 (yal_c (yt239 h) yw239 (yal_n))))) yg128 yk241
def ys242 : ySp := (80, 1, (1, [(0, 0, 6)], [], [(yc 10, yc 3, (0, (1, 0, 0), yc 0))], [(0, (2, yc 9, yc 0))], []), [(1, [], [], [(yc 10, yc 3, (0, (1, 0, 0), yc 0))], [], [(0, (1, 0, 0), yc 0)])], [])
def yx242 : yCx := ([], ys242.2.2.2.2, yFP, zm80.2.2.1, zm80.2.2.2.1, zc80, 1, ys242.2.2.2.1, [], [])
theorem yw242 : ywf ys242.2.2.1 = true := by decide +kernel
theorem yk242 : yver yx242 ys242.2.2.1 4000 = true := by decide +kernel
theorem yt242 {E : zHp → Prop} (h : yXt E) : yTs E ys242 := yver_s (x := yx242) h.1 (yal_n) yg80 yk242
def ys243 : ySp := (84, 2, (1, [(0, (-2147483648), 2147483647)], [], [], [(0, (2, yc 9, yc 0)), (1, (0, (1, 0, 0), yc 0))], []), [(1, [], [], [], [], [(0, yc 0, yc 0)]), (1, [(0, 0, 5)], [], [], [], [(0, yc 1, yc 0)])], [])
def yx243 : yCx := ([ys242], ys243.2.2.2.2, yFP, zm84.2.2.1, zm84.2.2.2.1, zc84, 1, ys243.2.2.2.1, [], [])
theorem yw243 : ywf ys243.2.2.1 = true := by decide +kernel
theorem yk243 : yver yx243 ys243.2.2.1 4000 = true := by decide +kernel
theorem yt243 {E : zHp → Prop} (h : yXt E) : yTs E ys243 := yver_s (x := yx243) h.1 (yal_c (yt242 h) yw242 (yal_n)) yg84 yk243
def ys244 : ySp := (89, 3, (1, [(0, 0, 5)], [], [], [(0, (2, yc 9, yc 0)), (1, (0, (1, 0, 0), yc 0)), (2, (0, yc 4, yc 0))], []), [(2, [(1, (-2147483648), 2147483647)], [], [], [], [(0, (1, 1, 0), yc 0)])], [])
def yx244 : yCx := ([], ys244.2.2.2.2, yFP, zm89.2.2.1, zm89.2.2.2.1, zc89, 1, ys244.2.2.2.1, [], [])
theorem yw244 : ywf ys244.2.2.1 = true := by decide +kernel
theorem yk244 : yver yx244 ys244.2.2.1 4000 = true := by decide +kernel
theorem yt244 {E : zHp → Prop} (h : yXt E) : yTs E ys244 := yver_s (x := yx244) h.1 (yal_n) yg89 yk244
def ys245 : ySp := (106, 2, (1, [(0, 0, 5)], [], [], [(0, (2, yc 9, yc 0)), (1, (0, (1, 0, 0), yc 0))], []), [(1, [], [], [], [], [(0, yc 0, yc 0)]), (1, [], [], [], [], [(0, yc 1, yc 0)])], [])
def yx245 : yCx := ([ys244], ys245.2.2.2.2, yFP, zm106.2.2.1, zm106.2.2.2.1, zc106, 1, ys245.2.2.2.1, [], [])
theorem yw245 : ywf ys245.2.2.1 = true := by decide +kernel
theorem yk245 : yver yx245 ys245.2.2.1 4000 = true := by decide +kernel
theorem yt245 {E : zHp → Prop} (h : yXt E) : yTs E ys245 := yver_s (x := yx245) h.1 (yal_c (yt244 h) yw244 (yal_n)) yg106 yk245
def ys246 : ySp := (87, 3, (1, [(0, 0, 1)], [], [], [(0, (2, yc 9, yc 0)), (1, (0, (1, 0, 0), yc 0)), (2, (0, yc 1, yc 0))], []), [(2, [(1, (-2147483648), 2147483647)], [], [], [], [(0, (1, 1, 0), yc 0)])], [])
def yx246 : yCx := ([], ys246.2.2.2.2, yFP, zm87.2.2.1, zm87.2.2.2.1, zc87, 1, ys246.2.2.2.1, [], [])
theorem yw246 : ywf ys246.2.2.1 = true := by decide +kernel
theorem yk246 : yver yx246 ys246.2.2.1 4000 = true := by decide +kernel
theorem yt246 {E : zHp → Prop} (h : yXt E) : yTs E ys246 := yver_s (x := yx246) h.1 (yal_n) yg87 yk246
def ys247 : ySp := (89, 3, (1, [(0, 0, 5)], [], [], [(0, (2, yc 9, yc 0)), (1, (0, (1, 0, 0), yc 0)), (2, (0, yc 1, yc 0))], []), [(2, [(1, (-2147483648), 2147483647)], [], [], [], [(0, (1, 1, 0), yc 0)])], [])
def yx247 : yCx := ([], ys247.2.2.2.2, yFP, zm89.2.2.1, zm89.2.2.2.1, zc89, 1, ys247.2.2.2.1, [], [])
theorem yw247 : ywf ys247.2.2.1 = true := by decide +kernel
theorem yk247 : yver yx247 ys247.2.2.1 4000 = true := by decide +kernel
theorem yt247 {E : zHp → Prop} (h : yXt E) : yTs E ys247 := yver_s (x := yx247) h.1 (yal_n) yg89 yk247
def ys248 : ySp := (89, 3, (1, [(0, 0, 5)], [], [], [(0, (2, yc 9, yc 0)), (1, (0, (1, 0, 0), yc 0)), (2, (0, yc 0, yc 0))], []), [(2, [(1, 0, 5)], [], [], [], [(0, (1, 1, 0), yc 0)])], [])
def yx248 : yCx := ([], ys248.2.2.2.2, yFP, zm89.2.2.1, zm89.2.2.2.1, zc89, 1, ys248.2.2.2.1, [], [])
theorem yw248 : ywf ys248.2.2.1 = true := by decide +kernel
theorem yk248 : yver yx248 ys248.2.2.1 4000 = true := by decide +kernel
theorem yt248 {E : zHp → Prop} (h : yXt E) : yTs E ys248 := yver_s (x := yx248) h.1 (yal_n) yg89 yk248
def ys249 : ySp := (89, 3, (1, [(0, 0, 5)], [], [], [(0, (2, yc 9, yc 0)), (1, (0, (1, 0, 0), yc 0)), (2, (0, yc 2, yc 0))], []), [(2, [(1, (-2147483648), 2147483647)], [], [], [], [(0, (1, 1, 0), yc 0)])], [])
def yx249 : yCx := ([], ys249.2.2.2.2, yFP, zm89.2.2.1, zm89.2.2.2.1, zc89, 1, ys249.2.2.2.1, [], [])
theorem yw249 : ywf ys249.2.2.1 = true := by decide +kernel
theorem yk249 : yver yx249 ys249.2.2.1 4000 = true := by decide +kernel
theorem yt249 {E : zHp → Prop} (h : yXt E) : yTs E ys249 := yver_s (x := yx249) h.1 (yal_n) yg89 yk249
def ys250 : ySp := (87, 3, (1, [(0, 0, 3)], [], [], [(0, (2, yc 9, yc 0)), (1, (0, (1, 0, 0), yc 0)), (2, (0, yc 1, yc 0))], []), [(2, [(1, (-2147483648), 2147483647)], [], [], [], [(0, (1, 1, 0), yc 0)])], [])
def yx250 : yCx := ([], ys250.2.2.2.2, yFP, zm87.2.2.1, zm87.2.2.2.1, zc87, 1, ys250.2.2.2.1, [], [])
theorem yw250 : ywf ys250.2.2.1 = true := by decide +kernel
theorem yk250 : yver yx250 ys250.2.2.1 4000 = true := by decide +kernel
theorem yt250 {E : zHp → Prop} (h : yXt E) : yTs E ys250 := yver_s (x := yx250) h.1 (yal_n) yg87 yk250
def ys251 : ySp := (87, 3, (1, [(0, 0, 5)], [], [], [(0, (2, yc 9, yc 0)), (1, (0, (1, 0, 0), yc 0)), (2, (0, yc 1, yc 0))], []), [(2, [(1, (-2147483648), 2147483647)], [], [], [], [(0, (1, 1, 0), yc 0)])], [])
def yx251 : yCx := ([], ys251.2.2.2.2, yFP, zm87.2.2.1, zm87.2.2.2.1, zc87, 1, ys251.2.2.2.1, [], [])
theorem yw251 : ywf ys251.2.2.1 = true := by decide +kernel
theorem yk251 : yver yx251 ys251.2.2.1 4000 = true := by decide +kernel
theorem yt251 {E : zHp → Prop} (h : yXt E) : yTs E ys251 := yver_s (x := yx251) h.1 (yal_n) yg87 yk251
def ys252 : ySp := (107, 3, (1, [(0, 0, 5)], [], [], [(0, (2, yc 9, yc 0)), (1, (0, (1, 0, 0), yc 0))], []), [(1, [], [], [], [], [(0, yc 0, yc 0)]), (1, [], [], [], [], [(0, yc 1, yc 0)])], [])
def yx252 : yCx := ([ys227, ys230, ys251, ys247, ys248, ys249, ys239, ys245], ys252.2.2.2.2, yFP, zm107.2.2.1, zm107.2.2.2.1, zc107, 1, ys252.2.2.2.1, [(12, (2, [(0, 0, 5), (1, 0, 6)], [], [], [(0, (2, yc 9, yc 0)), (1, (0, (1, 0, 0), yc 0)), (2, (0, (1, 1, 0), yc 0))], []), ([((-1), 1)], 6))], [])
theorem yw252 : ywf ys252.2.2.1 = true := by decide +kernel
theorem yk252 : yver yx252 ys252.2.2.1 4000 = true := by decide +kernel
theorem yt252 {E : zHp → Prop} (h : yXt E) : yTs E ys252 := yver_s (x := yx252) h.1 (yal_c (yt227 h) yw227 (yal_c (yt230 h) yw230 (yal_c (yt251 h) yw251 (yal_c (yt247 h) yw247 (yal_c (yt248 h) yw248 (yal_c (yt249 h) yw249 (yal_c (yt239 h) yw239 (yal_c (yt245 h) yw245 (yal_n))))))))) yg107 yk252
def ys253 : ySp := (89, 3, (2, [(0, 0, 5), (1, 0, 4)], [], [], [(0, (2, yc 9, yc 0)), (1, (0, (1, 0, 0), yc 0)), (2, (0, (1, 1, 0), yc 0))], []), [(3, [(2, (-2147483648), 2147483647)], [], [], [], [(0, (1, 2, 0), yc 0)])], [])
def yx253 : yCx := ([], ys253.2.2.2.2, yFP, zm89.2.2.1, zm89.2.2.2.1, zc89, 2, ys253.2.2.2.1, [], [])
theorem yw253 : ywf ys253.2.2.1 = true := by decide +kernel
theorem yk253 : yver yx253 ys253.2.2.1 4000 = true := by decide +kernel
theorem yt253 {E : zHp → Prop} (h : yXt E) : yTs E ys253 := yver_s (x := yx253) h.1 (yal_n) yg89 yk253
def ys254 : ySp := (129, 3, (2, [(0, (-2147483648), 2147483647), (1, (-2147483648), 2147483647)], [], [], [(0, (2, yc 0, yc 0)), (1, (0, (1, 0, 0), yc 0)), (2, (0, (1, 1, 0), yc 0))], []), [(2, [(0, 0, 5), (1, 5, 5)], [], [], [], [(0, yc 0, yc 0)]), (2, [(0, 0, 5), (1, 5, 5)], [], [], [], [(0, yc 1, yc 0)]), (3, [(2, (-2147483648), 2147483647)], [], [], [], [(0, (1, 2, 0), yc 0)])], [])
def yx254 : yCx := ([ys243, ys253, ys252], ys254.2.2.2.2, yFP, zm129.2.2.1, zm129.2.2.2.1, zc129, 2, ys254.2.2.2.1, [], [])
theorem yw254 : ywf ys254.2.2.1 = true := by decide +kernel
theorem yk254 : yver yx254 ys254.2.2.1 4000 = true := by decide +kernel
theorem yt254 {E : zHp → Prop} (h : yXt E) : yTs E ys254 := yver_s (x := yx254) h.1 (yal_c (yt243 h) yw243 (yal_c (yt253 h) yw253 (yal_c (yt252 h) yw252 (yal_n)))) yg129 yk254
def ys255 : ySp := (77, 1, (1, [(0, 0, 6)], [], [(yc 10, yc 0, (0, (1, 0, 0), yc 0))], [(0, (2, yc 9, yc 0))], []), [(1, [], [], [(yc 10, yc 0, (0, (1, 0, 0), yc 0))], [], [(0, (1, 0, 0), yc 0)])], [])
def yx255 : yCx := ([], ys255.2.2.2.2, yFP, zm77.2.2.1, zm77.2.2.2.1, zc77, 1, ys255.2.2.2.1, [], [])
theorem yw255 : ywf ys255.2.2.1 = true := by decide +kernel
theorem yk255 : yver yx255 ys255.2.2.1 4000 = true := by decide +kernel
theorem yt255 {E : zHp → Prop} (h : yXt E) : yTs E ys255 := yver_s (x := yx255) h.1 (yal_n) yg77 yk255
def ys256 : ySp := (85, 2, (1, [(0, (-2147483648), 2147483647)], [], [], [(0, (2, yc 9, yc 0)), (1, (0, (1, 0, 0), yc 0))], []), [(1, [], [], [], [], [(0, yc 0, yc 0)]), (1, [(0, 0, 5)], [], [], [], [(0, yc 1, yc 0)])], [])
def yx256 : yCx := ([ys255], ys256.2.2.2.2, yFP, zm85.2.2.1, zm85.2.2.2.1, zc85, 1, ys256.2.2.2.1, [], [])
theorem yw256 : ywf ys256.2.2.1 = true := by decide +kernel
theorem yk256 : yver yx256 ys256.2.2.1 4000 = true := by decide +kernel
theorem yt256 {E : zHp → Prop} (h : yXt E) : yTs E ys256 := yver_s (x := yx256) h.1 (yal_c (yt255 h) yw255 (yal_n)) yg85 yk256
def ys257 : ySp := (86, 3, (2, [(0, (-2147483648), 2147483647), (1, (-2147483648), 2147483647)], [], [], [(0, (2, yc 9, yc 0)), (1, (0, (1, 0, 0), yc 0)), (2, (0, (1, 1, 0), yc 0))], []), [(2, [], [], [], [], [(0, yc 0, yc 0)]), (2, [(0, 0, 5), (1, 0, 5)], [], [], [], [(0, yc 1, yc 0)])], [])
def yx257 : yCx := ([ys256], ys257.2.2.2.2, yFP, zm86.2.2.1, zm86.2.2.2.1, zc86, 2, ys257.2.2.2.1, [], [])
theorem yw257 : ywf ys257.2.2.1 = true := by decide +kernel
theorem yk257 : yver yx257 ys257.2.2.1 4000 = true := by decide +kernel
theorem yt257 {E : zHp → Prop} (h : yXt E) : yTs E ys257 := yver_s (x := yx257) h.1 (yal_c (yt256 h) yw256 (yal_n)) yg86 yk257
