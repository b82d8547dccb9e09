def ys72 : ySp := (293, 3, (0, [], [], [], [(0, (0, yc 13, yc 0)), (1, (0, yc 31, yc 0)), (2, (7, yc 0, yc 0))], []), [(0, [], [], [], [], [(0, yc 13, yc 0)])], [])
def yx72 : yCx := ([], ys72.2.2.2.2, yFP, zm293.2.2.1, zm293.2.2.2.1, zc293, 0, ys72.2.2.2.1, [], [])
theorem yw72 : ywf ys72.2.2.1 = true := by decide +kernel
theorem yk72 : yver yx72 ys72.2.2.1 4000 = true := by decide +kernel
theorem yt72 {E : zHp → Prop} (h : yXt E) : yTs E ys72 := yver_s (x := yx72) h.1 (yal_n) yg293 yk72
def ys73 : ySp := (285, 2, (0, [], [], [], [(0, (0, yc 13, yc 0)), (1, (0, yc 31, yc 0))], []), [(0, [], [], [], [], [])], [])
def yx73 : yCx := ([ys72], ys73.2.2.2.2, yFP, zm285.2.2.1, zm285.2.2.2.1, zc285, 0, ys73.2.2.2.1, [], [])
theorem yw73 : ywf ys73.2.2.1 = true := by decide +kernel
theorem yk73 : yver yx73 ys73.2.2.1 4000 = true := by decide +kernel
theorem yt73 {E : zHp → Prop} (h : yXt E) : yTs E ys73 := yver_s (x := yx73) h.1 (yal_c (yt72 h) yw72 (yal_n)) yg285 yk73
def ys74 : ySp := (286, 2, (0, [], [], [], [(0, (2, yc 1020, yc 0)), (1, (0, yc 13, yc 0))], []), [(0, [], [], [], [], [(0, yc 116, yc 0)])], [])
def yx74 : yCx := ([ys73], ys74.2.2.2.2, yFP, zm286.2.2.1, zm286.2.2.2.1, zc286, 0, ys74.2.2.2.1, [], [])
theorem yw74 : ywf ys74.2.2.1 = true := by decide +kernel
theorem yk74 : yver yx74 ys74.2.2.1 4000 = true := by decide +kernel
theorem yt74 {E : zHp → Prop} (h : yXt E) : yTs E ys74 := yver_s (x := yx74) h.1 (yal_c (yt73 h) yw73 (yal_n)) yg286 yk74
def ys75 : ySp := (282, 2, (0, [], [], [], [(0, (2, yc 1001, yc 0)), (1, (0, yc 13, yc 0))], []), [(0, [], [], [], [], [(0, yc 116, yc 0)])], [])
def yx75 : yCx := ([ys19, ys74], ys75.2.2.2.2, yFP, zm282.2.2.1, zm282.2.2.2.1, zc282, 0, ys75.2.2.2.1, [], [])
theorem yw75 : ywf ys75.2.2.1 = true := by decide +kernel
theorem yk75 : yver yx75 ys75.2.2.1 4000 = true := by decide +kernel
theorem yt75 {E : zHp → Prop} (h : yXt E) : yTs E ys75 := yver_s (x := yx75) h.1 (yal_c (yt19 h) yw19 (yal_c (yt74 h) yw74 (yal_n))) yg282 yk75
def ys76 : ySp := (293, 3, (0, [], [], [], [(0, (0, yc 14, yc 0)), (1, (0, yc 31, yc 0)), (2, (7, yc 0, yc 0))], []), [(0, [], [], [], [], [(0, yc 14, yc 0)])], [])
def yx76 : yCx := ([], ys76.2.2.2.2, yFP, zm293.2.2.1, zm293.2.2.2.1, zc293, 0, ys76.2.2.2.1, [], [])
theorem yw76 : ywf ys76.2.2.1 = true := by decide +kernel
theorem yk76 : yver yx76 ys76.2.2.1 4000 = true := by decide +kernel
theorem yt76 {E : zHp → Prop} (h : yXt E) : yTs E ys76 := yver_s (x := yx76) h.1 (yal_n) yg293 yk76
def ys77 : ySp := (285, 2, (0, [], [], [], [(0, (0, yc 14, yc 0)), (1, (0, yc 31, yc 0))], []), [(0, [], [], [], [], [])], [])
def yx77 : yCx := ([ys76], ys77.2.2.2.2, yFP, zm285.2.2.1, zm285.2.2.2.1, zc285, 0, ys77.2.2.2.1, [], [])
theorem yw77 : ywf ys77.2.2.1 = true := by decide +kernel
theorem yk77 : yver yx77 ys77.2.2.1 4000 = true := by decide +kernel
theorem yt77 {E : zHp → Prop} (h : yXt E) : yTs E ys77 := yver_s (x := yx77) h.1 (yal_c (yt76 h) yw76 (yal_n)) yg285 yk77
def ys78 : ySp := (286, 2, (0, [], [], [], [(0, (2, yc 1020, yc 0)), (1, (0, yc 14, yc 0))], []), [(0, [], [], [], [], [(0, yc 114, yc 0)])], [])
def yx78 : yCx := ([ys77], ys78.2.2.2.2, yFP, zm286.2.2.1, zm286.2.2.2.1, zc286, 0, ys78.2.2.2.1, [], [])
theorem yw78 : ywf ys78.2.2.1 = true := by decide +kernel
theorem yk78 : yver yx78 ys78.2.2.1 4000 = true := by decide +kernel
theorem yt78 {E : zHp → Prop} (h : yXt E) : yTs E ys78 := yver_s (x := yx78) h.1 (yal_c (yt77 h) yw77 (yal_n)) yg286 yk78
def ys79 : ySp := (282, 2, (0, [], [], [], [(0, (2, yc 1001, yc 0)), (1, (0, yc 14, yc 0))], []), [(0, [], [], [], [], [(0, yc 114, yc 0)])], [])
def yx79 : yCx := ([ys19, ys78], ys79.2.2.2.2, yFP, zm282.2.2.1, zm282.2.2.2.1, zc282, 0, ys79.2.2.2.1, [], [])
theorem yw79 : ywf ys79.2.2.1 = true := by decide +kernel
theorem yk79 : yver yx79 ys79.2.2.1 4000 = true := by decide +kernel
theorem yt79 {E : zHp → Prop} (h : yXt E) : yTs E ys79 := yver_s (x := yx79) h.1 (yal_c (yt19 h) yw19 (yal_c (yt78 h) yw78 (yal_n))) yg282 yk79
def ys80 : ySp := (293, 3, (0, [], [], [], [(0, (0, yc 15, yc 0)), (1, (0, yc 31, yc 0)), (2, (7, yc 0, yc 0))], []), [(0, [], [], [], [], [(0, yc 15, yc 0)])], [])
def yx80 : yCx := ([], ys80.2.2.2.2, yFP, zm293.2.2.1, zm293.2.2.2.1, zc293, 0, ys80.2.2.2.1, [], [])
theorem yw80 : ywf ys80.2.2.1 = true := by decide +kernel
theorem yk80 : yver yx80 ys80.2.2.1 4000 = true := by decide +kernel
theorem yt80 {E : zHp → Prop} (h : yXt E) : yTs E ys80 := yver_s (x := yx80) h.1 (yal_n) yg293 yk80
def ys81 : ySp := (285, 2, (0, [], [], [], [(0, (0, yc 15, yc 0)), (1, (0, yc 31, yc 0))], []), [(0, [], [], [], [], [])], [])
def yx81 : yCx := ([ys80], ys81.2.2.2.2, yFP, zm285.2.2.1, zm285.2.2.2.1, zc285, 0, ys81.2.2.2.1, [], [])
theorem yw81 : ywf ys81.2.2.1 = true := by decide +kernel
theorem yk81 : yver yx81 ys81.2.2.1 4000 = true := by decide +kernel
theorem yt81 {E : zHp → Prop} (h : yXt E) : yTs E ys81 := yver_s (x := yx81) h.1 (yal_c (yt80 h) yw80 (yal_n)) yg285 yk81
def ys82 : ySp := (286, 2, (0, [], [], [], [(0, (2, yc 1020, yc 0)), (1, (0, yc 15, yc 0))], []), [(0, [], [], [], [], [(0, yc 117, yc 0)])], [])
def yx82 : yCx := ([ys81], ys82.2.2.2.2, yFP, zm286.2.2.1, zm286.2.2.2.1, zc286, 0, ys82.2.2.2.1, [], [])
theorem yw82 : ywf ys82.2.2.1 = true := by decide +kernel
theorem yk82 : yver yx82 ys82.2.2.1 4000 = true := by decide +kernel
theorem yt82 {E : zHp → Prop} (h : yXt E) : yTs E ys82 := yver_s (x := yx82) h.1 (yal_c (yt81 h) yw81 (yal_n)) yg286 yk82
def ys83 : ySp := (282, 2, (0, [], [], [], [(0, (2, yc 1001, yc 0)), (1, (0, yc 15, yc 0))], []), [(0, [], [], [], [], [(0, yc 117, yc 0)])], [])
def yx83 : yCx := ([ys19, ys82], ys83.2.2.2.2, yFP, zm282.2.2.1, zm282.2.2.2.1, zc282, 0, ys83.2.2.2.1, [], [])
theorem yw83 : ywf ys83.2.2.1 = true := by decide +kernel
theorem yk83 : yver yx83 ys83.2.2.1 4000 = true := by decide +kernel
theorem yt83 {E : zHp → Prop} (h : yXt E) : yTs E ys83 := yver_s (x := yx83) h.1 (yal_c (yt19 h) yw19 (yal_c (yt82 h) yw82 (yal_n))) yg282 yk83
def ys84 : ySp := (293, 3, (0, [], [], [], [(0, (0, yc 16, yc 0)), (1, (0, yc 31, yc 0)), (2, (7, yc 0, yc 0))], []), [(0, [], [], [], [], [(0, yc 16, yc 0)])], [])
def yx84 : yCx := ([], ys84.2.2.2.2, yFP, zm293.2.2.1, zm293.2.2.2.1, zc293, 0, ys84.2.2.2.1, [], [])
theorem yw84 : ywf ys84.2.2.1 = true := by decide +kernel
theorem yk84 : yver yx84 ys84.2.2.1 4000 = true := by decide +kernel
theorem yt84 {E : zHp → Prop} (h : yXt E) : yTs E ys84 := yver_s (x := yx84) h.1 (yal_n) yg293 yk84
def ys85 : ySp := (285, 2, (0, [], [], [], [(0, (0, yc 16, yc 0)), (1, (0, yc 31, yc 0))], []), [(0, [], [], [], [], [])], [])
def yx85 : yCx := ([ys84], ys85.2.2.2.2, yFP, zm285.2.2.1, zm285.2.2.2.1, zc285, 0, ys85.2.2.2.1, [], [])
theorem yw85 : ywf ys85.2.2.1 = true := by decide +kernel
theorem yk85 : yver yx85 ys85.2.2.1 4000 = true := by decide +kernel
theorem yt85 {E : zHp → Prop} (h : yXt E) : yTs E ys85 := yver_s (x := yx85) h.1 (yal_c (yt84 h) yw84 (yal_n)) yg285 yk85
def ys86 : ySp := (286, 2, (0, [], [], [], [(0, (2, yc 1020, yc 0)), (1, (0, yc 16, yc 0))], []), [(0, [], [], [], [], [(0, yc 115, yc 0)])], [])
def yx86 : yCx := ([ys85], ys86.2.2.2.2, yFP, zm286.2.2.1, zm286.2.2.2.1, zc286, 0, ys86.2.2.2.1, [], [])
theorem yw86 : ywf ys86.2.2.1 = true := by decide +kernel
theorem yk86 : yver yx86 ys86.2.2.1 4000 = true := by decide +kernel
theorem yt86 {E : zHp → Prop} (h : yXt E) : yTs E ys86 := yver_s (x := yx86) h.1 (yal_c (yt85 h) yw85 (yal_n)) yg286 yk86
def ys87 : ySp := (282, 2, (0, [], [], [], [(0, (2, yc 1001, yc 0)), (1, (0, yc 16, yc 0))], []), [(0, [], [], [], [], [(0, yc 115, yc 0)])], [])
def yx87 : yCx := ([ys19, ys86], ys87.2.2.2.2, yFP, zm282.2.2.1, zm282.2.2.2.1, zc282, 0, ys87.2.2.2.1, [], [])
theorem yw87 : ywf ys87.2.2.1 = true := by decide +kernel
theorem yk87 : yver yx87 ys87.2.2.1 4000 = true := by decide +kernel
theorem yt87 {E : zHp → Prop} (h : yXt E) : yTs E ys87 := yver_s (x := yx87) h.1 (yal_c (yt19 h) yw19 (yal_c (yt86 h) yw86 (yal_n))) yg282 yk87
def ys88 : ySp := (293, 3, (0, [], [], [], [(0, (0, yc 17, yc 0)), (1, (0, yc 31, yc 0)), (2, (7, yc 0, yc 0))], []), [(0, [], [], [], [], [(0, yc 17, yc 0)])], [])
def yx88 : yCx := ([], ys88.2.2.2.2, yFP, zm293.2.2.1, zm293.2.2.2.1, zc293, 0, ys88.2.2.2.1, [], [])
theorem yw88 : ywf ys88.2.2.1 = true := by decide +kernel
theorem yk88 : yver yx88 ys88.2.2.1 4000 = true := by decide +kernel
theorem yt88 {E : zHp → Prop} (h : yXt E) : yTs E ys88 := yver_s (x := yx88) h.1 (yal_n) yg293 yk88
def ys89 : ySp := (285, 2, (0, [], [], [], [(0, (0, yc 17, yc 0)), (1, (0, yc 31, yc 0))], []), [(0, [], [], [], [], [])], [])
def yx89 : yCx := ([ys88], ys89.2.2.2.2, yFP, zm285.2.2.1, zm285.2.2.2.1, zc285, 0, ys89.2.2.2.1, [], [])
theorem yw89 : ywf ys89.2.2.1 = true := by decide +kernel
theorem yk89 : yver yx89 ys89.2.2.1 4000 = true := by decide +kernel
theorem yt89 {E : zHp → Prop} (h : yXt E) : yTs E ys89 := yver_s (x := yx89) h.1 (yal_c (yt88 h) yw88 (yal_n)) yg285 yk89
def ys90 : ySp := (286, 2, (0, [], [], [], [(0, (2, yc 1020, yc 0)), (1, (0, yc 17, yc 0))], []), [(0, [], [], [], [], [(0, yc 116, yc 0)])], [])
def yx90 : yCx := ([ys89], ys90.2.2.2.2, yFP, zm286.2.2.1, zm286.2.2.2.1, zc286, 0, ys90.2.2.2.1, [], [])
theorem yw90 : ywf ys90.2.2.1 = true := by decide +kernel
theorem yk90 : yver yx90 ys90.2.2.1 4000 = true := by decide +kernel
theorem yt90 {E : zHp → Prop} (h : yXt E) : yTs E ys90 := yver_s (x := yx90) h.1 (yal_c (yt89 h) yw89 (yal_n)) yg286 yk90
def ys91 : ySp := (282, 2, (0, [], [], [], [(0, (2, yc 1001, yc 0)), (1, (0, yc 17, yc 0))], []), [(0, [], [], [], [], [(0, yc 116, yc 0)])], [])
def yx91 : yCx := ([ys19, ys90], ys91.2.2.2.2, yFP, zm282.2.2.1, zm282.2.2.2.1, zc282, 0, ys91.2.2.2.1, [], [])
theorem yw91 : ywf ys91.2.2.1 = true := by decide +kernel
theorem yk91 : yver yx91 ys91.2.2.1 4000 = true := by decide +kernel
theorem yt91 {E : zHp → Prop} (h : yXt E) : yTs E ys91 := yver_s (x := yx91) h.1 (yal_c (yt19 h) yw19 (yal_c (yt90 h) yw90 (yal_n))) yg282 yk91
def ys92 : ySp := (293, 3, (0, [], [], [], [(0, (0, yc 18, yc 0)), (1, (0, yc 31, yc 0)), (2, (7, yc 0, yc 0))], []), [(0, [], [], [], [], [(0, yc 18, yc 0)])], [])
def yx92 : yCx := ([], ys92.2.2.2.2, yFP, zm293.2.2.1, zm293.2.2.2.1, zc293, 0, ys92.2.2.2.1, [], [])
theorem yw92 : ywf ys92.2.2.1 = true := by decide +kernel
theorem yk92 : yver yx92 ys92.2.2.1 4000 = true := by decide +kernel
theorem yt92 {E : zHp → Prop} (h : yXt E) : yTs E ys92 := yver_s (x := yx92) h.1 (yal_n) yg293 yk92
def ys93 : ySp := (285, 2, (0, [], [], [], [(0, (0, yc 18, yc 0)), (1, (0, yc 31, yc 0))], []), [(0, [], [], [], [], [])], [])
def yx93 : yCx := ([ys92], ys93.2.2.2.2, yFP, zm285.2.2.1, zm285.2.2.2.1, zc285, 0, ys93.2.2.2.1, [], [])
theorem yw93 : ywf ys93.2.2.1 = true := by decide +kernel
theorem yk93 : yver yx93 ys93.2.2.1 4000 = true := by decide +kernel
theorem yt93 {E : zHp → Prop} (h : yXt E) : yTs E ys93 := yver_s (x := yx93) h.1 (yal_c (yt92 h) yw92 (yal_n)) yg285 yk93
def ys94 : ySp := (286, 2, (0, [], [], [], [(0, (2, yc 1020, yc 0)), (1, (0, yc 18, yc 0))], []), [(0, [], [], [], [], [(0, yc 32, yc 0)])], [])
def yx94 : yCx := ([ys93], ys94.2.2.2.2, yFP, zm286.2.2.1, zm286.2.2.2.1, zc286, 0, ys94.2.2.2.1, [], [])
theorem yw94 : ywf ys94.2.2.1 = true := by decide +kernel
theorem yk94 : yver yx94 ys94.2.2.1 4000 = true := by decide +kernel
theorem yt94 {E : zHp → Prop} (h : yXt E) : yTs E ys94 := yver_s (x := yx94) h.1 (yal_c (yt93 h) yw93 (yal_n)) yg286 yk94
def ys95 : ySp := (282, 2, (0, [], [], [], [(0, (2, yc 1001, yc 0)), (1, (0, yc 18, yc 0))], []), [(0, [], [], [], [], [(0, yc 32, yc 0)])], [])
def yx95 : yCx := ([ys19, ys94], ys95.2.2.2.2, yFP, zm282.2.2.1, zm282.2.2.2.1, zc282, 0, ys95.2.2.2.1, [], [])
theorem yw95 : ywf ys95.2.2.1 = true := by decide +kernel
theorem yk95 : yver yx95 ys95.2.2.1 4000 = true := by decide +kernel
theorem yt95 {E : zHp → Prop} (h : yXt E) : yTs E ys95 := yver_s (x := yx95) h.1 (yal_c (yt19 h) yw19 (yal_c (yt94 h) yw94 (yal_n))) yg282 yk95
def ys96 : ySp := (293, 3, (0, [], [], [], [(0, (0, yc 19, yc 0)), (1, (0, yc 31, yc 0)), (2, (7, yc 0, yc 0))], []), [(0, [], [], [], [], [(0, yc 19, yc 0)])], [])
def yx96 : yCx := ([], ys96.2.2.2.2, yFP, zm293.2.2.1, zm293.2.2.2.1, zc293, 0, ys96.2.2.2.1, [], [])
theorem yw96 : ywf ys96.2.2.1 = true := by decide +kernel
theorem yk96 : yver yx96 ys96.2.2.1 4000 = true := by decide +kernel
theorem yt96 {E : zHp → Prop} (h : yXt E) : yTs E ys96 := yver_s (x := yx96) h.1 (yal_n) yg293 yk96
def ys97 : ySp := (285, 2, (0, [], [], [], [(0, (0, yc 19, yc 0)), (1, (0, yc 31, yc 0))], []), [(0, [], [], [], [], [])], [])
def yx97 : yCx := ([ys96], ys97.2.2.2.2, yFP, zm285.2.2.1, zm285.2.2.2.1, zc285, 0, ys97.2.2.2.1, [], [])
theorem yw97 : ywf ys97.2.2.1 = true := by decide +kernel
theorem yk97 : yver yx97 ys97.2.2.1 4000 = true := by decide +kernel
theorem yt97 {E : zHp → Prop} (h : yXt E) : yTs E ys97 := yver_s (x := yx97) h.1 (yal_c (yt96 h) yw96 (yal_n)) yg285 yk97
def ys98 : ySp := (286, 2, (0, [], [], [], [(0, (2, yc 1020, yc 0)), (1, (0, yc 19, yc 0))], []), [(0, [], [], [], [], [(0, yc 119, yc 0)])], [])
def yx98 : yCx := ([ys97], ys98.2.2.2.2, yFP, zm286.2.2.1, zm286.2.2.2.1, zc286, 0, ys98.2.2.2.1, [], [])
theorem yw98 : ywf ys98.2.2.1 = true := by decide +kernel
theorem yk98 : yver yx98 ys98.2.2.1 4000 = true := by decide +kernel
theorem yt98 {E : zHp → Prop} (h : yXt E) : yTs E ys98 := yver_s (x := yx98) h.1 (yal_c (yt97 h) yw97 (yal_n)) yg286 yk98
def ys99 : ySp := (282, 2, (0, [], [], [], [(0, (2, yc 1001, yc 0)), (1, (0, yc 19, yc 0))], []), [(0, [], [], [], [], [(0, yc 119, yc 0)])], [])
def yx99 : yCx := ([ys19, ys98], ys99.2.2.2.2, yFP, zm282.2.2.1, zm282.2.2.2.1, zc282, 0, ys99.2.2.2.1, [], [])
theorem yw99 : ywf ys99.2.2.1 = true := by decide +kernel
theorem yk99 : yver yx99 ys99.2.2.1 4000 = true := by decide +kernel
theorem yt99 {E : zHp → Prop} (h : yXt E) : yTs E ys99 := yver_s (x := yx99) h.1 (yal_c (yt19 h) yw19 (yal_c (yt98 h) yw98 (yal_n))) yg282 yk99
def ys100 : ySp := (293, 3, (0, [], [], [], [(0, (0, yc 20, yc 0)), (1, (0, yc 31, yc 0)), (2, (7, yc 0, yc 0))], []), [(0, [], [], [], [], [(0, yc 20, yc 0)])], [])
def yx100 : yCx := ([], ys100.2.2.2.2, yFP, zm293.2.2.1, zm293.2.2.2.1, zc293, 0, ys100.2.2.2.1, [], [])
theorem yw100 : ywf ys100.2.2.1 = true := by decide +kernel
theorem yk100 : yver yx100 ys100.2.2.1 4000 = true := by decide +kernel
theorem yt100 {E : zHp → Prop} (h : yXt E) : yTs E ys100 := yver_s (x := yx100) h.1 (yal_n) yg293 yk100
def ys101 : ySp := (285, 2, (0, [], [], [], [(0, (0, yc 20, yc 0)), (1, (0, yc 31, yc 0))], []), [(0, [], [], [], [], [])], [])
def yx101 : yCx := ([ys100], ys101.2.2.2.2, yFP, zm285.2.2.1, zm285.2.2.2.1, zc285, 0, ys101.2.2.2.1, [], [])
theorem yw101 : ywf ys101.2.2.1 = true := by decide +kernel
theorem yk101 : yver yx101 ys101.2.2.1 4000 = true := by decide +kernel
theorem yt101 {E : zHp → Prop} (h : yXt E) : yTs E ys101 := yver_s (x := yx101) h.1 (yal_c (yt100 h) yw100 (yal_n)) yg285 yk101
def ys102 : ySp := (286, 2, (0, [], [], [], [(0, (2, yc 1020, yc 0)), (1, (0, yc 20, yc 0))], []), [(0, [], [], [], [], [(0, yc 111, yc 0)])], [])
def yx102 : yCx := ([ys101], ys102.2.2.2.2, yFP, zm286.2.2.1, zm286.2.2.2.1, zc286, 0, ys102.2.2.2.1, [], [])
theorem yw102 : ywf ys102.2.2.1 = true := by decide +kernel
theorem yk102 : yver yx102 ys102.2.2.1 4000 = true := by decide +kernel
theorem yt102 {E : zHp → Prop} (h : yXt E) : yTs E ys102 := yver_s (x := yx102) h.1 (yal_c (yt101 h) yw101 (yal_n)) yg286 yk102
def ys103 : ySp := (282, 2, (0, [], [], [], [(0, (2, yc 1001, yc 0)), (1, (0, yc 20, yc 0))], []), [(0, [], [], [], [], [(0, yc 111, yc 0)])], [])
def yx103 : yCx := ([ys19, ys102], ys103.2.2.2.2, yFP, zm282.2.2.1, zm282.2.2.2.1, zc282, 0, ys103.2.2.2.1, [], [])
theorem yw103 : ywf ys103.2.2.1 = true := by decide +kernel
theorem yk103 : yver yx103 ys103.2.2.1 4000 = true := by decide +kernel
theorem yt103 {E : zHp → Prop} (h : yXt E) : yTs E ys103 := yver_s (x := yx103) h.1 (yal_c (yt19 h) yw19 (yal_c (yt102 h) yw102 (yal_n))) yg282 yk103
def ys104 : ySp := (293, 3, (0, [], [], [], [(0, (0, yc 21, yc 0)), (1, (0, yc 31, yc 0)), (2, (7, yc 0, yc 0))], []), [(0, [], [], [], [], [(0, yc 21, yc 0)])], [])
def yx104 : yCx := ([], ys104.2.2.2.2, yFP, zm293.2.2.1, zm293.2.2.2.1, zc293, 0, ys104.2.2.2.1, [], [])
theorem yw104 : ywf ys104.2.2.1 = true := by decide +kernel
theorem yk104 : yver yx104 ys104.2.2.1 4000 = true := by decide +kernel
theorem yt104 {E : zHp → Prop} (h : yXt E) : yTs E ys104 := yver_s (x := yx104) h.1 (yal_n) yg293 yk104
def ys105 : ySp := (285, 2, (0, [], [], [], [(0, (0, yc 21, yc 0)), (1, (0, yc 31, yc 0))], []), [(0, [], [], [], [], [])], [])
def yx105 : yCx := ([ys104], ys105.2.2.2.2, yFP, zm285.2.2.1, zm285.2.2.2.1, zc285, 0, ys105.2.2.2.1, [], [])
theorem yw105 : ywf ys105.2.2.1 = true := by decide +kernel
theorem yk105 : yver yx105 ys105.2.2.1 4000 = true := by decide +kernel
theorem yt105 {E : zHp → Prop} (h : yXt E) : yTs E ys105 := yver_s (x := yx105) h.1 (yal_c (yt104 h) yw104 (yal_n)) yg285 yk105
def ys106 : ySp := (286, 2, (0, [], [], [], [(0, (2, yc 1020, yc 0)), (1, (0, yc 21, yc 0))], []), [(0, [], [], [], [], [(0, yc 114, yc 0)])], [])
def yx106 : yCx := ([ys105], ys106.2.2.2.2, yFP, zm286.2.2.1, zm286.2.2.2.1, zc286, 0, ys106.2.2.2.1, [], [])
theorem yw106 : ywf ys106.2.2.1 = true := by decide +kernel
theorem yk106 : yver yx106 ys106.2.2.1 4000 = true := by decide +kernel
theorem yt106 {E : zHp → Prop} (h : yXt E) : yTs E ys106 := yver_s (x := yx106) h.1 (yal_c (yt105 h) yw105 (yal_n)) yg286 yk106
def ys107 : ySp := (282, 2, (0, [], [], [], [(0, (2, yc 1001, yc 0)), (1, (0, yc 21, yc 0))], []), [(0, [], [], [], [], [(0, yc 114, yc 0)])], [])
def yx107 : yCx := ([ys19, ys106], ys107.2.2.2.2, yFP, zm282.2.2.1, zm282.2.2.2.1, zc282, 0, ys107.2.2.2.1, [], [])
theorem yw107 : ywf ys107.2.2.1 = true := by decide +kernel
theorem yk107 : yver yx107 ys107.2.2.1 4000 = true := by decide +kernel
theorem yt107 {E : zHp → Prop} (h : yXt E) : yTs E ys107 := yver_s (x := yx107) h.1 (yal_c (yt19 h) yw19 (yal_c (yt106 h) yw106 (yal_n))) yg282 yk107
def ys108 : ySp := (293, 3, (0, [], [], [], [(0, (0, yc 22, yc 0)), (1, (0, yc 31, yc 0)), (2, (7, yc 0, yc 0))], []), [(0, [], [], [], [], [(0, yc 22, yc 0)])], [])
def yx108 : yCx := ([], ys108.2.2.2.2, yFP, zm293.2.2.1, zm293.2.2.2.1, zc293, 0, ys108.2.2.2.1, [], [])
theorem yw108 : ywf ys108.2.2.1 = true := by decide +kernel
theorem yk108 : yver yx108 ys108.2.2.1 4000 = true := by decide +kernel
theorem yt108 {E : zHp → Prop} (h : yXt E) : yTs E ys108 := yver_s (x := yx108) h.1 (yal_n) yg293 yk108
def ys109 : ySp := (285, 2, (0, [], [], [], [(0, (0, yc 22, yc 0)), (1, (0, yc 31, yc 0))], []), [(0, [], [], [], [], [])], [])
def yx109 : yCx := ([ys108], ys109.2.2.2.2, yFP, zm285.2.2.1, zm285.2.2.2.1, zc285, 0, ys109.2.2.2.1, [], [])
theorem yw109 : ywf ys109.2.2.1 = true := by decide +kernel
theorem yk109 : yver yx109 ys109.2.2.1 4000 = true := by decide +kernel
theorem yt109 {E : zHp → Prop} (h : yXt E) : yTs E ys109 := yver_s (x := yx109) h.1 (yal_c (yt108 h) yw108 (yal_n)) yg285 yk109
def ys110 : ySp := (286, 2, (0, [], [], [], [(0, (2, yc 1020, yc 0)), (1, (0, yc 22, yc 0))], []), [(0, [], [], [], [], [(0, yc 107, yc 0)])], [])
def yx110 : yCx := ([ys109], ys110.2.2.2.2, yFP, zm286.2.2.1, zm286.2.2.2.1, zc286, 0, ys110.2.2.2.1, [], [])
theorem yw110 : ywf ys110.2.2.1 = true := by decide +kernel
theorem yk110 : yver yx110 ys110.2.2.1 4000 = true := by decide +kernel
theorem yt110 {E : zHp → Prop} (h : yXt E) : yTs E ys110 := yver_s (x := yx110) h.1 (yal_c (yt109 h) yw109 (yal_n)) yg286 yk110
def ys111 : ySp := (282, 2, (0, [], [], [], [(0, (2, yc 1001, yc 0)), (1, (0, yc 22, yc 0))], []), [(0, [], [], [], [], [(0, yc 107, yc 0)])], [])
def yx111 : yCx := ([ys19, ys110], ys111.2.2.2.2, yFP, zm282.2.2.1, zm282.2.2.2.1, zc282, 0, ys111.2.2.2.1, [], [])
theorem yw111 : ywf ys111.2.2.1 = true := by decide +kernel
theorem yk111 : yver yx111 ys111.2.2.1 4000 = true := by decide +kernel
theorem yt111 {E : zHp → Prop} (h : yXt E) : yTs E ys111 := yver_s (x := yx111) h.1 (yal_c (yt19 h) yw19 (yal_c (yt110 h) yw110 (yal_n))) yg282 yk111
def ys112 : ySp := (293, 3, (0, [], [], [], [(0, (0, yc 23, yc 0)), (1, (0, yc 31, yc 0)), (2, (7, yc 0, yc 0))], []), [(0, [], [], [], [], [(0, yc 23, yc 0)])], [])
def yx112 : yCx := ([], ys112.2.2.2.2, yFP, zm293.2.2.1, zm293.2.2.2.1, zc293, 0, ys112.2.2.2.1, [], [])
theorem yw112 : ywf ys112.2.2.1 = true := by decide +kernel
theorem yk112 : yver yx112 ys112.2.2.1 4000 = true := by decide +kernel
theorem yt112 {E : zHp → Prop} (h : yXt E) : yTs E ys112 := yver_s (x := yx112) h.1 (yal_n) yg293 yk112
def ys113 : ySp := (285, 2, (0, [], [], [], [(0, (0, yc 23, yc 0)), (1, (0, yc 31, yc 0))], []), [(0, [], [], [], [], [])], [])
def yx113 : yCx := ([ys112], ys113.2.2.2.2, yFP, zm285.2.2.1, zm285.2.2.2.1, zc285, 0, ys113.2.2.2.1, [], [])
theorem yw113 : ywf ys113.2.2.1 = true := by decide +kernel
theorem yk113 : yver yx113 ys113.2.2.1 4000 = true := by decide +kernel
theorem yt113 {E : zHp → Prop} (h : yXt E) : yTs E ys113 := yver_s (x := yx113) h.1 (yal_c (yt112 h) yw112 (yal_n)) yg285 yk113
def ys114 : ySp := (286, 2, (0, [], [], [], [(0, (2, yc 1020, yc 0)), (1, (0, yc 23, yc 0))], []), [(0, [], [], [], [], [(0, yc 32, yc 0)])], [])
def yx114 : yCx := ([ys113], ys114.2.2.2.2, yFP, zm286.2.2.1, zm286.2.2.2.1, zc286, 0, ys114.2.2.2.1, [], [])
theorem yw114 : ywf ys114.2.2.1 = true := by decide +kernel
theorem yk114 : yver yx114 ys114.2.2.1 4000 = true := by decide +kernel
theorem yt114 {E : zHp → Prop} (h : yXt E) : yTs E ys114 := yver_s (x := yx114) h.1 (yal_c (yt113 h) yw113 (yal_n)) yg286 yk114
def ys115 : ySp := (282, 2, (0, [], [], [], [(0, (2, yc 1001, yc 0)), (1, (0, yc 23, yc 0))], []), [(0, [], [], [], [], [(0, yc 32, yc 0)])], [])
def yx115 : yCx := ([ys19, ys114], ys115.2.2.2.2, yFP, zm282.2.2.1, zm282.2.2.2.1, zc282, 0, ys115.2.2.2.1, [], [])
theorem yw115 : ywf ys115.2.2.1 = true := by decide +kernel
theorem yk115 : yver yx115 ys115.2.2.1 4000 = true := by decide +kernel
theorem yt115 {E : zHp → Prop} (h : yXt E) : yTs E ys115 := yver_s (x := yx115) h.1 (yal_c (yt19 h) yw19 (yal_c (yt114 h) yw114 (yal_n))) yg282 yk115
def ys116 : ySp := (293, 3, (0, [], [], [], [(0, (0, yc 24, yc 0)), (1, (0, yc 31, yc 0)), (2, (7, yc 0, yc 0))], []), [(0, [], [], [], [], [(0, yc 24, yc 0)])], [])
def yx116 : yCx := ([], ys116.2.2.2.2, yFP, zm293.2.2.1, zm293.2.2.2.1, zc293, 0, ys116.2.2.2.1, [], [])
theorem yw116 : ywf ys116.2.2.1 = true := by decide +kernel
theorem yk116 : yver yx116 ys116.2.2.1 4000 = true := by decide +kernel
theorem yt116 {E : zHp → Prop} (h : yXt E) : yTs E ys116 := yver_s (x := yx116) h.1 (yal_n) yg293 yk116
def ys117 : ySp := (285, 2, (0, [], [], [], [(0, (0, yc 24, yc 0)), (1, (0, yc 31, yc 0))], []), [(0, [], [], [], [], [])], [])
def yx117 : yCx := ([ys116], ys117.2.2.2.2, yFP, zm285.2.2.1, zm285.2.2.2.1, zc285, 0, ys117.2.2.2.1, [], [])
theorem yw117 : ywf ys117.2.2.1 = true := by decide +kernel
theorem yk117 : yver yx117 ys117.2.2.1 4000 = true := by decide +kernel
theorem yt117 {E : zHp → Prop} (h : yXt E) : yTs E ys117 := yver_s (x := yx117) h.1 (yal_c (yt116 h) yw116 (yal_n)) yg285 yk117
def ys118 : ySp := (286, 2, (0, [], [], [], [(0, (2, yc 1020, yc 0)), (1, (0, yc 24, yc 0))], []), [(0, [], [], [], [], [(0, yc 116, yc 0)])], [])
def yx118 : yCx := ([ys117], ys118.2.2.2.2, yFP, zm286.2.2.1, zm286.2.2.2.1, zc286, 0, ys118.2.2.2.1, [], [])
theorem yw118 : ywf ys118.2.2.1 = true := by decide +kernel
theorem yk118 : yver yx118 ys118.2.2.1 4000 = true := by decide +kernel
theorem yt118 {E : zHp → Prop} (h : yXt E) : yTs E ys118 := yver_s (x := yx118) h.1 (yal_c (yt117 h) yw117 (yal_n)) yg286 yk118
def ys119 : ySp := (282, 2, (0, [], [], [], [(0, (2, yc 1001, yc 0)), (1, (0, yc 24, yc 0))], []), [(0, [], [], [], [], [(0, yc 116, yc 0)])], [])
def yx119 : yCx := ([ys19, ys118], ys119.2.2.2.2, yFP, zm282.2.2.1, zm282.2.2.2.1, zc282, 0, ys119.2.2.2.1, [], [])
theorem yw119 : ywf ys119.2.2.1 = true := by decide +kernel
theorem yk119 : yver yx119 ys119.2.2.1 4000 = true := by decide +kernel
theorem yt119 {E : zHp → Prop} (h : yXt E) : yTs E ys119 := yver_s (x := yx119) h.1 (yal_c (yt19 h) yw19 (yal_c (yt118 h) yw118 (yal_n))) yg282 yk119
def ys120 : ySp := (293, 3, (0, [], [], [], [(0, (0, yc 25, yc 0)), (1, (0, yc 31, yc 0)), (2, (7, yc 0, yc 0))], []), [(0, [], [], [], [], [(0, yc 25, yc 0)])], [])
def yx120 : yCx := ([], ys120.2.2.2.2, yFP, zm293.2.2.1, zm293.2.2.2.1, zc293, 0, ys120.2.2.2.1, [], [])
theorem yw120 : ywf ys120.2.2.1 = true := by decide +kernel
theorem yk120 : yver yx120 ys120.2.2.1 4000 = true := by decide +kernel
theorem yt120 {E : zHp → Prop} (h : yXt E) : yTs E ys120 := yver_s (x := yx120) h.1 (yal_n) yg293 yk120
def ys121 : ySp := (285, 2, (0, [], [], [], [(0, (0, yc 25, yc 0)), (1, (0, yc 31, yc 0))], []), [(0, [], [], [], [], [])], [])
def yx121 : yCx := ([ys120], ys121.2.2.2.2, yFP, zm285.2.2.1, zm285.2.2.2.1, zc285, 0, ys121.2.2.2.1, [], [])
theorem yw121 : ywf ys121.2.2.1 = true := by decide +kernel
theorem yk121 : yver yx121 ys121.2.2.1 4000 = true := by decide +kernel
theorem yt121 {E : zHp → Prop} (h : yXt E) : yTs E ys121 := yver_s (x := yx121) h.1 (yal_c (yt120 h) yw120 (yal_n)) yg285 yk121
def ys122 : ySp := (286, 2, (0, [], [], [], [(0, (2, yc 1020, yc 0)), (1, (0, yc 25, yc 0))], []), [(0, [], [], [], [], [(0, yc 104, yc 0)])], [])
def yx122 : yCx := ([ys121], ys122.2.2.2.2, yFP, zm286.2.2.1, zm286.2.2.2.1, zc286, 0, ys122.2.2.2.1, [], [])
theorem yw122 : ywf ys122.2.2.1 = true := by decide +kernel
theorem yk122 : yver yx122 ys122.2.2.1 4000 = true := by decide +kernel
theorem yt122 {E : zHp → Prop} (h : yXt E) : yTs E ys122 := yver_s (x := yx122) h.1 (yal_c (yt121 h) yw121 (yal_n)) yg286 yk122
def ys123 : ySp := (282, 2, (0, [], [], [], [(0, (2, yc 1001, yc 0)), (1, (0, yc 25, yc 0))], []), [(0, [], [], [], [], [(0, yc 104, yc 0)])], [])
def yx123 : yCx := ([ys19, ys122], ys123.2.2.2.2, yFP, zm282.2.2.1, zm282.2.2.2.1, zc282, 0, ys123.2.2.2.1, [], [])
theorem yw123 : ywf ys123.2.2.1 = true := by decide +kernel
theorem yk123 : yver yx123 ys123.2.2.1 4000 = true := by decide +kernel
theorem yt123 {E : zHp → Prop} (h : yXt E) : yTs E ys123 := yver_s (x := yx123) h.1 (yal_c (yt19 h) yw19 (yal_c (yt122 h) yw122 (yal_n))) yg282 yk123
def ys124 : ySp := (293, 3, (0, [], [], [], [(0, (0, yc 26, yc 0)), (1, (0, yc 31, yc 0)), (2, (7, yc 0, yc 0))], []), [(0, [], [], [], [], [(0, yc 26, yc 0)])], [])
def yx124 : yCx := ([], ys124.2.2.2.2, yFP, zm293.2.2.1, zm293.2.2.2.1, zc293, 0, ys124.2.2.2.1, [], [])
theorem yw124 : ywf ys124.2.2.1 = true := by decide +kernel
theorem yk124 : yver yx124 ys124.2.2.1 4000 = true := by decide +kernel
theorem yt124 {E : zHp → Prop} (h : yXt E) : yTs E ys124 := yver_s (x := yx124) h.1 (yal_n) yg293 yk124
def ys125 : ySp := (285, 2, (0, [], [], [], [(0, (0, yc 26, yc 0)), (1, (0, yc 31, yc 0))], []), [(0, [], [], [], [], [])], [])
def yx125 : yCx := ([ys124], ys125.2.2.2.2, yFP, zm285.2.2.1, zm285.2.2.2.1, zc285, 0, ys125.2.2.2.1, [], [])
theorem yw125 : ywf ys125.2.2.1 = true := by decide +kernel
theorem yk125 : yver yx125 ys125.2.2.1 4000 = true := by decide +kernel
theorem yt125 {E : zHp → Prop} (h : yXt E) : yTs E ys125 := yver_s (x := yx125) h.1 (yal_c (yt124 h) yw124 (yal_n)) yg285 yk125
def ys126 : ySp := (286, 2, (0, [], [], [], [(0, (2, yc 1020, yc 0)), (1, (0, yc 26, yc 0))], []), [(0, [], [], [], [], [(0, yc 97, yc 0)])], [])
def yx126 : yCx := ([ys125], ys126.2.2.2.2, yFP, zm286.2.2.1, zm286.2.2.2.1, zc286, 0, ys126.2.2.2.1, [], [])
theorem yw126 : ywf ys126.2.2.1 = true := by decide +kernel
theorem yk126 : yver yx126 ys126.2.2.1 4000 = true := by decide +kernel
theorem yt126 {E : zHp → Prop} (h : yXt E) : yTs E ys126 := yver_s (x := yx126) h.1 (yal_c (yt125 h) yw125 (yal_n)) yg286 yk126
def ys127 : ySp := (282, 2, (0, [], [], [], [(0, (2, yc 1001, yc 0)), (1, (0, yc 26, yc 0))], []), [(0, [], [], [], [], [(0, yc 97, yc 0)])], [])
def yx127 : yCx := ([ys19, ys126], ys127.2.2.2.2, yFP, zm282.2.2.1, zm282.2.2.2.1, zc282, 0, ys127.2.2.2.1, [], [])
theorem yw127 : ywf ys127.2.2.1 = true := by decide +kernel
theorem yk127 : yver yx127 ys127.2.2.1 4000 = true := by decide +kernel
theorem yt127 {E : zHp → Prop} (h : yXt E) : yTs E ys127 := yver_s (x := yx127) h.1 (yal_c (yt19 h) yw19 (yal_c (yt126 h) yw126 (yal_n))) yg282 yk127
def ys128 : ySp := (293, 3, (0, [], [], [], [(0, (0, yc 27, yc 0)), (1, (0, yc 31, yc 0)), (2, (7, yc 0, yc 0))], []), [(0, [], [], [], [], [(0, yc 27, yc 0)])], [])
def yx128 : yCx := ([], ys128.2.2.2.2, yFP, zm293.2.2.1, zm293.2.2.2.1, zc293, 0, ys128.2.2.2.1, [], [])
theorem yw128 : ywf ys128.2.2.1 = true := by decide +kernel
theorem yk128 : yver yx128 ys128.2.2.1 4000 = true := by decide +kernel
theorem yt128 {E : zHp → Prop} (h : yXt E) : yTs E ys128 := yver_s (x := yx128) h.1 (yal_n) yg293 yk128
def ys129 : ySp := (285, 2, (0, [], [], [], [(0, (0, yc 27, yc 0)), (1, (0, yc 31, yc 0))], []), [(0, [], [], [], [], [])], [])
def yx129 : yCx := ([ys128], ys129.2.2.2.2, yFP, zm285.2.2.1, zm285.2.2.2.1, zc285, 0, ys129.2.2.2.1, [], [])
theorem yw129 : ywf ys129.2.2.1 = true := by decide +kernel
theorem yk129 : yver yx129 ys129.2.2.1 4000 = true := by decide +kernel
theorem yt129 {E : zHp → Prop} (h : yXt E) : yTs E ys129 := yver_s (x := yx129) h.1 (yal_c (yt128 h) yw128 (yal_n)) yg285 yk129
def ys130 : ySp := (286, 2, (0, [], [], [], [(0, (2, yc 1020, yc 0)), (1, (0, yc 27, yc 0))], []), [(0, [], [], [], [], [(0, yc 110, yc 0)])], [])
def yx130 : yCx := ([ys129], ys130.2.2.2.2, yFP, zm286.2.2.1, zm286.2.2.2.1, zc286, 0, ys130.2.2.2.1, [], [])
theorem yw130 : ywf ys130.2.2.1 = true := by decide +kernel
theorem yk130 : yver yx130 ys130.2.2.1 4000 = true := by decide +kernel
theorem yt130 {E : zHp → Prop} (h : yXt E) : yTs E ys130 := yver_s (x := yx130) h.1 (yal_c (yt129 h) yw129 (yal_n)) yg286 yk130
def ys131 : ySp := (282, 2, (0, [], [], [], [(0, (2, yc 1001, yc 0)), (1, (0, yc 27, yc 0))], []), [(0, [], [], [], [], [(0, yc 110, yc 0)])], [])
def yx131 : yCx := ([ys19, ys130], ys131.2.2.2.2, yFP, zm282.2.2.1, zm282.2.2.2.1, zc282, 0, ys131.2.2.2.1, [], [])
theorem yw131 : ywf ys131.2.2.1 = true := by decide +kernel
theorem yk131 : yver yx131 ys131.2.2.1 4000 = true := by decide +kernel
theorem yt131 {E : zHp → Prop} (h : yXt E) : yTs E ys131 := yver_s (x := yx131) h.1 (yal_c (yt19 h) yw19 (yal_c (yt130 h) yw130 (yal_n))) yg282 yk131
def ys132 : ySp := (293, 3, (0, [], [], [], [(0, (0, yc 28, yc 0)), (1, (0, yc 31, yc 0)), (2, (7, yc 0, yc 0))], []), [(0, [], [], [], [], [(0, yc 28, yc 0)])], [])
def yx132 : yCx := ([], ys132.2.2.2.2, yFP, zm293.2.2.1, zm293.2.2.2.1, zc293, 0, ys132.2.2.2.1, [], [])
theorem yw132 : ywf ys132.2.2.1 = true := by decide +kernel
theorem yk132 : yver yx132 ys132.2.2.1 4000 = true := by decide +kernel
theorem yt132 {E : zHp → Prop} (h : yXt E) : yTs E ys132 := yver_s (x := yx132) h.1 (yal_n) yg293 yk132
def ys133 : ySp := (285, 2, (0, [], [], [], [(0, (0, yc 28, yc 0)), (1, (0, yc 31, yc 0))], []), [(0, [], [], [], [], [])], [])
def yx133 : yCx := ([ys132], ys133.2.2.2.2, yFP, zm285.2.2.1, zm285.2.2.2.1, zc285, 0, ys133.2.2.2.1, [], [])
theorem yw133 : ywf ys133.2.2.1 = true := by decide +kernel
theorem yk133 : yver yx133 ys133.2.2.1 4000 = true := by decide +kernel
theorem yt133 {E : zHp → Prop} (h : yXt E) : yTs E ys133 := yver_s (x := yx133) h.1 (yal_c (yt132 h) yw132 (yal_n)) yg285 yk133
