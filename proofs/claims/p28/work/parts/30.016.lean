def ys1003 : ySp := (282, 2, (0, [], [], [], [(0, (2, yc 1004, yc 0)), (1, (0, yc 26, yc 0))], []), [(0, [], [], [], [], [(0, yc 108, yc 0)])], [])
def yx1003 : yCx := ([ys895, ys1002], ys1003.2.2.2.2, yFP, zm282.2.2.1, zm282.2.2.2.1, zc282, 0, ys1003.2.2.2.1, [], [])
theorem yw1003 : ywf ys1003.2.2.1 = true := by decide +kernel
theorem yk1003 : yver yx1003 ys1003.2.2.1 4000 = true := by decide +kernel
theorem yt1003 {E : zHp → Prop} (h : yXt E) : yTs E ys1003 := yver_s (x := yx1003) h.1 (yal_c (yt895 h) yw895 (yal_c (yt1002 h) yw1002 (yal_n))) yg282 yk1003
def ys1004 : ySp := (293, 3, (0, [], [], [], [(0, (0, yc 27, yc 0)), (1, (0, yc 66, yc 0)), (2, (7, yc 0, yc 0))], []), [(0, [], [], [], [], [(0, yc 27, yc 0)])], [])
def yx1004 : yCx := ([], ys1004.2.2.2.2, yFP, zm293.2.2.1, zm293.2.2.2.1, zc293, 0, ys1004.2.2.2.1, [], [])
theorem yw1004 : ywf ys1004.2.2.1 = true := by decide +kernel
theorem yk1004 : yver yx1004 ys1004.2.2.1 4000 = true := by decide +kernel
theorem yt1004 {E : zHp → Prop} (h : yXt E) : yTs E ys1004 := yver_s (x := yx1004) h.1 (yal_n) yg293 yk1004
def ys1005 : ySp := (285, 2, (0, [], [], [], [(0, (0, yc 27, yc 0)), (1, (0, yc 66, yc 0))], []), [(0, [], [], [], [], [])], [])
def yx1005 : yCx := ([ys1004], ys1005.2.2.2.2, yFP, zm285.2.2.1, zm285.2.2.2.1, zc285, 0, ys1005.2.2.2.1, [], [])
theorem yw1005 : ywf ys1005.2.2.1 = true := by decide +kernel
theorem yk1005 : yver yx1005 ys1005.2.2.1 4000 = true := by decide +kernel
theorem yt1005 {E : zHp → Prop} (h : yXt E) : yTs E ys1005 := yver_s (x := yx1005) h.1 (yal_c (yt1004 h) yw1004 (yal_n)) yg285 yk1005
def ys1006 : ySp := (286, 2, (0, [], [], [], [(0, (2, yc 1023, yc 0)), (1, (0, yc 27, yc 0))], []), [(0, [], [], [], [], [(0, yc 101, yc 0)])], [])
def yx1006 : yCx := ([ys1005], ys1006.2.2.2.2, yFP, zm286.2.2.1, zm286.2.2.2.1, zc286, 0, ys1006.2.2.2.1, [], [])
theorem yw1006 : ywf ys1006.2.2.1 = true := by decide +kernel
theorem yk1006 : yver yx1006 ys1006.2.2.1 4000 = true := by decide +kernel
theorem yt1006 {E : zHp → Prop} (h : yXt E) : yTs E ys1006 := yver_s (x := yx1006) h.1 (yal_c (yt1005 h) yw1005 (yal_n)) yg286 yk1006
def ys1007 : ySp := (282, 2, (0, [], [], [], [(0, (2, yc 1004, yc 0)), (1, (0, yc 27, yc 0))], []), [(0, [], [], [], [], [(0, yc 101, yc 0)])], [])
def yx1007 : yCx := ([ys895, ys1006], ys1007.2.2.2.2, yFP, zm282.2.2.1, zm282.2.2.2.1, zc282, 0, ys1007.2.2.2.1, [], [])
theorem yw1007 : ywf ys1007.2.2.1 = true := by decide +kernel
theorem yk1007 : yver yx1007 ys1007.2.2.1 4000 = true := by decide +kernel
theorem yt1007 {E : zHp → Prop} (h : yXt E) : yTs E ys1007 := yver_s (x := yx1007) h.1 (yal_c (yt895 h) yw895 (yal_c (yt1006 h) yw1006 (yal_n))) yg282 yk1007
def ys1008 : ySp := (293, 3, (0, [], [], [], [(0, (0, yc 28, yc 0)), (1, (0, yc 66, yc 0)), (2, (7, yc 0, yc 0))], []), [(0, [], [], [], [], [(0, yc 28, yc 0)])], [])
def yx1008 : yCx := ([], ys1008.2.2.2.2, yFP, zm293.2.2.1, zm293.2.2.2.1, zc293, 0, ys1008.2.2.2.1, [], [])
theorem yw1008 : ywf ys1008.2.2.1 = true := by decide +kernel
theorem yk1008 : yver yx1008 ys1008.2.2.1 4000 = true := by decide +kernel
theorem yt1008 {E : zHp → Prop} (h : yXt E) : yTs E ys1008 := yver_s (x := yx1008) h.1 (yal_n) yg293 yk1008
def ys1009 : ySp := (285, 2, (0, [], [], [], [(0, (0, yc 28, yc 0)), (1, (0, yc 66, yc 0))], []), [(0, [], [], [], [], [])], [])
def yx1009 : yCx := ([ys1008], ys1009.2.2.2.2, yFP, zm285.2.2.1, zm285.2.2.2.1, zc285, 0, ys1009.2.2.2.1, [], [])
theorem yw1009 : ywf ys1009.2.2.1 = true := by decide +kernel
theorem yk1009 : yver yx1009 ys1009.2.2.1 4000 = true := by decide +kernel
theorem yt1009 {E : zHp → Prop} (h : yXt E) : yTs E ys1009 := yver_s (x := yx1009) h.1 (yal_c (yt1008 h) yw1008 (yal_n)) yg285 yk1009
def ys1010 : ySp := (286, 2, (0, [], [], [], [(0, (2, yc 1023, yc 0)), (1, (0, yc 28, yc 0))], []), [(0, [], [], [], [], [(0, yc 110, yc 0)])], [])
def yx1010 : yCx := ([ys1009], ys1010.2.2.2.2, yFP, zm286.2.2.1, zm286.2.2.2.1, zc286, 0, ys1010.2.2.2.1, [], [])
theorem yw1010 : ywf ys1010.2.2.1 = true := by decide +kernel
theorem yk1010 : yver yx1010 ys1010.2.2.1 4000 = true := by decide +kernel
theorem yt1010 {E : zHp → Prop} (h : yXt E) : yTs E ys1010 := yver_s (x := yx1010) h.1 (yal_c (yt1009 h) yw1009 (yal_n)) yg286 yk1010
def ys1011 : ySp := (282, 2, (0, [], [], [], [(0, (2, yc 1004, yc 0)), (1, (0, yc 28, yc 0))], []), [(0, [], [], [], [], [(0, yc 110, yc 0)])], [])
def yx1011 : yCx := ([ys895, ys1010], ys1011.2.2.2.2, yFP, zm282.2.2.1, zm282.2.2.2.1, zc282, 0, ys1011.2.2.2.1, [], [])
theorem yw1011 : ywf ys1011.2.2.1 = true := by decide +kernel
theorem yk1011 : yver yx1011 ys1011.2.2.1 4000 = true := by decide +kernel
theorem yt1011 {E : zHp → Prop} (h : yXt E) : yTs E ys1011 := yver_s (x := yx1011) h.1 (yal_c (yt895 h) yw895 (yal_c (yt1010 h) yw1010 (yal_n))) yg282 yk1011
def ys1012 : ySp := (293, 3, (0, [], [], [], [(0, (0, yc 29, yc 0)), (1, (0, yc 66, yc 0)), (2, (7, yc 0, yc 0))], []), [(0, [], [], [], [], [(0, yc 29, yc 0)])], [])
def yx1012 : yCx := ([], ys1012.2.2.2.2, yFP, zm293.2.2.1, zm293.2.2.2.1, zc293, 0, ys1012.2.2.2.1, [], [])
theorem yw1012 : ywf ys1012.2.2.1 = true := by decide +kernel
theorem yk1012 : yver yx1012 ys1012.2.2.1 4000 = true := by decide +kernel
theorem yt1012 {E : zHp → Prop} (h : yXt E) : yTs E ys1012 := yver_s (x := yx1012) h.1 (yal_n) yg293 yk1012
def ys1013 : ySp := (285, 2, (0, [], [], [], [(0, (0, yc 29, yc 0)), (1, (0, yc 66, yc 0))], []), [(0, [], [], [], [], [])], [])
def yx1013 : yCx := ([ys1012], ys1013.2.2.2.2, yFP, zm285.2.2.1, zm285.2.2.2.1, zc285, 0, ys1013.2.2.2.1, [], [])
theorem yw1013 : ywf ys1013.2.2.1 = true := by decide +kernel
theorem yk1013 : yver yx1013 ys1013.2.2.1 4000 = true := by decide +kernel
theorem yt1013 {E : zHp → Prop} (h : yXt E) : yTs E ys1013 := yver_s (x := yx1013) h.1 (yal_c (yt1012 h) yw1012 (yal_n)) yg285 yk1013
def ys1014 : ySp := (286, 2, (0, [], [], [], [(0, (2, yc 1023, yc 0)), (1, (0, yc 29, yc 0))], []), [(0, [], [], [], [], [(0, yc 116, yc 0)])], [])
def yx1014 : yCx := ([ys1013], ys1014.2.2.2.2, yFP, zm286.2.2.1, zm286.2.2.2.1, zc286, 0, ys1014.2.2.2.1, [], [])
theorem yw1014 : ywf ys1014.2.2.1 = true := by decide +kernel
theorem yk1014 : yver yx1014 ys1014.2.2.1 4000 = true := by decide +kernel
theorem yt1014 {E : zHp → Prop} (h : yXt E) : yTs E ys1014 := yver_s (x := yx1014) h.1 (yal_c (yt1013 h) yw1013 (yal_n)) yg286 yk1014
def ys1015 : ySp := (282, 2, (0, [], [], [], [(0, (2, yc 1004, yc 0)), (1, (0, yc 29, yc 0))], []), [(0, [], [], [], [], [(0, yc 116, yc 0)])], [])
def yx1015 : yCx := ([ys895, ys1014], ys1015.2.2.2.2, yFP, zm282.2.2.1, zm282.2.2.2.1, zc282, 0, ys1015.2.2.2.1, [], [])
theorem yw1015 : ywf ys1015.2.2.1 = true := by decide +kernel
theorem yk1015 : yver yx1015 ys1015.2.2.1 4000 = true := by decide +kernel
theorem yt1015 {E : zHp → Prop} (h : yXt E) : yTs E ys1015 := yver_s (x := yx1015) h.1 (yal_c (yt895 h) yw895 (yal_c (yt1014 h) yw1014 (yal_n))) yg282 yk1015
def ys1016 : ySp := (293, 3, (0, [], [], [], [(0, (0, yc 30, yc 0)), (1, (0, yc 66, yc 0)), (2, (7, yc 0, yc 0))], []), [(0, [], [], [], [], [(0, yc 30, yc 0)])], [])
def yx1016 : yCx := ([], ys1016.2.2.2.2, yFP, zm293.2.2.1, zm293.2.2.2.1, zc293, 0, ys1016.2.2.2.1, [], [])
theorem yw1016 : ywf ys1016.2.2.1 = true := by decide +kernel
theorem yk1016 : yver yx1016 ys1016.2.2.1 4000 = true := by decide +kernel
theorem yt1016 {E : zHp → Prop} (h : yXt E) : yTs E ys1016 := yver_s (x := yx1016) h.1 (yal_n) yg293 yk1016
def ys1017 : ySp := (285, 2, (0, [], [], [], [(0, (0, yc 30, yc 0)), (1, (0, yc 66, yc 0))], []), [(0, [], [], [], [], [])], [])
def yx1017 : yCx := ([ys1016], ys1017.2.2.2.2, yFP, zm285.2.2.1, zm285.2.2.2.1, zc285, 0, ys1017.2.2.2.1, [], [])
theorem yw1017 : ywf ys1017.2.2.1 = true := by decide +kernel
theorem yk1017 : yver yx1017 ys1017.2.2.1 4000 = true := by decide +kernel
theorem yt1017 {E : zHp → Prop} (h : yXt E) : yTs E ys1017 := yver_s (x := yx1017) h.1 (yal_c (yt1016 h) yw1016 (yal_n)) yg285 yk1017
def ys1018 : ySp := (286, 2, (0, [], [], [], [(0, (2, yc 1023, yc 0)), (1, (0, yc 30, yc 0))], []), [(0, [], [], [], [], [(0, yc 32, yc 0)])], [])
def yx1018 : yCx := ([ys1017], ys1018.2.2.2.2, yFP, zm286.2.2.1, zm286.2.2.2.1, zc286, 0, ys1018.2.2.2.1, [], [])
theorem yw1018 : ywf ys1018.2.2.1 = true := by decide +kernel
theorem yk1018 : yver yx1018 ys1018.2.2.1 4000 = true := by decide +kernel
theorem yt1018 {E : zHp → Prop} (h : yXt E) : yTs E ys1018 := yver_s (x := yx1018) h.1 (yal_c (yt1017 h) yw1017 (yal_n)) yg286 yk1018
def ys1019 : ySp := (282, 2, (0, [], [], [], [(0, (2, yc 1004, yc 0)), (1, (0, yc 30, yc 0))], []), [(0, [], [], [], [], [(0, yc 32, yc 0)])], [])
def yx1019 : yCx := ([ys895, ys1018], ys1019.2.2.2.2, yFP, zm282.2.2.1, zm282.2.2.2.1, zc282, 0, ys1019.2.2.2.1, [], [])
theorem yw1019 : ywf ys1019.2.2.1 = true := by decide +kernel
theorem yk1019 : yver yx1019 ys1019.2.2.1 4000 = true := by decide +kernel
theorem yt1019 {E : zHp → Prop} (h : yXt E) : yTs E ys1019 := yver_s (x := yx1019) h.1 (yal_c (yt895 h) yw895 (yal_c (yt1018 h) yw1018 (yal_n))) yg282 yk1019
def ys1020 : ySp := (293, 3, (0, [], [], [], [(0, (0, yc 31, yc 0)), (1, (0, yc 66, yc 0)), (2, (7, yc 0, yc 0))], []), [(0, [], [], [], [], [(0, yc 31, yc 0)])], [])
def yx1020 : yCx := ([], ys1020.2.2.2.2, yFP, zm293.2.2.1, zm293.2.2.2.1, zc293, 0, ys1020.2.2.2.1, [], [])
theorem yw1020 : ywf ys1020.2.2.1 = true := by decide +kernel
theorem yk1020 : yver yx1020 ys1020.2.2.1 4000 = true := by decide +kernel
theorem yt1020 {E : zHp → Prop} (h : yXt E) : yTs E ys1020 := yver_s (x := yx1020) h.1 (yal_n) yg293 yk1020
def ys1021 : ySp := (285, 2, (0, [], [], [], [(0, (0, yc 31, yc 0)), (1, (0, yc 66, yc 0))], []), [(0, [], [], [], [], [])], [])
def yx1021 : yCx := ([ys1020], ys1021.2.2.2.2, yFP, zm285.2.2.1, zm285.2.2.2.1, zc285, 0, ys1021.2.2.2.1, [], [])
theorem yw1021 : ywf ys1021.2.2.1 = true := by decide +kernel
theorem yk1021 : yver yx1021 ys1021.2.2.1 4000 = true := by decide +kernel
theorem yt1021 {E : zHp → Prop} (h : yXt E) : yTs E ys1021 := yver_s (x := yx1021) h.1 (yal_c (yt1020 h) yw1020 (yal_n)) yg285 yk1021
def ys1022 : ySp := (286, 2, (0, [], [], [], [(0, (2, yc 1023, yc 0)), (1, (0, yc 31, yc 0))], []), [(0, [], [], [], [], [(0, yc 115, yc 0)])], [])
def yx1022 : yCx := ([ys1021], ys1022.2.2.2.2, yFP, zm286.2.2.1, zm286.2.2.2.1, zc286, 0, ys1022.2.2.2.1, [], [])
theorem yw1022 : ywf ys1022.2.2.1 = true := by decide +kernel
theorem yk1022 : yver yx1022 ys1022.2.2.1 4000 = true := by decide +kernel
theorem yt1022 {E : zHp → Prop} (h : yXt E) : yTs E ys1022 := yver_s (x := yx1022) h.1 (yal_c (yt1021 h) yw1021 (yal_n)) yg286 yk1022
def ys1023 : ySp := (282, 2, (0, [], [], [], [(0, (2, yc 1004, yc 0)), (1, (0, yc 31, yc 0))], []), [(0, [], [], [], [], [(0, yc 115, yc 0)])], [])
def yx1023 : yCx := ([ys895, ys1022], ys1023.2.2.2.2, yFP, zm282.2.2.1, zm282.2.2.2.1, zc282, 0, ys1023.2.2.2.1, [], [])
theorem yw1023 : ywf ys1023.2.2.1 = true := by decide +kernel
theorem yk1023 : yver yx1023 ys1023.2.2.1 4000 = true := by decide +kernel
theorem yt1023 {E : zHp → Prop} (h : yXt E) : yTs E ys1023 := yver_s (x := yx1023) h.1 (yal_c (yt895 h) yw895 (yal_c (yt1022 h) yw1022 (yal_n))) yg282 yk1023
def ys1024 : ySp := (293, 3, (0, [], [], [], [(0, (0, yc 32, yc 0)), (1, (0, yc 66, yc 0)), (2, (7, yc 0, yc 0))], []), [(0, [], [], [], [], [(0, yc 32, yc 0)])], [])
def yx1024 : yCx := ([], ys1024.2.2.2.2, yFP, zm293.2.2.1, zm293.2.2.2.1, zc293, 0, ys1024.2.2.2.1, [], [])
theorem yw1024 : ywf ys1024.2.2.1 = true := by decide +kernel
theorem yk1024 : yver yx1024 ys1024.2.2.1 4000 = true := by decide +kernel
theorem yt1024 {E : zHp → Prop} (h : yXt E) : yTs E ys1024 := yver_s (x := yx1024) h.1 (yal_n) yg293 yk1024
def ys1025 : ySp := (285, 2, (0, [], [], [], [(0, (0, yc 32, yc 0)), (1, (0, yc 66, yc 0))], []), [(0, [], [], [], [], [])], [])
def yx1025 : yCx := ([ys1024], ys1025.2.2.2.2, yFP, zm285.2.2.1, zm285.2.2.2.1, zc285, 0, ys1025.2.2.2.1, [], [])
theorem yw1025 : ywf ys1025.2.2.1 = true := by decide +kernel
theorem yk1025 : yver yx1025 ys1025.2.2.1 4000 = true := by decide +kernel
theorem yt1025 {E : zHp → Prop} (h : yXt E) : yTs E ys1025 := yver_s (x := yx1025) h.1 (yal_c (yt1024 h) yw1024 (yal_n)) yg285 yk1025
def ys1026 : ySp := (286, 2, (0, [], [], [], [(0, (2, yc 1023, yc 0)), (1, (0, yc 32, yc 0))], []), [(0, [], [], [], [], [(0, yc 104, yc 0)])], [])
def yx1026 : yCx := ([ys1025], ys1026.2.2.2.2, yFP, zm286.2.2.1, zm286.2.2.2.1, zc286, 0, ys1026.2.2.2.1, [], [])
theorem yw1026 : ywf ys1026.2.2.1 = true := by decide +kernel
theorem yk1026 : yver yx1026 ys1026.2.2.1 4000 = true := by decide +kernel
theorem yt1026 {E : zHp → Prop} (h : yXt E) : yTs E ys1026 := yver_s (x := yx1026) h.1 (yal_c (yt1025 h) yw1025 (yal_n)) yg286 yk1026
def ys1027 : ySp := (282, 2, (0, [], [], [], [(0, (2, yc 1004, yc 0)), (1, (0, yc 32, yc 0))], []), [(0, [], [], [], [], [(0, yc 104, yc 0)])], [])
def yx1027 : yCx := ([ys895, ys1026], ys1027.2.2.2.2, yFP, zm282.2.2.1, zm282.2.2.2.1, zc282, 0, ys1027.2.2.2.1, [], [])
theorem yw1027 : ywf ys1027.2.2.1 = true := by decide +kernel
theorem yk1027 : yver yx1027 ys1027.2.2.1 4000 = true := by decide +kernel
theorem yt1027 {E : zHp → Prop} (h : yXt E) : yTs E ys1027 := yver_s (x := yx1027) h.1 (yal_c (yt895 h) yw895 (yal_c (yt1026 h) yw1026 (yal_n))) yg282 yk1027
def ys1028 : ySp := (293, 3, (0, [], [], [], [(0, (0, yc 33, yc 0)), (1, (0, yc 66, yc 0)), (2, (7, yc 0, yc 0))], []), [(0, [], [], [], [], [(0, yc 33, yc 0)])], [])
def yx1028 : yCx := ([], ys1028.2.2.2.2, yFP, zm293.2.2.1, zm293.2.2.2.1, zc293, 0, ys1028.2.2.2.1, [], [])
theorem yw1028 : ywf ys1028.2.2.1 = true := by decide +kernel
theorem yk1028 : yver yx1028 ys1028.2.2.1 4000 = true := by decide +kernel
theorem yt1028 {E : zHp → Prop} (h : yXt E) : yTs E ys1028 := yver_s (x := yx1028) h.1 (yal_n) yg293 yk1028
def ys1029 : ySp := (285, 2, (0, [], [], [], [(0, (0, yc 33, yc 0)), (1, (0, yc 66, yc 0))], []), [(0, [], [], [], [], [])], [])
def yx1029 : yCx := ([ys1028], ys1029.2.2.2.2, yFP, zm285.2.2.1, zm285.2.2.2.1, zc285, 0, ys1029.2.2.2.1, [], [])
theorem yw1029 : ywf ys1029.2.2.1 = true := by decide +kernel
theorem yk1029 : yver yx1029 ys1029.2.2.1 4000 = true := by decide +kernel
theorem yt1029 {E : zHp → Prop} (h : yXt E) : yTs E ys1029 := yver_s (x := yx1029) h.1 (yal_c (yt1028 h) yw1028 (yal_n)) yg285 yk1029
def ys1030 : ySp := (286, 2, (0, [], [], [], [(0, (2, yc 1023, yc 0)), (1, (0, yc 33, yc 0))], []), [(0, [], [], [], [], [(0, yc 97, yc 0)])], [])
def yx1030 : yCx := ([ys1029], ys1030.2.2.2.2, yFP, zm286.2.2.1, zm286.2.2.2.1, zc286, 0, ys1030.2.2.2.1, [], [])
theorem yw1030 : ywf ys1030.2.2.1 = true := by decide +kernel
theorem yk1030 : yver yx1030 ys1030.2.2.1 4000 = true := by decide +kernel
theorem yt1030 {E : zHp → Prop} (h : yXt E) : yTs E ys1030 := yver_s (x := yx1030) h.1 (yal_c (yt1029 h) yw1029 (yal_n)) yg286 yk1030
def ys1031 : ySp := (282, 2, (0, [], [], [], [(0, (2, yc 1004, yc 0)), (1, (0, yc 33, yc 0))], []), [(0, [], [], [], [], [(0, yc 97, yc 0)])], [])
def yx1031 : yCx := ([ys895, ys1030], ys1031.2.2.2.2, yFP, zm282.2.2.1, zm282.2.2.2.1, zc282, 0, ys1031.2.2.2.1, [], [])
theorem yw1031 : ywf ys1031.2.2.1 = true := by decide +kernel
theorem yk1031 : yver yx1031 ys1031.2.2.1 4000 = true := by decide +kernel
theorem yt1031 {E : zHp → Prop} (h : yXt E) : yTs E ys1031 := yver_s (x := yx1031) h.1 (yal_c (yt895 h) yw895 (yal_c (yt1030 h) yw1030 (yal_n))) yg282 yk1031
def ys1032 : ySp := (293, 3, (0, [], [], [], [(0, (0, yc 34, yc 0)), (1, (0, yc 66, yc 0)), (2, (7, yc 0, yc 0))], []), [(0, [], [], [], [], [(0, yc 34, yc 0)])], [])
def yx1032 : yCx := ([], ys1032.2.2.2.2, yFP, zm293.2.2.1, zm293.2.2.2.1, zc293, 0, ys1032.2.2.2.1, [], [])
theorem yw1032 : ywf ys1032.2.2.1 = true := by decide +kernel
theorem yk1032 : yver yx1032 ys1032.2.2.1 4000 = true := by decide +kernel
theorem yt1032 {E : zHp → Prop} (h : yXt E) : yTs E ys1032 := yver_s (x := yx1032) h.1 (yal_n) yg293 yk1032
def ys1033 : ySp := (285, 2, (0, [], [], [], [(0, (0, yc 34, yc 0)), (1, (0, yc 66, yc 0))], []), [(0, [], [], [], [], [])], [])
def yx1033 : yCx := ([ys1032], ys1033.2.2.2.2, yFP, zm285.2.2.1, zm285.2.2.2.1, zc285, 0, ys1033.2.2.2.1, [], [])
theorem yw1033 : ywf ys1033.2.2.1 = true := by decide +kernel
theorem yk1033 : yver yx1033 ys1033.2.2.1 4000 = true := by decide +kernel
theorem yt1033 {E : zHp → Prop} (h : yXt E) : yTs E ys1033 := yver_s (x := yx1033) h.1 (yal_c (yt1032 h) yw1032 (yal_n)) yg285 yk1033
def ys1034 : ySp := (286, 2, (0, [], [], [], [(0, (2, yc 1023, yc 0)), (1, (0, yc 34, yc 0))], []), [(0, [], [], [], [], [(0, yc 114, yc 0)])], [])
def yx1034 : yCx := ([ys1033], ys1034.2.2.2.2, yFP, zm286.2.2.1, zm286.2.2.2.1, zc286, 0, ys1034.2.2.2.1, [], [])
theorem yw1034 : ywf ys1034.2.2.1 = true := by decide +kernel
theorem yk1034 : yver yx1034 ys1034.2.2.1 4000 = true := by decide +kernel
theorem yt1034 {E : zHp → Prop} (h : yXt E) : yTs E ys1034 := yver_s (x := yx1034) h.1 (yal_c (yt1033 h) yw1033 (yal_n)) yg286 yk1034
def ys1035 : ySp := (282, 2, (0, [], [], [], [(0, (2, yc 1004, yc 0)), (1, (0, yc 34, yc 0))], []), [(0, [], [], [], [], [(0, yc 114, yc 0)])], [])
def yx1035 : yCx := ([ys895, ys1034], ys1035.2.2.2.2, yFP, zm282.2.2.1, zm282.2.2.2.1, zc282, 0, ys1035.2.2.2.1, [], [])
theorem yw1035 : ywf ys1035.2.2.1 = true := by decide +kernel
theorem yk1035 : yver yx1035 ys1035.2.2.1 4000 = true := by decide +kernel
theorem yt1035 {E : zHp → Prop} (h : yXt E) : yTs E ys1035 := yver_s (x := yx1035) h.1 (yal_c (yt895 h) yw895 (yal_c (yt1034 h) yw1034 (yal_n))) yg282 yk1035
def ys1036 : ySp := (293, 3, (0, [], [], [], [(0, (0, yc 35, yc 0)), (1, (0, yc 66, yc 0)), (2, (7, yc 0, yc 0))], []), [(0, [], [], [], [], [(0, yc 35, yc 0)])], [])
def yx1036 : yCx := ([], ys1036.2.2.2.2, yFP, zm293.2.2.1, zm293.2.2.2.1, zc293, 0, ys1036.2.2.2.1, [], [])
theorem yw1036 : ywf ys1036.2.2.1 = true := by decide +kernel
theorem yk1036 : yver yx1036 ys1036.2.2.1 4000 = true := by decide +kernel
theorem yt1036 {E : zHp → Prop} (h : yXt E) : yTs E ys1036 := yver_s (x := yx1036) h.1 (yal_n) yg293 yk1036
def ys1037 : ySp := (285, 2, (0, [], [], [], [(0, (0, yc 35, yc 0)), (1, (0, yc 66, yc 0))], []), [(0, [], [], [], [], [])], [])
def yx1037 : yCx := ([ys1036], ys1037.2.2.2.2, yFP, zm285.2.2.1, zm285.2.2.2.1, zc285, 0, ys1037.2.2.2.1, [], [])
theorem yw1037 : ywf ys1037.2.2.1 = true := by decide +kernel
theorem yk1037 : yver yx1037 ys1037.2.2.1 4000 = true := by decide +kernel
theorem yt1037 {E : zHp → Prop} (h : yXt E) : yTs E ys1037 := yver_s (x := yx1037) h.1 (yal_c (yt1036 h) yw1036 (yal_n)) yg285 yk1037
def ys1038 : ySp := (286, 2, (0, [], [], [], [(0, (2, yc 1023, yc 0)), (1, (0, yc 35, yc 0))], []), [(0, [], [], [], [], [(0, yc 112, yc 0)])], [])
def yx1038 : yCx := ([ys1037], ys1038.2.2.2.2, yFP, zm286.2.2.1, zm286.2.2.2.1, zc286, 0, ys1038.2.2.2.1, [], [])
theorem yw1038 : ywf ys1038.2.2.1 = true := by decide +kernel
theorem yk1038 : yver yx1038 ys1038.2.2.1 4000 = true := by decide +kernel
theorem yt1038 {E : zHp → Prop} (h : yXt E) : yTs E ys1038 := yver_s (x := yx1038) h.1 (yal_c (yt1037 h) yw1037 (yal_n)) yg286 yk1038
def ys1039 : ySp := (282, 2, (0, [], [], [], [(0, (2, yc 1004, yc 0)), (1, (0, yc 35, yc 0))], []), [(0, [], [], [], [], [(0, yc 112, yc 0)])], [])
def yx1039 : yCx := ([ys895, ys1038], ys1039.2.2.2.2, yFP, zm282.2.2.1, zm282.2.2.2.1, zc282, 0, ys1039.2.2.2.1, [], [])
theorem yw1039 : ywf ys1039.2.2.1 = true := by decide +kernel
theorem yk1039 : yver yx1039 ys1039.2.2.1 4000 = true := by decide +kernel
theorem yt1039 {E : zHp → Prop} (h : yXt E) : yTs E ys1039 := yver_s (x := yx1039) h.1 (yal_c (yt895 h) yw895 (yal_c (yt1038 h) yw1038 (yal_n))) yg282 yk1039
def ys1040 : ySp := (293, 3, (0, [], [], [], [(0, (0, yc 36, yc 0)), (1, (0, yc 66, yc 0)), (2, (7, yc 0, yc 0))], []), [(0, [], [], [], [], [(0, yc 36, yc 0)])], [])
def yx1040 : yCx := ([], ys1040.2.2.2.2, yFP, zm293.2.2.1, zm293.2.2.2.1, zc293, 0, ys1040.2.2.2.1, [], [])
theorem yw1040 : ywf ys1040.2.2.1 = true := by decide +kernel
theorem yk1040 : yver yx1040 ys1040.2.2.1 4000 = true := by decide +kernel
theorem yt1040 {E : zHp → Prop} (h : yXt E) : yTs E ys1040 := yver_s (x := yx1040) h.1 (yal_n) yg293 yk1040
def ys1041 : ySp := (285, 2, (0, [], [], [], [(0, (0, yc 36, yc 0)), (1, (0, yc 66, yc 0))], []), [(0, [], [], [], [], [])], [])
def yx1041 : yCx := ([ys1040], ys1041.2.2.2.2, yFP, zm285.2.2.1, zm285.2.2.2.1, zc285, 0, ys1041.2.2.2.1, [], [])
theorem yw1041 : ywf ys1041.2.2.1 = true := by decide +kernel
theorem yk1041 : yver yx1041 ys1041.2.2.1 4000 = true := by decide +kernel
theorem yt1041 {E : zHp → Prop} (h : yXt E) : yTs E ys1041 := yver_s (x := yx1041) h.1 (yal_c (yt1040 h) yw1040 (yal_n)) yg285 yk1041
def ys1042 : ySp := (286, 2, (0, [], [], [], [(0, (2, yc 1023, yc 0)), (1, (0, yc 36, yc 0))], []), [(0, [], [], [], [], [(0, yc 32, yc 0)])], [])
def yx1042 : yCx := ([ys1041], ys1042.2.2.2.2, yFP, zm286.2.2.1, zm286.2.2.2.1, zc286, 0, ys1042.2.2.2.1, [], [])
theorem yw1042 : ywf ys1042.2.2.1 = true := by decide +kernel
theorem yk1042 : yver yx1042 ys1042.2.2.1 4000 = true := by decide +kernel
theorem yt1042 {E : zHp → Prop} (h : yXt E) : yTs E ys1042 := yver_s (x := yx1042) h.1 (yal_c (yt1041 h) yw1041 (yal_n)) yg286 yk1042
def ys1043 : ySp := (282, 2, (0, [], [], [], [(0, (2, yc 1004, yc 0)), (1, (0, yc 36, yc 0))], []), [(0, [], [], [], [], [(0, yc 32, yc 0)])], [])
def yx1043 : yCx := ([ys895, ys1042], ys1043.2.2.2.2, yFP, zm282.2.2.1, zm282.2.2.2.1, zc282, 0, ys1043.2.2.2.1, [], [])
theorem yw1043 : ywf ys1043.2.2.1 = true := by decide +kernel
theorem yk1043 : yver yx1043 ys1043.2.2.1 4000 = true := by decide +kernel
theorem yt1043 {E : zHp → Prop} (h : yXt E) : yTs E ys1043 := yver_s (x := yx1043) h.1 (yal_c (yt895 h) yw895 (yal_c (yt1042 h) yw1042 (yal_n))) yg282 yk1043
def ys1044 : ySp := (293, 3, (0, [], [], [], [(0, (0, yc 37, yc 0)), (1, (0, yc 66, yc 0)), (2, (7, yc 0, yc 0))], []), [(0, [], [], [], [], [(0, yc 37, yc 0)])], [])
def yx1044 : yCx := ([], ys1044.2.2.2.2, yFP, zm293.2.2.1, zm293.2.2.2.1, zc293, 0, ys1044.2.2.2.1, [], [])
theorem yw1044 : ywf ys1044.2.2.1 = true := by decide +kernel
theorem yk1044 : yver yx1044 ys1044.2.2.1 4000 = true := by decide +kernel
theorem yt1044 {E : zHp → Prop} (h : yXt E) : yTs E ys1044 := yver_s (x := yx1044) h.1 (yal_n) yg293 yk1044
def ys1045 : ySp := (285, 2, (0, [], [], [], [(0, (0, yc 37, yc 0)), (1, (0, yc 66, yc 0))], []), [(0, [], [], [], [], [])], [])
def yx1045 : yCx := ([ys1044], ys1045.2.2.2.2, yFP, zm285.2.2.1, zm285.2.2.2.1, zc285, 0, ys1045.2.2.2.1, [], [])
theorem yw1045 : ywf ys1045.2.2.1 = true := by decide +kernel
theorem yk1045 : yver yx1045 ys1045.2.2.1 4000 = true := by decide +kernel
theorem yt1045 {E : zHp → Prop} (h : yXt E) : yTs E ys1045 := yver_s (x := yx1045) h.1 (yal_c (yt1044 h) yw1044 (yal_n)) yg285 yk1045
def ys1046 : ySp := (286, 2, (0, [], [], [], [(0, (2, yc 1023, yc 0)), (1, (0, yc 37, yc 0))], []), [(0, [], [], [], [], [(0, yc 111, yc 0)])], [])
def yx1046 : yCx := ([ys1045], ys1046.2.2.2.2, yFP, zm286.2.2.1, zm286.2.2.2.1, zc286, 0, ys1046.2.2.2.1, [], [])
theorem yw1046 : ywf ys1046.2.2.1 = true := by decide +kernel
theorem yk1046 : yver yx1046 ys1046.2.2.1 4000 = true := by decide +kernel
theorem yt1046 {E : zHp → Prop} (h : yXt E) : yTs E ys1046 := yver_s (x := yx1046) h.1 (yal_c (yt1045 h) yw1045 (yal_n)) yg286 yk1046
def ys1047 : ySp := (282, 2, (0, [], [], [], [(0, (2, yc 1004, yc 0)), (1, (0, yc 37, yc 0))], []), [(0, [], [], [], [], [(0, yc 111, yc 0)])], [])
def yx1047 : yCx := ([ys895, ys1046], ys1047.2.2.2.2, yFP, zm282.2.2.1, zm282.2.2.2.1, zc282, 0, ys1047.2.2.2.1, [], [])
theorem yw1047 : ywf ys1047.2.2.1 = true := by decide +kernel
theorem yk1047 : yver yx1047 ys1047.2.2.1 4000 = true := by decide +kernel
theorem yt1047 {E : zHp → Prop} (h : yXt E) : yTs E ys1047 := yver_s (x := yx1047) h.1 (yal_c (yt895 h) yw895 (yal_c (yt1046 h) yw1046 (yal_n))) yg282 yk1047
def ys1048 : ySp := (293, 3, (0, [], [], [], [(0, (0, yc 38, yc 0)), (1, (0, yc 66, yc 0)), (2, (7, yc 0, yc 0))], []), [(0, [], [], [], [], [(0, yc 38, yc 0)])], [])
def yx1048 : yCx := ([], ys1048.2.2.2.2, yFP, zm293.2.2.1, zm293.2.2.2.1, zc293, 0, ys1048.2.2.2.1, [], [])
theorem yw1048 : ywf ys1048.2.2.1 = true := by decide +kernel
theorem yk1048 : yver yx1048 ys1048.2.2.1 4000 = true := by decide +kernel
theorem yt1048 {E : zHp → Prop} (h : yXt E) : yTs E ys1048 := yver_s (x := yx1048) h.1 (yal_n) yg293 yk1048
def ys1049 : ySp := (285, 2, (0, [], [], [], [(0, (0, yc 38, yc 0)), (1, (0, yc 66, yc 0))], []), [(0, [], [], [], [], [])], [])
def yx1049 : yCx := ([ys1048], ys1049.2.2.2.2, yFP, zm285.2.2.1, zm285.2.2.2.1, zc285, 0, ys1049.2.2.2.1, [], [])
theorem yw1049 : ywf ys1049.2.2.1 = true := by decide +kernel
theorem yk1049 : yver yx1049 ys1049.2.2.1 4000 = true := by decide +kernel
theorem yt1049 {E : zHp → Prop} (h : yXt E) : yTs E ys1049 := yver_s (x := yx1049) h.1 (yal_c (yt1048 h) yw1048 (yal_n)) yg285 yk1049
def ys1050 : ySp := (286, 2, (0, [], [], [], [(0, (2, yc 1023, yc 0)), (1, (0, yc 38, yc 0))], []), [(0, [], [], [], [], [(0, yc 117, yc 0)])], [])
def yx1050 : yCx := ([ys1049], ys1050.2.2.2.2, yFP, zm286.2.2.1, zm286.2.2.2.1, zc286, 0, ys1050.2.2.2.1, [], [])
theorem yw1050 : ywf ys1050.2.2.1 = true := by decide +kernel
theorem yk1050 : yver yx1050 ys1050.2.2.1 4000 = true := by decide +kernel
theorem yt1050 {E : zHp → Prop} (h : yXt E) : yTs E ys1050 := yver_s (x := yx1050) h.1 (yal_c (yt1049 h) yw1049 (yal_n)) yg286 yk1050
def ys1051 : ySp := (282, 2, (0, [], [], [], [(0, (2, yc 1004, yc 0)), (1, (0, yc 38, yc 0))], []), [(0, [], [], [], [], [(0, yc 117, yc 0)])], [])
def yx1051 : yCx := ([ys895, ys1050], ys1051.2.2.2.2, yFP, zm282.2.2.1, zm282.2.2.2.1, zc282, 0, ys1051.2.2.2.1, [], [])
theorem yw1051 : ywf ys1051.2.2.1 = true := by decide +kernel
theorem yk1051 : yver yx1051 ys1051.2.2.1 4000 = true := by decide +kernel
theorem yt1051 {E : zHp → Prop} (h : yXt E) : yTs E ys1051 := yver_s (x := yx1051) h.1 (yal_c (yt895 h) yw895 (yal_c (yt1050 h) yw1050 (yal_n))) yg282 yk1051
def ys1052 : ySp := (293, 3, (0, [], [], [], [(0, (0, yc 39, yc 0)), (1, (0, yc 66, yc 0)), (2, (7, yc 0, yc 0))], []), [(0, [], [], [], [], [(0, yc 39, yc 0)])], [])
def yx1052 : yCx := ([], ys1052.2.2.2.2, yFP, zm293.2.2.1, zm293.2.2.2.1, zc293, 0, ys1052.2.2.2.1, [], [])
theorem yw1052 : ywf ys1052.2.2.1 = true := by decide +kernel
theorem yk1052 : yver yx1052 ys1052.2.2.1 4000 = true := by decide +kernel
theorem yt1052 {E : zHp → Prop} (h : yXt E) : yTs E ys1052 := yver_s (x := yx1052) h.1 (yal_n) yg293 yk1052
def ys1053 : ySp := (285, 2, (0, [], [], [], [(0, (0, yc 39, yc 0)), (1, (0, yc 66, yc 0))], []), [(0, [], [], [], [], [])], [])
def yx1053 : yCx := ([ys1052], ys1053.2.2.2.2, yFP, zm285.2.2.1, zm285.2.2.2.1, zc285, 0, ys1053.2.2.2.1, [], [])
theorem yw1053 : ywf ys1053.2.2.1 = true := by decide +kernel
theorem yk1053 : yver yx1053 ys1053.2.2.1 4000 = true := by decide +kernel
theorem yt1053 {E : zHp → Prop} (h : yXt E) : yTs E ys1053 := yver_s (x := yx1053) h.1 (yal_c (yt1052 h) yw1052 (yal_n)) yg285 yk1053
def ys1054 : ySp := (286, 2, (0, [], [], [], [(0, (2, yc 1023, yc 0)), (1, (0, yc 39, yc 0))], []), [(0, [], [], [], [], [(0, yc 116, yc 0)])], [])
def yx1054 : yCx := ([ys1053], ys1054.2.2.2.2, yFP, zm286.2.2.1, zm286.2.2.2.1, zc286, 0, ys1054.2.2.2.1, [], [])
theorem yw1054 : ywf ys1054.2.2.1 = true := by decide +kernel
theorem yk1054 : yver yx1054 ys1054.2.2.1 4000 = true := by decide +kernel
theorem yt1054 {E : zHp → Prop} (h : yXt E) : yTs E ys1054 := yver_s (x := yx1054) h.1 (yal_c (yt1053 h) yw1053 (yal_n)) yg286 yk1054
def ys1055 : ySp := (282, 2, (0, [], [], [], [(0, (2, yc 1004, yc 0)), (1, (0, yc 39, yc 0))], []), [(0, [], [], [], [], [(0, yc 116, yc 0)])], [])
def yx1055 : yCx := ([ys895, ys1054], ys1055.2.2.2.2, yFP, zm282.2.2.1, zm282.2.2.2.1, zc282, 0, ys1055.2.2.2.1, [], [])
theorem yw1055 : ywf ys1055.2.2.1 = true := by decide +kernel
theorem yk1055 : yver yx1055 ys1055.2.2.1 4000 = true := by decide +kernel
theorem yt1055 {E : zHp → Prop} (h : yXt E) : yTs E ys1055 := yver_s (x := yx1055) h.1 (yal_c (yt895 h) yw895 (yal_c (yt1054 h) yw1054 (yal_n))) yg282 yk1055
def ys1056 : ySp := (293, 3, (0, [], [], [], [(0, (0, yc 40, yc 0)), (1, (0, yc 66, yc 0)), (2, (7, yc 0, yc 0))], []), [(0, [], [], [], [], [(0, yc 40, yc 0)])], [])
def yx1056 : yCx := ([], ys1056.2.2.2.2, yFP, zm293.2.2.1, zm293.2.2.2.1, zc293, 0, ys1056.2.2.2.1, [], [])
theorem yw1056 : ywf ys1056.2.2.1 = true := by decide +kernel
theorem yk1056 : yver yx1056 ys1056.2.2.1 4000 = true := by decide +kernel
theorem yt1056 {E : zHp → Prop} (h : yXt E) : yTs E ys1056 := yver_s (x := yx1056) h.1 (yal_n) yg293 yk1056
def ys1057 : ySp := (285, 2, (0, [], [], [], [(0, (0, yc 40, yc 0)), (1, (0, yc 66, yc 0))], []), [(0, [], [], [], [], [])], [])
def yx1057 : yCx := ([ys1056], ys1057.2.2.2.2, yFP, zm285.2.2.1, zm285.2.2.2.1, zc285, 0, ys1057.2.2.2.1, [], [])
theorem yw1057 : ywf ys1057.2.2.1 = true := by decide +kernel
theorem yk1057 : yver yx1057 ys1057.2.2.1 4000 = true := by decide +kernel
theorem yt1057 {E : zHp → Prop} (h : yXt E) : yTs E ys1057 := yver_s (x := yx1057) h.1 (yal_c (yt1056 h) yw1056 (yal_n)) yg285 yk1057
def ys1058 : ySp := (286, 2, (0, [], [], [], [(0, (2, yc 1023, yc 0)), (1, (0, yc 40, yc 0))], []), [(0, [], [], [], [], [(0, yc 32, yc 0)])], [])
def yx1058 : yCx := ([ys1057], ys1058.2.2.2.2, yFP, zm286.2.2.1, zm286.2.2.2.1, zc286, 0, ys1058.2.2.2.1, [], [])
theorem yw1058 : ywf ys1058.2.2.1 = true := by decide +kernel
theorem yk1058 : yver yx1058 ys1058.2.2.1 4000 = true := by decide +kernel
theorem yt1058 {E : zHp → Prop} (h : yXt E) : yTs E ys1058 := yver_s (x := yx1058) h.1 (yal_c (yt1057 h) yw1057 (yal_n)) yg286 yk1058
def ys1059 : ySp := (282, 2, (0, [], [], [], [(0, (2, yc 1004, yc 0)), (1, (0, yc 40, yc 0))], []), [(0, [], [], [], [], [(0, yc 32, yc 0)])], [])
def yx1059 : yCx := ([ys895, ys1058], ys1059.2.2.2.2, yFP, zm282.2.2.1, zm282.2.2.2.1, zc282, 0, ys1059.2.2.2.1, [], [])
theorem yw1059 : ywf ys1059.2.2.1 = true := by decide +kernel
theorem yk1059 : yver yx1059 ys1059.2.2.1 4000 = true := by decide +kernel
theorem yt1059 {E : zHp → Prop} (h : yXt E) : yTs E ys1059 := yver_s (x := yx1059) h.1 (yal_c (yt895 h) yw895 (yal_c (yt1058 h) yw1058 (yal_n))) yg282 yk1059
def ys1060 : ySp := (293, 3, (0, [], [], [], [(0, (0, yc 41, yc 0)), (1, (0, yc 66, yc 0)), (2, (7, yc 0, yc 0))], []), [(0, [], [], [], [], [(0, yc 41, yc 0)])], [])
def yx1060 : yCx := ([], ys1060.2.2.2.2, yFP, zm293.2.2.1, zm293.2.2.2.1, zc293, 0, ys1060.2.2.2.1, [], [])
theorem yw1060 : ywf ys1060.2.2.1 = true := by decide +kernel
theorem yk1060 : yver yx1060 ys1060.2.2.1 4000 = true := by decide +kernel
theorem yt1060 {E : zHp → Prop} (h : yXt E) : yTs E ys1060 := yver_s (x := yx1060) h.1 (yal_n) yg293 yk1060
def ys1061 : ySp := (285, 2, (0, [], [], [], [(0, (0, yc 41, yc 0)), (1, (0, yc 66, yc 0))], []), [(0, [], [], [], [], [])], [])
def yx1061 : yCx := ([ys1060], ys1061.2.2.2.2, yFP, zm285.2.2.1, zm285.2.2.2.1, zc285, 0, ys1061.2.2.2.1, [], [])
theorem yw1061 : ywf ys1061.2.2.1 = true := by decide +kernel
theorem yk1061 : yver yx1061 ys1061.2.2.1 4000 = true := by decide +kernel
theorem yt1061 {E : zHp → Prop} (h : yXt E) : yTs E ys1061 := yver_s (x := yx1061) h.1 (yal_c (yt1060 h) yw1060 (yal_n)) yg285 yk1061
def ys1062 : ySp := (286, 2, (0, [], [], [], [(0, (2, yc 1023, yc 0)), (1, (0, yc 41, yc 0))], []), [(0, [], [], [], [], [(0, yc 100, yc 0)])], [])
def yx1062 : yCx := ([ys1061], ys1062.2.2.2.2, yFP, zm286.2.2.1, zm286.2.2.2.1, zc286, 0, ys1062.2.2.2.1, [], [])
theorem yw1062 : ywf ys1062.2.2.1 = true := by decide +kernel
theorem yk1062 : yver yx1062 ys1062.2.2.1 4000 = true := by decide +kernel
theorem yt1062 {E : zHp → Prop} (h : yXt E) : yTs E ys1062 := yver_s (x := yx1062) h.1 (yal_c (yt1061 h) yw1061 (yal_n)) yg286 yk1062
def ys1063 : ySp := (282, 2, (0, [], [], [], [(0, (2, yc 1004, yc 0)), (1, (0, yc 41, yc 0))], []), [(0, [], [], [], [], [(0, yc 100, yc 0)])], [])
def yx1063 : yCx := ([ys895, ys1062], ys1063.2.2.2.2, yFP, zm282.2.2.1, zm282.2.2.2.1, zc282, 0, ys1063.2.2.2.1, [], [])
theorem yw1063 : ywf ys1063.2.2.1 = true := by decide +kernel
theorem yk1063 : yver yx1063 ys1063.2.2.1 4000 = true := by decide +kernel
theorem yt1063 {E : zHp → Prop} (h : yXt E) : yTs E ys1063 := yver_s (x := yx1063) h.1 (yal_c (yt895 h) yw895 (yal_c (yt1062 h) yw1062 (yal_n))) yg282 yk1063
def ys1064 : ySp := (293, 3, (0, [], [], [], [(0, (0, yc 42, yc 0)), (1, (0, yc 66, yc 0)), (2, (7, yc 0, yc 0))], []), [(0, [], [], [], [], [(0, yc 42, yc 0)])], [])
def yx1064 : yCx := ([], ys1064.2.2.2.2, yFP, zm293.2.2.1, zm293.2.2.2.1, zc293, 0, ys1064.2.2.2.1, [], [])
theorem yw1064 : ywf ys1064.2.2.1 = true := by decide +kernel
theorem yk1064 : yver yx1064 ys1064.2.2.1 4000 = true := by decide +kernel
theorem yt1064 {E : zHp → Prop} (h : yXt E) : yTs E ys1064 := yver_s (x := yx1064) h.1 (yal_n) yg293 yk1064
