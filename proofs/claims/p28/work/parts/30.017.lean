def ys1065 : ySp := (285, 2, (0, [], [], [], [(0, (0, yc 42, yc 0)), (1, (0, yc 66, yc 0))], []), [(0, [], [], [], [], [])], [])
def yx1065 : yCx := ([ys1064], ys1065.2.2.2.2, yFP, zm285.2.2.1, zm285.2.2.2.1, zc285, 0, ys1065.2.2.2.1, [], [])
theorem yw1065 : ywf ys1065.2.2.1 = true := by decide +kernel
theorem yk1065 : yver yx1065 ys1065.2.2.1 4000 = true := by decide +kernel
theorem yt1065 {E : zHp → Prop} (h : yXt E) : yTs E ys1065 := yver_s (x := yx1065) h.1 (yal_c (yt1064 h) yw1064 (yal_n)) yg285 yk1065
def ys1066 : ySp := (286, 2, (0, [], [], [], [(0, (2, yc 1023, yc 0)), (1, (0, yc 42, yc 0))], []), [(0, [], [], [], [], [(0, yc 97, yc 0)])], [])
def yx1066 : yCx := ([ys1065], ys1066.2.2.2.2, yFP, zm286.2.2.1, zm286.2.2.2.1, zc286, 0, ys1066.2.2.2.1, [], [])
theorem yw1066 : ywf ys1066.2.2.1 = true := by decide +kernel
theorem yk1066 : yver yx1066 ys1066.2.2.1 4000 = true := by decide +kernel
theorem yt1066 {E : zHp → Prop} (h : yXt E) : yTs E ys1066 := yver_s (x := yx1066) h.1 (yal_c (yt1065 h) yw1065 (yal_n)) yg286 yk1066
def ys1067 : ySp := (282, 2, (0, [], [], [], [(0, (2, yc 1004, yc 0)), (1, (0, yc 42, yc 0))], []), [(0, [], [], [], [], [(0, yc 97, yc 0)])], [])
def yx1067 : yCx := ([ys895, ys1066], ys1067.2.2.2.2, yFP, zm282.2.2.1, zm282.2.2.2.1, zc282, 0, ys1067.2.2.2.1, [], [])
theorem yw1067 : ywf ys1067.2.2.1 = true := by decide +kernel
theorem yk1067 : yver yx1067 ys1067.2.2.1 4000 = true := by decide +kernel
theorem yt1067 {E : zHp → Prop} (h : yXt E) : yTs E ys1067 := yver_s (x := yx1067) h.1 (yal_c (yt895 h) yw895 (yal_c (yt1066 h) yw1066 (yal_n))) yg282 yk1067
def ys1068 : ySp := (293, 3, (0, [], [], [], [(0, (0, yc 43, yc 0)), (1, (0, yc 66, yc 0)), (2, (7, yc 0, yc 0))], []), [(0, [], [], [], [], [(0, yc 43, yc 0)])], [])
def yx1068 : yCx := ([], ys1068.2.2.2.2, yFP, zm293.2.2.1, zm293.2.2.2.1, zc293, 0, ys1068.2.2.2.1, [], [])
theorem yw1068 : ywf ys1068.2.2.1 = true := by decide +kernel
theorem yk1068 : yver yx1068 ys1068.2.2.1 4000 = true := by decide +kernel
theorem yt1068 {E : zHp → Prop} (h : yXt E) : yTs E ys1068 := yver_s (x := yx1068) h.1 (yal_n) yg293 yk1068
def ys1069 : ySp := (285, 2, (0, [], [], [], [(0, (0, yc 43, yc 0)), (1, (0, yc 66, yc 0))], []), [(0, [], [], [], [], [])], [])
def yx1069 : yCx := ([ys1068], ys1069.2.2.2.2, yFP, zm285.2.2.1, zm285.2.2.2.1, zc285, 0, ys1069.2.2.2.1, [], [])
theorem yw1069 : ywf ys1069.2.2.1 = true := by decide +kernel
theorem yk1069 : yver yx1069 ys1069.2.2.1 4000 = true := by decide +kernel
theorem yt1069 {E : zHp → Prop} (h : yXt E) : yTs E ys1069 := yver_s (x := yx1069) h.1 (yal_c (yt1068 h) yw1068 (yal_n)) yg285 yk1069
def ys1070 : ySp := (286, 2, (0, [], [], [], [(0, (2, yc 1023, yc 0)), (1, (0, yc 43, yc 0))], []), [(0, [], [], [], [], [(0, yc 121, yc 0)])], [])
def yx1070 : yCx := ([ys1069], ys1070.2.2.2.2, yFP, zm286.2.2.1, zm286.2.2.2.1, zc286, 0, ys1070.2.2.2.1, [], [])
theorem yw1070 : ywf ys1070.2.2.1 = true := by decide +kernel
theorem yk1070 : yver yx1070 ys1070.2.2.1 4000 = true := by decide +kernel
theorem yt1070 {E : zHp → Prop} (h : yXt E) : yTs E ys1070 := yver_s (x := yx1070) h.1 (yal_c (yt1069 h) yw1069 (yal_n)) yg286 yk1070
def ys1071 : ySp := (282, 2, (0, [], [], [], [(0, (2, yc 1004, yc 0)), (1, (0, yc 43, yc 0))], []), [(0, [], [], [], [], [(0, yc 121, yc 0)])], [])
def yx1071 : yCx := ([ys895, ys1070], ys1071.2.2.2.2, yFP, zm282.2.2.1, zm282.2.2.2.1, zc282, 0, ys1071.2.2.2.1, [], [])
theorem yw1071 : ywf ys1071.2.2.1 = true := by decide +kernel
theorem yk1071 : yver yx1071 ys1071.2.2.1 4000 = true := by decide +kernel
theorem yt1071 {E : zHp → Prop} (h : yXt E) : yTs E ys1071 := yver_s (x := yx1071) h.1 (yal_c (yt895 h) yw895 (yal_c (yt1070 h) yw1070 (yal_n))) yg282 yk1071
def ys1072 : ySp := (293, 3, (0, [], [], [], [(0, (0, yc 44, yc 0)), (1, (0, yc 66, yc 0)), (2, (7, yc 0, yc 0))], []), [(0, [], [], [], [], [(0, yc 44, yc 0)])], [])
def yx1072 : yCx := ([], ys1072.2.2.2.2, yFP, zm293.2.2.1, zm293.2.2.2.1, zc293, 0, ys1072.2.2.2.1, [], [])
theorem yw1072 : ywf ys1072.2.2.1 = true := by decide +kernel
theorem yk1072 : yver yx1072 ys1072.2.2.1 4000 = true := by decide +kernel
theorem yt1072 {E : zHp → Prop} (h : yXt E) : yTs E ys1072 := yver_s (x := yx1072) h.1 (yal_n) yg293 yk1072
def ys1073 : ySp := (285, 2, (0, [], [], [], [(0, (0, yc 44, yc 0)), (1, (0, yc 66, yc 0))], []), [(0, [], [], [], [], [])], [])
def yx1073 : yCx := ([ys1072], ys1073.2.2.2.2, yFP, zm285.2.2.1, zm285.2.2.2.1, zc285, 0, ys1073.2.2.2.1, [], [])
theorem yw1073 : ywf ys1073.2.2.1 = true := by decide +kernel
theorem yk1073 : yver yx1073 ys1073.2.2.1 4000 = true := by decide +kernel
theorem yt1073 {E : zHp → Prop} (h : yXt E) : yTs E ys1073 := yver_s (x := yx1073) h.1 (yal_c (yt1072 h) yw1072 (yal_n)) yg285 yk1073
def ys1074 : ySp := (286, 2, (0, [], [], [], [(0, (2, yc 1023, yc 0)), (1, (0, yc 44, yc 0))], []), [(0, [], [], [], [], [(0, yc 32, yc 0)])], [])
def yx1074 : yCx := ([ys1073], ys1074.2.2.2.2, yFP, zm286.2.2.1, zm286.2.2.2.1, zc286, 0, ys1074.2.2.2.1, [], [])
theorem yw1074 : ywf ys1074.2.2.1 = true := by decide +kernel
theorem yk1074 : yver yx1074 ys1074.2.2.1 4000 = true := by decide +kernel
theorem yt1074 {E : zHp → Prop} (h : yXt E) : yTs E ys1074 := yver_s (x := yx1074) h.1 (yal_c (yt1073 h) yw1073 (yal_n)) yg286 yk1074
def ys1075 : ySp := (282, 2, (0, [], [], [], [(0, (2, yc 1004, yc 0)), (1, (0, yc 44, yc 0))], []), [(0, [], [], [], [], [(0, yc 32, yc 0)])], [])
def yx1075 : yCx := ([ys895, ys1074], ys1075.2.2.2.2, yFP, zm282.2.2.1, zm282.2.2.2.1, zc282, 0, ys1075.2.2.2.1, [], [])
theorem yw1075 : ywf ys1075.2.2.1 = true := by decide +kernel
theorem yk1075 : yver yx1075 ys1075.2.2.1 4000 = true := by decide +kernel
theorem yt1075 {E : zHp → Prop} (h : yXt E) : yTs E ys1075 := yver_s (x := yx1075) h.1 (yal_c (yt895 h) yw895 (yal_c (yt1074 h) yw1074 (yal_n))) yg282 yk1075
def ys1076 : ySp := (293, 3, (0, [], [], [], [(0, (0, yc 45, yc 0)), (1, (0, yc 66, yc 0)), (2, (7, yc 0, yc 0))], []), [(0, [], [], [], [], [(0, yc 45, yc 0)])], [])
def yx1076 : yCx := ([], ys1076.2.2.2.2, yFP, zm293.2.2.1, zm293.2.2.2.1, zc293, 0, ys1076.2.2.2.1, [], [])
theorem yw1076 : ywf ys1076.2.2.1 = true := by decide +kernel
theorem yk1076 : yver yx1076 ys1076.2.2.1 4000 = true := by decide +kernel
theorem yt1076 {E : zHp → Prop} (h : yXt E) : yTs E ys1076 := yver_s (x := yx1076) h.1 (yal_n) yg293 yk1076
def ys1077 : ySp := (285, 2, (0, [], [], [], [(0, (0, yc 45, yc 0)), (1, (0, yc 66, yc 0))], []), [(0, [], [], [], [], [])], [])
def yx1077 : yCx := ([ys1076], ys1077.2.2.2.2, yFP, zm285.2.2.1, zm285.2.2.2.1, zc285, 0, ys1077.2.2.2.1, [], [])
theorem yw1077 : ywf ys1077.2.2.1 = true := by decide +kernel
theorem yk1077 : yver yx1077 ys1077.2.2.1 4000 = true := by decide +kernel
theorem yt1077 {E : zHp → Prop} (h : yXt E) : yTs E ys1077 := yver_s (x := yx1077) h.1 (yal_c (yt1076 h) yw1076 (yal_n)) yg285 yk1077
def ys1078 : ySp := (286, 2, (0, [], [], [], [(0, (2, yc 1023, yc 0)), (1, (0, yc 45, yc 0))], []), [(0, [], [], [], [], [(0, yc 110, yc 0)])], [])
def yx1078 : yCx := ([ys1077], ys1078.2.2.2.2, yFP, zm286.2.2.1, zm286.2.2.2.1, zc286, 0, ys1078.2.2.2.1, [], [])
theorem yw1078 : ywf ys1078.2.2.1 = true := by decide +kernel
theorem yk1078 : yver yx1078 ys1078.2.2.1 4000 = true := by decide +kernel
theorem yt1078 {E : zHp → Prop} (h : yXt E) : yTs E ys1078 := yver_s (x := yx1078) h.1 (yal_c (yt1077 h) yw1077 (yal_n)) yg286 yk1078
def ys1079 : ySp := (282, 2, (0, [], [], [], [(0, (2, yc 1004, yc 0)), (1, (0, yc 45, yc 0))], []), [(0, [], [], [], [], [(0, yc 110, yc 0)])], [])
def yx1079 : yCx := ([ys895, ys1078], ys1079.2.2.2.2, yFP, zm282.2.2.1, zm282.2.2.2.1, zc282, 0, ys1079.2.2.2.1, [], [])
theorem yw1079 : ywf ys1079.2.2.1 = true := by decide +kernel
theorem yk1079 : yver yx1079 ys1079.2.2.1 4000 = true := by decide +kernel
theorem yt1079 {E : zHp → Prop} (h : yXt E) : yTs E ys1079 := yver_s (x := yx1079) h.1 (yal_c (yt895 h) yw895 (yal_c (yt1078 h) yw1078 (yal_n))) yg282 yk1079
def ys1080 : ySp := (293, 3, (0, [], [], [], [(0, (0, yc 46, yc 0)), (1, (0, yc 66, yc 0)), (2, (7, yc 0, yc 0))], []), [(0, [], [], [], [], [(0, yc 46, yc 0)])], [])
def yx1080 : yCx := ([], ys1080.2.2.2.2, yFP, zm293.2.2.1, zm293.2.2.2.1, zc293, 0, ys1080.2.2.2.1, [], [])
theorem yw1080 : ywf ys1080.2.2.1 = true := by decide +kernel
theorem yk1080 : yver yx1080 ys1080.2.2.1 4000 = true := by decide +kernel
theorem yt1080 {E : zHp → Prop} (h : yXt E) : yTs E ys1080 := yver_s (x := yx1080) h.1 (yal_n) yg293 yk1080
def ys1081 : ySp := (285, 2, (0, [], [], [], [(0, (0, yc 46, yc 0)), (1, (0, yc 66, yc 0))], []), [(0, [], [], [], [], [])], [])
def yx1081 : yCx := ([ys1080], ys1081.2.2.2.2, yFP, zm285.2.2.1, zm285.2.2.2.1, zc285, 0, ys1081.2.2.2.1, [], [])
theorem yw1081 : ywf ys1081.2.2.1 = true := by decide +kernel
theorem yk1081 : yver yx1081 ys1081.2.2.1 4000 = true := by decide +kernel
theorem yt1081 {E : zHp → Prop} (h : yXt E) : yTs E ys1081 := yver_s (x := yx1081) h.1 (yal_c (yt1080 h) yw1080 (yal_n)) yg285 yk1081
def ys1082 : ySp := (286, 2, (0, [], [], [], [(0, (2, yc 1023, yc 0)), (1, (0, yc 46, yc 0))], []), [(0, [], [], [], [], [(0, yc 101, yc 0)])], [])
def yx1082 : yCx := ([ys1081], ys1082.2.2.2.2, yFP, zm286.2.2.1, zm286.2.2.2.1, zc286, 0, ys1082.2.2.2.1, [], [])
theorem yw1082 : ywf ys1082.2.2.1 = true := by decide +kernel
theorem yk1082 : yver yx1082 ys1082.2.2.1 4000 = true := by decide +kernel
theorem yt1082 {E : zHp → Prop} (h : yXt E) : yTs E ys1082 := yver_s (x := yx1082) h.1 (yal_c (yt1081 h) yw1081 (yal_n)) yg286 yk1082
def ys1083 : ySp := (282, 2, (0, [], [], [], [(0, (2, yc 1004, yc 0)), (1, (0, yc 46, yc 0))], []), [(0, [], [], [], [], [(0, yc 101, yc 0)])], [])
def yx1083 : yCx := ([ys895, ys1082], ys1083.2.2.2.2, yFP, zm282.2.2.1, zm282.2.2.2.1, zc282, 0, ys1083.2.2.2.1, [], [])
theorem yw1083 : ywf ys1083.2.2.1 = true := by decide +kernel
theorem yk1083 : yver yx1083 ys1083.2.2.1 4000 = true := by decide +kernel
theorem yt1083 {E : zHp → Prop} (h : yXt E) : yTs E ys1083 := yver_s (x := yx1083) h.1 (yal_c (yt895 h) yw895 (yal_c (yt1082 h) yw1082 (yal_n))) yg282 yk1083
def ys1084 : ySp := (293, 3, (0, [], [], [], [(0, (0, yc 47, yc 0)), (1, (0, yc 66, yc 0)), (2, (7, yc 0, yc 0))], []), [(0, [], [], [], [], [(0, yc 47, yc 0)])], [])
def yx1084 : yCx := ([], ys1084.2.2.2.2, yFP, zm293.2.2.1, zm293.2.2.2.1, zc293, 0, ys1084.2.2.2.1, [], [])
theorem yw1084 : ywf ys1084.2.2.1 = true := by decide +kernel
theorem yk1084 : yver yx1084 ys1084.2.2.1 4000 = true := by decide +kernel
theorem yt1084 {E : zHp → Prop} (h : yXt E) : yTs E ys1084 := yver_s (x := yx1084) h.1 (yal_n) yg293 yk1084
def ys1085 : ySp := (285, 2, (0, [], [], [], [(0, (0, yc 47, yc 0)), (1, (0, yc 66, yc 0))], []), [(0, [], [], [], [], [])], [])
def yx1085 : yCx := ([ys1084], ys1085.2.2.2.2, yFP, zm285.2.2.1, zm285.2.2.2.1, zc285, 0, ys1085.2.2.2.1, [], [])
theorem yw1085 : ywf ys1085.2.2.1 = true := by decide +kernel
theorem yk1085 : yver yx1085 ys1085.2.2.1 4000 = true := by decide +kernel
theorem yt1085 {E : zHp → Prop} (h : yXt E) : yTs E ys1085 := yver_s (x := yx1085) h.1 (yal_c (yt1084 h) yw1084 (yal_n)) yg285 yk1085
def ys1086 : ySp := (286, 2, (0, [], [], [], [(0, (2, yc 1023, yc 0)), (1, (0, yc 47, yc 0))], []), [(0, [], [], [], [], [(0, yc 101, yc 0)])], [])
def yx1086 : yCx := ([ys1085], ys1086.2.2.2.2, yFP, zm286.2.2.1, zm286.2.2.2.1, zc286, 0, ys1086.2.2.2.1, [], [])
theorem yw1086 : ywf ys1086.2.2.1 = true := by decide +kernel
theorem yk1086 : yver yx1086 ys1086.2.2.1 4000 = true := by decide +kernel
theorem yt1086 {E : zHp → Prop} (h : yXt E) : yTs E ys1086 := yver_s (x := yx1086) h.1 (yal_c (yt1085 h) yw1085 (yal_n)) yg286 yk1086
def ys1087 : ySp := (282, 2, (0, [], [], [], [(0, (2, yc 1004, yc 0)), (1, (0, yc 47, yc 0))], []), [(0, [], [], [], [], [(0, yc 101, yc 0)])], [])
def yx1087 : yCx := ([ys895, ys1086], ys1087.2.2.2.2, yFP, zm282.2.2.1, zm282.2.2.2.1, zc282, 0, ys1087.2.2.2.1, [], [])
theorem yw1087 : ywf ys1087.2.2.1 = true := by decide +kernel
theorem yk1087 : yver yx1087 ys1087.2.2.1 4000 = true := by decide +kernel
theorem yt1087 {E : zHp → Prop} (h : yXt E) : yTs E ys1087 := yver_s (x := yx1087) h.1 (yal_c (yt895 h) yw895 (yal_c (yt1086 h) yw1086 (yal_n))) yg282 yk1087
def ys1088 : ySp := (293, 3, (0, [], [], [], [(0, (0, yc 48, yc 0)), (1, (0, yc 66, yc 0)), (2, (7, yc 0, yc 0))], []), [(0, [], [], [], [], [(0, yc 48, yc 0)])], [])
def yx1088 : yCx := ([], ys1088.2.2.2.2, yFP, zm293.2.2.1, zm293.2.2.2.1, zc293, 0, ys1088.2.2.2.1, [], [])
theorem yw1088 : ywf ys1088.2.2.1 = true := by decide +kernel
theorem yk1088 : yver yx1088 ys1088.2.2.1 4000 = true := by decide +kernel
theorem yt1088 {E : zHp → Prop} (h : yXt E) : yTs E ys1088 := yver_s (x := yx1088) h.1 (yal_n) yg293 yk1088
def ys1089 : ySp := (285, 2, (0, [], [], [], [(0, (0, yc 48, yc 0)), (1, (0, yc 66, yc 0))], []), [(0, [], [], [], [], [])], [])
def yx1089 : yCx := ([ys1088], ys1089.2.2.2.2, yFP, zm285.2.2.1, zm285.2.2.2.1, zc285, 0, ys1089.2.2.2.1, [], [])
theorem yw1089 : ywf ys1089.2.2.1 = true := by decide +kernel
theorem yk1089 : yver yx1089 ys1089.2.2.1 4000 = true := by decide +kernel
theorem yt1089 {E : zHp → Prop} (h : yXt E) : yTs E ys1089 := yver_s (x := yx1089) h.1 (yal_c (yt1088 h) yw1088 (yal_n)) yg285 yk1089
def ys1090 : ySp := (286, 2, (0, [], [], [], [(0, (2, yc 1023, yc 0)), (1, (0, yc 48, yc 0))], []), [(0, [], [], [], [], [(0, yc 100, yc 0)])], [])
def yx1090 : yCx := ([ys1089], ys1090.2.2.2.2, yFP, zm286.2.2.1, zm286.2.2.2.1, zc286, 0, ys1090.2.2.2.1, [], [])
theorem yw1090 : ywf ys1090.2.2.1 = true := by decide +kernel
theorem yk1090 : yver yx1090 ys1090.2.2.1 4000 = true := by decide +kernel
theorem yt1090 {E : zHp → Prop} (h : yXt E) : yTs E ys1090 := yver_s (x := yx1090) h.1 (yal_c (yt1089 h) yw1089 (yal_n)) yg286 yk1090
def ys1091 : ySp := (282, 2, (0, [], [], [], [(0, (2, yc 1004, yc 0)), (1, (0, yc 48, yc 0))], []), [(0, [], [], [], [], [(0, yc 100, yc 0)])], [])
def yx1091 : yCx := ([ys895, ys1090], ys1091.2.2.2.2, yFP, zm282.2.2.1, zm282.2.2.2.1, zc282, 0, ys1091.2.2.2.1, [], [])
theorem yw1091 : ywf ys1091.2.2.1 = true := by decide +kernel
theorem yk1091 : yver yx1091 ys1091.2.2.1 4000 = true := by decide +kernel
theorem yt1091 {E : zHp → Prop} (h : yXt E) : yTs E ys1091 := yver_s (x := yx1091) h.1 (yal_c (yt895 h) yw895 (yal_c (yt1090 h) yw1090 (yal_n))) yg282 yk1091
def ys1092 : ySp := (293, 3, (0, [], [], [], [(0, (0, yc 49, yc 0)), (1, (0, yc 66, yc 0)), (2, (7, yc 0, yc 0))], []), [(0, [], [], [], [], [(0, yc 49, yc 0)])], [])
def yx1092 : yCx := ([], ys1092.2.2.2.2, yFP, zm293.2.2.1, zm293.2.2.2.1, zc293, 0, ys1092.2.2.2.1, [], [])
theorem yw1092 : ywf ys1092.2.2.1 = true := by decide +kernel
theorem yk1092 : yver yx1092 ys1092.2.2.1 4000 = true := by decide +kernel
theorem yt1092 {E : zHp → Prop} (h : yXt E) : yTs E ys1092 := yver_s (x := yx1092) h.1 (yal_n) yg293 yk1092
def ys1093 : ySp := (285, 2, (0, [], [], [], [(0, (0, yc 49, yc 0)), (1, (0, yc 66, yc 0))], []), [(0, [], [], [], [], [])], [])
def yx1093 : yCx := ([ys1092], ys1093.2.2.2.2, yFP, zm285.2.2.1, zm285.2.2.2.1, zc285, 0, ys1093.2.2.2.1, [], [])
theorem yw1093 : ywf ys1093.2.2.1 = true := by decide +kernel
theorem yk1093 : yver yx1093 ys1093.2.2.1 4000 = true := by decide +kernel
theorem yt1093 {E : zHp → Prop} (h : yXt E) : yTs E ys1093 := yver_s (x := yx1093) h.1 (yal_c (yt1092 h) yw1092 (yal_n)) yg285 yk1093
def ys1094 : ySp := (286, 2, (0, [], [], [], [(0, (2, yc 1023, yc 0)), (1, (0, yc 49, yc 0))], []), [(0, [], [], [], [], [(0, yc 32, yc 0)])], [])
def yx1094 : yCx := ([ys1093], ys1094.2.2.2.2, yFP, zm286.2.2.1, zm286.2.2.2.1, zc286, 0, ys1094.2.2.2.1, [], [])
theorem yw1094 : ywf ys1094.2.2.1 = true := by decide +kernel
theorem yk1094 : yver yx1094 ys1094.2.2.1 4000 = true := by decide +kernel
theorem yt1094 {E : zHp → Prop} (h : yXt E) : yTs E ys1094 := yver_s (x := yx1094) h.1 (yal_c (yt1093 h) yw1093 (yal_n)) yg286 yk1094
def ys1095 : ySp := (282, 2, (0, [], [], [], [(0, (2, yc 1004, yc 0)), (1, (0, yc 49, yc 0))], []), [(0, [], [], [], [], [(0, yc 32, yc 0)])], [])
def yx1095 : yCx := ([ys895, ys1094], ys1095.2.2.2.2, yFP, zm282.2.2.1, zm282.2.2.2.1, zc282, 0, ys1095.2.2.2.1, [], [])
theorem yw1095 : ywf ys1095.2.2.1 = true := by decide +kernel
theorem yk1095 : yver yx1095 ys1095.2.2.1 4000 = true := by decide +kernel
theorem yt1095 {E : zHp → Prop} (h : yXt E) : yTs E ys1095 := yver_s (x := yx1095) h.1 (yal_c (yt895 h) yw895 (yal_c (yt1094 h) yw1094 (yal_n))) yg282 yk1095
def ys1096 : ySp := (293, 3, (0, [], [], [], [(0, (0, yc 50, yc 0)), (1, (0, yc 66, yc 0)), (2, (7, yc 0, yc 0))], []), [(0, [], [], [], [], [(0, yc 50, yc 0)])], [])
def yx1096 : yCx := ([], ys1096.2.2.2.2, yFP, zm293.2.2.1, zm293.2.2.2.1, zc293, 0, ys1096.2.2.2.1, [], [])
theorem yw1096 : ywf ys1096.2.2.1 = true := by decide +kernel
theorem yk1096 : yver yx1096 ys1096.2.2.1 4000 = true := by decide +kernel
theorem yt1096 {E : zHp → Prop} (h : yXt E) : yTs E ys1096 := yver_s (x := yx1096) h.1 (yal_n) yg293 yk1096
def ys1097 : ySp := (285, 2, (0, [], [], [], [(0, (0, yc 50, yc 0)), (1, (0, yc 66, yc 0))], []), [(0, [], [], [], [], [])], [])
def yx1097 : yCx := ([ys1096], ys1097.2.2.2.2, yFP, zm285.2.2.1, zm285.2.2.2.1, zc285, 0, ys1097.2.2.2.1, [], [])
theorem yw1097 : ywf ys1097.2.2.1 = true := by decide +kernel
theorem yk1097 : yver yx1097 ys1097.2.2.1 4000 = true := by decide +kernel
theorem yt1097 {E : zHp → Prop} (h : yXt E) : yTs E ys1097 := yver_s (x := yx1097) h.1 (yal_c (yt1096 h) yw1096 (yal_n)) yg285 yk1097
def ys1098 : ySp := (286, 2, (0, [], [], [], [(0, (2, yc 1023, yc 0)), (1, (0, yc 50, yc 0))], []), [(0, [], [], [], [], [(0, yc 112, yc 0)])], [])
def yx1098 : yCx := ([ys1097], ys1098.2.2.2.2, yFP, zm286.2.2.1, zm286.2.2.2.1, zc286, 0, ys1098.2.2.2.1, [], [])
theorem yw1098 : ywf ys1098.2.2.1 = true := by decide +kernel
theorem yk1098 : yver yx1098 ys1098.2.2.1 4000 = true := by decide +kernel
theorem yt1098 {E : zHp → Prop} (h : yXt E) : yTs E ys1098 := yver_s (x := yx1098) h.1 (yal_c (yt1097 h) yw1097 (yal_n)) yg286 yk1098
def ys1099 : ySp := (282, 2, (0, [], [], [], [(0, (2, yc 1004, yc 0)), (1, (0, yc 50, yc 0))], []), [(0, [], [], [], [], [(0, yc 112, yc 0)])], [])
def yx1099 : yCx := ([ys895, ys1098], ys1099.2.2.2.2, yFP, zm282.2.2.1, zm282.2.2.2.1, zc282, 0, ys1099.2.2.2.1, [], [])
theorem yw1099 : ywf ys1099.2.2.1 = true := by decide +kernel
theorem yk1099 : yver yx1099 ys1099.2.2.1 4000 = true := by decide +kernel
theorem yt1099 {E : zHp → Prop} (h : yXt E) : yTs E ys1099 := yver_s (x := yx1099) h.1 (yal_c (yt895 h) yw895 (yal_c (yt1098 h) yw1098 (yal_n))) yg282 yk1099
def ys1100 : ySp := (293, 3, (0, [], [], [], [(0, (0, yc 51, yc 0)), (1, (0, yc 66, yc 0)), (2, (7, yc 0, yc 0))], []), [(0, [], [], [], [], [(0, yc 51, yc 0)])], [])
def yx1100 : yCx := ([], ys1100.2.2.2.2, yFP, zm293.2.2.1, zm293.2.2.2.1, zc293, 0, ys1100.2.2.2.1, [], [])
theorem yw1100 : ywf ys1100.2.2.1 = true := by decide +kernel
theorem yk1100 : yver yx1100 ys1100.2.2.1 4000 = true := by decide +kernel
theorem yt1100 {E : zHp → Prop} (h : yXt E) : yTs E ys1100 := yver_s (x := yx1100) h.1 (yal_n) yg293 yk1100
def ys1101 : ySp := (285, 2, (0, [], [], [], [(0, (0, yc 51, yc 0)), (1, (0, yc 66, yc 0))], []), [(0, [], [], [], [], [])], [])
def yx1101 : yCx := ([ys1100], ys1101.2.2.2.2, yFP, zm285.2.2.1, zm285.2.2.2.1, zc285, 0, ys1101.2.2.2.1, [], [])
theorem yw1101 : ywf ys1101.2.2.1 = true := by decide +kernel
theorem yk1101 : yver yx1101 ys1101.2.2.1 4000 = true := by decide +kernel
theorem yt1101 {E : zHp → Prop} (h : yXt E) : yTs E ys1101 := yver_s (x := yx1101) h.1 (yal_c (yt1100 h) yw1100 (yal_n)) yg285 yk1101
def ys1102 : ySp := (286, 2, (0, [], [], [], [(0, (2, yc 1023, yc 0)), (1, (0, yc 51, yc 0))], []), [(0, [], [], [], [], [(0, yc 97, yc 0)])], [])
def yx1102 : yCx := ([ys1101], ys1102.2.2.2.2, yFP, zm286.2.2.1, zm286.2.2.2.1, zc286, 0, ys1102.2.2.2.1, [], [])
theorem yw1102 : ywf ys1102.2.2.1 = true := by decide +kernel
theorem yk1102 : yver yx1102 ys1102.2.2.1 4000 = true := by decide +kernel
theorem yt1102 {E : zHp → Prop} (h : yXt E) : yTs E ys1102 := yver_s (x := yx1102) h.1 (yal_c (yt1101 h) yw1101 (yal_n)) yg286 yk1102
def ys1103 : ySp := (282, 2, (0, [], [], [], [(0, (2, yc 1004, yc 0)), (1, (0, yc 51, yc 0))], []), [(0, [], [], [], [], [(0, yc 97, yc 0)])], [])
def yx1103 : yCx := ([ys895, ys1102], ys1103.2.2.2.2, yFP, zm282.2.2.1, zm282.2.2.2.1, zc282, 0, ys1103.2.2.2.1, [], [])
theorem yw1103 : ywf ys1103.2.2.1 = true := by decide +kernel
theorem yk1103 : yver yx1103 ys1103.2.2.1 4000 = true := by decide +kernel
theorem yt1103 {E : zHp → Prop} (h : yXt E) : yTs E ys1103 := yver_s (x := yx1103) h.1 (yal_c (yt895 h) yw895 (yal_c (yt1102 h) yw1102 (yal_n))) yg282 yk1103
def ys1104 : ySp := (293, 3, (0, [], [], [], [(0, (0, yc 52, yc 0)), (1, (0, yc 66, yc 0)), (2, (7, yc 0, yc 0))], []), [(0, [], [], [], [], [(0, yc 52, yc 0)])], [])
def yx1104 : yCx := ([], ys1104.2.2.2.2, yFP, zm293.2.2.1, zm293.2.2.2.1, zc293, 0, ys1104.2.2.2.1, [], [])
theorem yw1104 : ywf ys1104.2.2.1 = true := by decide +kernel
theorem yk1104 : yver yx1104 ys1104.2.2.1 4000 = true := by decide +kernel
theorem yt1104 {E : zHp → Prop} (h : yXt E) : yTs E ys1104 := yver_s (x := yx1104) h.1 (yal_n) yg293 yk1104
def ys1105 : ySp := (285, 2, (0, [], [], [], [(0, (0, yc 52, yc 0)), (1, (0, yc 66, yc 0))], []), [(0, [], [], [], [], [])], [])
def yx1105 : yCx := ([ys1104], ys1105.2.2.2.2, yFP, zm285.2.2.1, zm285.2.2.2.1, zc285, 0, ys1105.2.2.2.1, [], [])
theorem yw1105 : ywf ys1105.2.2.1 = true := by decide +kernel
theorem yk1105 : yver yx1105 ys1105.2.2.1 4000 = true := by decide +kernel
theorem yt1105 {E : zHp → Prop} (h : yXt E) : yTs E ys1105 := yver_s (x := yx1105) h.1 (yal_c (yt1104 h) yw1104 (yal_n)) yg285 yk1105
def ys1106 : ySp := (286, 2, (0, [], [], [], [(0, (2, yc 1023, yc 0)), (1, (0, yc 52, yc 0))], []), [(0, [], [], [], [], [(0, yc 121, yc 0)])], [])
def yx1106 : yCx := ([ys1105], ys1106.2.2.2.2, yFP, zm286.2.2.1, zm286.2.2.2.1, zc286, 0, ys1106.2.2.2.1, [], [])
theorem yw1106 : ywf ys1106.2.2.1 = true := by decide +kernel
theorem yk1106 : yver yx1106 ys1106.2.2.1 4000 = true := by decide +kernel
theorem yt1106 {E : zHp → Prop} (h : yXt E) : yTs E ys1106 := yver_s (x := yx1106) h.1 (yal_c (yt1105 h) yw1105 (yal_n)) yg286 yk1106
def ys1107 : ySp := (282, 2, (0, [], [], [], [(0, (2, yc 1004, yc 0)), (1, (0, yc 52, yc 0))], []), [(0, [], [], [], [], [(0, yc 121, yc 0)])], [])
def yx1107 : yCx := ([ys895, ys1106], ys1107.2.2.2.2, yFP, zm282.2.2.1, zm282.2.2.2.1, zc282, 0, ys1107.2.2.2.1, [], [])
theorem yw1107 : ywf ys1107.2.2.1 = true := by decide +kernel
theorem yk1107 : yver yx1107 ys1107.2.2.1 4000 = true := by decide +kernel
theorem yt1107 {E : zHp → Prop} (h : yXt E) : yTs E ys1107 := yver_s (x := yx1107) h.1 (yal_c (yt895 h) yw895 (yal_c (yt1106 h) yw1106 (yal_n))) yg282 yk1107
def ys1108 : ySp := (293, 3, (0, [], [], [], [(0, (0, yc 53, yc 0)), (1, (0, yc 66, yc 0)), (2, (7, yc 0, yc 0))], []), [(0, [], [], [], [], [(0, yc 53, yc 0)])], [])
def yx1108 : yCx := ([], ys1108.2.2.2.2, yFP, zm293.2.2.1, zm293.2.2.2.1, zc293, 0, ys1108.2.2.2.1, [], [])
theorem yw1108 : ywf ys1108.2.2.1 = true := by decide +kernel
theorem yk1108 : yver yx1108 ys1108.2.2.1 4000 = true := by decide +kernel
theorem yt1108 {E : zHp → Prop} (h : yXt E) : yTs E ys1108 := yver_s (x := yx1108) h.1 (yal_n) yg293 yk1108
def ys1109 : ySp := (285, 2, (0, [], [], [], [(0, (0, yc 53, yc 0)), (1, (0, yc 66, yc 0))], []), [(0, [], [], [], [], [])], [])
def yx1109 : yCx := ([ys1108], ys1109.2.2.2.2, yFP, zm285.2.2.1, zm285.2.2.2.1, zc285, 0, ys1109.2.2.2.1, [], [])
theorem yw1109 : ywf ys1109.2.2.1 = true := by decide +kernel
theorem yk1109 : yver yx1109 ys1109.2.2.1 4000 = true := by decide +kernel
theorem yt1109 {E : zHp → Prop} (h : yXt E) : yTs E ys1109 := yver_s (x := yx1109) h.1 (yal_c (yt1108 h) yw1108 (yal_n)) yg285 yk1109
def ys1110 : ySp := (286, 2, (0, [], [], [], [(0, (2, yc 1023, yc 0)), (1, (0, yc 53, yc 0))], []), [(0, [], [], [], [], [(0, yc 32, yc 0)])], [])
def yx1110 : yCx := ([ys1109], ys1110.2.2.2.2, yFP, zm286.2.2.1, zm286.2.2.2.1, zc286, 0, ys1110.2.2.2.1, [], [])
theorem yw1110 : ywf ys1110.2.2.1 = true := by decide +kernel
theorem yk1110 : yver yx1110 ys1110.2.2.1 4000 = true := by decide +kernel
theorem yt1110 {E : zHp → Prop} (h : yXt E) : yTs E ys1110 := yver_s (x := yx1110) h.1 (yal_c (yt1109 h) yw1109 (yal_n)) yg286 yk1110
def ys1111 : ySp := (282, 2, (0, [], [], [], [(0, (2, yc 1004, yc 0)), (1, (0, yc 53, yc 0))], []), [(0, [], [], [], [], [(0, yc 32, yc 0)])], [])
def yx1111 : yCx := ([ys895, ys1110], ys1111.2.2.2.2, yFP, zm282.2.2.1, zm282.2.2.2.1, zc282, 0, ys1111.2.2.2.1, [], [])
theorem yw1111 : ywf ys1111.2.2.1 = true := by decide +kernel
theorem yk1111 : yver yx1111 ys1111.2.2.1 4000 = true := by decide +kernel
theorem yt1111 {E : zHp → Prop} (h : yXt E) : yTs E ys1111 := yver_s (x := yx1111) h.1 (yal_c (yt895 h) yw895 (yal_c (yt1110 h) yw1110 (yal_n))) yg282 yk1111
def ys1112 : ySp := (293, 3, (0, [], [], [], [(0, (0, yc 54, yc 0)), (1, (0, yc 66, yc 0)), (2, (7, yc 0, yc 0))], []), [(0, [], [], [], [], [(0, yc 54, yc 0)])], [])
def yx1112 : yCx := ([], ys1112.2.2.2.2, yFP, zm293.2.2.1, zm293.2.2.2.1, zc293, 0, ys1112.2.2.2.1, [], [])
theorem yw1112 : ywf ys1112.2.2.1 = true := by decide +kernel
theorem yk1112 : yver yx1112 ys1112.2.2.1 4000 = true := by decide +kernel
theorem yt1112 {E : zHp → Prop} (h : yXt E) : yTs E ys1112 := yver_s (x := yx1112) h.1 (yal_n) yg293 yk1112
def ys1113 : ySp := (285, 2, (0, [], [], [], [(0, (0, yc 54, yc 0)), (1, (0, yc 66, yc 0))], []), [(0, [], [], [], [], [])], [])
def yx1113 : yCx := ([ys1112], ys1113.2.2.2.2, yFP, zm285.2.2.1, zm285.2.2.2.1, zc285, 0, ys1113.2.2.2.1, [], [])
theorem yw1113 : ywf ys1113.2.2.1 = true := by decide +kernel
theorem yk1113 : yver yx1113 ys1113.2.2.1 4000 = true := by decide +kernel
theorem yt1113 {E : zHp → Prop} (h : yXt E) : yTs E ys1113 := yver_s (x := yx1113) h.1 (yal_c (yt1112 h) yw1112 (yal_n)) yg285 yk1113
def ys1114 : ySp := (286, 2, (0, [], [], [], [(0, (2, yc 1023, yc 0)), (1, (0, yc 54, yc 0))], []), [(0, [], [], [], [], [(0, yc 111, yc 0)])], [])
def yx1114 : yCx := ([ys1113], ys1114.2.2.2.2, yFP, zm286.2.2.1, zm286.2.2.2.1, zc286, 0, ys1114.2.2.2.1, [], [])
theorem yw1114 : ywf ys1114.2.2.1 = true := by decide +kernel
theorem yk1114 : yver yx1114 ys1114.2.2.1 4000 = true := by decide +kernel
theorem yt1114 {E : zHp → Prop} (h : yXt E) : yTs E ys1114 := yver_s (x := yx1114) h.1 (yal_c (yt1113 h) yw1113 (yal_n)) yg286 yk1114
def ys1115 : ySp := (282, 2, (0, [], [], [], [(0, (2, yc 1004, yc 0)), (1, (0, yc 54, yc 0))], []), [(0, [], [], [], [], [(0, yc 111, yc 0)])], [])
def yx1115 : yCx := ([ys895, ys1114], ys1115.2.2.2.2, yFP, zm282.2.2.1, zm282.2.2.2.1, zc282, 0, ys1115.2.2.2.1, [], [])
theorem yw1115 : ywf ys1115.2.2.1 = true := by decide +kernel
theorem yk1115 : yver yx1115 ys1115.2.2.1 4000 = true := by decide +kernel
theorem yt1115 {E : zHp → Prop} (h : yXt E) : yTs E ys1115 := yver_s (x := yx1115) h.1 (yal_c (yt895 h) yw895 (yal_c (yt1114 h) yw1114 (yal_n))) yg282 yk1115
def ys1116 : ySp := (293, 3, (0, [], [], [], [(0, (0, yc 55, yc 0)), (1, (0, yc 66, yc 0)), (2, (7, yc 0, yc 0))], []), [(0, [], [], [], [], [(0, yc 55, yc 0)])], [])
def yx1116 : yCx := ([], ys1116.2.2.2.2, yFP, zm293.2.2.1, zm293.2.2.2.1, zc293, 0, ys1116.2.2.2.1, [], [])
theorem yw1116 : ywf ys1116.2.2.1 = true := by decide +kernel
theorem yk1116 : yver yx1116 ys1116.2.2.1 4000 = true := by decide +kernel
theorem yt1116 {E : zHp → Prop} (h : yXt E) : yTs E ys1116 := yver_s (x := yx1116) h.1 (yal_n) yg293 yk1116
def ys1117 : ySp := (285, 2, (0, [], [], [], [(0, (0, yc 55, yc 0)), (1, (0, yc 66, yc 0))], []), [(0, [], [], [], [], [])], [])
def yx1117 : yCx := ([ys1116], ys1117.2.2.2.2, yFP, zm285.2.2.1, zm285.2.2.2.1, zc285, 0, ys1117.2.2.2.1, [], [])
theorem yw1117 : ywf ys1117.2.2.1 = true := by decide +kernel
theorem yk1117 : yver yx1117 ys1117.2.2.1 4000 = true := by decide +kernel
theorem yt1117 {E : zHp → Prop} (h : yXt E) : yTs E ys1117 := yver_s (x := yx1117) h.1 (yal_c (yt1116 h) yw1116 (yal_n)) yg285 yk1117
def ys1118 : ySp := (286, 2, (0, [], [], [], [(0, (2, yc 1023, yc 0)), (1, (0, yc 55, yc 0))], []), [(0, [], [], [], [], [(0, yc 119, yc 0)])], [])
def yx1118 : yCx := ([ys1117], ys1118.2.2.2.2, yFP, zm286.2.2.1, zm286.2.2.2.1, zc286, 0, ys1118.2.2.2.1, [], [])
theorem yw1118 : ywf ys1118.2.2.1 = true := by decide +kernel
theorem yk1118 : yver yx1118 ys1118.2.2.1 4000 = true := by decide +kernel
theorem yt1118 {E : zHp → Prop} (h : yXt E) : yTs E ys1118 := yver_s (x := yx1118) h.1 (yal_c (yt1117 h) yw1117 (yal_n)) yg286 yk1118
def ys1119 : ySp := (282, 2, (0, [], [], [], [(0, (2, yc 1004, yc 0)), (1, (0, yc 55, yc 0))], []), [(0, [], [], [], [], [(0, yc 119, yc 0)])], [])
def yx1119 : yCx := ([ys895, ys1118], ys1119.2.2.2.2, yFP, zm282.2.2.1, zm282.2.2.2.1, zc282, 0, ys1119.2.2.2.1, [], [])
theorem yw1119 : ywf ys1119.2.2.1 = true := by decide +kernel
theorem yk1119 : yver yx1119 ys1119.2.2.1 4000 = true := by decide +kernel
theorem yt1119 {E : zHp → Prop} (h : yXt E) : yTs E ys1119 := yver_s (x := yx1119) h.1 (yal_c (yt895 h) yw895 (yal_c (yt1118 h) yw1118 (yal_n))) yg282 yk1119
def ys1120 : ySp := (293, 3, (0, [], [], [], [(0, (0, yc 56, yc 0)), (1, (0, yc 66, yc 0)), (2, (7, yc 0, yc 0))], []), [(0, [], [], [], [], [(0, yc 56, yc 0)])], [])
def yx1120 : yCx := ([], ys1120.2.2.2.2, yFP, zm293.2.2.1, zm293.2.2.2.1, zc293, 0, ys1120.2.2.2.1, [], [])
theorem yw1120 : ywf ys1120.2.2.1 = true := by decide +kernel
theorem yk1120 : yver yx1120 ys1120.2.2.1 4000 = true := by decide +kernel
theorem yt1120 {E : zHp → Prop} (h : yXt E) : yTs E ys1120 := yver_s (x := yx1120) h.1 (yal_n) yg293 yk1120
def ys1121 : ySp := (285, 2, (0, [], [], [], [(0, (0, yc 56, yc 0)), (1, (0, yc 66, yc 0))], []), [(0, [], [], [], [], [])], [])
def yx1121 : yCx := ([ys1120], ys1121.2.2.2.2, yFP, zm285.2.2.1, zm285.2.2.2.1, zc285, 0, ys1121.2.2.2.1, [], [])
theorem yw1121 : ywf ys1121.2.2.1 = true := by decide +kernel
theorem yk1121 : yver yx1121 ys1121.2.2.1 4000 = true := by decide +kernel
theorem yt1121 {E : zHp → Prop} (h : yXt E) : yTs E ys1121 := yver_s (x := yx1121) h.1 (yal_c (yt1120 h) yw1120 (yal_n)) yg285 yk1121
def ys1122 : ySp := (286, 2, (0, [], [], [], [(0, (2, yc 1023, yc 0)), (1, (0, yc 56, yc 0))], []), [(0, [], [], [], [], [(0, yc 101, yc 0)])], [])
def yx1122 : yCx := ([ys1121], ys1122.2.2.2.2, yFP, zm286.2.2.1, zm286.2.2.2.1, zc286, 0, ys1122.2.2.2.1, [], [])
theorem yw1122 : ywf ys1122.2.2.1 = true := by decide +kernel
theorem yk1122 : yver yx1122 ys1122.2.2.1 4000 = true := by decide +kernel
theorem yt1122 {E : zHp → Prop} (h : yXt E) : yTs E ys1122 := yver_s (x := yx1122) h.1 (yal_c (yt1121 h) yw1121 (yal_n)) yg286 yk1122
def ys1123 : ySp := (282, 2, (0, [], [], [], [(0, (2, yc 1004, yc 0)), (1, (0, yc 56, yc 0))], []), [(0, [], [], [], [], [(0, yc 101, yc 0)])], [])
def yx1123 : yCx := ([ys895, ys1122], ys1123.2.2.2.2, yFP, zm282.2.2.1, zm282.2.2.2.1, zc282, 0, ys1123.2.2.2.1, [], [])
theorem yw1123 : ywf ys1123.2.2.1 = true := by decide +kernel
theorem yk1123 : yver yx1123 ys1123.2.2.1 4000 = true := by decide +kernel
theorem yt1123 {E : zHp → Prop} (h : yXt E) : yTs E ys1123 := yver_s (x := yx1123) h.1 (yal_c (yt895 h) yw895 (yal_c (yt1122 h) yw1122 (yal_n))) yg282 yk1123
def ys1124 : ySp := (293, 3, (0, [], [], [], [(0, (0, yc 57, yc 0)), (1, (0, yc 66, yc 0)), (2, (7, yc 0, yc 0))], []), [(0, [], [], [], [], [(0, yc 57, yc 0)])], [])
def yx1124 : yCx := ([], ys1124.2.2.2.2, yFP, zm293.2.2.1, zm293.2.2.2.1, zc293, 0, ys1124.2.2.2.1, [], [])
theorem yw1124 : ywf ys1124.2.2.1 = true := by decide +kernel
theorem yk1124 : yver yx1124 ys1124.2.2.1 4000 = true := by decide +kernel
theorem yt1124 {E : zHp → Prop} (h : yXt E) : yTs E ys1124 := yver_s (x := yx1124) h.1 (yal_n) yg293 yk1124
def ys1125 : ySp := (285, 2, (0, [], [], [], [(0, (0, yc 57, yc 0)), (1, (0, yc 66, yc 0))], []), [(0, [], [], [], [], [])], [])
def yx1125 : yCx := ([ys1124], ys1125.2.2.2.2, yFP, zm285.2.2.1, zm285.2.2.2.1, zc285, 0, ys1125.2.2.2.1, [], [])
theorem yw1125 : ywf ys1125.2.2.1 = true := by decide +kernel
theorem yk1125 : yver yx1125 ys1125.2.2.1 4000 = true := by decide +kernel
theorem yt1125 {E : zHp → Prop} (h : yXt E) : yTs E ys1125 := yver_s (x := yx1125) h.1 (yal_c (yt1124 h) yw1124 (yal_n)) yg285 yk1125
def ys1126 : ySp := (286, 2, (0, [], [], [], [(0, (2, yc 1023, yc 0)), (1, (0, yc 57, yc 0))], []), [(0, [], [], [], [], [(0, yc 115, yc 0)])], [])
def yx1126 : yCx := ([ys1125], ys1126.2.2.2.2, yFP, zm286.2.2.1, zm286.2.2.2.1, zc286, 0, ys1126.2.2.2.1, [], [])
theorem yw1126 : ywf ys1126.2.2.1 = true := by decide +kernel
theorem yk1126 : yver yx1126 ys1126.2.2.1 4000 = true := by decide +kernel
theorem yt1126 {E : zHp → Prop} (h : yXt E) : yTs E ys1126 := yver_s (x := yx1126) h.1 (yal_c (yt1125 h) yw1125 (yal_n)) yg286 yk1126
