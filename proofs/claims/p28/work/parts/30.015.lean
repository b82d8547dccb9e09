def ys941 : ySp := (285, 2, (0, [], [], [], [(0, (0, yc 11, yc 0)), (1, (0, yc 66, yc 0))], []), [(0, [], [], [], [], [])], [])
def yx941 : yCx := ([ys940], ys941.2.2.2.2, yFP, zm285.2.2.1, zm285.2.2.2.1, zc285, 0, ys941.2.2.2.1, [], [])
theorem yw941 : ywf ys941.2.2.1 = true := by decide +kernel
theorem yk941 : yver yx941 ys941.2.2.1 4000 = true := by decide +kernel
theorem yt941 {E : zHp → Prop} (h : yXt E) : yTs E ys941 := yver_s (x := yx941) h.1 (yal_c (yt940 h) yw940 (yal_n)) yg285 yk941
def ys942 : ySp := (286, 2, (0, [], [], [], [(0, (2, yc 1023, yc 0)), (1, (0, yc 11, yc 0))], []), [(0, [], [], [], [], [(0, yc 119, yc 0)])], [])
def yx942 : yCx := ([ys941], ys942.2.2.2.2, yFP, zm286.2.2.1, zm286.2.2.2.1, zc286, 0, ys942.2.2.2.1, [], [])
theorem yw942 : ywf ys942.2.2.1 = true := by decide +kernel
theorem yk942 : yver yx942 ys942.2.2.1 4000 = true := by decide +kernel
theorem yt942 {E : zHp → Prop} (h : yXt E) : yTs E ys942 := yver_s (x := yx942) h.1 (yal_c (yt941 h) yw941 (yal_n)) yg286 yk942
def ys943 : ySp := (282, 2, (0, [], [], [], [(0, (2, yc 1004, yc 0)), (1, (0, yc 11, yc 0))], []), [(0, [], [], [], [], [(0, yc 119, yc 0)])], [])
def yx943 : yCx := ([ys895, ys942], ys943.2.2.2.2, yFP, zm282.2.2.1, zm282.2.2.2.1, zc282, 0, ys943.2.2.2.1, [], [])
theorem yw943 : ywf ys943.2.2.1 = true := by decide +kernel
theorem yk943 : yver yx943 ys943.2.2.1 4000 = true := by decide +kernel
theorem yt943 {E : zHp → Prop} (h : yXt E) : yTs E ys943 := yver_s (x := yx943) h.1 (yal_c (yt895 h) yw895 (yal_c (yt942 h) yw942 (yal_n))) yg282 yk943
def ys944 : ySp := (293, 3, (0, [], [], [], [(0, (0, yc 12, yc 0)), (1, (0, yc 66, yc 0)), (2, (7, yc 0, yc 0))], []), [(0, [], [], [], [], [(0, yc 12, yc 0)])], [])
def yx944 : yCx := ([], ys944.2.2.2.2, yFP, zm293.2.2.1, zm293.2.2.2.1, zc293, 0, ys944.2.2.2.1, [], [])
theorem yw944 : ywf ys944.2.2.1 = true := by decide +kernel
theorem yk944 : yver yx944 ys944.2.2.1 4000 = true := by decide +kernel
theorem yt944 {E : zHp → Prop} (h : yXt E) : yTs E ys944 := yver_s (x := yx944) h.1 (yal_n) yg293 yk944
def ys945 : ySp := (285, 2, (0, [], [], [], [(0, (0, yc 12, yc 0)), (1, (0, yc 66, yc 0))], []), [(0, [], [], [], [], [])], [])
def yx945 : yCx := ([ys944], ys945.2.2.2.2, yFP, zm285.2.2.1, zm285.2.2.2.1, zc285, 0, ys945.2.2.2.1, [], [])
theorem yw945 : ywf ys945.2.2.1 = true := by decide +kernel
theorem yk945 : yver yx945 ys945.2.2.1 4000 = true := by decide +kernel
theorem yt945 {E : zHp → Prop} (h : yXt E) : yTs E ys945 := yver_s (x := yx945) h.1 (yal_c (yt944 h) yw944 (yal_n)) yg285 yk945
def ys946 : ySp := (286, 2, (0, [], [], [], [(0, (2, yc 1023, yc 0)), (1, (0, yc 12, yc 0))], []), [(0, [], [], [], [], [(0, yc 110, yc 0)])], [])
def yx946 : yCx := ([ys945], ys946.2.2.2.2, yFP, zm286.2.2.1, zm286.2.2.2.1, zc286, 0, ys946.2.2.2.1, [], [])
theorem yw946 : ywf ys946.2.2.1 = true := by decide +kernel
theorem yk946 : yver yx946 ys946.2.2.1 4000 = true := by decide +kernel
theorem yt946 {E : zHp → Prop} (h : yXt E) : yTs E ys946 := yver_s (x := yx946) h.1 (yal_c (yt945 h) yw945 (yal_n)) yg286 yk946
def ys947 : ySp := (282, 2, (0, [], [], [], [(0, (2, yc 1004, yc 0)), (1, (0, yc 12, yc 0))], []), [(0, [], [], [], [], [(0, yc 110, yc 0)])], [])
def yx947 : yCx := ([ys895, ys946], ys947.2.2.2.2, yFP, zm282.2.2.1, zm282.2.2.2.1, zc282, 0, ys947.2.2.2.1, [], [])
theorem yw947 : ywf ys947.2.2.1 = true := by decide +kernel
theorem yk947 : yver yx947 ys947.2.2.1 4000 = true := by decide +kernel
theorem yt947 {E : zHp → Prop} (h : yXt E) : yTs E ys947 := yver_s (x := yx947) h.1 (yal_c (yt895 h) yw895 (yal_c (yt946 h) yw946 (yal_n))) yg282 yk947
def ys948 : ySp := (293, 3, (0, [], [], [], [(0, (0, yc 13, yc 0)), (1, (0, yc 66, yc 0)), (2, (7, yc 0, yc 0))], []), [(0, [], [], [], [], [(0, yc 13, yc 0)])], [])
def yx948 : yCx := ([], ys948.2.2.2.2, yFP, zm293.2.2.1, zm293.2.2.2.1, zc293, 0, ys948.2.2.2.1, [], [])
theorem yw948 : ywf ys948.2.2.1 = true := by decide +kernel
theorem yk948 : yver yx948 ys948.2.2.1 4000 = true := by decide +kernel
theorem yt948 {E : zHp → Prop} (h : yXt E) : yTs E ys948 := yver_s (x := yx948) h.1 (yal_n) yg293 yk948
def ys949 : ySp := (285, 2, (0, [], [], [], [(0, (0, yc 13, yc 0)), (1, (0, yc 66, yc 0))], []), [(0, [], [], [], [], [])], [])
def yx949 : yCx := ([ys948], ys949.2.2.2.2, yFP, zm285.2.2.1, zm285.2.2.2.1, zc285, 0, ys949.2.2.2.1, [], [])
theorem yw949 : ywf ys949.2.2.1 = true := by decide +kernel
theorem yk949 : yver yx949 ys949.2.2.1 4000 = true := by decide +kernel
theorem yt949 {E : zHp → Prop} (h : yXt E) : yTs E ys949 := yver_s (x := yx949) h.1 (yal_c (yt948 h) yw948 (yal_n)) yg285 yk949
def ys950 : ySp := (286, 2, (0, [], [], [], [(0, (2, yc 1023, yc 0)), (1, (0, yc 13, yc 0))], []), [(0, [], [], [], [], [(0, yc 101, yc 0)])], [])
def yx950 : yCx := ([ys949], ys950.2.2.2.2, yFP, zm286.2.2.1, zm286.2.2.2.1, zc286, 0, ys950.2.2.2.1, [], [])
theorem yw950 : ywf ys950.2.2.1 = true := by decide +kernel
theorem yk950 : yver yx950 ys950.2.2.1 4000 = true := by decide +kernel
theorem yt950 {E : zHp → Prop} (h : yXt E) : yTs E ys950 := yver_s (x := yx950) h.1 (yal_c (yt949 h) yw949 (yal_n)) yg286 yk950
def ys951 : ySp := (282, 2, (0, [], [], [], [(0, (2, yc 1004, yc 0)), (1, (0, yc 13, yc 0))], []), [(0, [], [], [], [], [(0, yc 101, yc 0)])], [])
def yx951 : yCx := ([ys895, ys950], ys951.2.2.2.2, yFP, zm282.2.2.1, zm282.2.2.2.1, zc282, 0, ys951.2.2.2.1, [], [])
theorem yw951 : ywf ys951.2.2.1 = true := by decide +kernel
theorem yk951 : yver yx951 ys951.2.2.1 4000 = true := by decide +kernel
theorem yt951 {E : zHp → Prop} (h : yXt E) : yTs E ys951 := yver_s (x := yx951) h.1 (yal_c (yt895 h) yw895 (yal_c (yt950 h) yw950 (yal_n))) yg282 yk951
def ys952 : ySp := (293, 3, (0, [], [], [], [(0, (0, yc 14, yc 0)), (1, (0, yc 66, yc 0)), (2, (7, yc 0, yc 0))], []), [(0, [], [], [], [], [(0, yc 14, yc 0)])], [])
def yx952 : yCx := ([], ys952.2.2.2.2, yFP, zm293.2.2.1, zm293.2.2.2.1, zc293, 0, ys952.2.2.2.1, [], [])
theorem yw952 : ywf ys952.2.2.1 = true := by decide +kernel
theorem yk952 : yver yx952 ys952.2.2.1 4000 = true := by decide +kernel
theorem yt952 {E : zHp → Prop} (h : yXt E) : yTs E ys952 := yver_s (x := yx952) h.1 (yal_n) yg293 yk952
def ys953 : ySp := (285, 2, (0, [], [], [], [(0, (0, yc 14, yc 0)), (1, (0, yc 66, yc 0))], []), [(0, [], [], [], [], [])], [])
def yx953 : yCx := ([ys952], ys953.2.2.2.2, yFP, zm285.2.2.1, zm285.2.2.2.1, zc285, 0, ys953.2.2.2.1, [], [])
theorem yw953 : ywf ys953.2.2.1 = true := by decide +kernel
theorem yk953 : yver yx953 ys953.2.2.1 4000 = true := by decide +kernel
theorem yt953 {E : zHp → Prop} (h : yXt E) : yTs E ys953 := yver_s (x := yx953) h.1 (yal_c (yt952 h) yw952 (yal_n)) yg285 yk953
def ys954 : ySp := (286, 2, (0, [], [], [], [(0, (2, yc 1023, yc 0)), (1, (0, yc 14, yc 0))], []), [(0, [], [], [], [], [(0, yc 114, yc 0)])], [])
def yx954 : yCx := ([ys953], ys954.2.2.2.2, yFP, zm286.2.2.1, zm286.2.2.2.1, zc286, 0, ys954.2.2.2.1, [], [])
theorem yw954 : ywf ys954.2.2.1 = true := by decide +kernel
theorem yk954 : yver yx954 ys954.2.2.1 4000 = true := by decide +kernel
theorem yt954 {E : zHp → Prop} (h : yXt E) : yTs E ys954 := yver_s (x := yx954) h.1 (yal_c (yt953 h) yw953 (yal_n)) yg286 yk954
def ys955 : ySp := (282, 2, (0, [], [], [], [(0, (2, yc 1004, yc 0)), (1, (0, yc 14, yc 0))], []), [(0, [], [], [], [], [(0, yc 114, yc 0)])], [])
def yx955 : yCx := ([ys895, ys954], ys955.2.2.2.2, yFP, zm282.2.2.1, zm282.2.2.2.1, zc282, 0, ys955.2.2.2.1, [], [])
theorem yw955 : ywf ys955.2.2.1 = true := by decide +kernel
theorem yk955 : yver yx955 ys955.2.2.1 4000 = true := by decide +kernel
theorem yt955 {E : zHp → Prop} (h : yXt E) : yTs E ys955 := yver_s (x := yx955) h.1 (yal_c (yt895 h) yw895 (yal_c (yt954 h) yw954 (yal_n))) yg282 yk955
def ys956 : ySp := (293, 3, (0, [], [], [], [(0, (0, yc 15, yc 0)), (1, (0, yc 66, yc 0)), (2, (7, yc 0, yc 0))], []), [(0, [], [], [], [], [(0, yc 15, yc 0)])], [])
def yx956 : yCx := ([], ys956.2.2.2.2, yFP, zm293.2.2.1, zm293.2.2.2.1, zc293, 0, ys956.2.2.2.1, [], [])
theorem yw956 : ywf ys956.2.2.1 = true := by decide +kernel
theorem yk956 : yver yx956 ys956.2.2.1 4000 = true := by decide +kernel
theorem yt956 {E : zHp → Prop} (h : yXt E) : yTs E ys956 := yver_s (x := yx956) h.1 (yal_n) yg293 yk956
def ys957 : ySp := (285, 2, (0, [], [], [], [(0, (0, yc 15, yc 0)), (1, (0, yc 66, yc 0))], []), [(0, [], [], [], [], [])], [])
def yx957 : yCx := ([ys956], ys957.2.2.2.2, yFP, zm285.2.2.1, zm285.2.2.2.1, zc285, 0, ys957.2.2.2.1, [], [])
theorem yw957 : ywf ys957.2.2.1 = true := by decide +kernel
theorem yk957 : yver yx957 ys957.2.2.1 4000 = true := by decide +kernel
theorem yt957 {E : zHp → Prop} (h : yXt E) : yTs E ys957 := yver_s (x := yx957) h.1 (yal_c (yt956 h) yw956 (yal_n)) yg285 yk957
def ys958 : ySp := (286, 2, (0, [], [], [], [(0, (2, yc 1023, yc 0)), (1, (0, yc 15, yc 0))], []), [(0, [], [], [], [], [(0, yc 32, yc 0)])], [])
def yx958 : yCx := ([ys957], ys958.2.2.2.2, yFP, zm286.2.2.1, zm286.2.2.2.1, zc286, 0, ys958.2.2.2.1, [], [])
theorem yw958 : ywf ys958.2.2.1 = true := by decide +kernel
theorem yk958 : yver yx958 ys958.2.2.1 4000 = true := by decide +kernel
theorem yt958 {E : zHp → Prop} (h : yXt E) : yTs E ys958 := yver_s (x := yx958) h.1 (yal_c (yt957 h) yw957 (yal_n)) yg286 yk958
def ys959 : ySp := (282, 2, (0, [], [], [], [(0, (2, yc 1004, yc 0)), (1, (0, yc 15, yc 0))], []), [(0, [], [], [], [], [(0, yc 32, yc 0)])], [])
def yx959 : yCx := ([ys895, ys958], ys959.2.2.2.2, yFP, zm282.2.2.1, zm282.2.2.2.1, zc282, 0, ys959.2.2.2.1, [], [])
theorem yw959 : ywf ys959.2.2.1 = true := by decide +kernel
theorem yk959 : yver yx959 ys959.2.2.1 4000 = true := by decide +kernel
theorem yt959 {E : zHp → Prop} (h : yXt E) : yTs E ys959 := yver_s (x := yx959) h.1 (yal_c (yt895 h) yw895 (yal_c (yt958 h) yw958 (yal_n))) yg282 yk959
def ys960 : ySp := (293, 3, (0, [], [], [], [(0, (0, yc 16, yc 0)), (1, (0, yc 66, yc 0)), (2, (7, yc 0, yc 0))], []), [(0, [], [], [], [], [(0, yc 16, yc 0)])], [])
def yx960 : yCx := ([], ys960.2.2.2.2, yFP, zm293.2.2.1, zm293.2.2.2.1, zc293, 0, ys960.2.2.2.1, [], [])
theorem yw960 : ywf ys960.2.2.1 = true := by decide +kernel
theorem yk960 : yver yx960 ys960.2.2.1 4000 = true := by decide +kernel
theorem yt960 {E : zHp → Prop} (h : yXt E) : yTs E ys960 := yver_s (x := yx960) h.1 (yal_n) yg293 yk960
def ys961 : ySp := (285, 2, (0, [], [], [], [(0, (0, yc 16, yc 0)), (1, (0, yc 66, yc 0))], []), [(0, [], [], [], [], [])], [])
def yx961 : yCx := ([ys960], ys961.2.2.2.2, yFP, zm285.2.2.1, zm285.2.2.2.1, zc285, 0, ys961.2.2.2.1, [], [])
theorem yw961 : ywf ys961.2.2.1 = true := by decide +kernel
theorem yk961 : yver yx961 ys961.2.2.1 4000 = true := by decide +kernel
theorem yt961 {E : zHp → Prop} (h : yXt E) : yTs E ys961 := yver_s (x := yx961) h.1 (yal_c (yt960 h) yw960 (yal_n)) yg285 yk961
def ys962 : ySp := (286, 2, (0, [], [], [], [(0, (2, yc 1023, yc 0)), (1, (0, yc 16, yc 0))], []), [(0, [], [], [], [], [(0, yc 104, yc 0)])], [])
def yx962 : yCx := ([ys961], ys962.2.2.2.2, yFP, zm286.2.2.1, zm286.2.2.2.1, zc286, 0, ys962.2.2.2.1, [], [])
theorem yw962 : ywf ys962.2.2.1 = true := by decide +kernel
theorem yk962 : yver yx962 ys962.2.2.1 4000 = true := by decide +kernel
theorem yt962 {E : zHp → Prop} (h : yXt E) : yTs E ys962 := yver_s (x := yx962) h.1 (yal_c (yt961 h) yw961 (yal_n)) yg286 yk962
def ys963 : ySp := (282, 2, (0, [], [], [], [(0, (2, yc 1004, yc 0)), (1, (0, yc 16, yc 0))], []), [(0, [], [], [], [], [(0, yc 104, yc 0)])], [])
def yx963 : yCx := ([ys895, ys962], ys963.2.2.2.2, yFP, zm282.2.2.1, zm282.2.2.2.1, zc282, 0, ys963.2.2.2.1, [], [])
theorem yw963 : ywf ys963.2.2.1 = true := by decide +kernel
theorem yk963 : yver yx963 ys963.2.2.1 4000 = true := by decide +kernel
theorem yt963 {E : zHp → Prop} (h : yXt E) : yTs E ys963 := yver_s (x := yx963) h.1 (yal_c (yt895 h) yw895 (yal_c (yt962 h) yw962 (yal_n))) yg282 yk963
def ys964 : ySp := (293, 3, (0, [], [], [], [(0, (0, yc 17, yc 0)), (1, (0, yc 66, yc 0)), (2, (7, yc 0, yc 0))], []), [(0, [], [], [], [], [(0, yc 17, yc 0)])], [])
def yx964 : yCx := ([], ys964.2.2.2.2, yFP, zm293.2.2.1, zm293.2.2.2.1, zc293, 0, ys964.2.2.2.1, [], [])
theorem yw964 : ywf ys964.2.2.1 = true := by decide +kernel
theorem yk964 : yver yx964 ys964.2.2.1 4000 = true := by decide +kernel
theorem yt964 {E : zHp → Prop} (h : yXt E) : yTs E ys964 := yver_s (x := yx964) h.1 (yal_n) yg293 yk964
def ys965 : ySp := (285, 2, (0, [], [], [], [(0, (0, yc 17, yc 0)), (1, (0, yc 66, yc 0))], []), [(0, [], [], [], [], [])], [])
def yx965 : yCx := ([ys964], ys965.2.2.2.2, yFP, zm285.2.2.1, zm285.2.2.2.1, zc285, 0, ys965.2.2.2.1, [], [])
theorem yw965 : ywf ys965.2.2.1 = true := by decide +kernel
theorem yk965 : yver yx965 ys965.2.2.1 4000 = true := by decide +kernel
theorem yt965 {E : zHp → Prop} (h : yXt E) : yTs E ys965 := yver_s (x := yx965) h.1 (yal_c (yt964 h) yw964 (yal_n)) yg285 yk965
def ys966 : ySp := (286, 2, (0, [], [], [], [(0, (2, yc 1023, yc 0)), (1, (0, yc 17, yc 0))], []), [(0, [], [], [], [], [(0, yc 111, yc 0)])], [])
def yx966 : yCx := ([ys965], ys966.2.2.2.2, yFP, zm286.2.2.1, zm286.2.2.2.1, zc286, 0, ys966.2.2.2.1, [], [])
theorem yw966 : ywf ys966.2.2.1 = true := by decide +kernel
theorem yk966 : yver yx966 ys966.2.2.1 4000 = true := by decide +kernel
theorem yt966 {E : zHp → Prop} (h : yXt E) : yTs E ys966 := yver_s (x := yx966) h.1 (yal_c (yt965 h) yw965 (yal_n)) yg286 yk966
def ys967 : ySp := (282, 2, (0, [], [], [], [(0, (2, yc 1004, yc 0)), (1, (0, yc 17, yc 0))], []), [(0, [], [], [], [], [(0, yc 111, yc 0)])], [])
def yx967 : yCx := ([ys895, ys966], ys967.2.2.2.2, yFP, zm282.2.2.1, zm282.2.2.2.1, zc282, 0, ys967.2.2.2.1, [], [])
theorem yw967 : ywf ys967.2.2.1 = true := by decide +kernel
theorem yk967 : yver yx967 ys967.2.2.1 4000 = true := by decide +kernel
theorem yt967 {E : zHp → Prop} (h : yXt E) : yTs E ys967 := yver_s (x := yx967) h.1 (yal_c (yt895 h) yw895 (yal_c (yt966 h) yw966 (yal_n))) yg282 yk967
def ys968 : ySp := (293, 3, (0, [], [], [], [(0, (0, yc 18, yc 0)), (1, (0, yc 66, yc 0)), (2, (7, yc 0, yc 0))], []), [(0, [], [], [], [], [(0, yc 18, yc 0)])], [])
def yx968 : yCx := ([], ys968.2.2.2.2, yFP, zm293.2.2.1, zm293.2.2.2.1, zc293, 0, ys968.2.2.2.1, [], [])
theorem yw968 : ywf ys968.2.2.1 = true := by decide +kernel
theorem yk968 : yver yx968 ys968.2.2.1 4000 = true := by decide +kernel
theorem yt968 {E : zHp → Prop} (h : yXt E) : yTs E ys968 := yver_s (x := yx968) h.1 (yal_n) yg293 yk968
def ys969 : ySp := (285, 2, (0, [], [], [], [(0, (0, yc 18, yc 0)), (1, (0, yc 66, yc 0))], []), [(0, [], [], [], [], [])], [])
def yx969 : yCx := ([ys968], ys969.2.2.2.2, yFP, zm285.2.2.1, zm285.2.2.2.1, zc285, 0, ys969.2.2.2.1, [], [])
theorem yw969 : ywf ys969.2.2.1 = true := by decide +kernel
theorem yk969 : yver yx969 ys969.2.2.1 4000 = true := by decide +kernel
theorem yt969 {E : zHp → Prop} (h : yXt E) : yTs E ys969 := yver_s (x := yx969) h.1 (yal_c (yt968 h) yw968 (yal_n)) yg285 yk969
def ys970 : ySp := (286, 2, (0, [], [], [], [(0, (2, yc 1023, yc 0)), (1, (0, yc 18, yc 0))], []), [(0, [], [], [], [], [(0, yc 108, yc 0)])], [])
def yx970 : yCx := ([ys969], ys970.2.2.2.2, yFP, zm286.2.2.1, zm286.2.2.2.1, zc286, 0, ys970.2.2.2.1, [], [])
theorem yw970 : ywf ys970.2.2.1 = true := by decide +kernel
theorem yk970 : yver yx970 ys970.2.2.1 4000 = true := by decide +kernel
theorem yt970 {E : zHp → Prop} (h : yXt E) : yTs E ys970 := yver_s (x := yx970) h.1 (yal_c (yt969 h) yw969 (yal_n)) yg286 yk970
def ys971 : ySp := (282, 2, (0, [], [], [], [(0, (2, yc 1004, yc 0)), (1, (0, yc 18, yc 0))], []), [(0, [], [], [], [], [(0, yc 108, yc 0)])], [])
def yx971 : yCx := ([ys895, ys970], ys971.2.2.2.2, yFP, zm282.2.2.1, zm282.2.2.2.1, zc282, 0, ys971.2.2.2.1, [], [])
theorem yw971 : ywf ys971.2.2.1 = true := by decide +kernel
theorem yk971 : yver yx971 ys971.2.2.1 4000 = true := by decide +kernel
theorem yt971 {E : zHp → Prop} (h : yXt E) : yTs E ys971 := yver_s (x := yx971) h.1 (yal_c (yt895 h) yw895 (yal_c (yt970 h) yw970 (yal_n))) yg282 yk971
def ys972 : ySp := (293, 3, (0, [], [], [], [(0, (0, yc 19, yc 0)), (1, (0, yc 66, yc 0)), (2, (7, yc 0, yc 0))], []), [(0, [], [], [], [], [(0, yc 19, yc 0)])], [])
def yx972 : yCx := ([], ys972.2.2.2.2, yFP, zm293.2.2.1, zm293.2.2.2.1, zc293, 0, ys972.2.2.2.1, [], [])
theorem yw972 : ywf ys972.2.2.1 = true := by decide +kernel
theorem yk972 : yver yx972 ys972.2.2.1 4000 = true := by decide +kernel
theorem yt972 {E : zHp → Prop} (h : yXt E) : yTs E ys972 := yver_s (x := yx972) h.1 (yal_n) yg293 yk972
def ys973 : ySp := (285, 2, (0, [], [], [], [(0, (0, yc 19, yc 0)), (1, (0, yc 66, yc 0))], []), [(0, [], [], [], [], [])], [])
def yx973 : yCx := ([ys972], ys973.2.2.2.2, yFP, zm285.2.2.1, zm285.2.2.2.1, zc285, 0, ys973.2.2.2.1, [], [])
theorem yw973 : ywf ys973.2.2.1 = true := by decide +kernel
theorem yk973 : yver yx973 ys973.2.2.1 4000 = true := by decide +kernel
theorem yt973 {E : zHp → Prop} (h : yXt E) : yTs E ys973 := yver_s (x := yx973) h.1 (yal_c (yt972 h) yw972 (yal_n)) yg285 yk973
def ys974 : ySp := (286, 2, (0, [], [], [], [(0, (2, yc 1023, yc 0)), (1, (0, yc 19, yc 0))], []), [(0, [], [], [], [], [(0, yc 100, yc 0)])], [])
def yx974 : yCx := ([ys973], ys974.2.2.2.2, yFP, zm286.2.2.1, zm286.2.2.2.1, zc286, 0, ys974.2.2.2.1, [], [])
theorem yw974 : ywf ys974.2.2.1 = true := by decide +kernel
theorem yk974 : yver yx974 ys974.2.2.1 4000 = true := by decide +kernel
theorem yt974 {E : zHp → Prop} (h : yXt E) : yTs E ys974 := yver_s (x := yx974) h.1 (yal_c (yt973 h) yw973 (yal_n)) yg286 yk974
def ys975 : ySp := (282, 2, (0, [], [], [], [(0, (2, yc 1004, yc 0)), (1, (0, yc 19, yc 0))], []), [(0, [], [], [], [], [(0, yc 100, yc 0)])], [])
def yx975 : yCx := ([ys895, ys974], ys975.2.2.2.2, yFP, zm282.2.2.1, zm282.2.2.2.1, zc282, 0, ys975.2.2.2.1, [], [])
theorem yw975 : ywf ys975.2.2.1 = true := by decide +kernel
theorem yk975 : yver yx975 ys975.2.2.1 4000 = true := by decide +kernel
theorem yt975 {E : zHp → Prop} (h : yXt E) : yTs E ys975 := yver_s (x := yx975) h.1 (yal_c (yt895 h) yw895 (yal_c (yt974 h) yw974 (yal_n))) yg282 yk975
def ys976 : ySp := (293, 3, (0, [], [], [], [(0, (0, yc 20, yc 0)), (1, (0, yc 66, yc 0)), (2, (7, yc 0, yc 0))], []), [(0, [], [], [], [], [(0, yc 20, yc 0)])], [])
def yx976 : yCx := ([], ys976.2.2.2.2, yFP, zm293.2.2.1, zm293.2.2.2.1, zc293, 0, ys976.2.2.2.1, [], [])
theorem yw976 : ywf ys976.2.2.1 = true := by decide +kernel
theorem yk976 : yver yx976 ys976.2.2.1 4000 = true := by decide +kernel
theorem yt976 {E : zHp → Prop} (h : yXt E) : yTs E ys976 := yver_s (x := yx976) h.1 (yal_n) yg293 yk976
def ys977 : ySp := (285, 2, (0, [], [], [], [(0, (0, yc 20, yc 0)), (1, (0, yc 66, yc 0))], []), [(0, [], [], [], [], [])], [])
def yx977 : yCx := ([ys976], ys977.2.2.2.2, yFP, zm285.2.2.1, zm285.2.2.2.1, zc285, 0, ys977.2.2.2.1, [], [])
theorem yw977 : ywf ys977.2.2.1 = true := by decide +kernel
theorem yk977 : yver yx977 ys977.2.2.1 4000 = true := by decide +kernel
theorem yt977 {E : zHp → Prop} (h : yXt E) : yTs E ys977 := yver_s (x := yx977) h.1 (yal_c (yt976 h) yw976 (yal_n)) yg285 yk977
def ys978 : ySp := (286, 2, (0, [], [], [], [(0, (2, yc 1023, yc 0)), (1, (0, yc 20, yc 0))], []), [(0, [], [], [], [], [(0, yc 101, yc 0)])], [])
def yx978 : yCx := ([ys977], ys978.2.2.2.2, yFP, zm286.2.2.1, zm286.2.2.2.1, zc286, 0, ys978.2.2.2.1, [], [])
theorem yw978 : ywf ys978.2.2.1 = true := by decide +kernel
theorem yk978 : yver yx978 ys978.2.2.1 4000 = true := by decide +kernel
theorem yt978 {E : zHp → Prop} (h : yXt E) : yTs E ys978 := yver_s (x := yx978) h.1 (yal_c (yt977 h) yw977 (yal_n)) yg286 yk978
def ys979 : ySp := (282, 2, (0, [], [], [], [(0, (2, yc 1004, yc 0)), (1, (0, yc 20, yc 0))], []), [(0, [], [], [], [], [(0, yc 101, yc 0)])], [])
def yx979 : yCx := ([ys895, ys978], ys979.2.2.2.2, yFP, zm282.2.2.1, zm282.2.2.2.1, zc282, 0, ys979.2.2.2.1, [], [])
theorem yw979 : ywf ys979.2.2.1 = true := by decide +kernel
theorem yk979 : yver yx979 ys979.2.2.1 4000 = true := by decide +kernel
theorem yt979 {E : zHp → Prop} (h : yXt E) : yTs E ys979 := yver_s (x := yx979) h.1 (yal_c (yt895 h) yw895 (yal_c (yt978 h) yw978 (yal_n))) yg282 yk979
def ys980 : ySp := (293, 3, (0, [], [], [], [(0, (0, yc 21, yc 0)), (1, (0, yc 66, yc 0)), (2, (7, yc 0, yc 0))], []), [(0, [], [], [], [], [(0, yc 21, yc 0)])], [])
def yx980 : yCx := ([], ys980.2.2.2.2, yFP, zm293.2.2.1, zm293.2.2.2.1, zc293, 0, ys980.2.2.2.1, [], [])
theorem yw980 : ywf ys980.2.2.1 = true := by decide +kernel
theorem yk980 : yver yx980 ys980.2.2.1 4000 = true := by decide +kernel
theorem yt980 {E : zHp → Prop} (h : yXt E) : yTs E ys980 := yver_s (x := yx980) h.1 (yal_n) yg293 yk980
def ys981 : ySp := (285, 2, (0, [], [], [], [(0, (0, yc 21, yc 0)), (1, (0, yc 66, yc 0))], []), [(0, [], [], [], [], [])], [])
def yx981 : yCx := ([ys980], ys981.2.2.2.2, yFP, zm285.2.2.1, zm285.2.2.2.1, zc285, 0, ys981.2.2.2.1, [], [])
theorem yw981 : ywf ys981.2.2.1 = true := by decide +kernel
theorem yk981 : yver yx981 ys981.2.2.1 4000 = true := by decide +kernel
theorem yt981 {E : zHp → Prop} (h : yXt E) : yTs E ys981 := yver_s (x := yx981) h.1 (yal_c (yt980 h) yw980 (yal_n)) yg285 yk981
def ys982 : ySp := (286, 2, (0, [], [], [], [(0, (2, yc 1023, yc 0)), (1, (0, yc 21, yc 0))], []), [(0, [], [], [], [], [(0, yc 114, yc 0)])], [])
def yx982 : yCx := ([ys981], ys982.2.2.2.2, yFP, zm286.2.2.1, zm286.2.2.2.1, zc286, 0, ys982.2.2.2.1, [], [])
theorem yw982 : ywf ys982.2.2.1 = true := by decide +kernel
theorem yk982 : yver yx982 ys982.2.2.1 4000 = true := by decide +kernel
theorem yt982 {E : zHp → Prop} (h : yXt E) : yTs E ys982 := yver_s (x := yx982) h.1 (yal_c (yt981 h) yw981 (yal_n)) yg286 yk982
def ys983 : ySp := (282, 2, (0, [], [], [], [(0, (2, yc 1004, yc 0)), (1, (0, yc 21, yc 0))], []), [(0, [], [], [], [], [(0, yc 114, yc 0)])], [])
def yx983 : yCx := ([ys895, ys982], ys983.2.2.2.2, yFP, zm282.2.2.1, zm282.2.2.2.1, zc282, 0, ys983.2.2.2.1, [], [])
theorem yw983 : ywf ys983.2.2.1 = true := by decide +kernel
theorem yk983 : yver yx983 ys983.2.2.1 4000 = true := by decide +kernel
theorem yt983 {E : zHp → Prop} (h : yXt E) : yTs E ys983 := yver_s (x := yx983) h.1 (yal_c (yt895 h) yw895 (yal_c (yt982 h) yw982 (yal_n))) yg282 yk983
def ys984 : ySp := (293, 3, (0, [], [], [], [(0, (0, yc 22, yc 0)), (1, (0, yc 66, yc 0)), (2, (7, yc 0, yc 0))], []), [(0, [], [], [], [], [(0, yc 22, yc 0)])], [])
def yx984 : yCx := ([], ys984.2.2.2.2, yFP, zm293.2.2.1, zm293.2.2.2.1, zc293, 0, ys984.2.2.2.1, [], [])
theorem yw984 : ywf ys984.2.2.1 = true := by decide +kernel
theorem yk984 : yver yx984 ys984.2.2.1 4000 = true := by decide +kernel
theorem yt984 {E : zHp → Prop} (h : yXt E) : yTs E ys984 := yver_s (x := yx984) h.1 (yal_n) yg293 yk984
def ys985 : ySp := (285, 2, (0, [], [], [], [(0, (0, yc 22, yc 0)), (1, (0, yc 66, yc 0))], []), [(0, [], [], [], [], [])], [])
def yx985 : yCx := ([ys984], ys985.2.2.2.2, yFP, zm285.2.2.1, zm285.2.2.2.1, zc285, 0, ys985.2.2.2.1, [], [])
theorem yw985 : ywf ys985.2.2.1 = true := by decide +kernel
theorem yk985 : yver yx985 ys985.2.2.1 4000 = true := by decide +kernel
theorem yt985 {E : zHp → Prop} (h : yXt E) : yTs E ys985 := yver_s (x := yx985) h.1 (yal_c (yt984 h) yw984 (yal_n)) yg285 yk985
def ys986 : ySp := (286, 2, (0, [], [], [], [(0, (2, yc 1023, yc 0)), (1, (0, yc 22, yc 0))], []), [(0, [], [], [], [], [(0, yc 32, yc 0)])], [])
def yx986 : yCx := ([ys985], ys986.2.2.2.2, yFP, zm286.2.2.1, zm286.2.2.2.1, zc286, 0, ys986.2.2.2.1, [], [])
theorem yw986 : ywf ys986.2.2.1 = true := by decide +kernel
theorem yk986 : yver yx986 ys986.2.2.1 4000 = true := by decide +kernel
theorem yt986 {E : zHp → Prop} (h : yXt E) : yTs E ys986 := yver_s (x := yx986) h.1 (yal_c (yt985 h) yw985 (yal_n)) yg286 yk986
def ys987 : ySp := (282, 2, (0, [], [], [], [(0, (2, yc 1004, yc 0)), (1, (0, yc 22, yc 0))], []), [(0, [], [], [], [], [(0, yc 32, yc 0)])], [])
def yx987 : yCx := ([ys895, ys986], ys987.2.2.2.2, yFP, zm282.2.2.1, zm282.2.2.2.1, zc282, 0, ys987.2.2.2.1, [], [])
theorem yw987 : ywf ys987.2.2.1 = true := by decide +kernel
theorem yk987 : yver yx987 ys987.2.2.1 4000 = true := by decide +kernel
theorem yt987 {E : zHp → Prop} (h : yXt E) : yTs E ys987 := yver_s (x := yx987) h.1 (yal_c (yt895 h) yw895 (yal_c (yt986 h) yw986 (yal_n))) yg282 yk987
def ys988 : ySp := (293, 3, (0, [], [], [], [(0, (0, yc 23, yc 0)), (1, (0, yc 66, yc 0)), (2, (7, yc 0, yc 0))], []), [(0, [], [], [], [], [(0, yc 23, yc 0)])], [])
def yx988 : yCx := ([], ys988.2.2.2.2, yFP, zm293.2.2.1, zm293.2.2.2.1, zc293, 0, ys988.2.2.2.1, [], [])
theorem yw988 : ywf ys988.2.2.1 = true := by decide +kernel
theorem yk988 : yver yx988 ys988.2.2.1 4000 = true := by decide +kernel
theorem yt988 {E : zHp → Prop} (h : yXt E) : yTs E ys988 := yver_s (x := yx988) h.1 (yal_n) yg293 yk988
def ys989 : ySp := (285, 2, (0, [], [], [], [(0, (0, yc 23, yc 0)), (1, (0, yc 66, yc 0))], []), [(0, [], [], [], [], [])], [])
def yx989 : yCx := ([ys988], ys989.2.2.2.2, yFP, zm285.2.2.1, zm285.2.2.2.1, zc285, 0, ys989.2.2.2.1, [], [])
theorem yw989 : ywf ys989.2.2.1 = true := by decide +kernel
theorem yk989 : yver yx989 ys989.2.2.1 4000 = true := by decide +kernel
theorem yt989 {E : zHp → Prop} (h : yXt E) : yTs E ys989 := yver_s (x := yx989) h.1 (yal_c (yt988 h) yw988 (yal_n)) yg285 yk989
def ys990 : ySp := (286, 2, (0, [], [], [], [(0, (2, yc 1023, yc 0)), (1, (0, yc 23, yc 0))], []), [(0, [], [], [], [], [(0, yc 116, yc 0)])], [])
def yx990 : yCx := ([ys989], ys990.2.2.2.2, yFP, zm286.2.2.1, zm286.2.2.2.1, zc286, 0, ys990.2.2.2.1, [], [])
theorem yw990 : ywf ys990.2.2.1 = true := by decide +kernel
theorem yk990 : yver yx990 ys990.2.2.1 4000 = true := by decide +kernel
theorem yt990 {E : zHp → Prop} (h : yXt E) : yTs E ys990 := yver_s (x := yx990) h.1 (yal_c (yt989 h) yw989 (yal_n)) yg286 yk990
def ys991 : ySp := (282, 2, (0, [], [], [], [(0, (2, yc 1004, yc 0)), (1, (0, yc 23, yc 0))], []), [(0, [], [], [], [], [(0, yc 116, yc 0)])], [])
def yx991 : yCx := ([ys895, ys990], ys991.2.2.2.2, yFP, zm282.2.2.1, zm282.2.2.2.1, zc282, 0, ys991.2.2.2.1, [], [])
theorem yw991 : ywf ys991.2.2.1 = true := by decide +kernel
theorem yk991 : yver yx991 ys991.2.2.1 4000 = true := by decide +kernel
theorem yt991 {E : zHp → Prop} (h : yXt E) : yTs E ys991 := yver_s (x := yx991) h.1 (yal_c (yt895 h) yw895 (yal_c (yt990 h) yw990 (yal_n))) yg282 yk991
def ys992 : ySp := (293, 3, (0, [], [], [], [(0, (0, yc 24, yc 0)), (1, (0, yc 66, yc 0)), (2, (7, yc 0, yc 0))], []), [(0, [], [], [], [], [(0, yc 24, yc 0)])], [])
def yx992 : yCx := ([], ys992.2.2.2.2, yFP, zm293.2.2.1, zm293.2.2.2.1, zc293, 0, ys992.2.2.2.1, [], [])
theorem yw992 : ywf ys992.2.2.1 = true := by decide +kernel
theorem yk992 : yver yx992 ys992.2.2.1 4000 = true := by decide +kernel
theorem yt992 {E : zHp → Prop} (h : yXt E) : yTs E ys992 := yver_s (x := yx992) h.1 (yal_n) yg293 yk992
def ys993 : ySp := (285, 2, (0, [], [], [], [(0, (0, yc 24, yc 0)), (1, (0, yc 66, yc 0))], []), [(0, [], [], [], [], [])], [])
def yx993 : yCx := ([ys992], ys993.2.2.2.2, yFP, zm285.2.2.1, zm285.2.2.2.1, zc285, 0, ys993.2.2.2.1, [], [])
theorem yw993 : ywf ys993.2.2.1 = true := by decide +kernel
theorem yk993 : yver yx993 ys993.2.2.1 4000 = true := by decide +kernel
theorem yt993 {E : zHp → Prop} (h : yXt E) : yTs E ys993 := yver_s (x := yx993) h.1 (yal_c (yt992 h) yw992 (yal_n)) yg285 yk993
def ys994 : ySp := (286, 2, (0, [], [], [], [(0, (2, yc 1023, yc 0)), (1, (0, yc 24, yc 0))], []), [(0, [], [], [], [], [(0, yc 111, yc 0)])], [])
def yx994 : yCx := ([ys993], ys994.2.2.2.2, yFP, zm286.2.2.1, zm286.2.2.2.1, zc286, 0, ys994.2.2.2.1, [], [])
theorem yw994 : ywf ys994.2.2.1 = true := by decide +kernel
theorem yk994 : yver yx994 ys994.2.2.1 4000 = true := by decide +kernel
theorem yt994 {E : zHp → Prop} (h : yXt E) : yTs E ys994 := yver_s (x := yx994) h.1 (yal_c (yt993 h) yw993 (yal_n)) yg286 yk994
def ys995 : ySp := (282, 2, (0, [], [], [], [(0, (2, yc 1004, yc 0)), (1, (0, yc 24, yc 0))], []), [(0, [], [], [], [], [(0, yc 111, yc 0)])], [])
def yx995 : yCx := ([ys895, ys994], ys995.2.2.2.2, yFP, zm282.2.2.1, zm282.2.2.2.1, zc282, 0, ys995.2.2.2.1, [], [])
theorem yw995 : ywf ys995.2.2.1 = true := by decide +kernel
theorem yk995 : yver yx995 ys995.2.2.1 4000 = true := by decide +kernel
theorem yt995 {E : zHp → Prop} (h : yXt E) : yTs E ys995 := yver_s (x := yx995) h.1 (yal_c (yt895 h) yw895 (yal_c (yt994 h) yw994 (yal_n))) yg282 yk995
def ys996 : ySp := (293, 3, (0, [], [], [], [(0, (0, yc 25, yc 0)), (1, (0, yc 66, yc 0)), (2, (7, yc 0, yc 0))], []), [(0, [], [], [], [], [(0, yc 25, yc 0)])], [])
def yx996 : yCx := ([], ys996.2.2.2.2, yFP, zm293.2.2.1, zm293.2.2.2.1, zc293, 0, ys996.2.2.2.1, [], [])
theorem yw996 : ywf ys996.2.2.1 = true := by decide +kernel
theorem yk996 : yver yx996 ys996.2.2.1 4000 = true := by decide +kernel
theorem yt996 {E : zHp → Prop} (h : yXt E) : yTs E ys996 := yver_s (x := yx996) h.1 (yal_n) yg293 yk996
def ys997 : ySp := (285, 2, (0, [], [], [], [(0, (0, yc 25, yc 0)), (1, (0, yc 66, yc 0))], []), [(0, [], [], [], [], [])], [])
def yx997 : yCx := ([ys996], ys997.2.2.2.2, yFP, zm285.2.2.1, zm285.2.2.2.1, zc285, 0, ys997.2.2.2.1, [], [])
theorem yw997 : ywf ys997.2.2.1 = true := by decide +kernel
theorem yk997 : yver yx997 ys997.2.2.1 4000 = true := by decide +kernel
theorem yt997 {E : zHp → Prop} (h : yXt E) : yTs E ys997 := yver_s (x := yx997) h.1 (yal_c (yt996 h) yw996 (yal_n)) yg285 yk997
def ys998 : ySp := (286, 2, (0, [], [], [], [(0, (2, yc 1023, yc 0)), (1, (0, yc 25, yc 0))], []), [(0, [], [], [], [], [(0, yc 32, yc 0)])], [])
def yx998 : yCx := ([ys997], ys998.2.2.2.2, yFP, zm286.2.2.1, zm286.2.2.2.1, zc286, 0, ys998.2.2.2.1, [], [])
theorem yw998 : ywf ys998.2.2.1 = true := by decide +kernel
theorem yk998 : yver yx998 ys998.2.2.1 4000 = true := by decide +kernel
theorem yt998 {E : zHp → Prop} (h : yXt E) : yTs E ys998 := yver_s (x := yx998) h.1 (yal_c (yt997 h) yw997 (yal_n)) yg286 yk998
def ys999 : ySp := (282, 2, (0, [], [], [], [(0, (2, yc 1004, yc 0)), (1, (0, yc 25, yc 0))], []), [(0, [], [], [], [], [(0, yc 32, yc 0)])], [])
def yx999 : yCx := ([ys895, ys998], ys999.2.2.2.2, yFP, zm282.2.2.1, zm282.2.2.2.1, zc282, 0, ys999.2.2.2.1, [], [])
theorem yw999 : ywf ys999.2.2.1 = true := by decide +kernel
theorem yk999 : yver yx999 ys999.2.2.1 4000 = true := by decide +kernel
theorem yt999 {E : zHp → Prop} (h : yXt E) : yTs E ys999 := yver_s (x := yx999) h.1 (yal_c (yt895 h) yw895 (yal_c (yt998 h) yw998 (yal_n))) yg282 yk999
def ys1000 : ySp := (293, 3, (0, [], [], [], [(0, (0, yc 26, yc 0)), (1, (0, yc 66, yc 0)), (2, (7, yc 0, yc 0))], []), [(0, [], [], [], [], [(0, yc 26, yc 0)])], [])
def yx1000 : yCx := ([], ys1000.2.2.2.2, yFP, zm293.2.2.1, zm293.2.2.2.1, zc293, 0, ys1000.2.2.2.1, [], [])
theorem yw1000 : ywf ys1000.2.2.1 = true := by decide +kernel
theorem yk1000 : yver yx1000 ys1000.2.2.1 4000 = true := by decide +kernel
theorem yt1000 {E : zHp → Prop} (h : yXt E) : yTs E ys1000 := yver_s (x := yx1000) h.1 (yal_n) yg293 yk1000
def ys1001 : ySp := (285, 2, (0, [], [], [], [(0, (0, yc 26, yc 0)), (1, (0, yc 66, yc 0))], []), [(0, [], [], [], [], [])], [])
def yx1001 : yCx := ([ys1000], ys1001.2.2.2.2, yFP, zm285.2.2.1, zm285.2.2.2.1, zc285, 0, ys1001.2.2.2.1, [], [])
theorem yw1001 : ywf ys1001.2.2.1 = true := by decide +kernel
theorem yk1001 : yver yx1001 ys1001.2.2.1 4000 = true := by decide +kernel
theorem yt1001 {E : zHp → Prop} (h : yXt E) : yTs E ys1001 := yver_s (x := yx1001) h.1 (yal_c (yt1000 h) yw1000 (yal_n)) yg285 yk1001
def ys1002 : ySp := (286, 2, (0, [], [], [], [(0, (2, yc 1023, yc 0)), (1, (0, yc 26, yc 0))], []), [(0, [], [], [], [], [(0, yc 108, yc 0)])], [])
def yx1002 : yCx := ([ys1001], ys1002.2.2.2.2, yFP, zm286.2.2.1, zm286.2.2.2.1, zc286, 0, ys1002.2.2.2.1, [], [])
theorem yw1002 : ywf ys1002.2.2.1 = true := by decide +kernel
theorem yk1002 : yver yx1002 ys1002.2.2.1 4000 = true := by decide +kernel
theorem yt1002 {E : zHp → Prop} (h : yXt E) : yTs E ys1002 := yver_s (x := yx1002) h.1 (yal_c (yt1001 h) yw1001 (yal_n)) yg286 yk1002
