def ys444 : ySp := (6, 4, (1, [(0, 0, 5)], [], [], [(0, (2, yc 44, yc 0)), (1, (2, yc 9, yc 0)), (2, (0, (1, 0, 0), yc 0))], []), [(1, [], [], [], [], [])], [(44, 44, 3), (44, 44, 5), (44, 44, 6), (44, 44, 8), (44, 44, 9), (44, 44, 10), (48, 48, 1000), (49, 49, 1000)])
def yx444 : yCx := ([ys443, ys230, ys231, ys234], ys444.2.2.2.2, yFP, zm6.2.2.1, zm6.2.2.2.1, zc6, 1, ys444.2.2.2.1, [], [])
theorem yw444 : ywf ys444.2.2.1 = true := by decide +kernel
theorem yk444 : yver yx444 ys444.2.2.1 4000 = true := by decide +kernel
theorem yt444 {E : zHp → Prop} (h : yXt E) : yTs E ys444 := yver_s (x := yx444) h.1 (yal_c (yt443 h) yw443 (yal_c (yt230 h) yw230 (yal_c (yt231 h) yw231 (yal_c (yt234 h) yw234 (yal_n))))) yg6 yk444
def ys445 : ySp := (148, 3, (2, [(0, (-2147483648), 2147483647), (1, (-2147483648), 2147483647)], [], [], [(0, (2, yc 0, yc 0)), (1, (0, (1, 0, 0), yc 0)), (2, (0, (1, 1, 0), yc 0))], []), [(2, [], [], [], [], [(0, yc (-1), yc 0)]), (3, [(0, 0, 5), (1, 0, 2), (2, (-2147483648), 2147483647)], [], [], [], [(0, (1, 2, 0), yc 0)])], [(44, 44, 3), (44, 44, 5), (44, 44, 6), (44, 44, 8), (44, 44, 9), (44, 44, 10), (48, 48, 1000), (49, 49, 1000)])
def yx445 : yCx := ([ys444, ys229, ys232], ys445.2.2.2.2, yFP, zm148.2.2.1, zm148.2.2.2.1, zc148, 2, ys445.2.2.2.1, [], [])
theorem yw445 : ywf ys445.2.2.1 = true := by decide +kernel
theorem yk445 : yver yx445 ys445.2.2.1 4000 = true := by decide +kernel
theorem yt445 {E : zHp → Prop} (h : yXt E) : yTs E ys445 := yver_s (x := yx445) h.1 (yal_c (yt444 h) yw444 (yal_c (yt229 h) yw229 (yal_c (yt232 h) yw232 (yal_n)))) yg148 yk445
def ys446 : ySp := (110, 3, (0, [], [], [], [(0, (2, yc 9, yc 0))], []), [(1, [(0, (-2147483648), 2147483647)], [], [], [], [(0, (1, 0, 0), yc 0)])], [])
def yx446 : yCx := ([ys242, ys245], ys446.2.2.2.2, yFP, zm110.2.2.1, zm110.2.2.2.1, zc110, 0, ys446.2.2.2.1, [(4, (2, [(0, (-2147483648), 2147483647), (1, 0, 6)], [], [], [(0, (2, yc 9, yc 0)), (1, (0, (1, 0, 0), yc 0)), (2, (0, (1, 1, 0), yc 0))], []), ([((-1), 1)], 6))], [])
theorem yw446 : ywf ys446.2.2.1 = true := by decide +kernel
theorem yk446 : yver yx446 ys446.2.2.1 4000 = true := by decide +kernel
theorem yt446 {E : zHp → Prop} (h : yXt E) : yTs E ys446 := yver_s (x := yx446) h.1 (yal_c (yt242 h) yw242 (yal_c (yt245 h) yw245 (yal_n))) yg110 yk446
def ys447 : ySp := (111, 1, (0, [], [], [], [(0, (2, yc 9, yc 0))], []), [(0, [], [], [], [], [(0, yc 0, yc 0)]), (0, [], [], [], [], [(0, yc 1, yc 0)])], [])
def yx447 : yCx := ([ys242, ys446], ys447.2.2.2.2, yFP, zm111.2.2.1, zm111.2.2.2.1, zc111, 0, ys447.2.2.2.1, [], [])
theorem yw447 : ywf ys447.2.2.1 = true := by decide +kernel
theorem yk447 : yver yx447 ys447.2.2.1 4000 = true := by decide +kernel
theorem yt447 {E : zHp → Prop} (h : yXt E) : yTs E ys447 := yver_s (x := yx447) h.1 (yal_c (yt242 h) yw242 (yal_c (yt446 h) yw446 (yal_n))) yg111 yk447
def ys448 : ySp := (92, 3, (2, [(0, 0, 5), (1, 0, 1)], [], [], [(0, (2, yc 11, yc 0)), (1, (0, (1, 0, 0), yc 0)), (2, (0, (1, 1, 0), yc 0))], []), [(2, [], [], [], [], [(0, yc 0, yc 0)]), (2, [], [], [], [], [(0, yc 1, yc 0)])], [])
def yx448 : yCx := ([ys390], ys448.2.2.2.2, yFP, zm92.2.2.1, zm92.2.2.2.1, zc92, 2, ys448.2.2.2.1, [], [])
theorem yw448 : ywf ys448.2.2.1 = true := by decide +kernel
theorem yk448 : yver yx448 ys448.2.2.1 4000 = true := by decide +kernel
theorem yt448 {E : zHp → Prop} (h : yXt E) : yTs E ys448 := yver_s (x := yx448) h.1 (yal_c (yt390 h) yw390 (yal_n)) yg92 yk448
def ys449 : ySp := (101, 3, (2, [(0, 0, 1), (1, 0, 1)], [], [], [(0, (2, yc 11, yc 0)), (1, (0, (1, 0, 0), yc 0)), (2, (0, (1, 1, 0), yc 0))], []), [(2, [], [], [], [], [(0, yc 0, yc 0)]), (2, [], [], [], [], [(0, yc 1, yc 0)])], [])
def yx449 : yCx := ([ys386, ys387, ys448], ys449.2.2.2.2, yFP, zm101.2.2.1, zm101.2.2.2.1, zc101, 2, ys449.2.2.2.1, [], [])
theorem yw449 : ywf ys449.2.2.1 = true := by decide +kernel
theorem yk449 : yver yx449 ys449.2.2.1 4000 = true := by decide +kernel
theorem yt449 {E : zHp → Prop} (h : yXt E) : yTs E ys449 := yver_s (x := yx449) h.1 (yal_c (yt386 h) yw386 (yal_c (yt387 h) yw387 (yal_c (yt448 h) yw448 (yal_n)))) yg101 yk449
def ys450 : ySp := (92, 3, (2, [(0, 0, 1), (1, 0, 5)], [], [], [(0, (2, yc 11, yc 0)), (1, (0, (1, 0, 0), yc 0)), (2, (0, (1, 1, 0), yc 0))], []), [(2, [], [], [], [], [(0, yc 0, yc 0)]), (2, [], [], [], [], [(0, yc 1, yc 0)])], [])
def yx450 : yCx := ([ys388], ys450.2.2.2.2, yFP, zm92.2.2.1, zm92.2.2.2.1, zc92, 2, ys450.2.2.2.1, [], [])
theorem yw450 : ywf ys450.2.2.1 = true := by decide +kernel
theorem yk450 : yver yx450 ys450.2.2.1 4000 = true := by decide +kernel
theorem yt450 {E : zHp → Prop} (h : yXt E) : yTs E ys450 := yver_s (x := yx450) h.1 (yal_c (yt388 h) yw388 (yal_n)) yg92 yk450
def ys451 : ySp := (94, 3, (2, [(0, 0, 1), (1, 0, 5)], [], [], [(0, (2, yc 11, yc 0)), (1, (0, (1, 0, 0), yc 0)), (2, (0, (1, 1, 0), yc 0))], []), [(3, [(2, (-2147483648), 2147483647)], [], [], [], [(0, (1, 2, 0), yc 0)])], [])
def yx451 : yCx := ([], ys451.2.2.2.2, yFP, zm94.2.2.1, zm94.2.2.2.1, zc94, 2, ys451.2.2.2.1, [], [])
theorem yw451 : ywf ys451.2.2.1 = true := by decide +kernel
theorem yk451 : yver yx451 ys451.2.2.1 4000 = true := by decide +kernel
theorem yt451 {E : zHp → Prop} (h : yXt E) : yTs E ys451 := yver_s (x := yx451) h.1 (yal_n) yg94 yk451
def ys452 : ySp := (114, 8, (2, [(0, 0, 1), (1, 0, 1)], [], [], [(0, (2, yc 11, yc 0)), (1, (0, (1, 0, 0), yc 0)), (2, (0, (1, 1, 0), yc 0)), (3, (0, yc 3, yc 0)), (4, (0, yc 0, yc 0))], []), [(3, [(2, (-2147483648), 2147483647)], [], [], [], [(0, (1, 2, 0), yc 0)])], [])
def yx452 : yCx := ([ys159, ys397, ys411, ys412, ys414, ys418], ys452.2.2.2.2, yFP, zm114.2.2.1, zm114.2.2.2.1, zc114, 2, ys452.2.2.2.1, [(6, (4, [(0, 0, 1), (1, 0, 1), (2, (-2147483648), 2147483647), (3, 0, 6)], [], [], [(0, (2, yc 11, yc 0)), (1, (0, (1, 0, 0), yc 0)), (2, (0, (1, 1, 0), yc 0)), (3, (0, yc 3, yc 0)), (4, (0, yc 0, yc 0)), (5, (0, (1, 2, 0), yc 0)), (6, (0, (1, 3, 0), yc 0))], []), ([((-1), 3)], 6))], [])
theorem yw452 : ywf ys452.2.2.1 = true := by decide +kernel
theorem yk452 : yver yx452 ys452.2.2.1 4000 = true := by decide +kernel
theorem yt452 {E : zHp → Prop} (h : yXt E) : yTs E ys452 := yver_s (x := yx452) h.1 (yal_c (yt159 h) yw159 (yal_c (yt397 h) yw397 (yal_c (yt411 h) yw411 (yal_c (yt412 h) yw412 (yal_c (yt414 h) yw414 (yal_c (yt418 h) yw418 (yal_n))))))) yg114 yk452
def ys453 : ySp := (114, 8, (2, [(0, 0, 1), (1, 0, 1)], [], [], [(0, (2, yc 11, yc 0)), (1, (0, (1, 0, 0), yc 0)), (2, (0, (1, 1, 0), yc 0)), (3, (0, yc 2, yc 0)), (4, (0, yc 1, yc 0))], []), [(3, [(2, 0, 2147483647)], [], [], [], [(0, (1, 2, 0), yc 0)])], [])
def yx453 : yCx := ([ys159, ys397, ys411, ys412, ys414, ys415], ys453.2.2.2.2, yFP, zm114.2.2.1, zm114.2.2.2.1, zc114, 2, ys453.2.2.2.1, [(6, (4, [(0, 0, 1), (1, 0, 1), (2, 0, 2147483647), (3, 0, 6)], [], [], [(0, (2, yc 11, yc 0)), (1, (0, (1, 0, 0), yc 0)), (2, (0, (1, 1, 0), yc 0)), (3, (0, yc 2, yc 0)), (4, (0, yc 1, yc 0)), (5, (0, (1, 2, 0), yc 0)), (6, (0, (1, 3, 0), yc 0))], []), ([((-1), 3)], 6))], [])
theorem yw453 : ywf ys453.2.2.1 = true := by decide +kernel
theorem yk453 : yver yx453 ys453.2.2.1 4000 = true := by decide +kernel
theorem yt453 {E : zHp → Prop} (h : yXt E) : yTs E ys453 := yver_s (x := yx453) h.1 (yal_c (yt159 h) yw159 (yal_c (yt397 h) yw397 (yal_c (yt411 h) yw411 (yal_c (yt412 h) yw412 (yal_c (yt414 h) yw414 (yal_c (yt415 h) yw415 (yal_n))))))) yg114 yk453
def ys454 : ySp := (81, 1, (0, [], [], [], [(0, (2, yc 11, yc 0))], []), [(1, [(0, (-2147483648), 2147483647)], [], [], [], [(0, (1, 0, 0), yc 0)])], [])
def yx454 : yCx := ([], ys454.2.2.2.2, yFP, zm81.2.2.1, zm81.2.2.2.1, zc81, 0, ys454.2.2.2.1, [], [])
theorem yw454 : ywf ys454.2.2.1 = true := by decide +kernel
theorem yk454 : yver yx454 ys454.2.2.1 4000 = true := by decide +kernel
theorem yt454 {E : zHp → Prop} (h : yXt E) : yTs E ys454 := yver_s (x := yx454) h.1 (yal_n) yg81 yk454
def ys455 : ySp := (100, 3, (1, [(0, 0, 1)], [], [], [(0, (2, yc 11, yc 0)), (1, (0, (1, 0, 0), yc 0)), (2, (0, yc 1, yc 0))], []), [(2, [(1, 0, 2147483647)], [], [], [], [(0, (1, 1, 0), yc 0)])], [])
def yx455 : yCx := ([ys399, ys400, ys403], ys455.2.2.2.2, yFP, zm100.2.2.1, zm100.2.2.2.1, zc100, 1, ys455.2.2.2.1, [], [])
theorem yw455 : ywf ys455.2.2.1 = true := by decide +kernel
theorem yk455 : yver yx455 ys455.2.2.1 4000 = true := by decide +kernel
theorem yt455 {E : zHp → Prop} (h : yXt E) : yTs E ys455 := yver_s (x := yx455) h.1 (yal_c (yt399 h) yw399 (yal_c (yt400 h) yw400 (yal_c (yt403 h) yw403 (yal_n)))) yg100 yk455
def ys456 : ySp := (31, 5, (3, [(0, 0, 63), (1, 0, 1), (2, 0, 1)], [], [], [(0, (0, (1, 0, 0), yc 0)), (1, (2, yc 11, yc 0)), (2, (0, (1, 1, 0), yc 0)), (3, (0, (1, 2, 0), yc 0))], []), [(3, [(0, 12, 63)], [], [], [], [(0, yc 0, yc 0)]), (3, [(0, 12, 63)], [], [], [], [(0, yc 1, yc 0)]), (4, [(0, 0, 11), (3, (-2147483648), 2147483647)], [], [], [], [(0, (1, 3, 0), yc 0)])], [])
def yx456 : yCx := ([ys454, ys386, ys387, ys397, ys400, ys401, ys450, ys451, ys455, ys452, ys453], ys456.2.2.2.2, yFP, zm31.2.2.1, zm31.2.2.2.1, zc31, 3, ys456.2.2.2.1, [], [])
theorem yw456 : ywf ys456.2.2.1 = true := by decide +kernel
theorem yk456 : yver yx456 ys456.2.2.1 4000 = true := by decide +kernel
theorem yt456 {E : zHp → Prop} (h : yXt E) : yTs E ys456 := yver_s (x := yx456) h.1 (yal_c (yt454 h) yw454 (yal_c (yt386 h) yw386 (yal_c (yt387 h) yw387 (yal_c (yt397 h) yw397 (yal_c (yt400 h) yw400 (yal_c (yt401 h) yw401 (yal_c (yt450 h) yw450 (yal_c (yt451 h) yw451 (yal_c (yt455 h) yw455 (yal_c (yt452 h) yw452 (yal_c (yt453 h) yw453 (yal_n)))))))))))) yg31 yk456
def ys457 : ySp := (28, 7, (3, [(0, 0, 303), (1, 0, 1), (2, 0, 1)], [], [], [(0, (3, (1, 0, 0), yc 0)), (1, (2, yc 11, yc 0)), (2, (0, (1, 1, 0), yc 0)), (3, (0, (1, 2, 0), yc 0))], []), [(3, [], [], [], [], [(1, yc 0, yc 0)]), (4, [(3, (-9223372036854775808), 9223372036854775807)], [], [], [], [(1, (1, 3, 0), yc 0)])], [(88, 999, 1000)])
def yx457 : yCx := ([ys315, ys456], ys457.2.2.2.2, yFP, zm28.2.2.1, zm28.2.2.2.1, zc28, 3, ys457.2.2.2.1, [(6, (5, [(0, 0, 303), (1, 0, 1), (2, 0, 1), (3, 0, 64), (4, 0, 400)], [], [], [(0, (3, (1, 0, 0), yc 0)), (1, (2, yc 11, yc 0)), (2, (0, (1, 1, 0), yc 0)), (3, (0, (1, 2, 0), yc 0)), (4, (0, (1, 3, 0), yc 0)), (5, (0, (1, 4, 0), yc 0))], []), ([((-1), 4)], 400))], [])
theorem yw457 : ywf ys457.2.2.1 = true := by decide +kernel
theorem yk457 : yver yx457 ys457.2.2.1 4000 = true := by decide +kernel
theorem yt457 {E : zHp → Prop} (h : yXt E) : yTs E ys457 := yver_s (x := yx457) h.1 (yal_c (yt315 h) yw315 (yal_c (yt456 h) yw456 (yal_n))) yg28 yk457
def ys458 : ySp := (75, 4, (3, [(0, 0, 1), (1, 0, 5), (2, (-2147483648), 2147483647)], [], [], [(0, (2, yc 11, yc 0)), (1, (0, (1, 0, 0), yc 0)), (2, (0, (1, 1, 0), yc 0)), (3, (0, (1, 2, 0), yc 0))], []), [(3, [], [], [], [], [])], [(12, 12, 1000)])
def yx458 : yCx := ([], ys458.2.2.2.2, yFP, zm75.2.2.1, zm75.2.2.2.1, zc75, 3, ys458.2.2.2.1, [], [])
theorem yw458 : ywf ys458.2.2.1 = true := by decide +kernel
theorem yk458 : yver yx458 ys458.2.2.1 4000 = true := by decide +kernel
theorem yt458 {E : zHp → Prop} (h : yXt E) : yTs E ys458 := yver_s (x := yx458) h.1 (yal_n) yg75 yk458
def ys459 : ySp := (88, 4, (2, [(0, 0, 1), (1, (-2147483648), 2147483647)], [], [], [(0, (2, yc 11, yc 0)), (1, (0, (1, 0, 0), yc 0)), (2, (0, yc 4, yc 0)), (3, (0, (1, 1, 0), yc 0))], []), [(2, [], [], [], [], [])], [(12, 12, 1000)])
def yx459 : yCx := ([], ys459.2.2.2.2, yFP, zm88.2.2.1, zm88.2.2.2.1, zc88, 2, ys459.2.2.2.1, [], [])
theorem yw459 : ywf ys459.2.2.1 = true := by decide +kernel
theorem yk459 : yver yx459 ys459.2.2.1 4000 = true := by decide +kernel
theorem yt459 {E : zHp → Prop} (h : yXt E) : yTs E ys459 := yver_s (x := yx459) h.1 (yal_n) yg88 yk459
def ys460 : ySp := (102, 4, (2, [(0, 0, 1), (1, 0, 1)], [], [], [(0, (2, yc 11, yc 0)), (1, (0, (1, 0, 0), yc 0)), (2, (0, (1, 1, 0), yc 0))], []), [(2, [], [], [], [], [])], [(12, 12, 1000)])
def yx460 : yCx := ([ys458, ys386, ys400, ys182, ys459, ys451], ys460.2.2.2.2, yFP, zm102.2.2.1, zm102.2.2.2.1, zc102, 2, ys460.2.2.2.1, [], [])
theorem yw460 : ywf ys460.2.2.1 = true := by decide +kernel
theorem yk460 : yver yx460 ys460.2.2.1 4000 = true := by decide +kernel
theorem yt460 {E : zHp → Prop} (h : yXt E) : yTs E ys460 := yver_s (x := yx460) h.1 (yal_c (yt458 h) yw458 (yal_c (yt386 h) yw386 (yal_c (yt400 h) yw400 (yal_c (yt182 h) yw182 (yal_c (yt459 h) yw459 (yal_c (yt451 h) yw451 (yal_n))))))) yg102 yk460
def ys461 : ySp := (92, 3, (2, [(0, 0, 5), (1, 0, 5)], [], [], [(0, (2, yc 11, yc 0)), (1, (0, (1, 0, 0), yc 0)), (2, (0, (1, 1, 0), yc 0))], []), [(2, [], [], [], [], [(0, yc 0, yc 0)]), (2, [], [], [], [], [(0, yc 1, yc 0)])], [])
def yx461 : yCx := ([ys390], ys461.2.2.2.2, yFP, zm92.2.2.1, zm92.2.2.2.1, zc92, 2, ys461.2.2.2.1, [], [])
theorem yw461 : ywf ys461.2.2.1 = true := by decide +kernel
theorem yk461 : yver yx461 ys461.2.2.1 4000 = true := by decide +kernel
theorem yt461 {E : zHp → Prop} (h : yXt E) : yTs E ys461 := yver_s (x := yx461) h.1 (yal_c (yt390 h) yw390 (yal_n)) yg92 yk461
def ys462 : ySp := (101, 3, (2, [(0, 0, 5), (1, 0, 5)], [], [], [(0, (2, yc 11, yc 0)), (1, (0, (1, 0, 0), yc 0)), (2, (0, (1, 1, 0), yc 0))], []), [(2, [], [], [], [], [(0, yc 0, yc 0)]), (2, [], [], [], [], [(0, yc 1, yc 0)])], [])
def yx462 : yCx := ([ys419, ys420, ys461], ys462.2.2.2.2, yFP, zm101.2.2.1, zm101.2.2.2.1, zc101, 2, ys462.2.2.2.1, [], [])
theorem yw462 : ywf ys462.2.2.1 = true := by decide +kernel
theorem yk462 : yver yx462 ys462.2.2.1 4000 = true := by decide +kernel
theorem yt462 {E : zHp → Prop} (h : yXt E) : yTs E ys462 := yver_s (x := yx462) h.1 (yal_c (yt419 h) yw419 (yal_c (yt420 h) yw420 (yal_c (yt461 h) yw461 (yal_n)))) yg101 yk462
def ys463 : ySp := (94, 3, (2, [(0, 0, 5), (1, 0, 5)], [], [], [(0, (2, yc 11, yc 0)), (1, (0, (1, 0, 0), yc 0)), (2, (0, (1, 1, 0), yc 0))], []), [(3, [(2, (-2147483648), 2147483647)], [], [], [], [(0, (1, 2, 0), yc 0)])], [])
def yx463 : yCx := ([], ys463.2.2.2.2, yFP, zm94.2.2.1, zm94.2.2.2.1, zc94, 2, ys463.2.2.2.1, [], [])
theorem yw463 : ywf ys463.2.2.1 = true := by decide +kernel
theorem yk463 : yver yx463 ys463.2.2.1 4000 = true := by decide +kernel
theorem yt463 {E : zHp → Prop} (h : yXt E) : yTs E ys463 := yver_s (x := yx463) h.1 (yal_n) yg94 yk463
def ys464 : ySp := (114, 8, (2, [(0, 0, 5), (1, 0, 5)], [], [], [(0, (2, yc 11, yc 0)), (1, (0, (1, 0, 0), yc 0)), (2, (0, (1, 1, 0), yc 0)), (3, (0, yc 3, yc 0)), (4, (0, yc 0, yc 0))], []), [(3, [(2, (-2147483648), 2147483647)], [], [], [], [(0, (1, 2, 0), yc 0)])], [])
def yx464 : yCx := ([ys159, ys422, ys411, ys412, ys414, ys418], ys464.2.2.2.2, yFP, zm114.2.2.1, zm114.2.2.2.1, zc114, 2, ys464.2.2.2.1, [(6, (4, [(0, 0, 5), (1, 0, 5), (2, (-2147483648), 2147483647), (3, 0, 6)], [], [], [(0, (2, yc 11, yc 0)), (1, (0, (1, 0, 0), yc 0)), (2, (0, (1, 1, 0), yc 0)), (3, (0, yc 3, yc 0)), (4, (0, yc 0, yc 0)), (5, (0, (1, 2, 0), yc 0)), (6, (0, (1, 3, 0), yc 0))], []), ([((-1), 3)], 6))], [])
theorem yw464 : ywf ys464.2.2.1 = true := by decide +kernel
theorem yk464 : yver yx464 ys464.2.2.1 4000 = true := by decide +kernel
theorem yt464 {E : zHp → Prop} (h : yXt E) : yTs E ys464 := yver_s (x := yx464) h.1 (yal_c (yt159 h) yw159 (yal_c (yt422 h) yw422 (yal_c (yt411 h) yw411 (yal_c (yt412 h) yw412 (yal_c (yt414 h) yw414 (yal_c (yt418 h) yw418 (yal_n))))))) yg114 yk464
def ys465 : ySp := (114, 8, (2, [(0, 0, 5), (1, 0, 5)], [], [], [(0, (2, yc 11, yc 0)), (1, (0, (1, 0, 0), yc 0)), (2, (0, (1, 1, 0), yc 0)), (3, (0, yc 2, yc 0)), (4, (0, yc 1, yc 0))], []), [(3, [(2, 0, 2147483647)], [], [], [], [(0, (1, 2, 0), yc 0)])], [])
def yx465 : yCx := ([ys159, ys422, ys411, ys412, ys414, ys415], ys465.2.2.2.2, yFP, zm114.2.2.1, zm114.2.2.2.1, zc114, 2, ys465.2.2.2.1, [(6, (4, [(0, 0, 5), (1, 0, 5), (2, 0, 2147483647), (3, 0, 6)], [], [], [(0, (2, yc 11, yc 0)), (1, (0, (1, 0, 0), yc 0)), (2, (0, (1, 1, 0), yc 0)), (3, (0, yc 2, yc 0)), (4, (0, yc 1, yc 0)), (5, (0, (1, 2, 0), yc 0)), (6, (0, (1, 3, 0), yc 0))], []), ([((-1), 3)], 6))], [])
theorem yw465 : ywf ys465.2.2.1 = true := by decide +kernel
theorem yk465 : yver yx465 ys465.2.2.1 4000 = true := by decide +kernel
theorem yt465 {E : zHp → Prop} (h : yXt E) : yTs E ys465 := yver_s (x := yx465) h.1 (yal_c (yt159 h) yw159 (yal_c (yt422 h) yw422 (yal_c (yt411 h) yw411 (yal_c (yt412 h) yw412 (yal_c (yt414 h) yw414 (yal_c (yt415 h) yw415 (yal_n))))))) yg114 yk465
def ys466 : ySp := (100, 3, (1, [(0, 0, 5)], [], [], [(0, (2, yc 11, yc 0)), (1, (0, (1, 0, 0), yc 0)), (2, (0, yc 1, yc 0))], []), [(2, [(1, 0, 2147483647)], [], [], [], [(0, (1, 1, 0), yc 0)])], [])
def yx466 : yCx := ([ys424, ys425, ys427], ys466.2.2.2.2, yFP, zm100.2.2.1, zm100.2.2.2.1, zc100, 1, ys466.2.2.2.1, [], [])
theorem yw466 : ywf ys466.2.2.1 = true := by decide +kernel
theorem yk466 : yver yx466 ys466.2.2.1 4000 = true := by decide +kernel
theorem yt466 {E : zHp → Prop} (h : yXt E) : yTs E ys466 := yver_s (x := yx466) h.1 (yal_c (yt424 h) yw424 (yal_c (yt425 h) yw425 (yal_c (yt427 h) yw427 (yal_n)))) yg100 yk466
def ys467 : ySp := (31, 5, (3, [(0, 0, 63), (1, 0, 5), (2, 0, 5)], [], [], [(0, (0, (1, 0, 0), yc 0)), (1, (2, yc 11, yc 0)), (2, (0, (1, 1, 0), yc 0)), (3, (0, (1, 2, 0), yc 0))], []), [(3, [(0, 12, 63)], [], [], [], [(0, yc 0, yc 0)]), (3, [(0, 12, 63)], [], [], [], [(0, yc 1, yc 0)]), (4, [(0, 0, 11), (3, (-2147483648), 2147483647)], [], [], [], [(0, (1, 3, 0), yc 0)])], [])
def yx467 : yCx := ([ys454, ys419, ys420, ys422, ys425, ys426, ys461, ys463, ys466, ys464, ys465], ys467.2.2.2.2, yFP, zm31.2.2.1, zm31.2.2.2.1, zc31, 3, ys467.2.2.2.1, [], [])
theorem yw467 : ywf ys467.2.2.1 = true := by decide +kernel
theorem yk467 : yver yx467 ys467.2.2.1 4000 = true := by decide +kernel
theorem yt467 {E : zHp → Prop} (h : yXt E) : yTs E ys467 := yver_s (x := yx467) h.1 (yal_c (yt454 h) yw454 (yal_c (yt419 h) yw419 (yal_c (yt420 h) yw420 (yal_c (yt422 h) yw422 (yal_c (yt425 h) yw425 (yal_c (yt426 h) yw426 (yal_c (yt461 h) yw461 (yal_c (yt463 h) yw463 (yal_c (yt466 h) yw466 (yal_c (yt464 h) yw464 (yal_c (yt465 h) yw465 (yal_n)))))))))))) yg31 yk467
def ys468 : ySp := (28, 7, (3, [(0, 0, 303), (1, 0, 5), (2, 0, 5)], [], [], [(0, (3, (1, 0, 0), yc 0)), (1, (2, yc 11, yc 0)), (2, (0, (1, 1, 0), yc 0)), (3, (0, (1, 2, 0), yc 0))], []), [(3, [], [], [], [], [(1, yc 0, yc 0)]), (4, [(3, (-9223372036854775808), 9223372036854775807)], [], [], [], [(1, (1, 3, 0), yc 0)])], [(88, 999, 1000)])
def yx468 : yCx := ([ys315, ys467], ys468.2.2.2.2, yFP, zm28.2.2.1, zm28.2.2.2.1, zc28, 3, ys468.2.2.2.1, [(6, (5, [(0, 0, 303), (1, 0, 5), (2, 0, 5), (3, 0, 64), (4, 0, 400)], [], [], [(0, (3, (1, 0, 0), yc 0)), (1, (2, yc 11, yc 0)), (2, (0, (1, 1, 0), yc 0)), (3, (0, (1, 2, 0), yc 0)), (4, (0, (1, 3, 0), yc 0)), (5, (0, (1, 4, 0), yc 0))], []), ([((-1), 4)], 400))], [])
theorem yw468 : ywf ys468.2.2.1 = true := by decide +kernel
theorem yk468 : yver yx468 ys468.2.2.1 4000 = true := by decide +kernel
theorem yt468 {E : zHp → Prop} (h : yXt E) : yTs E ys468 := yver_s (x := yx468) h.1 (yal_c (yt315 h) yw315 (yal_c (yt467 h) yw467 (yal_n))) yg28 yk468
def ys469 : ySp := (88, 4, (2, [(0, 0, 5), (1, (-2147483648), 2147483647)], [], [], [(0, (2, yc 11, yc 0)), (1, (0, (1, 0, 0), yc 0)), (2, (0, yc 4, yc 0)), (3, (0, (1, 1, 0), yc 0))], []), [(2, [], [], [], [], [])], [(12, 12, 1000)])
def yx469 : yCx := ([], ys469.2.2.2.2, yFP, zm88.2.2.1, zm88.2.2.2.1, zc88, 2, ys469.2.2.2.1, [], [])
theorem yw469 : ywf ys469.2.2.1 = true := by decide +kernel
theorem yk469 : yver yx469 ys469.2.2.1 4000 = true := by decide +kernel
theorem yt469 {E : zHp → Prop} (h : yXt E) : yTs E ys469 := yver_s (x := yx469) h.1 (yal_n) yg88 yk469
def ys470 : ySp := (102, 4, (2, [(0, 0, 5), (1, 0, 1)], [], [], [(0, (2, yc 11, yc 0)), (1, (0, (1, 0, 0), yc 0)), (2, (0, (1, 1, 0), yc 0))], []), [(2, [], [], [], [], [])], [(12, 12, 1000)])
def yx470 : yCx := ([ys458, ys419, ys425, ys182, ys469, ys451], ys470.2.2.2.2, yFP, zm102.2.2.1, zm102.2.2.2.1, zc102, 2, ys470.2.2.2.1, [], [])
theorem yw470 : ywf ys470.2.2.1 = true := by decide +kernel
theorem yk470 : yver yx470 ys470.2.2.1 4000 = true := by decide +kernel
theorem yt470 {E : zHp → Prop} (h : yXt E) : yTs E ys470 := yver_s (x := yx470) h.1 (yal_c (yt458 h) yw458 (yal_c (yt419 h) yw419 (yal_c (yt425 h) yw425 (yal_c (yt182 h) yw182 (yal_c (yt469 h) yw469 (yal_c (yt451 h) yw451 (yal_n))))))) yg102 yk470
def ys471 : ySp := (75, 4, (3, [(0, 0, 5), (1, 0, 5), (2, (-2147483648), 2147483647)], [], [], [(0, (2, yc 11, yc 0)), (1, (0, (1, 0, 0), yc 0)), (2, (0, (1, 1, 0), yc 0)), (3, (0, (1, 2, 0), yc 0))], []), [(3, [], [], [], [], [])], [(12, 12, 1000)])
def yx471 : yCx := ([], ys471.2.2.2.2, yFP, zm75.2.2.1, zm75.2.2.2.1, zc75, 3, ys471.2.2.2.1, [], [])
theorem yw471 : ywf ys471.2.2.1 = true := by decide +kernel
theorem yk471 : yver yx471 ys471.2.2.1 4000 = true := by decide +kernel
theorem yt471 {E : zHp → Prop} (h : yXt E) : yTs E ys471 := yver_s (x := yx471) h.1 (yal_n) yg75 yk471
def ys472 : ySp := (102, 4, (2, [(0, 0, 5), (1, 0, 5)], [], [], [(0, (2, yc 11, yc 0)), (1, (0, (1, 0, 0), yc 0)), (2, (0, (1, 1, 0), yc 0))], []), [(2, [], [], [], [], [])], [(12, 12, 1000)])
def yx472 : yCx := ([ys471, ys419, ys425, ys182, ys469, ys463], ys472.2.2.2.2, yFP, zm102.2.2.1, zm102.2.2.2.1, zc102, 2, ys472.2.2.2.1, [], [])
theorem yw472 : ywf ys472.2.2.1 = true := by decide +kernel
theorem yk472 : yver yx472 ys472.2.2.1 4000 = true := by decide +kernel
theorem yt472 {E : zHp → Prop} (h : yXt E) : yTs E ys472 := yver_s (x := yx472) h.1 (yal_c (yt471 h) yw471 (yal_c (yt419 h) yw419 (yal_c (yt425 h) yw425 (yal_c (yt182 h) yw182 (yal_c (yt469 h) yw469 (yal_c (yt463 h) yw463 (yal_n))))))) yg102 yk472
def ys473 : ySp := (27, 9, (1, [(0, 0, 303)], [], [], [(0, (3, (1, 0, 0), yc 0)), (1, (2, yc 11, yc 0))], []), [(1, [], [], [], [], [])], [(12, 12, 1000), (88, 999, 1000)])
def yx473 : yCx := ([ys468, ys148, ys176, ys462, ys472], ys473.2.2.2.2, yFP, zm27.2.2.1, zm27.2.2.2.1, zc27, 1, ys473.2.2.2.1, [(2, (2, [(0, 0, 303), (1, 0, 6)], [], [], [(0, (3, (1, 0, 0), yc 0)), (1, (2, yc 11, yc 0)), (2, (0, (1, 1, 0), yc 0))], []), ([((-9), 1)], 62)), (18, (6, [(0, 0, 303), (1, 0, 5), (2, (-1), 5), (3, 0, 9223372036854775807), (4, 0, 6), (5, 1, 6)], [], [(yc 12, yc 2, (0, (1, 5, 0), yc 0))], [(0, (3, (1, 0, 0), yc 0)), (1, (2, yc 11, yc 0)), (2, (0, (1, 1, 0), yc 0)), (3, (0, (1, 2, 0), yc 0)), (4, (1, (1, 3, 0), yc 0)), (6, (0, (1, 4, 0), yc 0))], []), ([((-1), 4), ((-9), 1)], 60))], [])
theorem yw473 : ywf ys473.2.2.1 = true := by decide +kernel
theorem yk473 : yver yx473 ys473.2.2.1 4000 = true := by decide +kernel
theorem yt473 {E : zHp → Prop} (h : yXt E) : yTs E ys473 := yver_s (x := yx473) h.1 (yal_c (yt468 h) yw468 (yal_c (yt148 h) yw148 (yal_c (yt176 h) yw176 (yal_c (yt462 h) yw462 (yal_c (yt472 h) yw472 (yal_n)))))) yg27 yk473
def ys474 : ySp := (100, 3, (1, [(0, 0, 1)], [], [], [(0, (2, yc 11, yc 0)), (1, (0, (1, 0, 0), yc 0)), (2, (0, yc 0, yc 0))], []), [(1, [], [], [], [], [(0, yc 0, yc 0)]), (2, [(1, 0, 2147483647)], [], [], [], [(0, (1, 1, 0), yc 0)])], [])
def yx474 : yCx := ([ys399, ys400, ys398, ys403], ys474.2.2.2.2, yFP, zm100.2.2.1, zm100.2.2.2.1, zc100, 1, ys474.2.2.2.1, [], [])
theorem yw474 : ywf ys474.2.2.1 = true := by decide +kernel
theorem yk474 : yver yx474 ys474.2.2.1 4000 = true := by decide +kernel
theorem yt474 {E : zHp → Prop} (h : yXt E) : yTs E ys474 := yver_s (x := yx474) h.1 (yal_c (yt399 h) yw399 (yal_c (yt400 h) yw400 (yal_c (yt398 h) yw398 (yal_c (yt403 h) yw403 (yal_n))))) yg100 yk474
def ys475 : ySp := (99, 2, (1, [(0, 0, 1)], [], [], [(0, (2, yc 11, yc 0)), (1, (0, (1, 0, 0), yc 0))], []), [(1, [], [], [], [], [(0, yc 0, yc 0)]), (2, [(1, 0, 2147483647)], [], [], [], [(0, (1, 1, 0), yc 0)])], [])
def yx475 : yCx := ([ys474], ys475.2.2.2.2, yFP, zm99.2.2.1, zm99.2.2.2.1, zc99, 1, ys475.2.2.2.1, [], [])
theorem yw475 : ywf ys475.2.2.1 = true := by decide +kernel
theorem yk475 : yver yx475 ys475.2.2.1 4000 = true := by decide +kernel
theorem yt475 {E : zHp → Prop} (h : yXt E) : yTs E ys475 := yver_s (x := yx475) h.1 (yal_c (yt474 h) yw474 (yal_n)) yg99 yk475
def ys476 : ySp := (100, 3, (1, [(0, 0, 3)], [], [], [(0, (2, yc 11, yc 0)), (1, (0, (1, 0, 0), yc 0)), (2, (0, yc 0, yc 0))], []), [(1, [], [], [], [], [(0, yc 0, yc 0)]), (2, [(1, 0, 2147483647)], [], [], [], [(0, (1, 1, 0), yc 0)])], [])
def yx476 : yCx := ([ys424, ys425, ys423, ys427], ys476.2.2.2.2, yFP, zm100.2.2.1, zm100.2.2.2.1, zc100, 1, ys476.2.2.2.1, [], [])
theorem yw476 : ywf ys476.2.2.1 = true := by decide +kernel
theorem yk476 : yver yx476 ys476.2.2.1 4000 = true := by decide +kernel
theorem yt476 {E : zHp → Prop} (h : yXt E) : yTs E ys476 := yver_s (x := yx476) h.1 (yal_c (yt424 h) yw424 (yal_c (yt425 h) yw425 (yal_c (yt423 h) yw423 (yal_c (yt427 h) yw427 (yal_n))))) yg100 yk476
def ys477 : ySp := (99, 2, (1, [(0, 0, 3)], [], [], [(0, (2, yc 11, yc 0)), (1, (0, (1, 0, 0), yc 0))], []), [(1, [], [], [], [], [(0, yc 0, yc 0)]), (2, [(1, 0, 2147483647)], [], [], [], [(0, (1, 1, 0), yc 0)])], [])
def yx477 : yCx := ([ys476], ys477.2.2.2.2, yFP, zm99.2.2.1, zm99.2.2.2.1, zc99, 1, ys477.2.2.2.1, [], [])
theorem yw477 : ywf ys477.2.2.1 = true := by decide +kernel
theorem yk477 : yver yx477 ys477.2.2.1 4000 = true := by decide +kernel
theorem yt477 {E : zHp → Prop} (h : yXt E) : yTs E ys477 := yver_s (x := yx477) h.1 (yal_c (yt476 h) yw476 (yal_n)) yg99 yk477
def ys478 : ySp := (100, 3, (1, [(0, 0, 5)], [], [], [(0, (2, yc 11, yc 0)), (1, (0, (1, 0, 0), yc 0)), (2, (0, yc 0, yc 0))], []), [(1, [], [], [], [], [(0, yc 0, yc 0)]), (2, [(1, 0, 2147483647)], [], [], [], [(0, (1, 1, 0), yc 0)])], [])
def yx478 : yCx := ([ys424, ys425, ys423, ys427], ys478.2.2.2.2, yFP, zm100.2.2.1, zm100.2.2.2.1, zc100, 1, ys478.2.2.2.1, [], [])
theorem yw478 : ywf ys478.2.2.1 = true := by decide +kernel
theorem yk478 : yver yx478 ys478.2.2.1 4000 = true := by decide +kernel
theorem yt478 {E : zHp → Prop} (h : yXt E) : yTs E ys478 := yver_s (x := yx478) h.1 (yal_c (yt424 h) yw424 (yal_c (yt425 h) yw425 (yal_c (yt423 h) yw423 (yal_c (yt427 h) yw427 (yal_n))))) yg100 yk478
def ys479 : ySp := (99, 2, (1, [(0, 0, 5)], [], [], [(0, (2, yc 11, yc 0)), (1, (0, (1, 0, 0), yc 0))], []), [(1, [], [], [], [], [(0, yc 0, yc 0)]), (2, [(1, 0, 2147483647)], [], [], [], [(0, (1, 1, 0), yc 0)])], [])
def yx479 : yCx := ([ys478], ys479.2.2.2.2, yFP, zm99.2.2.1, zm99.2.2.2.1, zc99, 1, ys479.2.2.2.1, [], [])
theorem yw479 : ywf ys479.2.2.1 = true := by decide +kernel
theorem yk479 : yver yx479 ys479.2.2.1 4000 = true := by decide +kernel
theorem yt479 {E : zHp → Prop} (h : yXt E) : yTs E ys479 := yver_s (x := yx479) h.1 (yal_c (yt478 h) yw478 (yal_n)) yg99 yk479
def ys480 : ySp := (107, 3, (1, [(0, 0, 1)], [], [], [(0, (2, yc 11, yc 0)), (1, (0, (1, 0, 0), yc 0))], []), [(1, [], [], [], [], [(0, yc 0, yc 0)]), (1, [], [], [], [], [(0, yc 1, yc 0)])], [])
def yx480 : yCx := ([ys176, ys419, ys422, ys393, ys396, ys405, ys479, ys395], ys480.2.2.2.2, yFP, zm107.2.2.1, zm107.2.2.2.1, zc107, 1, ys480.2.2.2.1, [(12, (2, [(0, 0, 1), (1, 0, 6)], [], [], [(0, (2, yc 11, yc 0)), (1, (0, (1, 0, 0), yc 0)), (2, (0, (1, 1, 0), yc 0))], []), ([((-1), 1)], 6))], [])
theorem yw480 : ywf ys480.2.2.1 = true := by decide +kernel
theorem yk480 : yver yx480 ys480.2.2.1 4000 = true := by decide +kernel
theorem yt480 {E : zHp → Prop} (h : yXt E) : yTs E ys480 := yver_s (x := yx480) h.1 (yal_c (yt176 h) yw176 (yal_c (yt419 h) yw419 (yal_c (yt422 h) yw422 (yal_c (yt393 h) yw393 (yal_c (yt396 h) yw396 (yal_c (yt405 h) yw405 (yal_c (yt479 h) yw479 (yal_c (yt395 h) yw395 (yal_n))))))))) yg107 yk480
def ys481 : ySp := (90, 4, (2, [(0, 0, 1), (1, (-2147483648), 2147483647)], [], [], [(0, (2, yc 11, yc 0)), (1, (0, (1, 0, 0), yc 0)), (2, (0, yc 4, yc 0)), (3, (0, (1, 1, 0), yc 0))], []), [(2, [], [], [], [], [])], [(12, 12, 1000)])
def yx481 : yCx := ([], ys481.2.2.2.2, yFP, zm90.2.2.1, zm90.2.2.2.1, zc90, 2, ys481.2.2.2.1, [], [])
theorem yw481 : ywf ys481.2.2.1 = true := by decide +kernel
theorem yk481 : yver yx481 ys481.2.2.1 4000 = true := by decide +kernel
theorem yt481 {E : zHp → Prop} (h : yXt E) : yTs E ys481 := yver_s (x := yx481) h.1 (yal_n) yg90 yk481
def ys482 : ySp := (108, 3, (1, [(0, 0, 1)], [], [], [(0, (2, yc 11, yc 0)), (1, (0, (1, 0, 0), yc 0))], []), [(2, [(1, (-2147483648), 2147483647)], [], [], [], [(0, (1, 1, 0), yc 0)])], [(12, 12, 1000)])
def yx482 : yCx := ([ys454, ys385, ys481], ys482.2.2.2.2, yFP, zm108.2.2.1, zm108.2.2.2.1, zc108, 1, ys482.2.2.2.1, [], [])
theorem yw482 : ywf ys482.2.2.1 = true := by decide +kernel
theorem yk482 : yver yx482 ys482.2.2.1 4000 = true := by decide +kernel
theorem yt482 {E : zHp → Prop} (h : yXt E) : yTs E ys482 := yver_s (x := yx482) h.1 (yal_c (yt454 h) yw454 (yal_c (yt385 h) yw385 (yal_c (yt481 h) yw481 (yal_n)))) yg108 yk482
def ys483 : ySp := (107, 3, (1, [(0, 0, 3)], [], [], [(0, (2, yc 11, yc 0)), (1, (0, (1, 0, 0), yc 0))], []), [(1, [], [], [], [], [(0, yc 0, yc 0)]), (1, [], [], [], [], [(0, yc 1, yc 0)])], [])
def yx483 : yCx := ([ys176, ys419, ys422, ys406, ys409, ys410, ys479, ys408], ys483.2.2.2.2, yFP, zm107.2.2.1, zm107.2.2.2.1, zc107, 1, ys483.2.2.2.1, [(12, (2, [(0, 0, 3), (1, 0, 6)], [], [], [(0, (2, yc 11, yc 0)), (1, (0, (1, 0, 0), yc 0)), (2, (0, (1, 1, 0), yc 0))], []), ([((-1), 1)], 6))], [])
theorem yw483 : ywf ys483.2.2.1 = true := by decide +kernel
theorem yk483 : yver yx483 ys483.2.2.1 4000 = true := by decide +kernel
theorem yt483 {E : zHp → Prop} (h : yXt E) : yTs E ys483 := yver_s (x := yx483) h.1 (yal_c (yt176 h) yw176 (yal_c (yt419 h) yw419 (yal_c (yt422 h) yw422 (yal_c (yt406 h) yw406 (yal_c (yt409 h) yw409 (yal_c (yt410 h) yw410 (yal_c (yt479 h) yw479 (yal_c (yt408 h) yw408 (yal_n))))))))) yg107 yk483
def ys484 : ySp := (90, 4, (2, [(0, 0, 3), (1, (-2147483648), 2147483647)], [], [], [(0, (2, yc 11, yc 0)), (1, (0, (1, 0, 0), yc 0)), (2, (0, yc 4, yc 0)), (3, (0, (1, 1, 0), yc 0))], []), [(2, [], [], [], [], [])], [(12, 12, 1000)])
def yx484 : yCx := ([], ys484.2.2.2.2, yFP, zm90.2.2.1, zm90.2.2.2.1, zc90, 2, ys484.2.2.2.1, [], [])
theorem yw484 : ywf ys484.2.2.1 = true := by decide +kernel
theorem yk484 : yver yx484 ys484.2.2.1 4000 = true := by decide +kernel
theorem yt484 {E : zHp → Prop} (h : yXt E) : yTs E ys484 := yver_s (x := yx484) h.1 (yal_n) yg90 yk484
def ys485 : ySp := (108, 3, (1, [(0, 0, 3)], [], [], [(0, (2, yc 11, yc 0)), (1, (0, (1, 0, 0), yc 0))], []), [(2, [(1, (-2147483648), 2147483647)], [], [], [], [(0, (1, 1, 0), yc 0)])], [(12, 12, 1000)])
def yx485 : yCx := ([ys454, ys417, ys484], ys485.2.2.2.2, yFP, zm108.2.2.1, zm108.2.2.2.1, zc108, 1, ys485.2.2.2.1, [], [])
theorem yw485 : ywf ys485.2.2.1 = true := by decide +kernel
theorem yk485 : yver yx485 ys485.2.2.1 4000 = true := by decide +kernel
theorem yt485 {E : zHp → Prop} (h : yXt E) : yTs E ys485 := yver_s (x := yx485) h.1 (yal_c (yt454 h) yw454 (yal_c (yt417 h) yw417 (yal_c (yt484 h) yw484 (yal_n)))) yg108 yk485
def ys486 : ySp := (107, 3, (1, [(0, 0, 5)], [], [], [(0, (2, yc 11, yc 0)), (1, (0, (1, 0, 0), yc 0))], []), [(1, [], [], [], [], [(0, yc 0, yc 0)]), (1, [], [], [], [], [(0, yc 1, yc 0)])], [])
def yx486 : yCx := ([ys176, ys419, ys422, ys411, ys414, ys415, ys479, ys413], ys486.2.2.2.2, yFP, zm107.2.2.1, zm107.2.2.2.1, zc107, 1, ys486.2.2.2.1, [(12, (2, [(0, 0, 5), (1, 0, 6)], [], [], [(0, (2, yc 11, yc 0)), (1, (0, (1, 0, 0), yc 0)), (2, (0, (1, 1, 0), yc 0))], []), ([((-1), 1)], 6))], [])
theorem yw486 : ywf ys486.2.2.1 = true := by decide +kernel
theorem yk486 : yver yx486 ys486.2.2.1 4000 = true := by decide +kernel
theorem yt486 {E : zHp → Prop} (h : yXt E) : yTs E ys486 := yver_s (x := yx486) h.1 (yal_c (yt176 h) yw176 (yal_c (yt419 h) yw419 (yal_c (yt422 h) yw422 (yal_c (yt411 h) yw411 (yal_c (yt414 h) yw414 (yal_c (yt415 h) yw415 (yal_c (yt479 h) yw479 (yal_c (yt413 h) yw413 (yal_n))))))))) yg107 yk486
def ys487 : ySp := (90, 4, (2, [(0, 0, 5), (1, (-2147483648), 2147483647)], [], [], [(0, (2, yc 11, yc 0)), (1, (0, (1, 0, 0), yc 0)), (2, (0, yc 4, yc 0)), (3, (0, (1, 1, 0), yc 0))], []), [(2, [], [], [], [], [])], [(12, 12, 1000)])
def yx487 : yCx := ([], ys487.2.2.2.2, yFP, zm90.2.2.1, zm90.2.2.2.1, zc90, 2, ys487.2.2.2.1, [], [])
theorem yw487 : ywf ys487.2.2.1 = true := by decide +kernel
theorem yk487 : yver yx487 ys487.2.2.1 4000 = true := by decide +kernel
theorem yt487 {E : zHp → Prop} (h : yXt E) : yTs E ys487 := yver_s (x := yx487) h.1 (yal_n) yg90 yk487
def ys488 : ySp := (108, 3, (1, [(0, 0, 5)], [], [], [(0, (2, yc 11, yc 0)), (1, (0, (1, 0, 0), yc 0))], []), [(2, [(1, (-2147483648), 2147483647)], [], [], [], [(0, (1, 1, 0), yc 0)])], [(12, 12, 1000)])
def yx488 : yCx := ([ys454, ys418, ys487], ys488.2.2.2.2, yFP, zm108.2.2.1, zm108.2.2.2.1, zc108, 1, ys488.2.2.2.1, [], [])
theorem yw488 : ywf ys488.2.2.1 = true := by decide +kernel
theorem yk488 : yver yx488 ys488.2.2.1 4000 = true := by decide +kernel
theorem yt488 {E : zHp → Prop} (h : yXt E) : yTs E ys488 := yver_s (x := yx488) h.1 (yal_c (yt454 h) yw454 (yal_c (yt418 h) yw418 (yal_c (yt487 h) yw487 (yal_n)))) yg108 yk488
def ys489 : ySp := (109, 2, (0, [], [], [], [(0, (2, yc 11, yc 0))], []), [(0, [], [], [], [], [])], [(12, 12, 1000)])
def yx489 : yCx := ([ys159, ys486, ys488], ys489.2.2.2.2, yFP, zm109.2.2.1, zm109.2.2.2.1, zc109, 0, ys489.2.2.2.1, [(2, (1, [(0, 0, 6)], [], [], [(0, (2, yc 11, yc 0)), (1, (0, (1, 0, 0), yc 0))], []), ([((-1), 0)], 6))], [])
theorem yw489 : ywf ys489.2.2.1 = true := by decide +kernel
theorem yk489 : yver yx489 ys489.2.2.1 4000 = true := by decide +kernel
theorem yt489 {E : zHp → Prop} (h : yXt E) : yTs E ys489 := yver_s (x := yx489) h.1 (yal_c (yt159 h) yw159 (yal_c (yt486 h) yw486 (yal_c (yt488 h) yw488 (yal_n)))) yg109 yk489
def ys490 : ySp := (110, 3, (0, [], [], [], [(0, (2, yc 11, yc 0))], []), [(1, [(0, (-2147483648), 2147483647)], [], [], [], [(0, (1, 0, 0), yc 0)])], [])
def yx490 : yCx := ([ys159, ys413], ys490.2.2.2.2, yFP, zm110.2.2.1, zm110.2.2.2.1, zc110, 0, ys490.2.2.2.1, [(4, (2, [(0, (-2147483648), 2147483647), (1, 0, 6)], [], [], [(0, (2, yc 11, yc 0)), (1, (0, (1, 0, 0), yc 0)), (2, (0, (1, 1, 0), yc 0))], []), ([((-1), 1)], 6))], [])
theorem yw490 : ywf ys490.2.2.1 = true := by decide +kernel
theorem yk490 : yver yx490 ys490.2.2.1 4000 = true := by decide +kernel
theorem yt490 {E : zHp → Prop} (h : yXt E) : yTs E ys490 := yver_s (x := yx490) h.1 (yal_c (yt159 h) yw159 (yal_c (yt413 h) yw413 (yal_n))) yg110 yk490
def ys491 : ySp := (111, 1, (0, [], [], [], [(0, (2, yc 11, yc 0))], []), [(0, [], [], [], [], [(0, yc 0, yc 0)]), (0, [], [], [], [], [(0, yc 1, yc 0)])], [])
def yx491 : yCx := ([ys159, ys490], ys491.2.2.2.2, yFP, zm111.2.2.1, zm111.2.2.2.1, zc111, 0, ys491.2.2.2.1, [], [])
theorem yw491 : ywf ys491.2.2.1 = true := by decide +kernel
theorem yk491 : yver yx491 ys491.2.2.1 4000 = true := by decide +kernel
theorem yt491 {E : zHp → Prop} (h : yXt E) : yTs E ys491 := yver_s (x := yx491) h.1 (yal_c (yt159 h) yw159 (yal_c (yt490 h) yw490 (yal_n))) yg111 yk491
def ys492 : ySp := (88, 4, (2, [(0, 0, 1), (1, (-2147483648), 2147483647)], [], [], [(0, (2, yc 11, yc 0)), (1, (0, (1, 0, 0), yc 0)), (2, (0, yc 5, yc 0)), (3, (0, (1, 1, 0), yc 0))], []), [(2, [], [], [], [], [])], [(12, 12, 1000)])
def yx492 : yCx := ([], ys492.2.2.2.2, yFP, zm88.2.2.1, zm88.2.2.2.1, zc88, 2, ys492.2.2.2.1, [], [])
theorem yw492 : ywf ys492.2.2.1 = true := by decide +kernel
theorem yk492 : yver yx492 ys492.2.2.1 4000 = true := by decide +kernel
theorem yt492 {E : zHp → Prop} (h : yXt E) : yTs E ys492 := yver_s (x := yx492) h.1 (yal_n) yg88 yk492
def ys493 : ySp := (88, 4, (2, [(0, 0, 3), (1, (-2147483648), 2147483647)], [], [], [(0, (2, yc 11, yc 0)), (1, (0, (1, 0, 0), yc 0)), (2, (0, yc 5, yc 0)), (3, (0, (1, 1, 0), yc 0))], []), [(2, [], [], [], [], [])], [(12, 12, 1000)])
def yx493 : yCx := ([], ys493.2.2.2.2, yFP, zm88.2.2.1, zm88.2.2.2.1, zc88, 2, ys493.2.2.2.1, [], [])
theorem yw493 : ywf ys493.2.2.1 = true := by decide +kernel
theorem yk493 : yver yx493 ys493.2.2.1 4000 = true := by decide +kernel
theorem yt493 {E : zHp → Prop} (h : yXt E) : yTs E ys493 := yver_s (x := yx493) h.1 (yal_n) yg88 yk493
def ys494 : ySp := (88, 4, (2, [(0, 0, 5), (1, (-2147483648), 2147483647)], [], [], [(0, (2, yc 11, yc 0)), (1, (0, (1, 0, 0), yc 0)), (2, (0, yc 5, yc 0)), (3, (0, (1, 1, 0), yc 0))], []), [(2, [], [], [], [], [])], [(12, 12, 1000)])
def yx494 : yCx := ([], ys494.2.2.2.2, yFP, zm88.2.2.1, zm88.2.2.2.1, zc88, 2, ys494.2.2.2.1, [], [])
theorem yw494 : ywf ys494.2.2.1 = true := by decide +kernel
theorem yk494 : yver yx494 ys494.2.2.1 4000 = true := by decide +kernel
theorem yt494 {E : zHp → Prop} (h : yXt E) : yTs E ys494 := yver_s (x := yx494) h.1 (yal_n) yg88 yk494
def ys495 : ySp := (112, 2, (0, [], [], [], [(0, (2, yc 11, yc 0))], []), [(0, [], [], [], [], [])], [(12, 12, 1000)])
def yx495 : yCx := ([ys176, ys454, ys426, ys494, ys423], ys495.2.2.2.2, yFP, zm112.2.2.1, zm112.2.2.2.1, zc112, 0, ys495.2.2.2.1, [(2, (1, [(0, 0, 6)], [], [], [(0, (2, yc 11, yc 0)), (1, (0, (1, 0, 0), yc 0))], []), ([((-1), 0)], 6))], [])
theorem yw495 : ywf ys495.2.2.1 = true := by decide +kernel
theorem yk495 : yver yx495 ys495.2.2.1 4000 = true := by decide +kernel
theorem yt495 {E : zHp → Prop} (h : yXt E) : yTs E ys495 := yver_s (x := yx495) h.1 (yal_c (yt176 h) yw176 (yal_c (yt454 h) yw454 (yal_c (yt426 h) yw426 (yal_c (yt494 h) yw494 (yal_c (yt423 h) yw423 (yal_n)))))) yg112 yk495
def ys496 : ySp := (149, 3, (1, [(0, (-2147483648), 2147483647)], [], [], [(0, (2, yc 0, yc 0)), (1, (0, (1, 0, 0), yc 0))], []), [(1, [], [], [], [], [(0, yc (-1), yc 0)]), (3, [(0, 0, 5), (1, (-2147483648), 2147483647), (2, 0, 303)], [], [(yc 13, (1, 0, 0), (3, (1, 2, 0), yc 0))], [], [(0, (1, 1, 0), yc 0)])], [(12, 12, 1000), (88, 999, 1000)])
def yx496 : yCx := ([ys473, ys381, ys296, ys276, ys454, ys489, ys447, ys491, ys495, ys307], ys496.2.2.2.2, yFP, zm149.2.2.1, zm149.2.2.2.1, zc149, 1, ys496.2.2.2.1, [(51, (3, [(0, 0, 5), (1, 0, 60), (2, 0, 303)], [], [(yc 13, (1, 0, 0), (3, (1, 2, 0), yc 0))], [(0, (2, yc 0, yc 0)), (1, (0, (1, 0, 0), yc 0)), (2, (0, (1, 1, 0), yc 0))], []), ([((-1), 1)], 60))], [])
theorem yw496 : ywf ys496.2.2.1 = true := by decide +kernel
theorem yk496 : yver yx496 ys496.2.2.1 4000 = true := by decide +kernel
theorem yt496 {E : zHp → Prop} (h : yXt E) : yTs E ys496 := yver_s (x := yx496) h.1 (yal_c (yt473 h) yw473 (yal_c (yt381 h) yw381 (yal_c (yt296 h) yw296 (yal_c (yt276 h) yw276 (yal_c (yt454 h) yw454 (yal_c (yt489 h) yw489 (yal_c (yt447 h) yw447 (yal_c (yt491 h) yw491 (yal_c (yt495 h) yw495 (yal_c (yt307 h) yw307 (yal_n))))))))))) yg149 yk496
def ys497 : ySp := (3, 5, (1, [(0, 0, 63)], [], [], [(0, (2, yc 44, yc 0)), (1, (2, yc 11, yc 0)), (2, (0, (1, 0, 0), yc 0))], []), [(1, [], [], [], [], [])], [(47, 47, 1000)])
def yx497 : yCx := ([ys148, ys390], ys497.2.2.2.2, yFP, zm3.2.2.1, zm3.2.2.2.1, zc3, 1, ys497.2.2.2.1, [(5, (3, [(0, 0, 63), (1, 0, 63), (2, 0, 6)], [], [], [(0, (2, yc 44, yc 0)), (1, (2, yc 11, yc 0)), (2, (0, (1, 0, 0), yc 0)), (3, (0, (1, 1, 0), yc 0)), (4, (0, (1, 2, 0), yc 0))], []), ([((-1), 2)], 13)), (52, (4, [(0, 0, 63), (1, 0, 63), (2, 0, 6), (3, 0, 6)], [], [(yc 12, yc 0, (0, (1, 3, 0), yc 0))], [(0, (2, yc 44, yc 0)), (1, (2, yc 11, yc 0)), (2, (0, (1, 0, 0), yc 0)), (3, (0, (1, 1, 0), yc 0)), (4, (0, (1, 2, 0), yc 0))], []), ([((-1), 2)], 6))], [])
theorem yw497 : ywf ys497.2.2.1 = true := by decide +kernel
theorem yk497 : yver yx497 ys497.2.2.1 4000 = true := by decide +kernel
theorem yt497 {E : zHp → Prop} (h : yXt E) : yTs E ys497 := yver_s (x := yx497) h.1 (yal_c (yt148 h) yw148 (yal_c (yt390 h) yw390 (yal_n))) yg3 yk497
def ys498 : ySp := (1, 7, (1, [(0, 0, 1)], [], [], [(0, (2, yc 44, yc 0)), (1, (2, yc 11, yc 0)), (2, (0, (1, 0, 0), yc 0))], []), [(1, [], [], [], [], [])], [(45, 45, 1000), (46, 46, 1000), (47, 47, 1000)])
def yx498 : yCx := ([ys329, ys497, ys148, ys386, ys387, ys328, ys327, ys325, ys326], ys498.2.2.2.2, yFP, zm1.2.2.1, zm1.2.2.2.1, zc1, 1, ys498.2.2.2.1, [(67, (6, [(0, 0, 1), (1, 0, 5), (2, 0, 63), (3, 1, 64), (4, 0, 64), (5, 0, 6)], [], [(yc 12, yc 0, (0, (1, 5, 0), yc 0))], [(0, (2, yc 44, yc 0)), (1, (2, yc 11, yc 0)), (2, (0, (1, 0, 0), yc 0)), (3, (0, (1, 1, 0), yc 0)), (4, (0, (1, 2, 0), yc 0)), (5, (0, (1, 3, 0), yc 0)), (6, (0, (1, 4, 0), yc 0))], []), ([((-1), 4)], 64))], [])
theorem yw498 : ywf ys498.2.2.1 = true := by decide +kernel
theorem yk498 : yver yx498 ys498.2.2.1 4000 = true := by decide +kernel
theorem yt498 {E : zHp → Prop} (h : yXt E) : yTs E ys498 := yver_s (x := yx498) h.1 (yal_c (yt329 h) yw329 (yal_c (yt497 h) yw497 (yal_c (yt148 h) yw148 (yal_c (yt386 h) yw386 (yal_c (yt387 h) yw387 (yal_c (yt328 h) yw328 (yal_c (yt327 h) yw327 (yal_c (yt325 h) yw325 (yal_c (yt326 h) yw326 (yal_n)))))))))) yg1 yk498
def ys499 : ySp := (1, 7, (1, [(0, 0, 3)], [], [], [(0, (2, yc 44, yc 0)), (1, (2, yc 11, yc 0)), (2, (0, (1, 0, 0), yc 0))], []), [(1, [], [], [], [], [])], [(45, 45, 1000), (46, 46, 1000), (47, 47, 1000)])
def yx499 : yCx := ([ys329, ys497, ys148, ys419, ys420, ys328, ys327, ys325, ys326], ys499.2.2.2.2, yFP, zm1.2.2.1, zm1.2.2.2.1, zc1, 1, ys499.2.2.2.1, [(67, (6, [(0, 0, 3), (1, 0, 5), (2, 0, 63), (3, 1, 64), (4, 0, 64), (5, 0, 6)], [], [(yc 12, yc 0, (0, (1, 5, 0), yc 0))], [(0, (2, yc 44, yc 0)), (1, (2, yc 11, yc 0)), (2, (0, (1, 0, 0), yc 0)), (3, (0, (1, 1, 0), yc 0)), (4, (0, (1, 2, 0), yc 0)), (5, (0, (1, 3, 0), yc 0)), (6, (0, (1, 4, 0), yc 0))], []), ([((-1), 4)], 64))], [])
theorem yw499 : ywf ys499.2.2.1 = true := by decide +kernel
theorem yk499 : yver yx499 ys499.2.2.1 4000 = true := by decide +kernel
theorem yt499 {E : zHp → Prop} (h : yXt E) : yTs E ys499 := yver_s (x := yx499) h.1 (yal_c (yt329 h) yw329 (yal_c (yt497 h) yw497 (yal_c (yt148 h) yw148 (yal_c (yt419 h) yw419 (yal_c (yt420 h) yw420 (yal_c (yt328 h) yw328 (yal_c (yt327 h) yw327 (yal_c (yt325 h) yw325 (yal_c (yt326 h) yw326 (yal_n)))))))))) yg1 yk499
def ys500 : ySp := (1, 7, (1, [(0, 0, 5)], [], [], [(0, (2, yc 44, yc 0)), (1, (2, yc 11, yc 0)), (2, (0, (1, 0, 0), yc 0))], []), [(1, [], [], [], [], [])], [(45, 45, 1000), (46, 46, 1000), (47, 47, 1000)])
def yx500 : yCx := ([ys329, ys497, ys148, ys419, ys420, ys328, ys327, ys325, ys326], ys500.2.2.2.2, yFP, zm1.2.2.1, zm1.2.2.2.1, zc1, 1, ys500.2.2.2.1, [(67, (6, [(0, 0, 5), (1, 0, 5), (2, 0, 63), (3, 1, 64), (4, 0, 64), (5, 0, 6)], [], [(yc 12, yc 0, (0, (1, 5, 0), yc 0))], [(0, (2, yc 44, yc 0)), (1, (2, yc 11, yc 0)), (2, (0, (1, 0, 0), yc 0)), (3, (0, (1, 1, 0), yc 0)), (4, (0, (1, 2, 0), yc 0)), (5, (0, (1, 3, 0), yc 0)), (6, (0, (1, 4, 0), yc 0))], []), ([((-1), 4)], 64))], [])
theorem yw500 : ywf ys500.2.2.1 = true := by decide +kernel
theorem yk500 : yver yx500 ys500.2.2.1 4000 = true := by decide +kernel
theorem yt500 {E : zHp → Prop} (h : yXt E) : yTs E ys500 := yver_s (x := yx500) h.1 (yal_c (yt329 h) yw329 (yal_c (yt497 h) yw497 (yal_c (yt148 h) yw148 (yal_c (yt419 h) yw419 (yal_c (yt420 h) yw420 (yal_c (yt328 h) yw328 (yal_c (yt327 h) yw327 (yal_c (yt325 h) yw325 (yal_c (yt326 h) yw326 (yal_n)))))))))) yg1 yk500
def ys501 : ySp := (4, 5, (2, [(0, 0, 1), (1, 0, 4)], [], [], [(0, (2, yc 44, yc 0)), (1, (2, yc 11, yc 0)), (2, (0, (1, 0, 0), yc 0)), (3, (0, (1, 1, 0), yc 0))], []), [(2, [], [], [], [], [(0, yc 0, yc 0)]), (2, [], [], [], [], [(0, yc 1, yc 0)])], [(45, 45, 1000), (46, 46, 1000), (47, 47, 1000)])
def yx501 : yCx := ([ys500, ys176, ys420, ys422], ys501.2.2.2.2, yFP, zm4.2.2.1, zm4.2.2.2.1, zc4, 2, ys501.2.2.2.1, [(3, (3, [(0, 0, 1), (1, 0, 4), (2, 0, 6)], [], [], [(0, (2, yc 44, yc 0)), (1, (2, yc 11, yc 0)), (2, (0, (1, 0, 0), yc 0)), (3, (0, (1, 1, 0), yc 0)), (4, (0, (1, 2, 0), yc 0))], []), ([((-1), 2)], 6))], [])
theorem yw501 : ywf ys501.2.2.1 = true := by decide +kernel
theorem yk501 : yver yx501 ys501.2.2.1 4000 = true := by decide +kernel
theorem yt501 {E : zHp → Prop} (h : yXt E) : yTs E ys501 := yver_s (x := yx501) h.1 (yal_c (yt500 h) yw500 (yal_c (yt176 h) yw176 (yal_c (yt420 h) yw420 (yal_c (yt422 h) yw422 (yal_n))))) yg4 yk501
def ys502 : ySp := (151, 4, (2, [(0, 0, 1), (1, 0, 4)], [], [], [(0, (2, yc 0, yc 0)), (1, (0, (1, 0, 0), yc 0)), (2, (0, (1, 1, 0), yc 0))], []), [(2, [], [], [], [], [(0, yc 0, yc 0)]), (2, [], [], [], [], [(0, yc 1, yc 0)])], [(12, 12, 1000), (45, 45, 1000), (46, 46, 1000), (47, 47, 1000)])
def yx502 : yCx := ([ys501, ys381, ys255, ys437], ys502.2.2.2.2, yFP, zm151.2.2.1, zm151.2.2.2.1, zc151, 2, ys502.2.2.2.1, [(2, (4, [(0, 0, 1), (1, 0, 4), (2, 0, 1), (3, 0, 6)], [], [], [(0, (2, yc 0, yc 0)), (1, (0, (1, 2, 0), yc 0)), (2, (0, (1, 1, 0), yc 0)), (3, (0, (1, 3, 0), yc 0))], []), ([((-1), 3)], 6))], [])
theorem yw502 : ywf ys502.2.2.1 = true := by decide +kernel
theorem yk502 : yver yx502 ys502.2.2.1 4000 = true := by decide +kernel
theorem yt502 {E : zHp → Prop} (h : yXt E) : yTs E ys502 := yver_s (x := yx502) h.1 (yal_c (yt501 h) yw501 (yal_c (yt381 h) yw381 (yal_c (yt255 h) yw255 (yal_c (yt437 h) yw437 (yal_n))))) yg151 yk502
def ys503 : ySp := (4, 5, (2, [(0, 0, 5), (1, 0, 4)], [], [], [(0, (2, yc 44, yc 0)), (1, (2, yc 11, yc 0)), (2, (0, (1, 0, 0), yc 0)), (3, (0, (1, 1, 0), yc 0))], []), [(2, [], [], [], [], [(0, yc 0, yc 0)]), (2, [], [], [], [], [(0, yc 1, yc 0)])], [(45, 45, 1000), (46, 46, 1000), (47, 47, 1000)])
def yx503 : yCx := ([ys500, ys176, ys420, ys422], ys503.2.2.2.2, yFP, zm4.2.2.1, zm4.2.2.2.1, zc4, 2, ys503.2.2.2.1, [(3, (3, [(0, 0, 5), (1, 0, 4), (2, 0, 6)], [], [], [(0, (2, yc 44, yc 0)), (1, (2, yc 11, yc 0)), (2, (0, (1, 0, 0), yc 0)), (3, (0, (1, 1, 0), yc 0)), (4, (0, (1, 2, 0), yc 0))], []), ([((-1), 2)], 6))], [])
theorem yw503 : ywf ys503.2.2.1 = true := by decide +kernel
theorem yk503 : yver yx503 ys503.2.2.1 4000 = true := by decide +kernel
theorem yt503 {E : zHp → Prop} (h : yXt E) : yTs E ys503 := yver_s (x := yx503) h.1 (yal_c (yt500 h) yw500 (yal_c (yt176 h) yw176 (yal_c (yt420 h) yw420 (yal_c (yt422 h) yw422 (yal_n))))) yg4 yk503
def ys504 : ySp := (151, 4, (2, [(0, 0, 5), (1, 0, 4)], [], [], [(0, (2, yc 0, yc 0)), (1, (0, (1, 0, 0), yc 0)), (2, (0, (1, 1, 0), yc 0))], []), [(2, [], [], [], [], [(0, yc 0, yc 0)]), (2, [], [], [], [], [(0, yc 1, yc 0)])], [(12, 12, 1000), (45, 45, 1000), (46, 46, 1000), (47, 47, 1000)])
def yx504 : yCx := ([ys503, ys381, ys255, ys437], ys504.2.2.2.2, yFP, zm151.2.2.1, zm151.2.2.2.1, zc151, 2, ys504.2.2.2.1, [(2, (3, [(0, 0, 5), (1, 0, 4), (2, 0, 6)], [], [], [(0, (2, yc 0, yc 0)), (1, (0, (1, 0, 0), yc 0)), (2, (0, (1, 1, 0), yc 0)), (3, (0, (1, 2, 0), yc 0))], []), ([((-1), 2)], 6))], [])
theorem yw504 : ywf ys504.2.2.1 = true := by decide +kernel
theorem yk504 : yver yx504 ys504.2.2.1 4000 = true := by decide +kernel
theorem yt504 {E : zHp → Prop} (h : yXt E) : yTs E ys504 := yver_s (x := yx504) h.1 (yal_c (yt503 h) yw503 (yal_c (yt381 h) yw381 (yal_c (yt255 h) yw255 (yal_c (yt437 h) yw437 (yal_n))))) yg151 yk504
def ys505 : ySp := (150, 4, (1, [(0, (-2147483648), 2147483647)], [], [], [(0, (2, yc 0, yc 0)), (1, (0, (1, 0, 0), yc 0))], []), [(1, [], [], [], [], [(0, yc (-1), yc 0)]), (2, [(0, 0, 4), (1, (-2147483648), 2147483647)], [], [], [], [(0, (1, 1, 0), yc 0)])], [(12, 12, 1000), (45, 45, 1000), (46, 46, 1000), (47, 47, 1000)])
def yx505 : yCx := ([ys296, ys255, ys504], ys505.2.2.2.2, yFP, zm150.2.2.1, zm150.2.2.2.1, zc150, 1, ys505.2.2.2.1, [(25, (3, [(0, 0, 4), (1, (-2147483648), 2147483647), (2, 0, 6)], [], [], [(0, (2, yc 0, yc 0)), (1, (0, (1, 0, 0), yc 0)), (2, (0, (1, 1, 0), yc 0)), (3, (0, (1, 2, 0), yc 0))], []), ([((-1), 2)], 6))], [])
theorem yw505 : ywf ys505.2.2.1 = true := by decide +kernel
theorem yk505 : yver yx505 ys505.2.2.1 4000 = true := by decide +kernel
theorem yt505 {E : zHp → Prop} (h : yXt E) : yTs E ys505 := yver_s (x := yx505) h.1 (yal_c (yt296 h) yw296 (yal_c (yt255 h) yw255 (yal_c (yt504 h) yw504 (yal_n)))) yg150 yk505
