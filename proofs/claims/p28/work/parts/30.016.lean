def ys420 : ySp := (60, 3, (1, [(0, 0, 2147483647)], [], [(yc 2, yc 0, (2, yc 1, yc 0)), (yc 2, yc 4, (0, (1, 0, 0), yc 0))], [(0, (2, yc 2, yc 0)), (1, (2, yc 1004, yc 0))], []), [(4, [(1, 0, 400), (2, 0, 400), (3, 1, 2147483647)], [], [(yc 2, yc 0, (2, yc 1, yc 0)), (yc 2, yc 2, (0, (1, 1, 0), yc 0)), (yc 2, yc 1, (0, (1, 2, 0), yc 0)), (yc 2, yc 4, (0, (1, 3, 0), yc 0))], [], [(0, yc (-1), yc 0)]), (3, [(1, 0, 400), (2, 0, 400)], [], [(yc 2, yc 0, (2, yc 1, yc 0)), (yc 2, yc 4, (0, (1, 0, 0), yc 0)), (yc 2, yc 1, (0, (1, 1, 0), yc 0)), (yc 2, yc 2, (0, (1, 2, 0), yc 0))], [], [(0, yc 0, yc 0)]), (3, [(1, 0, 400), (2, 0, 400)], [], [(yc 2, yc 0, (2, yc 1, yc 0)), (yc 2, yc 4, (0, (1, 0, 0), yc 0)), (yc 2, yc 1, (0, (1, 1, 0), yc 0)), (yc 2, yc 2, (0, (1, 2, 0), yc 0))], [], [(0, yc 1, yc 0)]), (4, [(1, 2, 12), (2, 0, 400), (3, 0, 400)], [], [(yc 2, yc 0, (2, yc 1, yc 0)), (yc 2, yc 4, (0, (1, 0, 0), yc 0)), (yc 2, yc 1, (0, (1, 2, 0), yc 0)), (yc 2, yc 2, (0, (1, 3, 0), yc 0))], [], [(0, (1, 1, 0), yc 0)])], [(2, 2, 2), (2, 2, 3), (2, 2, 4)])
def yx420 : yCx := ([ys120, ys419], ys420.2.2.2.2, yFP, zm60.2.2.1, zm60.2.2.2.1, zc60, 1, ys420.2.2.2.1, [], [])
theorem yw420 : ywf ys420.2.2.1 = true := by decide +kernel
theorem yk420 : yver yx420 ys420.2.2.1 4000 = true := by decide +kernel
theorem yt420 {E : zHp → Prop} (h : yEF E yFP) : yTs E 6 ys420 := yver_s (x := yx420) h (yal_c (yt120 h) (by decide) yw120 (yal_c (yt419 h) (by decide) yw419 (yal_n))) yg60 yk420
def ys421 : ySp := (56, 1, (1, [(0, (-1), 5)], [], [], [(0, (0, (1, 0, 0), yc 0))], []), [(1, [], [], [], [], [(0, yc 0, yc 0)])], [])
def yx421 : yCx := ([], ys421.2.2.2.2, yFP, zm56.2.2.1, zm56.2.2.2.1, zc56, 1, ys421.2.2.2.1, [], [])
theorem yw421 : ywf ys421.2.2.1 = true := by decide +kernel
theorem yk421 : yver yx421 ys421.2.2.1 4000 = true := by decide +kernel
theorem yt421 {E : zHp → Prop} (h : yEF E yFP) : yTs E 1 ys421 := yver_s (x := yx421) h (yal_n) yg56 yk421
def ys422 : ySp := (36, 2, (1, [(0, 0, 2147483647)], [], [(yc 2, yc 0, (2, yc 1, yc 0)), (yc 2, yc 4, (0, (1, 0, 0), yc 0))], [(0, (2, yc 6, yc 0)), (1, (2, yc 2, yc 0))], []), [(4, [(1, 0, 400), (2, 0, 400), (3, 0, 2147483647)], [], [(yc 2, yc 2, (0, (1, 1, 0), yc 0)), (yc 2, yc 1, (0, (1, 2, 0), yc 0)), (yc 2, yc 0, (2, yc 1, yc 0)), (yc 2, yc 4, (0, (1, 3, 0), yc 0))], [], [])], [(2, 2, 2), (2, 2, 3), (2, 2, 4), (6, 6, 1), (6, 6, 5), (6, 6, 8), (7, 7, 1000)])
def yx422 : yCx := ([ys150, ys149, ys151, ys94, ys421, ys147, ys148, ys420], ys422.2.2.2.2, yFP, zm36.2.2.1, zm36.2.2.2.1, zc36, 1, ys422.2.2.2.1, [], [])
theorem yw422 : ywf ys422.2.2.1 = true := by decide +kernel
theorem yk422 : yver yx422 ys422.2.2.1 4000 = true := by decide +kernel
theorem yt422 {E : zHp → Prop} (h : yEF E yFP) : yTs E 7 ys422 := yver_s (x := yx422) h (yal_c (yt150 h) (by decide) yw150 (yal_c (yt149 h) (by decide) yw149 (yal_c (yt151 h) (by decide) yw151 (yal_c (yt94 h) (by decide) yw94 (yal_c (yt421 h) (by decide) yw421 (yal_c (yt147 h) (by decide) yw147 (yal_c (yt148 h) (by decide) yw148 (yal_c (yt420 h) (by decide) yw420 (yal_n))))))))) yg36 yk422
def ys423 : ySp := (35, 4, (1, [(0, 0, 2147483647)], [], [(yc 2, yc 0, (2, yc 1, yc 0)), (yc 2, yc 4, (0, (1, 0, 0), yc 0))], [(0, (2, yc 6, yc 0)), (1, (2, yc 2, yc 0))], []), [(4, [(1, 0, 400), (2, 0, 2147483647), (3, 0, 400)], [], [(yc 2, yc 0, (2, yc 1, yc 0)), (yc 2, yc 1, (0, (1, 1, 0), yc 0)), (yc 2, yc 4, (0, (1, 2, 0), yc 0)), (yc 2, yc 2, (0, (1, 3, 0), yc 0))], [], [])], [(2, 2, 2), (2, 2, 3), (2, 2, 4), (6, 6, 1), (6, 6, 3), (6, 6, 5), (6, 6, 6), (6, 6, 7), (6, 6, 8), (6, 6, 9), (7, 7, 1000), (8, 8, 1000)])
def yx423 : yCx := ([ys422, ys125, ys146, ys122, ys94, ys124, ys145], ys423.2.2.2.2, yFP, zm35.2.2.1, zm35.2.2.2.1, zc35, 1, ys423.2.2.2.1, [], [])
theorem yw423 : ywf ys423.2.2.1 = true := by decide +kernel
theorem yk423 : yver yx423 ys423.2.2.1 4000 = true := by decide +kernel
theorem yt423 {E : zHp → Prop} (h : yEF E yFP) : yTs E 8 ys423 := yver_s (x := yx423) h (yal_c (yt422 h) (by decide) yw422 (yal_c (yt125 h) (by decide) yw125 (yal_c (yt146 h) (by decide) yw146 (yal_c (yt122 h) (by decide) yw122 (yal_c (yt94 h) (by decide) yw94 (yal_c (yt124 h) (by decide) yw124 (yal_c (yt145 h) (by decide) yw145 (yal_n)))))))) yg35 yk423
def ys424 : ySp := (283, 1, (0, [], [], [], [(0, (2, yc 1006, yc 0))], []), [(0, [], [], [], [], [(0, yc 0, yc 0)])], [])
def yx424 : yCx := ([], ys424.2.2.2.2, yFP, zm283.2.2.1, zm283.2.2.2.1, zc283, 0, ys424.2.2.2.1, [], [])
theorem yw424 : ywf ys424.2.2.1 = true := by decide +kernel
theorem yk424 : yver yx424 ys424.2.2.1 4000 = true := by decide +kernel
theorem yt424 {E : zHp → Prop} (h : yEF E yFP) : yTs E 1 ys424 := yver_s (x := yx424) h (yal_n) yg283 yk424
def ys425 : ySp := (281, 1, (0, [], [], [], [(0, (2, yc 1006, yc 0))], []), [(0, [], [], [], [], [(0, yc 7, yc 0)])], [])
def yx425 : yCx := ([ys424], ys425.2.2.2.2, yFP, zm281.2.2.1, zm281.2.2.2.1, zc281, 0, ys425.2.2.2.1, [], [])
theorem yw425 : ywf ys425.2.2.1 = true := by decide +kernel
theorem yk425 : yver yx425 ys425.2.2.1 4000 = true := by decide +kernel
theorem yt425 {E : zHp → Prop} (h : yEF E yFP) : yTs E 2 ys425 := yver_s (x := yx425) h (yal_c (yt424 h) (by decide) yw424 (yal_n)) yg281 yk425
def ys426 : ySp := (284, 1, (0, [], [], [], [(0, (2, yc 1006, yc 0))], []), [(0, [], [], [], [], [(0, yc 1, yc 0)])], [])
def yx426 : yCx := ([], ys426.2.2.2.2, yFP, zm284.2.2.1, zm284.2.2.2.1, zc284, 0, ys426.2.2.2.1, [], [])
theorem yw426 : ywf ys426.2.2.1 = true := by decide +kernel
theorem yk426 : yver yx426 ys426.2.2.1 4000 = true := by decide +kernel
theorem yt426 {E : zHp → Prop} (h : yEF E yFP) : yTs E 1 ys426 := yver_s (x := yx426) h (yal_n) yg284 yk426
def ys427 : ySp := (293, 3, (0, [], [], [], [(0, (0, yc 0, yc 0)), (1, (0, yc 7, yc 0)), (2, (7, yc 0, yc 0))], []), [(0, [], [], [], [], [(0, yc 0, yc 0)])], [])
def yx427 : yCx := ([], ys427.2.2.2.2, yFP, zm293.2.2.1, zm293.2.2.2.1, zc293, 0, ys427.2.2.2.1, [], [])
theorem yw427 : ywf ys427.2.2.1 = true := by decide +kernel
theorem yk427 : yver yx427 ys427.2.2.1 4000 = true := by decide +kernel
theorem yt427 {E : zHp → Prop} (h : yEF E yFP) : yTs E 1 ys427 := yver_s (x := yx427) h (yal_n) yg293 yk427
def ys428 : ySp := (285, 2, (0, [], [], [], [(0, (0, yc 0, yc 0)), (1, (0, yc 7, yc 0))], []), [(0, [], [], [], [], [])], [])
def yx428 : yCx := ([ys427], ys428.2.2.2.2, yFP, zm285.2.2.1, zm285.2.2.2.1, zc285, 0, ys428.2.2.2.1, [], [])
theorem yw428 : ywf ys428.2.2.1 = true := by decide +kernel
theorem yk428 : yver yx428 ys428.2.2.1 4000 = true := by decide +kernel
theorem yt428 {E : zHp → Prop} (h : yEF E yFP) : yTs E 2 ys428 := yver_s (x := yx428) h (yal_c (yt427 h) (by decide) yw427 (yal_n)) yg285 yk428
def ys429 : ySp := (286, 2, (0, [], [], [], [(0, (2, yc 1025, yc 0)), (1, (0, yc 0, yc 0))], []), [(0, [], [], [], [], [(0, yc 97, yc 0)])], [])
def yx429 : yCx := ([ys428], ys429.2.2.2.2, yFP, zm286.2.2.1, zm286.2.2.2.1, zc286, 0, ys429.2.2.2.1, [], [])
theorem yw429 : ywf ys429.2.2.1 = true := by decide +kernel
theorem yk429 : yver yx429 ys429.2.2.1 4000 = true := by decide +kernel
theorem yt429 {E : zHp → Prop} (h : yEF E yFP) : yTs E 3 ys429 := yver_s (x := yx429) h (yal_c (yt428 h) (by decide) yw428 (yal_n)) yg286 yk429
def ys430 : ySp := (282, 2, (0, [], [], [], [(0, (2, yc 1006, yc 0)), (1, (0, yc 0, yc 0))], []), [(0, [], [], [], [], [(0, yc 97, yc 0)])], [])
def yx430 : yCx := ([ys426, ys429], ys430.2.2.2.2, yFP, zm282.2.2.1, zm282.2.2.2.1, zc282, 0, ys430.2.2.2.1, [], [])
theorem yw430 : ywf ys430.2.2.1 = true := by decide +kernel
theorem yk430 : yver yx430 ys430.2.2.1 4000 = true := by decide +kernel
theorem yt430 {E : zHp → Prop} (h : yEF E yFP) : yTs E 4 ys430 := yver_s (x := yx430) h (yal_c (yt426 h) (by decide) yw426 (yal_c (yt429 h) (by decide) yw429 (yal_n))) yg282 yk430
def ys431 : ySp := (293, 3, (0, [], [], [], [(0, (0, yc 1, yc 0)), (1, (0, yc 7, yc 0)), (2, (7, yc 0, yc 0))], []), [(0, [], [], [], [], [(0, yc 1, yc 0)])], [])
def yx431 : yCx := ([], ys431.2.2.2.2, yFP, zm293.2.2.1, zm293.2.2.2.1, zc293, 0, ys431.2.2.2.1, [], [])
theorem yw431 : ywf ys431.2.2.1 = true := by decide +kernel
theorem yk431 : yver yx431 ys431.2.2.1 4000 = true := by decide +kernel
theorem yt431 {E : zHp → Prop} (h : yEF E yFP) : yTs E 1 ys431 := yver_s (x := yx431) h (yal_n) yg293 yk431
def ys432 : ySp := (285, 2, (0, [], [], [], [(0, (0, yc 1, yc 0)), (1, (0, yc 7, yc 0))], []), [(0, [], [], [], [], [])], [])
def yx432 : yCx := ([ys431], ys432.2.2.2.2, yFP, zm285.2.2.1, zm285.2.2.2.1, zc285, 0, ys432.2.2.2.1, [], [])
theorem yw432 : ywf ys432.2.2.1 = true := by decide +kernel
theorem yk432 : yver yx432 ys432.2.2.1 4000 = true := by decide +kernel
theorem yt432 {E : zHp → Prop} (h : yEF E yFP) : yTs E 2 ys432 := yver_s (x := yx432) h (yal_c (yt431 h) (by decide) yw431 (yal_n)) yg285 yk432
def ys433 : ySp := (286, 2, (0, [], [], [], [(0, (2, yc 1025, yc 0)), (1, (0, yc 1, yc 0))], []), [(0, [], [], [], [], [(0, yc 110, yc 0)])], [])
def yx433 : yCx := ([ys432], ys433.2.2.2.2, yFP, zm286.2.2.1, zm286.2.2.2.1, zc286, 0, ys433.2.2.2.1, [], [])
theorem yw433 : ywf ys433.2.2.1 = true := by decide +kernel
theorem yk433 : yver yx433 ys433.2.2.1 4000 = true := by decide +kernel
theorem yt433 {E : zHp → Prop} (h : yEF E yFP) : yTs E 3 ys433 := yver_s (x := yx433) h (yal_c (yt432 h) (by decide) yw432 (yal_n)) yg286 yk433
def ys434 : ySp := (282, 2, (0, [], [], [], [(0, (2, yc 1006, yc 0)), (1, (0, yc 1, yc 0))], []), [(0, [], [], [], [], [(0, yc 110, yc 0)])], [])
def yx434 : yCx := ([ys426, ys433], ys434.2.2.2.2, yFP, zm282.2.2.1, zm282.2.2.2.1, zc282, 0, ys434.2.2.2.1, [], [])
theorem yw434 : ywf ys434.2.2.1 = true := by decide +kernel
theorem yk434 : yver yx434 ys434.2.2.1 4000 = true := by decide +kernel
theorem yt434 {E : zHp → Prop} (h : yEF E yFP) : yTs E 4 ys434 := yver_s (x := yx434) h (yal_c (yt426 h) (by decide) yw426 (yal_c (yt433 h) (by decide) yw433 (yal_n))) yg282 yk434
def ys435 : ySp := (293, 3, (0, [], [], [], [(0, (0, yc 2, yc 0)), (1, (0, yc 7, yc 0)), (2, (7, yc 0, yc 0))], []), [(0, [], [], [], [], [(0, yc 2, yc 0)])], [])
def yx435 : yCx := ([], ys435.2.2.2.2, yFP, zm293.2.2.1, zm293.2.2.2.1, zc293, 0, ys435.2.2.2.1, [], [])
theorem yw435 : ywf ys435.2.2.1 = true := by decide +kernel
theorem yk435 : yver yx435 ys435.2.2.1 4000 = true := by decide +kernel
theorem yt435 {E : zHp → Prop} (h : yEF E yFP) : yTs E 1 ys435 := yver_s (x := yx435) h (yal_n) yg293 yk435
def ys436 : ySp := (285, 2, (0, [], [], [], [(0, (0, yc 2, yc 0)), (1, (0, yc 7, yc 0))], []), [(0, [], [], [], [], [])], [])
def yx436 : yCx := ([ys435], ys436.2.2.2.2, yFP, zm285.2.2.1, zm285.2.2.2.1, zc285, 0, ys436.2.2.2.1, [], [])
theorem yw436 : ywf ys436.2.2.1 = true := by decide +kernel
theorem yk436 : yver yx436 ys436.2.2.1 4000 = true := by decide +kernel
theorem yt436 {E : zHp → Prop} (h : yEF E yFP) : yTs E 2 ys436 := yver_s (x := yx436) h (yal_c (yt435 h) (by decide) yw435 (yal_n)) yg285 yk436
def ys437 : ySp := (286, 2, (0, [], [], [], [(0, (2, yc 1025, yc 0)), (1, (0, yc 2, yc 0))], []), [(0, [], [], [], [], [(0, yc 100, yc 0)])], [])
def yx437 : yCx := ([ys436], ys437.2.2.2.2, yFP, zm286.2.2.1, zm286.2.2.2.1, zc286, 0, ys437.2.2.2.1, [], [])
theorem yw437 : ywf ys437.2.2.1 = true := by decide +kernel
theorem yk437 : yver yx437 ys437.2.2.1 4000 = true := by decide +kernel
theorem yt437 {E : zHp → Prop} (h : yEF E yFP) : yTs E 3 ys437 := yver_s (x := yx437) h (yal_c (yt436 h) (by decide) yw436 (yal_n)) yg286 yk437
def ys438 : ySp := (282, 2, (0, [], [], [], [(0, (2, yc 1006, yc 0)), (1, (0, yc 2, yc 0))], []), [(0, [], [], [], [], [(0, yc 100, yc 0)])], [])
def yx438 : yCx := ([ys426, ys437], ys438.2.2.2.2, yFP, zm282.2.2.1, zm282.2.2.2.1, zc282, 0, ys438.2.2.2.1, [], [])
theorem yw438 : ywf ys438.2.2.1 = true := by decide +kernel
theorem yk438 : yver yx438 ys438.2.2.1 4000 = true := by decide +kernel
theorem yt438 {E : zHp → Prop} (h : yEF E yFP) : yTs E 4 ys438 := yver_s (x := yx438) h (yal_c (yt426 h) (by decide) yw426 (yal_c (yt437 h) (by decide) yw437 (yal_n))) yg282 yk438
def ys439 : ySp := (293, 3, (0, [], [], [], [(0, (0, yc 3, yc 0)), (1, (0, yc 7, yc 0)), (2, (7, yc 0, yc 0))], []), [(0, [], [], [], [], [(0, yc 3, yc 0)])], [])
def yx439 : yCx := ([], ys439.2.2.2.2, yFP, zm293.2.2.1, zm293.2.2.2.1, zc293, 0, ys439.2.2.2.1, [], [])
theorem yw439 : ywf ys439.2.2.1 = true := by decide +kernel
theorem yk439 : yver yx439 ys439.2.2.1 4000 = true := by decide +kernel
theorem yt439 {E : zHp → Prop} (h : yEF E yFP) : yTs E 1 ys439 := yver_s (x := yx439) h (yal_n) yg293 yk439
def ys440 : ySp := (285, 2, (0, [], [], [], [(0, (0, yc 3, yc 0)), (1, (0, yc 7, yc 0))], []), [(0, [], [], [], [], [])], [])
def yx440 : yCx := ([ys439], ys440.2.2.2.2, yFP, zm285.2.2.1, zm285.2.2.2.1, zc285, 0, ys440.2.2.2.1, [], [])
theorem yw440 : ywf ys440.2.2.1 = true := by decide +kernel
theorem yk440 : yver yx440 ys440.2.2.1 4000 = true := by decide +kernel
theorem yt440 {E : zHp → Prop} (h : yEF E yFP) : yTs E 2 ys440 := yver_s (x := yx440) h (yal_c (yt439 h) (by decide) yw439 (yal_n)) yg285 yk440
def ys441 : ySp := (286, 2, (0, [], [], [], [(0, (2, yc 1025, yc 0)), (1, (0, yc 3, yc 0))], []), [(0, [], [], [], [], [(0, yc 32, yc 0)])], [])
def yx441 : yCx := ([ys440], ys441.2.2.2.2, yFP, zm286.2.2.1, zm286.2.2.2.1, zc286, 0, ys441.2.2.2.1, [], [])
theorem yw441 : ywf ys441.2.2.1 = true := by decide +kernel
theorem yk441 : yver yx441 ys441.2.2.1 4000 = true := by decide +kernel
theorem yt441 {E : zHp → Prop} (h : yEF E yFP) : yTs E 3 ys441 := yver_s (x := yx441) h (yal_c (yt440 h) (by decide) yw440 (yal_n)) yg286 yk441
def ys442 : ySp := (282, 2, (0, [], [], [], [(0, (2, yc 1006, yc 0)), (1, (0, yc 3, yc 0))], []), [(0, [], [], [], [], [(0, yc 32, yc 0)])], [])
def yx442 : yCx := ([ys426, ys441], ys442.2.2.2.2, yFP, zm282.2.2.1, zm282.2.2.2.1, zc282, 0, ys442.2.2.2.1, [], [])
theorem yw442 : ywf ys442.2.2.1 = true := by decide +kernel
theorem yk442 : yver yx442 ys442.2.2.1 4000 = true := by decide +kernel
theorem yt442 {E : zHp → Prop} (h : yEF E yFP) : yTs E 4 ys442 := yver_s (x := yx442) h (yal_c (yt426 h) (by decide) yw426 (yal_c (yt441 h) (by decide) yw441 (yal_n))) yg282 yk442
def ys443 : ySp := (293, 3, (0, [], [], [], [(0, (0, yc 4, yc 0)), (1, (0, yc 7, yc 0)), (2, (7, yc 0, yc 0))], []), [(0, [], [], [], [], [(0, yc 4, yc 0)])], [])
def yx443 : yCx := ([], ys443.2.2.2.2, yFP, zm293.2.2.1, zm293.2.2.2.1, zc293, 0, ys443.2.2.2.1, [], [])
theorem yw443 : ywf ys443.2.2.1 = true := by decide +kernel
theorem yk443 : yver yx443 ys443.2.2.1 4000 = true := by decide +kernel
theorem yt443 {E : zHp → Prop} (h : yEF E yFP) : yTs E 1 ys443 := yver_s (x := yx443) h (yal_n) yg293 yk443
def ys444 : ySp := (285, 2, (0, [], [], [], [(0, (0, yc 4, yc 0)), (1, (0, yc 7, yc 0))], []), [(0, [], [], [], [], [])], [])
def yx444 : yCx := ([ys443], ys444.2.2.2.2, yFP, zm285.2.2.1, zm285.2.2.2.1, zc285, 0, ys444.2.2.2.1, [], [])
theorem yw444 : ywf ys444.2.2.1 = true := by decide +kernel
theorem yk444 : yver yx444 ys444.2.2.1 4000 = true := by decide +kernel
theorem yt444 {E : zHp → Prop} (h : yEF E yFP) : yTs E 2 ys444 := yver_s (x := yx444) h (yal_c (yt443 h) (by decide) yw443 (yal_n)) yg285 yk444
def ys445 : ySp := (286, 2, (0, [], [], [], [(0, (2, yc 1025, yc 0)), (1, (0, yc 4, yc 0))], []), [(0, [], [], [], [], [(0, yc 111, yc 0)])], [])
def yx445 : yCx := ([ys444], ys445.2.2.2.2, yFP, zm286.2.2.1, zm286.2.2.2.1, zc286, 0, ys445.2.2.2.1, [], [])
theorem yw445 : ywf ys445.2.2.1 = true := by decide +kernel
theorem yk445 : yver yx445 ys445.2.2.1 4000 = true := by decide +kernel
theorem yt445 {E : zHp → Prop} (h : yEF E yFP) : yTs E 3 ys445 := yver_s (x := yx445) h (yal_c (yt444 h) (by decide) yw444 (yal_n)) yg286 yk445
def ys446 : ySp := (282, 2, (0, [], [], [], [(0, (2, yc 1006, yc 0)), (1, (0, yc 4, yc 0))], []), [(0, [], [], [], [], [(0, yc 111, yc 0)])], [])
def yx446 : yCx := ([ys426, ys445], ys446.2.2.2.2, yFP, zm282.2.2.1, zm282.2.2.2.1, zc282, 0, ys446.2.2.2.1, [], [])
theorem yw446 : ywf ys446.2.2.1 = true := by decide +kernel
theorem yk446 : yver yx446 ys446.2.2.1 4000 = true := by decide +kernel
theorem yt446 {E : zHp → Prop} (h : yEF E yFP) : yTs E 4 ys446 := yver_s (x := yx446) h (yal_c (yt426 h) (by decide) yw426 (yal_c (yt445 h) (by decide) yw445 (yal_n))) yg282 yk446
def ys447 : ySp := (293, 3, (0, [], [], [], [(0, (0, yc 5, yc 0)), (1, (0, yc 7, yc 0)), (2, (7, yc 0, yc 0))], []), [(0, [], [], [], [], [(0, yc 5, yc 0)])], [])
def yx447 : yCx := ([], ys447.2.2.2.2, yFP, zm293.2.2.1, zm293.2.2.2.1, zc293, 0, ys447.2.2.2.1, [], [])
theorem yw447 : ywf ys447.2.2.1 = true := by decide +kernel
theorem yk447 : yver yx447 ys447.2.2.1 4000 = true := by decide +kernel
theorem yt447 {E : zHp → Prop} (h : yEF E yFP) : yTs E 1 ys447 := yver_s (x := yx447) h (yal_n) yg293 yk447
def ys448 : ySp := (285, 2, (0, [], [], [], [(0, (0, yc 5, yc 0)), (1, (0, yc 7, yc 0))], []), [(0, [], [], [], [], [])], [])
def yx448 : yCx := ([ys447], ys448.2.2.2.2, yFP, zm285.2.2.1, zm285.2.2.2.1, zc285, 0, ys448.2.2.2.1, [], [])
theorem yw448 : ywf ys448.2.2.1 = true := by decide +kernel
theorem yk448 : yver yx448 ys448.2.2.1 4000 = true := by decide +kernel
theorem yt448 {E : zHp → Prop} (h : yEF E yFP) : yTs E 2 ys448 := yver_s (x := yx448) h (yal_c (yt447 h) (by decide) yw447 (yal_n)) yg285 yk448
def ys449 : ySp := (286, 2, (0, [], [], [], [(0, (2, yc 1025, yc 0)), (1, (0, yc 5, yc 0))], []), [(0, [], [], [], [], [(0, yc 114, yc 0)])], [])
def yx449 : yCx := ([ys448], ys449.2.2.2.2, yFP, zm286.2.2.1, zm286.2.2.2.1, zc286, 0, ys449.2.2.2.1, [], [])
theorem yw449 : ywf ys449.2.2.1 = true := by decide +kernel
theorem yk449 : yver yx449 ys449.2.2.1 4000 = true := by decide +kernel
theorem yt449 {E : zHp → Prop} (h : yEF E yFP) : yTs E 3 ys449 := yver_s (x := yx449) h (yal_c (yt448 h) (by decide) yw448 (yal_n)) yg286 yk449
def ys450 : ySp := (282, 2, (0, [], [], [], [(0, (2, yc 1006, yc 0)), (1, (0, yc 5, yc 0))], []), [(0, [], [], [], [], [(0, yc 114, yc 0)])], [])
def yx450 : yCx := ([ys426, ys449], ys450.2.2.2.2, yFP, zm282.2.2.1, zm282.2.2.2.1, zc282, 0, ys450.2.2.2.1, [], [])
theorem yw450 : ywf ys450.2.2.1 = true := by decide +kernel
theorem yk450 : yver yx450 ys450.2.2.1 4000 = true := by decide +kernel
theorem yt450 {E : zHp → Prop} (h : yEF E yFP) : yTs E 4 ys450 := yver_s (x := yx450) h (yal_c (yt426 h) (by decide) yw426 (yal_c (yt449 h) (by decide) yw449 (yal_n))) yg282 yk450
def ys451 : ySp := (293, 3, (0, [], [], [], [(0, (0, yc 6, yc 0)), (1, (0, yc 7, yc 0)), (2, (7, yc 0, yc 0))], []), [(0, [], [], [], [], [(0, yc 6, yc 0)])], [])
def yx451 : yCx := ([], ys451.2.2.2.2, yFP, zm293.2.2.1, zm293.2.2.2.1, zc293, 0, ys451.2.2.2.1, [], [])
theorem yw451 : ywf ys451.2.2.1 = true := by decide +kernel
theorem yk451 : yver yx451 ys451.2.2.1 4000 = true := by decide +kernel
theorem yt451 {E : zHp → Prop} (h : yEF E yFP) : yTs E 1 ys451 := yver_s (x := yx451) h (yal_n) yg293 yk451
def ys452 : ySp := (285, 2, (0, [], [], [], [(0, (0, yc 6, yc 0)), (1, (0, yc 7, yc 0))], []), [(0, [], [], [], [], [])], [])
def yx452 : yCx := ([ys451], ys452.2.2.2.2, yFP, zm285.2.2.1, zm285.2.2.2.1, zc285, 0, ys452.2.2.2.1, [], [])
theorem yw452 : ywf ys452.2.2.1 = true := by decide +kernel
theorem yk452 : yver yx452 ys452.2.2.1 4000 = true := by decide +kernel
theorem yt452 {E : zHp → Prop} (h : yEF E yFP) : yTs E 2 ys452 := yver_s (x := yx452) h (yal_c (yt451 h) (by decide) yw451 (yal_n)) yg285 yk452
def ys453 : ySp := (286, 2, (0, [], [], [], [(0, (2, yc 1025, yc 0)), (1, (0, yc 6, yc 0))], []), [(0, [], [], [], [], [(0, yc 32, yc 0)])], [])
def yx453 : yCx := ([ys452], ys453.2.2.2.2, yFP, zm286.2.2.1, zm286.2.2.2.1, zc286, 0, ys453.2.2.2.1, [], [])
theorem yw453 : ywf ys453.2.2.1 = true := by decide +kernel
theorem yk453 : yver yx453 ys453.2.2.1 4000 = true := by decide +kernel
theorem yt453 {E : zHp → Prop} (h : yEF E yFP) : yTs E 3 ys453 := yver_s (x := yx453) h (yal_c (yt452 h) (by decide) yw452 (yal_n)) yg286 yk453
def ys454 : ySp := (282, 2, (0, [], [], [], [(0, (2, yc 1006, yc 0)), (1, (0, yc 6, yc 0))], []), [(0, [], [], [], [], [(0, yc 32, yc 0)])], [])
def yx454 : yCx := ([ys426, ys453], ys454.2.2.2.2, yFP, zm282.2.2.1, zm282.2.2.2.1, zc282, 0, ys454.2.2.2.1, [], [])
theorem yw454 : ywf ys454.2.2.1 = true := by decide +kernel
theorem yk454 : yver yx454 ys454.2.2.1 4000 = true := by decide +kernel
theorem yt454 {E : zHp → Prop} (h : yEF E yFP) : yTs E 4 ys454 := yver_s (x := yx454) h (yal_c (yt426 h) (by decide) yw426 (yal_c (yt453 h) (by decide) yw453 (yal_n))) yg282 yk454
def ys455 : ySp := (59, 6, (1, [(0, 0, 2147483647)], [], [(yc 2, yc 0, (2, yc 1, yc 0)), (yc 2, yc 4, (0, (1, 0, 0), yc 0))], [(0, (2, yc 2, yc 0)), (1, (2, yc 1006, yc 0))], []), [(3, [(1, 0, 400), (2, 0, 400)], [], [(yc 2, yc 0, (2, yc 1, yc 0)), (yc 2, yc 4, (0, (1, 0, 0), yc 0)), (yc 2, yc 2, (0, (1, 1, 0), yc 0)), (yc 2, yc 1, (0, (1, 2, 0), yc 0))], [], [(0, yc (-1), yc 0)]), (3, [(1, 0, 400), (2, 0, 400)], [], [(yc 2, yc 0, (2, yc 1, yc 0)), (yc 2, yc 4, (0, (1, 0, 0), yc 0)), (yc 2, yc 1, (0, (1, 1, 0), yc 0)), (yc 2, yc 2, (0, (1, 2, 0), yc 0))], [], [(0, yc 0, yc 0)]), (3, [(1, 0, 400), (2, 0, 400)], [], [(yc 2, yc 0, (2, yc 1, yc 0)), (yc 2, yc 4, (0, (1, 0, 0), yc 0)), (yc 2, yc 1, (0, (1, 1, 0), yc 0)), (yc 2, yc 2, (0, (1, 2, 0), yc 0))], [], [(0, yc 1, yc 0)])], [(2, 2, 2), (2, 2, 3)])
def yq455_0 : yCu := (18, (4, [(0, 0, 2147483647), (1, 0, 400), (2, 0, 400), (3, 0, 400)], [], [(yc 2, yc 0, (2, yc 1, yc 0)), (yc 2, yc 4, (0, (1, 0, 0), yc 0)), (yc 2, yc 2, (0, (1, 2, 0), yc 0)), (yc 2, yc 1, (0, (1, 3, 0), yc 0)), (yc 2, yc 3, (0, (1, 2, 0), yc 0))], [(0, (2, yc 2, yc 0)), (1, (2, yc 1006, yc 0)), (2, (0, (1, 1, 0), yc 0))], []), ([((-1), 1)], 408))
def yq455_1 : yCu := (55, (4, [(0, 0, 2147483647), (1, 0, 400), (2, 0, 400), (3, 0, 400)], [], [(yc 2, yc 0, (2, yc 1, yc 0)), (yc 2, yc 4, (0, (1, 0, 0), yc 0)), (yc 2, yc 2, (0, (1, 2, 0), yc 0)), (yc 2, yc 1, (0, (1, 3, 0), yc 0)), (yc 2, yc 3, (0, (1, 2, 0), yc 0))], [(0, (2, yc 2, yc 0)), (1, (2, yc 1006, yc 0)), (2, (0, (1, 1, 0), yc 0)), (3, (0, yc 0, yc 0)), (4, (0, (1, 2, 0), yc 0)), (5, (0, yc 0, yc 0))], []), ([], 7))
def yq455_2 : yCu := (55, (5, [(0, 0, 2147483647), (1, 0, 400), (2, (-1), 400), (3, 0, 400), (4, 0, 400)], [([(1, 1), ((-1), 2)], 0)], [(yc 2, yc 0, (2, yc 1, yc 0)), (yc 2, yc 4, (0, (1, 0, 0), yc 0)), (yc 2, yc 2, (0, (1, 3, 0), yc 0)), (yc 2, yc 1, (0, (1, 4, 0), yc 0)), (yc 2, yc 3, (0, (1, 3, 0), yc 0))], [(0, (2, yc 2, yc 0)), (1, (2, yc 1006, yc 0)), (2, (0, (1, 1, 0), yc 0)), (3, (0, yc 0, yc 0)), (4, (0, (1, 2, 0), yc 0)), (5, (0, yc 1, yc 0))], []), ([], 6))
def yq455_3 : yCu := (55, (5, [(0, 0, 2147483647), (1, 0, 400), (2, (-1), 400), (3, 0, 400), (4, 0, 400)], [([(1, 1), ((-1), 2)], 1), ([(1, 1), ((-1), 2)], 0)], [(yc 2, yc 0, (2, yc 1, yc 0)), (yc 2, yc 4, (0, (1, 0, 0), yc 0)), (yc 2, yc 2, (0, (1, 3, 0), yc 0)), (yc 2, yc 1, (0, (1, 4, 0), yc 0)), (yc 2, yc 3, (0, (1, 3, 0), yc 0))], [(0, (2, yc 2, yc 0)), (1, (2, yc 1006, yc 0)), (2, (0, (1, 1, 0), yc 0)), (3, (0, yc 0, yc 0)), (4, (0, (1, 2, 0), yc 0)), (5, (0, yc 2, yc 0))], []), ([], 5))
def yq455_4 : yCu := (55, (5, [(0, 0, 2147483647), (1, 0, 400), (2, (-1), 400), (3, 0, 400), (4, 0, 400)], [([(1, 1), ((-1), 2)], 2), ([(1, 1), ((-1), 2)], 1), ([(1, 1), ((-1), 2)], 0)], [(yc 2, yc 0, (2, yc 1, yc 0)), (yc 2, yc 4, (0, (1, 0, 0), yc 0)), (yc 2, yc 2, (0, (1, 3, 0), yc 0)), (yc 2, yc 1, (0, (1, 4, 0), yc 0)), (yc 2, yc 3, (0, (1, 3, 0), yc 0))], [(0, (2, yc 2, yc 0)), (1, (2, yc 1006, yc 0)), (2, (0, (1, 1, 0), yc 0)), (3, (0, yc 0, yc 0)), (4, (0, (1, 2, 0), yc 0)), (5, (0, yc 3, yc 0))], []), ([], 4))
def yq455_5 : yCu := (55, (4, [(0, 0, 2147483647), (1, 0, 400), (2, 0, 400), (3, 0, 400)], [], [(yc 2, yc 0, (2, yc 1, yc 0)), (yc 2, yc 4, (0, (1, 0, 0), yc 0)), (yc 2, yc 2, (0, (1, 2, 0), yc 0)), (yc 2, yc 1, (0, (1, 3, 0), yc 0)), (yc 2, yc 3, (0, (1, 2, 0), yc 0))], [(0, (2, yc 2, yc 0)), (1, (2, yc 1006, yc 0)), (2, (0, (1, 1, 0), yc 0)), (3, (0, yc 1, yc 0)), (4, (0, (1, 2, 0), yc 0)), (5, (0, yc 4, yc 0))], []), ([], 3))
def yq455_6 : yCu := (55, (5, [(0, 0, 2147483647), (1, 0, 400), (2, (-1), 400), (3, 0, 400), (4, 0, 400)], [([(1, 1), ((-1), 2)], 0)], [(yc 2, yc 0, (2, yc 1, yc 0)), (yc 2, yc 4, (0, (1, 0, 0), yc 0)), (yc 2, yc 2, (0, (1, 3, 0), yc 0)), (yc 2, yc 1, (0, (1, 4, 0), yc 0)), (yc 2, yc 3, (0, (1, 3, 0), yc 0))], [(0, (2, yc 2, yc 0)), (1, (2, yc 1006, yc 0)), (2, (0, (1, 1, 0), yc 0)), (3, (0, yc 1, yc 0)), (4, (0, (1, 2, 0), yc 0)), (5, (0, yc 5, yc 0))], []), ([], 2))
def yq455_7 : yCu := (55, (5, [(0, 0, 2147483647), (1, 0, 400), (2, (-1), 400), (3, 0, 400), (4, 0, 400)], [([(1, 1), ((-1), 2)], 1), ([(1, 1), ((-1), 2)], 0)], [(yc 2, yc 0, (2, yc 1, yc 0)), (yc 2, yc 4, (0, (1, 0, 0), yc 0)), (yc 2, yc 2, (0, (1, 3, 0), yc 0)), (yc 2, yc 1, (0, (1, 4, 0), yc 0)), (yc 2, yc 3, (0, (1, 3, 0), yc 0))], [(0, (2, yc 2, yc 0)), (1, (2, yc 1006, yc 0)), (2, (0, (1, 1, 0), yc 0)), (3, (0, yc 1, yc 0)), (4, (0, (1, 2, 0), yc 0)), (5, (0, yc 6, yc 0))], []), ([], 1))
def yq455_8 : yCu := (55, (4, [(0, 0, 2147483647), (1, 0, 400), (2, 0, 400), (3, 0, 400)], [], [(yc 2, yc 0, (2, yc 1, yc 0)), (yc 2, yc 4, (0, (1, 0, 0), yc 0)), (yc 2, yc 2, (0, (1, 2, 0), yc 0)), (yc 2, yc 1, (0, (1, 3, 0), yc 0)), (yc 2, yc 3, (0, (1, 2, 0), yc 0))], [(0, (2, yc 2, yc 0)), (1, (2, yc 1006, yc 0)), (2, (0, (1, 1, 0), yc 0)), (3, (0, yc 2, yc 0)), (4, (0, (1, 2, 0), yc 0)), (5, (0, yc 7, yc 0))], []), ([], 0))
def yx455 : yCx := ([ys94, ys95, ys425, ys430, ys434, ys438, ys442, ys446, ys450, ys454], ys455.2.2.2.2, yFP, zm59.2.2.1, zm59.2.2.2.1, zc59, 1, ys455.2.2.2.1, [yq455_0, yq455_1, yq455_2, yq455_3, yq455_4, yq455_5, yq455_6, yq455_7, yq455_8], [])
theorem yw455 : ywf ys455.2.2.1 = true := by decide +kernel
theorem yk455_e : yver0 yx455 ys455.2.2.1 4000 = true := by decide +kernel
theorem yk455_0 : ycc yx455 4000 yq455_0 = true := by decide +kernel
theorem yk455_1 : ycc yx455 4000 yq455_1 = true := by decide +kernel
theorem yk455_2 : ycc yx455 4000 yq455_2 = true := by decide +kernel
theorem yk455_3 : ycc yx455 4000 yq455_3 = true := by decide +kernel
theorem yk455_4 : ycc yx455 4000 yq455_4 = true := by decide +kernel
theorem yk455_5 : ycc yx455 4000 yq455_5 = true := by decide +kernel
theorem yk455_6 : ycc yx455 4000 yq455_6 = true := by decide +kernel
theorem yk455_7 : ycc yx455 4000 yq455_7 = true := by decide +kernel
theorem yk455_8 : ycc yx455 4000 yq455_8 = true := by decide +kernel
theorem yk455 : yver yx455 ys455.2.2.1 4000 = true := yver_join yk455_e (ycc_c yk455_0 (ycc_c yk455_1 (ycc_c yk455_2 (ycc_c yk455_3 (ycc_c yk455_4 (ycc_c yk455_5 (ycc_c yk455_6 (ycc_c yk455_7 (ycc_c yk455_8 (ycc_n))))))))))
theorem yt455 {E : zHp → Prop} (h : yEF E yFP) : yTs E 5 ys455 := yver_s (x := yx455) h (yal_c (yt94 h) (by decide) yw94 (yal_c (yt95 h) (by decide) yw95 (yal_c (yt425 h) (by decide) yw425 (yal_c (yt430 h) (by decide) yw430 (yal_c (yt434 h) (by decide) yw434 (yal_c (yt438 h) (by decide) yw438 (yal_c (yt442 h) (by decide) yw442 (yal_c (yt446 h) (by decide) yw446 (yal_c (yt450 h) (by decide) yw450 (yal_c (yt454 h) (by decide) yw454 (yal_n))))))))))) yg59 yk455
def ys456 : ySp := (26, 1, (1, [(0, (-2147483648), 2147483647)], [], [], [(0, (0, (1, 0, 0), yc 0))], []), [(2, [(1, (-2147483648), 11)], [], [], [], [(0, (1, 1, 0), yc 0)])], [])
def yx456 : yCx := ([], ys456.2.2.2.2, yFP, zm26.2.2.1, zm26.2.2.2.1, zc26, 1, ys456.2.2.2.1, [], [])
theorem yw456 : ywf ys456.2.2.1 = true := by decide +kernel
theorem yk456 : yver yx456 ys456.2.2.1 4000 = true := by decide +kernel
theorem yt456 {E : zHp → Prop} (h : yEF E yFP) : yTs E 1 ys456 := yver_s (x := yx456) h (yal_n) yg26 yk456
def ys457 : ySp := (46, 2, (1, [(0, 0, 1)], [], [], [(0, (2, yc 6, yc 0)), (1, (0, (1, 0, 0), yc 0))], []), [(1, [], [], [], [], [])], [(6, 6, 1), (6, 6, 3), (6, 6, 6), (7, 7, 1000)])
def yx457 : yCx := ([ys456, ys151], ys457.2.2.2.2, yFP, zm46.2.2.1, zm46.2.2.2.1, zc46, 1, ys457.2.2.2.1, [(0, (2, [(0, 0, 1), (1, 0, 400)], [], [(yc 6, yc 3, (0, (1, 1, 0), yc 0))], [(0, (2, yc 6, yc 0)), (1, (0, (1, 0, 0), yc 0))], []), ([(1, 1)], 1))], [])
theorem yw457 : ywf ys457.2.2.1 = true := by decide +kernel
theorem yk457 : yver yx457 ys457.2.2.1 4000 = true := by decide +kernel
theorem yt457 {E : zHp → Prop} (h : yEF E yFP) : yTs E 2 ys457 := yver_s (x := yx457) h (yal_c (yt456 h) (by decide) yw456 (yal_c (yt151 h) (by decide) yw151 (yal_n))) yg46 yk457
def ys458 : ySp := (45, 2, (1, [(0, 0, 1)], [], [], [(0, (2, yc 6, yc 0)), (1, (0, (1, 0, 0), yc 0))], []), [(1, [], [], [], [], [])], [(6, 6, 1), (6, 6, 3), (6, 6, 6), (7, 7, 1000), (8, 8, 1000)])
def yx458 : yCx := ([ys457, ys125], ys458.2.2.2.2, yFP, zm45.2.2.1, zm45.2.2.2.1, zc45, 1, ys458.2.2.2.1, [], [])
theorem yw458 : ywf ys458.2.2.1 = true := by decide +kernel
theorem yk458 : yver yx458 ys458.2.2.1 4000 = true := by decide +kernel
theorem yt458 {E : zHp → Prop} (h : yEF E yFP) : yTs E 3 ys458 := yver_s (x := yx458) h (yal_c (yt457 h) (by decide) yw457 (yal_c (yt125 h) (by decide) yw125 (yal_n))) yg45 yk458
def ys459 : ySp := (46, 2, (1, [(0, 0, 3)], [], [], [(0, (2, yc 6, yc 0)), (1, (0, (1, 0, 0), yc 0))], []), [(1, [], [], [], [], [])], [(6, 6, 1), (6, 6, 3), (6, 6, 6), (7, 7, 1000)])
def yx459 : yCx := ([ys456, ys151], ys459.2.2.2.2, yFP, zm46.2.2.1, zm46.2.2.2.1, zc46, 1, ys459.2.2.2.1, [(0, (2, [(0, 0, 3), (1, 0, 400)], [], [(yc 6, yc 3, (0, (1, 1, 0), yc 0))], [(0, (2, yc 6, yc 0)), (1, (0, (1, 0, 0), yc 0))], []), ([(1, 1)], 1))], [])
theorem yw459 : ywf ys459.2.2.1 = true := by decide +kernel
theorem yk459 : yver yx459 ys459.2.2.1 4000 = true := by decide +kernel
theorem yt459 {E : zHp → Prop} (h : yEF E yFP) : yTs E 2 ys459 := yver_s (x := yx459) h (yal_c (yt456 h) (by decide) yw456 (yal_c (yt151 h) (by decide) yw151 (yal_n))) yg46 yk459
def ys460 : ySp := (45, 2, (1, [(0, 0, 3)], [], [], [(0, (2, yc 6, yc 0)), (1, (0, (1, 0, 0), yc 0))], []), [(1, [], [], [], [], [])], [(6, 6, 1), (6, 6, 3), (6, 6, 6), (7, 7, 1000), (8, 8, 1000)])
def yx460 : yCx := ([ys459, ys146], ys460.2.2.2.2, yFP, zm45.2.2.1, zm45.2.2.2.1, zc45, 1, ys460.2.2.2.1, [], [])
theorem yw460 : ywf ys460.2.2.1 = true := by decide +kernel
theorem yk460 : yver yx460 ys460.2.2.1 4000 = true := by decide +kernel
theorem yt460 {E : zHp → Prop} (h : yEF E yFP) : yTs E 3 ys460 := yver_s (x := yx460) h (yal_c (yt459 h) (by decide) yw459 (yal_c (yt146 h) (by decide) yw146 (yal_n))) yg45 yk460
def ys461 : ySp := (51, 1, (1, [(0, 0, 2147483647)], [], [(yc 2, yc 4, (0, (1, 0, 0), yc 0))], [(0, (2, yc 2, yc 0))], []), [(1, [(0, 1, 2147483647)], [], [(yc 2, yc 4, (0, (1, 0, 0), yc 0))], [], [(0, yc 0, yc 0)]), (1, [(0, 0, 0)], [], [(yc 2, yc 4, (0, yc 0, yc 0))], [], [(0, yc 1, yc 0)])], [])
def yx461 : yCx := ([], ys461.2.2.2.2, yFP, zm51.2.2.1, zm51.2.2.2.1, zc51, 1, ys461.2.2.2.1, [], [])
theorem yw461 : ywf ys461.2.2.1 = true := by decide +kernel
theorem yk461 : yver yx461 ys461.2.2.1 4000 = true := by decide +kernel
theorem yt461 {E : zHp → Prop} (h : yEF E yFP) : yTs E 1 ys461 := yver_s (x := yx461) h (yal_n) yg51 yk461
def ys462 : ySp := (61, 2, (1, [(0, 0, 2147483647)], [], [(yc 2, yc 0, (2, yc 1, yc 0)), (yc 2, yc 4, (0, (1, 0, 0), yc 0))], [(0, (2, yc 2, yc 0))], []), [(3, [(0, 0, 0), (1, 0, 400), (2, 0, 400)], [([(1, 1), ((-1), 2)], 0)], [(yc 2, yc 0, (2, yc 1, yc 0)), (yc 2, yc 4, (0, yc 0, yc 0)), (yc 2, yc 2, (0, (1, 1, 0), yc 0)), (yc 2, yc 1, (0, (1, 2, 0), yc 0))], [], [(0, yc 0, yc 0)]), (4, [(1, 0, 400), (2, 0, 400), (3, 1, 2147483647)], [], [(yc 2, yc 0, (2, yc 1, yc 0)), (yc 2, yc 2, (0, (1, 1, 0), yc 0)), (yc 2, yc 1, (0, (1, 2, 0), yc 0)), (yc 2, yc 4, (0, (1, 3, 0), yc 0))], [], [(0, yc 0, yc 0)]), (3, [(0, 0, 0), (1, 1, 400), (2, 1, 400)], [([(1, 1), ((-1), 2)], 0)], [(yc 2, yc 0, (2, yc 1, yc 0)), (yc 2, yc 4, (0, yc 0, yc 0)), (yc 2, yc 1, (0, (1, 1, 0), yc 0)), (yc 2, yc 2, (0, (1, 2, 0), yc 0))], [], [(0, yc 1, yc 0)])], [(2, 2, 2), (2, 2, 4)])
def yx462 : yCx := ([ys461, ys120, ys94, ys124], ys462.2.2.2.2, yFP, zm61.2.2.1, zm61.2.2.2.1, zc61, 1, ys462.2.2.2.1, [], [])
theorem yw462 : ywf ys462.2.2.1 = true := by decide +kernel
theorem yk462 : yver yx462 ys462.2.2.1 4000 = true := by decide +kernel
theorem yt462 {E : zHp → Prop} (h : yEF E yFP) : yTs E 2 ys462 := yver_s (x := yx462) h (yal_c (yt461 h) (by decide) yw461 (yal_c (yt120 h) (by decide) yw120 (yal_c (yt94 h) (by decide) yw94 (yal_c (yt124 h) (by decide) yw124 (yal_n))))) yg61 yk462
def ys463 : ySp := (44, 3, (2, [(0, 0, 63), (1, 0, 2147483647)], [], [(yc 2, yc 0, (2, yc 1, yc 0)), (yc 2, yc 4, (0, (1, 1, 0), yc 0))], [(0, (2, yc 6, yc 0)), (1, (2, yc 2, yc 0)), (2, (0, (1, 0, 0), yc 0))], []), [(5, [(2, 0, 2147483647), (3, 0, 400), (4, 0, 400)], [], [(yc 2, yc 0, (2, yc 1, yc 0)), (yc 2, yc 4, (0, (1, 2, 0), yc 0)), (yc 2, yc 1, (0, (1, 3, 0), yc 0)), (yc 2, yc 2, (0, (1, 4, 0), yc 0))], [], [])], [(2, 2, 2), (2, 2, 4), (6, 6, 1), (6, 6, 3), (6, 6, 6), (6, 6, 8), (7, 7, 1000)])
def yx463 : yCx := ([ys457, ys149, ys462], ys463.2.2.2.2, yFP, zm44.2.2.1, zm44.2.2.2.1, zc44, 2, ys463.2.2.2.1, [], [])
theorem yw463 : ywf ys463.2.2.1 = true := by decide +kernel
theorem yk463 : yver yx463 ys463.2.2.1 4000 = true := by decide +kernel
theorem yt463 {E : zHp → Prop} (h : yEF E yFP) : yTs E 3 ys463 := yver_s (x := yx463) h (yal_c (yt457 h) (by decide) yw457 (yal_c (yt149 h) (by decide) yw149 (yal_c (yt462 h) (by decide) yw462 (yal_n)))) yg44 yk463
def ys464 : ySp := (43, 1, (0, [], [], [], [(0, (2, yc 6, yc 0))], []), [(0, [], [], [], [], [])], [(6, 6, 1), (6, 6, 3), (6, 6, 6), (6, 6, 7), (6, 6, 9), (7, 7, 1000)])
def yx464 : yCx := ([ys457], ys464.2.2.2.2, yFP, zm43.2.2.1, zm43.2.2.2.1, zc43, 0, ys464.2.2.2.1, [], [])
theorem yw464 : ywf ys464.2.2.1 = true := by decide +kernel
theorem yk464 : yver yx464 ys464.2.2.1 4000 = true := by decide +kernel
theorem yt464 {E : zHp → Prop} (h : yEF E yFP) : yTs E 3 ys464 := yver_s (x := yx464) h (yal_c (yt457 h) (by decide) yw457 (yal_n)) yg43 yk464
def ys465 : ySp := (42, 3, (1, [(0, 0, 2147483647)], [], [(yc 2, yc 0, (2, yc 1, yc 0)), (yc 2, yc 4, (0, (1, 0, 0), yc 0))], [(0, (2, yc 6, yc 0)), (1, (2, yc 2, yc 0))], []), [(4, [(1, 0, 2147483647), (2, 0, 400), (3, 0, 400)], [], [(yc 2, yc 0, (2, yc 1, yc 0)), (yc 2, yc 4, (0, (1, 1, 0), yc 0)), (yc 2, yc 1, (0, (1, 2, 0), yc 0)), (yc 2, yc 2, (0, (1, 3, 0), yc 0))], [], [])], [(2, 2, 2), (2, 2, 3), (2, 2, 4), (6, 6, 1), (6, 6, 3), (6, 6, 6), (6, 6, 7), (6, 6, 8), (6, 6, 9), (7, 7, 1000), (8, 8, 1000)])
def yx465 : yCx := ([ys464, ys463, ys458, ys460, ys120, ys94, ys124, ys455], ys465.2.2.2.2, yFP, zm42.2.2.1, zm42.2.2.2.1, zc42, 1, ys465.2.2.2.1, [], [])
theorem yw465 : ywf ys465.2.2.1 = true := by decide +kernel
theorem yk465 : yver yx465 ys465.2.2.1 4000 = true := by decide +kernel
theorem yt465 {E : zHp → Prop} (h : yEF E yFP) : yTs E 6 ys465 := yver_s (x := yx465) h (yal_c (yt464 h) (by decide) yw464 (yal_c (yt463 h) (by decide) yw463 (yal_c (yt458 h) (by decide) yw458 (yal_c (yt460 h) (by decide) yw460 (yal_c (yt120 h) (by decide) yw120 (yal_c (yt94 h) (by decide) yw94 (yal_c (yt124 h) (by decide) yw124 (yal_c (yt455 h) (by decide) yw455 (yal_n))))))))) yg42 yk465
def ys466 : ySp := (39, 1, (1, [(0, 0, 255)], [], [], [(0, (0, (1, 0, 0), yc 0))], []), [(1, [], [], [], [], [(0, yc (-1), yc 0)]), (2, [(0, 37, 47), (1, 9, 13)], [], [], [], [(0, (1, 1, 0), yc 0)])], [])
def yx466 : yCx := ([], ys466.2.2.2.2, yFP, zm39.2.2.1, zm39.2.2.2.1, zc39, 1, ys466.2.2.2.1, [], [])
theorem yw466 : ywf ys466.2.2.1 = true := by decide +kernel
theorem yk466 : yver yx466 ys466.2.2.1 4000 = true := by decide +kernel
theorem yt466 {E : zHp → Prop} (h : yEF E yFP) : yTs E 1 ys466 := yver_s (x := yx466) h (yal_n) yg39 yk466
def ys467 : ySp := (46, 2, (1, [(0, 0, 63)], [], [], [(0, (2, yc 6, yc 0)), (1, (0, (1, 0, 0), yc 0))], []), [(1, [], [], [], [], [])], [(6, 6, 1), (6, 6, 3), (6, 6, 6), (7, 7, 1000)])
def yx467 : yCx := ([ys456, ys151], ys467.2.2.2.2, yFP, zm46.2.2.1, zm46.2.2.2.1, zc46, 1, ys467.2.2.2.1, [(0, (2, [(0, 0, 63), (1, 0, 400)], [], [(yc 6, yc 3, (0, (1, 1, 0), yc 0))], [(0, (2, yc 6, yc 0)), (1, (0, (1, 0, 0), yc 0))], []), ([(1, 1)], 1))], [])
theorem yw467 : ywf ys467.2.2.1 = true := by decide +kernel
theorem yk467 : yver yx467 ys467.2.2.1 4000 = true := by decide +kernel
theorem yt467 {E : zHp → Prop} (h : yEF E yFP) : yTs E 2 ys467 := yver_s (x := yx467) h (yal_c (yt456 h) (by decide) yw456 (yal_c (yt151 h) (by decide) yw151 (yal_n))) yg46 yk467
def ys468 : ySp := (47, 2, (1, [(0, 0, 63)], [], [], [(0, (2, yc 6, yc 0)), (1, (0, (1, 0, 0), yc 0))], []), [(1, [], [], [], [], [])], [(6, 6, 3), (8, 8, 1000)])
def yx468 : yCx := ([], ys468.2.2.2.2, yFP, zm47.2.2.1, zm47.2.2.2.1, zc47, 1, ys468.2.2.2.1, [], [])
theorem yw468 : ywf ys468.2.2.1 = true := by decide +kernel
theorem yk468 : yver yx468 ys468.2.2.1 4000 = true := by decide +kernel
theorem yt468 {E : zHp → Prop} (h : yEF E yFP) : yTs E 1 ys468 := yver_s (x := yx468) h (yal_n) yg47 yk468
def ys469 : ySp := (45, 2, (1, [(0, 0, 63)], [], [], [(0, (2, yc 6, yc 0)), (1, (0, (1, 0, 0), yc 0))], []), [(1, [], [], [], [], [])], [(6, 6, 1), (6, 6, 3), (6, 6, 6), (7, 7, 1000), (8, 8, 1000)])
def yx469 : yCx := ([ys467, ys468], ys469.2.2.2.2, yFP, zm45.2.2.1, zm45.2.2.2.1, zc45, 1, ys469.2.2.2.1, [], [])
theorem yw469 : ywf ys469.2.2.1 = true := by decide +kernel
theorem yk469 : yver yx469 ys469.2.2.1 4000 = true := by decide +kernel
theorem yt469 {E : zHp → Prop} (h : yEF E yFP) : yTs E 3 ys469 := yver_s (x := yx469) h (yal_c (yt467 h) (by decide) yw467 (yal_c (yt468 h) (by decide) yw468 (yal_n))) yg45 yk469
def ys470 : ySp := (283, 1, (0, [], [], [], [(0, (2, yc 1005, yc 0))], []), [(0, [], [], [], [], [(0, yc 0, yc 0)])], [])
def yx470 : yCx := ([], ys470.2.2.2.2, yFP, zm283.2.2.1, zm283.2.2.2.1, zc283, 0, ys470.2.2.2.1, [], [])
theorem yw470 : ywf ys470.2.2.1 = true := by decide +kernel
theorem yk470 : yver yx470 ys470.2.2.1 4000 = true := by decide +kernel
theorem yt470 {E : zHp → Prop} (h : yEF E yFP) : yTs E 1 ys470 := yver_s (x := yx470) h (yal_n) yg283 yk470
def ys471 : ySp := (281, 1, (0, [], [], [], [(0, (2, yc 1005, yc 0))], []), [(0, [], [], [], [], [(0, yc 3, yc 0)])], [])
def yx471 : yCx := ([ys470], ys471.2.2.2.2, yFP, zm281.2.2.1, zm281.2.2.2.1, zc281, 0, ys471.2.2.2.1, [], [])
theorem yw471 : ywf ys471.2.2.1 = true := by decide +kernel
theorem yk471 : yver yx471 ys471.2.2.1 4000 = true := by decide +kernel
theorem yt471 {E : zHp → Prop} (h : yEF E yFP) : yTs E 2 ys471 := yver_s (x := yx471) h (yal_c (yt470 h) (by decide) yw470 (yal_n)) yg281 yk471
def ys472 : ySp := (284, 1, (0, [], [], [], [(0, (2, yc 1005, yc 0))], []), [(0, [], [], [], [], [(0, yc 1, yc 0)])], [])
def yx472 : yCx := ([], ys472.2.2.2.2, yFP, zm284.2.2.1, zm284.2.2.2.1, zc284, 0, ys472.2.2.2.1, [], [])
theorem yw472 : ywf ys472.2.2.1 = true := by decide +kernel
theorem yk472 : yver yx472 ys472.2.2.1 4000 = true := by decide +kernel
theorem yt472 {E : zHp → Prop} (h : yEF E yFP) : yTs E 1 ys472 := yver_s (x := yx472) h (yal_n) yg284 yk472
def ys473 : ySp := (293, 3, (0, [], [], [], [(0, (0, yc 0, yc 0)), (1, (0, yc 3, yc 0)), (2, (7, yc 0, yc 0))], []), [(0, [], [], [], [], [(0, yc 0, yc 0)])], [])
def yx473 : yCx := ([], ys473.2.2.2.2, yFP, zm293.2.2.1, zm293.2.2.2.1, zc293, 0, ys473.2.2.2.1, [], [])
theorem yw473 : ywf ys473.2.2.1 = true := by decide +kernel
theorem yk473 : yver yx473 ys473.2.2.1 4000 = true := by decide +kernel
theorem yt473 {E : zHp → Prop} (h : yEF E yFP) : yTs E 1 ys473 := yver_s (x := yx473) h (yal_n) yg293 yk473
def ys474 : ySp := (285, 2, (0, [], [], [], [(0, (0, yc 0, yc 0)), (1, (0, yc 3, yc 0))], []), [(0, [], [], [], [], [])], [])
def yx474 : yCx := ([ys473], ys474.2.2.2.2, yFP, zm285.2.2.1, zm285.2.2.2.1, zc285, 0, ys474.2.2.2.1, [], [])
theorem yw474 : ywf ys474.2.2.1 = true := by decide +kernel
theorem yk474 : yver yx474 ys474.2.2.1 4000 = true := by decide +kernel
theorem yt474 {E : zHp → Prop} (h : yEF E yFP) : yTs E 2 ys474 := yver_s (x := yx474) h (yal_c (yt473 h) (by decide) yw473 (yal_n)) yg285 yk474
def ys475 : ySp := (286, 2, (0, [], [], [], [(0, (2, yc 1024, yc 0)), (1, (0, yc 0, yc 0))], []), [(0, [], [], [], [], [(0, yc 105, yc 0)])], [])
def yx475 : yCx := ([ys474], ys475.2.2.2.2, yFP, zm286.2.2.1, zm286.2.2.2.1, zc286, 0, ys475.2.2.2.1, [], [])
theorem yw475 : ywf ys475.2.2.1 = true := by decide +kernel
theorem yk475 : yver yx475 ys475.2.2.1 4000 = true := by decide +kernel
theorem yt475 {E : zHp → Prop} (h : yEF E yFP) : yTs E 3 ys475 := yver_s (x := yx475) h (yal_c (yt474 h) (by decide) yw474 (yal_n)) yg286 yk475
def ys476 : ySp := (282, 2, (0, [], [], [], [(0, (2, yc 1005, yc 0)), (1, (0, yc 0, yc 0))], []), [(0, [], [], [], [], [(0, yc 105, yc 0)])], [])
def yx476 : yCx := ([ys472, ys475], ys476.2.2.2.2, yFP, zm282.2.2.1, zm282.2.2.2.1, zc282, 0, ys476.2.2.2.1, [], [])
theorem yw476 : ywf ys476.2.2.1 = true := by decide +kernel
theorem yk476 : yver yx476 ys476.2.2.1 4000 = true := by decide +kernel
theorem yt476 {E : zHp → Prop} (h : yEF E yFP) : yTs E 4 ys476 := yver_s (x := yx476) h (yal_c (yt472 h) (by decide) yw472 (yal_c (yt475 h) (by decide) yw475 (yal_n))) yg282 yk476
def ys477 : ySp := (293, 3, (0, [], [], [], [(0, (0, yc 1, yc 0)), (1, (0, yc 3, yc 0)), (2, (7, yc 0, yc 0))], []), [(0, [], [], [], [], [(0, yc 1, yc 0)])], [])
def yx477 : yCx := ([], ys477.2.2.2.2, yFP, zm293.2.2.1, zm293.2.2.2.1, zc293, 0, ys477.2.2.2.1, [], [])
theorem yw477 : ywf ys477.2.2.1 = true := by decide +kernel
theorem yk477 : yver yx477 ys477.2.2.1 4000 = true := by decide +kernel
theorem yt477 {E : zHp → Prop} (h : yEF E yFP) : yTs E 1 ys477 := yver_s (x := yx477) h (yal_n) yg293 yk477
def ys478 : ySp := (285, 2, (0, [], [], [], [(0, (0, yc 1, yc 0)), (1, (0, yc 3, yc 0))], []), [(0, [], [], [], [], [])], [])
def yx478 : yCx := ([ys477], ys478.2.2.2.2, yFP, zm285.2.2.1, zm285.2.2.2.1, zc285, 0, ys478.2.2.2.1, [], [])
theorem yw478 : ywf ys478.2.2.1 = true := by decide +kernel
theorem yk478 : yver yx478 ys478.2.2.1 4000 = true := by decide +kernel
theorem yt478 {E : zHp → Prop} (h : yEF E yFP) : yTs E 2 ys478 := yver_s (x := yx478) h (yal_c (yt477 h) (by decide) yw477 (yal_n)) yg285 yk478
def ys479 : ySp := (286, 2, (0, [], [], [], [(0, (2, yc 1024, yc 0)), (1, (0, yc 1, yc 0))], []), [(0, [], [], [], [], [(0, yc 102, yc 0)])], [])
def yx479 : yCx := ([ys478], ys479.2.2.2.2, yFP, zm286.2.2.1, zm286.2.2.2.1, zc286, 0, ys479.2.2.2.1, [], [])
theorem yw479 : ywf ys479.2.2.1 = true := by decide +kernel
theorem yk479 : yver yx479 ys479.2.2.1 4000 = true := by decide +kernel
theorem yt479 {E : zHp → Prop} (h : yEF E yFP) : yTs E 3 ys479 := yver_s (x := yx479) h (yal_c (yt478 h) (by decide) yw478 (yal_n)) yg286 yk479
def ys480 : ySp := (282, 2, (0, [], [], [], [(0, (2, yc 1005, yc 0)), (1, (0, yc 1, yc 0))], []), [(0, [], [], [], [], [(0, yc 102, yc 0)])], [])
def yx480 : yCx := ([ys472, ys479], ys480.2.2.2.2, yFP, zm282.2.2.1, zm282.2.2.2.1, zc282, 0, ys480.2.2.2.1, [], [])
theorem yw480 : ywf ys480.2.2.1 = true := by decide +kernel
theorem yk480 : yver yx480 ys480.2.2.1 4000 = true := by decide +kernel
theorem yt480 {E : zHp → Prop} (h : yEF E yFP) : yTs E 4 ys480 := yver_s (x := yx480) h (yal_c (yt472 h) (by decide) yw472 (yal_c (yt479 h) (by decide) yw479 (yal_n))) yg282 yk480
def ys481 : ySp := (293, 3, (0, [], [], [], [(0, (0, yc 2, yc 0)), (1, (0, yc 3, yc 0)), (2, (7, yc 0, yc 0))], []), [(0, [], [], [], [], [(0, yc 2, yc 0)])], [])
def yx481 : yCx := ([], ys481.2.2.2.2, yFP, zm293.2.2.1, zm293.2.2.2.1, zc293, 0, ys481.2.2.2.1, [], [])
theorem yw481 : ywf ys481.2.2.1 = true := by decide +kernel
theorem yk481 : yver yx481 ys481.2.2.1 4000 = true := by decide +kernel
theorem yt481 {E : zHp → Prop} (h : yEF E yFP) : yTs E 1 ys481 := yver_s (x := yx481) h (yal_n) yg293 yk481
