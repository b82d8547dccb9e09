def ys404 : ySp := (285, 2, (0, [], [], [], [(0, (0, yc 62, yc 0)), (1, (0, yc 66, yc 0))], []), [(0, [], [], [], [], [])], [])
def yx404 : yCx := ([ys403], ys404.2.2.2.2, yFP, zm285.2.2.1, zm285.2.2.2.1, zc285, 0, ys404.2.2.2.1, [], [])
theorem yw404 : ywf ys404.2.2.1 = true := by decide +kernel
theorem yk404 : yver yx404 ys404.2.2.1 4000 = true := by decide +kernel
theorem yt404 {E : zHp → Prop} (h : yEF E yFP) : yTs E 2 ys404 := yver_s (x := yx404) h (yal_c (yt403 h) (by decide) yw403 (yal_n)) yg285 yk404
def ys405 : ySp := (286, 2, (0, [], [], [], [(0, (2, yc 1023, yc 0)), (1, (0, yc 62, yc 0))], []), [(0, [], [], [], [], [(0, yc 115, yc 0)])], [])
def yx405 : yCx := ([ys404], ys405.2.2.2.2, yFP, zm286.2.2.1, zm286.2.2.2.1, zc286, 0, ys405.2.2.2.1, [], [])
theorem yw405 : ywf ys405.2.2.1 = true := by decide +kernel
theorem yk405 : yver yx405 ys405.2.2.1 4000 = true := by decide +kernel
theorem yt405 {E : zHp → Prop} (h : yEF E yFP) : yTs E 3 ys405 := yver_s (x := yx405) h (yal_c (yt404 h) (by decide) yw404 (yal_n)) yg286 yk405
def ys406 : ySp := (282, 2, (0, [], [], [], [(0, (2, yc 1004, yc 0)), (1, (0, yc 62, yc 0))], []), [(0, [], [], [], [], [(0, yc 115, yc 0)])], [])
def yx406 : yCx := ([ys154, ys405], ys406.2.2.2.2, yFP, zm282.2.2.1, zm282.2.2.2.1, zc282, 0, ys406.2.2.2.1, [], [])
theorem yw406 : ywf ys406.2.2.1 = true := by decide +kernel
theorem yk406 : yver yx406 ys406.2.2.1 4000 = true := by decide +kernel
theorem yt406 {E : zHp → Prop} (h : yEF E yFP) : yTs E 4 ys406 := yver_s (x := yx406) h (yal_c (yt154 h) (by decide) yw154 (yal_c (yt405 h) (by decide) yw405 (yal_n))) yg282 yk406
def ys407 : ySp := (293, 3, (0, [], [], [], [(0, (0, yc 63, yc 0)), (1, (0, yc 66, yc 0)), (2, (7, yc 0, yc 0))], []), [(0, [], [], [], [], [(0, yc 63, yc 0)])], [])
def yx407 : yCx := ([], ys407.2.2.2.2, yFP, zm293.2.2.1, zm293.2.2.2.1, zc293, 0, ys407.2.2.2.1, [], [])
theorem yw407 : ywf ys407.2.2.1 = true := by decide +kernel
theorem yk407 : yver yx407 ys407.2.2.1 4000 = true := by decide +kernel
theorem yt407 {E : zHp → Prop} (h : yEF E yFP) : yTs E 1 ys407 := yver_s (x := yx407) h (yal_n) yg293 yk407
def ys408 : ySp := (285, 2, (0, [], [], [], [(0, (0, yc 63, yc 0)), (1, (0, yc 66, yc 0))], []), [(0, [], [], [], [], [])], [])
def yx408 : yCx := ([ys407], ys408.2.2.2.2, yFP, zm285.2.2.1, zm285.2.2.2.1, zc285, 0, ys408.2.2.2.1, [], [])
theorem yw408 : ywf ys408.2.2.1 = true := by decide +kernel
theorem yk408 : yver yx408 ys408.2.2.1 4000 = true := by decide +kernel
theorem yt408 {E : zHp → Prop} (h : yEF E yFP) : yTs E 2 ys408 := yver_s (x := yx408) h (yal_c (yt407 h) (by decide) yw407 (yal_n)) yg285 yk408
def ys409 : ySp := (286, 2, (0, [], [], [], [(0, (2, yc 1023, yc 0)), (1, (0, yc 63, yc 0))], []), [(0, [], [], [], [], [(0, yc 116, yc 0)])], [])
def yx409 : yCx := ([ys408], ys409.2.2.2.2, yFP, zm286.2.2.1, zm286.2.2.2.1, zc286, 0, ys409.2.2.2.1, [], [])
theorem yw409 : ywf ys409.2.2.1 = true := by decide +kernel
theorem yk409 : yver yx409 ys409.2.2.1 4000 = true := by decide +kernel
theorem yt409 {E : zHp → Prop} (h : yEF E yFP) : yTs E 3 ys409 := yver_s (x := yx409) h (yal_c (yt408 h) (by decide) yw408 (yal_n)) yg286 yk409
def ys410 : ySp := (282, 2, (0, [], [], [], [(0, (2, yc 1004, yc 0)), (1, (0, yc 63, yc 0))], []), [(0, [], [], [], [], [(0, yc 116, yc 0)])], [])
def yx410 : yCx := ([ys154, ys409], ys410.2.2.2.2, yFP, zm282.2.2.1, zm282.2.2.2.1, zc282, 0, ys410.2.2.2.1, [], [])
theorem yw410 : ywf ys410.2.2.1 = true := by decide +kernel
theorem yk410 : yver yx410 ys410.2.2.1 4000 = true := by decide +kernel
theorem yt410 {E : zHp → Prop} (h : yEF E yFP) : yTs E 4 ys410 := yver_s (x := yx410) h (yal_c (yt154 h) (by decide) yw154 (yal_c (yt409 h) (by decide) yw409 (yal_n))) yg282 yk410
def ys411 : ySp := (293, 3, (0, [], [], [], [(0, (0, yc 64, yc 0)), (1, (0, yc 66, yc 0)), (2, (7, yc 0, yc 0))], []), [(0, [], [], [], [], [(0, yc 64, yc 0)])], [])
def yx411 : yCx := ([], ys411.2.2.2.2, yFP, zm293.2.2.1, zm293.2.2.2.1, zc293, 0, ys411.2.2.2.1, [], [])
theorem yw411 : ywf ys411.2.2.1 = true := by decide +kernel
theorem yk411 : yver yx411 ys411.2.2.1 4000 = true := by decide +kernel
theorem yt411 {E : zHp → Prop} (h : yEF E yFP) : yTs E 1 ys411 := yver_s (x := yx411) h (yal_n) yg293 yk411
def ys412 : ySp := (285, 2, (0, [], [], [], [(0, (0, yc 64, yc 0)), (1, (0, yc 66, yc 0))], []), [(0, [], [], [], [], [])], [])
def yx412 : yCx := ([ys411], ys412.2.2.2.2, yFP, zm285.2.2.1, zm285.2.2.2.1, zc285, 0, ys412.2.2.2.1, [], [])
theorem yw412 : ywf ys412.2.2.1 = true := by decide +kernel
theorem yk412 : yver yx412 ys412.2.2.1 4000 = true := by decide +kernel
theorem yt412 {E : zHp → Prop} (h : yEF E yFP) : yTs E 2 ys412 := yver_s (x := yx412) h (yal_c (yt411 h) (by decide) yw411 (yal_n)) yg285 yk412
def ys413 : ySp := (286, 2, (0, [], [], [], [(0, (2, yc 1023, yc 0)), (1, (0, yc 64, yc 0))], []), [(0, [], [], [], [], [(0, yc 115, yc 0)])], [])
def yx413 : yCx := ([ys412], ys413.2.2.2.2, yFP, zm286.2.2.1, zm286.2.2.2.1, zc286, 0, ys413.2.2.2.1, [], [])
theorem yw413 : ywf ys413.2.2.1 = true := by decide +kernel
theorem yk413 : yver yx413 ys413.2.2.1 4000 = true := by decide +kernel
theorem yt413 {E : zHp → Prop} (h : yEF E yFP) : yTs E 3 ys413 := yver_s (x := yx413) h (yal_c (yt412 h) (by decide) yw412 (yal_n)) yg286 yk413
def ys414 : ySp := (282, 2, (0, [], [], [], [(0, (2, yc 1004, yc 0)), (1, (0, yc 64, yc 0))], []), [(0, [], [], [], [], [(0, yc 115, yc 0)])], [])
def yx414 : yCx := ([ys154, ys413], ys414.2.2.2.2, yFP, zm282.2.2.1, zm282.2.2.2.1, zc282, 0, ys414.2.2.2.1, [], [])
theorem yw414 : ywf ys414.2.2.1 = true := by decide +kernel
theorem yk414 : yver yx414 ys414.2.2.1 4000 = true := by decide +kernel
theorem yt414 {E : zHp → Prop} (h : yEF E yFP) : yTs E 4 ys414 := yver_s (x := yx414) h (yal_c (yt154 h) (by decide) yw154 (yal_c (yt413 h) (by decide) yw413 (yal_n))) yg282 yk414
def ys415 : ySp := (293, 3, (0, [], [], [], [(0, (0, yc 65, yc 0)), (1, (0, yc 66, yc 0)), (2, (7, yc 0, yc 0))], []), [(0, [], [], [], [], [(0, yc 65, yc 0)])], [])
def yx415 : yCx := ([], ys415.2.2.2.2, yFP, zm293.2.2.1, zm293.2.2.2.1, zc293, 0, ys415.2.2.2.1, [], [])
theorem yw415 : ywf ys415.2.2.1 = true := by decide +kernel
theorem yk415 : yver yx415 ys415.2.2.1 4000 = true := by decide +kernel
theorem yt415 {E : zHp → Prop} (h : yEF E yFP) : yTs E 1 ys415 := yver_s (x := yx415) h (yal_n) yg293 yk415
def ys416 : ySp := (285, 2, (0, [], [], [], [(0, (0, yc 65, yc 0)), (1, (0, yc 66, yc 0))], []), [(0, [], [], [], [], [])], [])
def yx416 : yCx := ([ys415], ys416.2.2.2.2, yFP, zm285.2.2.1, zm285.2.2.2.1, zc285, 0, ys416.2.2.2.1, [], [])
theorem yw416 : ywf ys416.2.2.1 = true := by decide +kernel
theorem yk416 : yver yx416 ys416.2.2.1 4000 = true := by decide +kernel
theorem yt416 {E : zHp → Prop} (h : yEF E yFP) : yTs E 2 ys416 := yver_s (x := yx416) h (yal_c (yt415 h) (by decide) yw415 (yal_n)) yg285 yk416
def ys417 : ySp := (286, 2, (0, [], [], [], [(0, (2, yc 1023, yc 0)), (1, (0, yc 65, yc 0))], []), [(0, [], [], [], [], [(0, yc 32, yc 0)])], [])
def yx417 : yCx := ([ys416], ys417.2.2.2.2, yFP, zm286.2.2.1, zm286.2.2.2.1, zc286, 0, ys417.2.2.2.1, [], [])
theorem yw417 : ywf ys417.2.2.1 = true := by decide +kernel
theorem yk417 : yver yx417 ys417.2.2.1 4000 = true := by decide +kernel
theorem yt417 {E : zHp → Prop} (h : yEF E yFP) : yTs E 3 ys417 := yver_s (x := yx417) h (yal_c (yt416 h) (by decide) yw416 (yal_n)) yg286 yk417
def ys418 : ySp := (282, 2, (0, [], [], [], [(0, (2, yc 1004, yc 0)), (1, (0, yc 65, yc 0))], []), [(0, [], [], [], [], [(0, yc 32, yc 0)])], [])
def yx418 : yCx := ([ys154, ys417], ys418.2.2.2.2, yFP, zm282.2.2.1, zm282.2.2.2.1, zc282, 0, ys418.2.2.2.1, [], [])
theorem yw418 : ywf ys418.2.2.1 = true := by decide +kernel
theorem yk418 : yver yx418 ys418.2.2.1 4000 = true := by decide +kernel
theorem yt418 {E : zHp → Prop} (h : yEF E yFP) : yTs E 4 ys418 := yver_s (x := yx418) h (yal_c (yt154 h) (by decide) yw154 (yal_c (yt417 h) (by decide) yw417 (yal_n))) yg282 yk418
