def ys342 : ySp := (282, 2, (0, [], [], [], [(0, (2, yc 1004, yc 0)), (1, (0, yc 46, yc 0))], []), [(0, [], [], [], [], [(0, yc 101, yc 0)])], [])
def yx342 : yCx := ([ys154, ys341], ys342.2.2.2.2, yFP, zm282.2.2.1, zm282.2.2.2.1, zc282, 0, ys342.2.2.2.1, [], [])
theorem yw342 : ywf ys342.2.2.1 = true := by decide +kernel
theorem yk342 : yver yx342 ys342.2.2.1 4000 = true := by decide +kernel
theorem yt342 {E : zHp → Prop} (h : yEF E yFP) : yTs E 4 ys342 := yver_s (x := yx342) h (yal_c (yt154 h) (by decide) yw154 (yal_c (yt341 h) (by decide) yw341 (yal_n))) yg282 yk342
def ys343 : ySp := (293, 3, (0, [], [], [], [(0, (0, yc 47, yc 0)), (1, (0, yc 66, yc 0)), (2, (7, yc 0, yc 0))], []), [(0, [], [], [], [], [(0, yc 47, yc 0)])], [])
def yx343 : yCx := ([], ys343.2.2.2.2, yFP, zm293.2.2.1, zm293.2.2.2.1, zc293, 0, ys343.2.2.2.1, [], [])
theorem yw343 : ywf ys343.2.2.1 = true := by decide +kernel
theorem yk343 : yver yx343 ys343.2.2.1 4000 = true := by decide +kernel
theorem yt343 {E : zHp → Prop} (h : yEF E yFP) : yTs E 1 ys343 := yver_s (x := yx343) h (yal_n) yg293 yk343
def ys344 : ySp := (285, 2, (0, [], [], [], [(0, (0, yc 47, yc 0)), (1, (0, yc 66, yc 0))], []), [(0, [], [], [], [], [])], [])
def yx344 : yCx := ([ys343], ys344.2.2.2.2, yFP, zm285.2.2.1, zm285.2.2.2.1, zc285, 0, ys344.2.2.2.1, [], [])
theorem yw344 : ywf ys344.2.2.1 = true := by decide +kernel
theorem yk344 : yver yx344 ys344.2.2.1 4000 = true := by decide +kernel
theorem yt344 {E : zHp → Prop} (h : yEF E yFP) : yTs E 2 ys344 := yver_s (x := yx344) h (yal_c (yt343 h) (by decide) yw343 (yal_n)) yg285 yk344
def ys345 : ySp := (286, 2, (0, [], [], [], [(0, (2, yc 1023, yc 0)), (1, (0, yc 47, yc 0))], []), [(0, [], [], [], [], [(0, yc 101, yc 0)])], [])
def yx345 : yCx := ([ys344], ys345.2.2.2.2, yFP, zm286.2.2.1, zm286.2.2.2.1, zc286, 0, ys345.2.2.2.1, [], [])
theorem yw345 : ywf ys345.2.2.1 = true := by decide +kernel
theorem yk345 : yver yx345 ys345.2.2.1 4000 = true := by decide +kernel
theorem yt345 {E : zHp → Prop} (h : yEF E yFP) : yTs E 3 ys345 := yver_s (x := yx345) h (yal_c (yt344 h) (by decide) yw344 (yal_n)) yg286 yk345
def ys346 : ySp := (282, 2, (0, [], [], [], [(0, (2, yc 1004, yc 0)), (1, (0, yc 47, yc 0))], []), [(0, [], [], [], [], [(0, yc 101, yc 0)])], [])
def yx346 : yCx := ([ys154, ys345], ys346.2.2.2.2, yFP, zm282.2.2.1, zm282.2.2.2.1, zc282, 0, ys346.2.2.2.1, [], [])
theorem yw346 : ywf ys346.2.2.1 = true := by decide +kernel
theorem yk346 : yver yx346 ys346.2.2.1 4000 = true := by decide +kernel
theorem yt346 {E : zHp → Prop} (h : yEF E yFP) : yTs E 4 ys346 := yver_s (x := yx346) h (yal_c (yt154 h) (by decide) yw154 (yal_c (yt345 h) (by decide) yw345 (yal_n))) yg282 yk346
def ys347 : ySp := (293, 3, (0, [], [], [], [(0, (0, yc 48, yc 0)), (1, (0, yc 66, yc 0)), (2, (7, yc 0, yc 0))], []), [(0, [], [], [], [], [(0, yc 48, yc 0)])], [])
def yx347 : yCx := ([], ys347.2.2.2.2, yFP, zm293.2.2.1, zm293.2.2.2.1, zc293, 0, ys347.2.2.2.1, [], [])
theorem yw347 : ywf ys347.2.2.1 = true := by decide +kernel
theorem yk347 : yver yx347 ys347.2.2.1 4000 = true := by decide +kernel
theorem yt347 {E : zHp → Prop} (h : yEF E yFP) : yTs E 1 ys347 := yver_s (x := yx347) h (yal_n) yg293 yk347
def ys348 : ySp := (285, 2, (0, [], [], [], [(0, (0, yc 48, yc 0)), (1, (0, yc 66, yc 0))], []), [(0, [], [], [], [], [])], [])
def yx348 : yCx := ([ys347], ys348.2.2.2.2, yFP, zm285.2.2.1, zm285.2.2.2.1, zc285, 0, ys348.2.2.2.1, [], [])
theorem yw348 : ywf ys348.2.2.1 = true := by decide +kernel
theorem yk348 : yver yx348 ys348.2.2.1 4000 = true := by decide +kernel
theorem yt348 {E : zHp → Prop} (h : yEF E yFP) : yTs E 2 ys348 := yver_s (x := yx348) h (yal_c (yt347 h) (by decide) yw347 (yal_n)) yg285 yk348
def ys349 : ySp := (286, 2, (0, [], [], [], [(0, (2, yc 1023, yc 0)), (1, (0, yc 48, yc 0))], []), [(0, [], [], [], [], [(0, yc 100, yc 0)])], [])
def yx349 : yCx := ([ys348], ys349.2.2.2.2, yFP, zm286.2.2.1, zm286.2.2.2.1, zc286, 0, ys349.2.2.2.1, [], [])
theorem yw349 : ywf ys349.2.2.1 = true := by decide +kernel
theorem yk349 : yver yx349 ys349.2.2.1 4000 = true := by decide +kernel
theorem yt349 {E : zHp → Prop} (h : yEF E yFP) : yTs E 3 ys349 := yver_s (x := yx349) h (yal_c (yt348 h) (by decide) yw348 (yal_n)) yg286 yk349
def ys350 : ySp := (282, 2, (0, [], [], [], [(0, (2, yc 1004, yc 0)), (1, (0, yc 48, yc 0))], []), [(0, [], [], [], [], [(0, yc 100, yc 0)])], [])
def yx350 : yCx := ([ys154, ys349], ys350.2.2.2.2, yFP, zm282.2.2.1, zm282.2.2.2.1, zc282, 0, ys350.2.2.2.1, [], [])
theorem yw350 : ywf ys350.2.2.1 = true := by decide +kernel
theorem yk350 : yver yx350 ys350.2.2.1 4000 = true := by decide +kernel
theorem yt350 {E : zHp → Prop} (h : yEF E yFP) : yTs E 4 ys350 := yver_s (x := yx350) h (yal_c (yt154 h) (by decide) yw154 (yal_c (yt349 h) (by decide) yw349 (yal_n))) yg282 yk350
def ys351 : ySp := (293, 3, (0, [], [], [], [(0, (0, yc 49, yc 0)), (1, (0, yc 66, yc 0)), (2, (7, yc 0, yc 0))], []), [(0, [], [], [], [], [(0, yc 49, yc 0)])], [])
def yx351 : yCx := ([], ys351.2.2.2.2, yFP, zm293.2.2.1, zm293.2.2.2.1, zc293, 0, ys351.2.2.2.1, [], [])
theorem yw351 : ywf ys351.2.2.1 = true := by decide +kernel
theorem yk351 : yver yx351 ys351.2.2.1 4000 = true := by decide +kernel
theorem yt351 {E : zHp → Prop} (h : yEF E yFP) : yTs E 1 ys351 := yver_s (x := yx351) h (yal_n) yg293 yk351
def ys352 : ySp := (285, 2, (0, [], [], [], [(0, (0, yc 49, yc 0)), (1, (0, yc 66, yc 0))], []), [(0, [], [], [], [], [])], [])
def yx352 : yCx := ([ys351], ys352.2.2.2.2, yFP, zm285.2.2.1, zm285.2.2.2.1, zc285, 0, ys352.2.2.2.1, [], [])
theorem yw352 : ywf ys352.2.2.1 = true := by decide +kernel
theorem yk352 : yver yx352 ys352.2.2.1 4000 = true := by decide +kernel
theorem yt352 {E : zHp → Prop} (h : yEF E yFP) : yTs E 2 ys352 := yver_s (x := yx352) h (yal_c (yt351 h) (by decide) yw351 (yal_n)) yg285 yk352
def ys353 : ySp := (286, 2, (0, [], [], [], [(0, (2, yc 1023, yc 0)), (1, (0, yc 49, yc 0))], []), [(0, [], [], [], [], [(0, yc 32, yc 0)])], [])
def yx353 : yCx := ([ys352], ys353.2.2.2.2, yFP, zm286.2.2.1, zm286.2.2.2.1, zc286, 0, ys353.2.2.2.1, [], [])
theorem yw353 : ywf ys353.2.2.1 = true := by decide +kernel
theorem yk353 : yver yx353 ys353.2.2.1 4000 = true := by decide +kernel
theorem yt353 {E : zHp → Prop} (h : yEF E yFP) : yTs E 3 ys353 := yver_s (x := yx353) h (yal_c (yt352 h) (by decide) yw352 (yal_n)) yg286 yk353
def ys354 : ySp := (282, 2, (0, [], [], [], [(0, (2, yc 1004, yc 0)), (1, (0, yc 49, yc 0))], []), [(0, [], [], [], [], [(0, yc 32, yc 0)])], [])
def yx354 : yCx := ([ys154, ys353], ys354.2.2.2.2, yFP, zm282.2.2.1, zm282.2.2.2.1, zc282, 0, ys354.2.2.2.1, [], [])
theorem yw354 : ywf ys354.2.2.1 = true := by decide +kernel
theorem yk354 : yver yx354 ys354.2.2.1 4000 = true := by decide +kernel
theorem yt354 {E : zHp → Prop} (h : yEF E yFP) : yTs E 4 ys354 := yver_s (x := yx354) h (yal_c (yt154 h) (by decide) yw154 (yal_c (yt353 h) (by decide) yw353 (yal_n))) yg282 yk354
def ys355 : ySp := (293, 3, (0, [], [], [], [(0, (0, yc 50, yc 0)), (1, (0, yc 66, yc 0)), (2, (7, yc 0, yc 0))], []), [(0, [], [], [], [], [(0, yc 50, yc 0)])], [])
def yx355 : yCx := ([], ys355.2.2.2.2, yFP, zm293.2.2.1, zm293.2.2.2.1, zc293, 0, ys355.2.2.2.1, [], [])
theorem yw355 : ywf ys355.2.2.1 = true := by decide +kernel
theorem yk355 : yver yx355 ys355.2.2.1 4000 = true := by decide +kernel
theorem yt355 {E : zHp → Prop} (h : yEF E yFP) : yTs E 1 ys355 := yver_s (x := yx355) h (yal_n) yg293 yk355
def ys356 : ySp := (285, 2, (0, [], [], [], [(0, (0, yc 50, yc 0)), (1, (0, yc 66, yc 0))], []), [(0, [], [], [], [], [])], [])
def yx356 : yCx := ([ys355], ys356.2.2.2.2, yFP, zm285.2.2.1, zm285.2.2.2.1, zc285, 0, ys356.2.2.2.1, [], [])
theorem yw356 : ywf ys356.2.2.1 = true := by decide +kernel
theorem yk356 : yver yx356 ys356.2.2.1 4000 = true := by decide +kernel
theorem yt356 {E : zHp → Prop} (h : yEF E yFP) : yTs E 2 ys356 := yver_s (x := yx356) h (yal_c (yt355 h) (by decide) yw355 (yal_n)) yg285 yk356
def ys357 : ySp := (286, 2, (0, [], [], [], [(0, (2, yc 1023, yc 0)), (1, (0, yc 50, yc 0))], []), [(0, [], [], [], [], [(0, yc 112, yc 0)])], [])
def yx357 : yCx := ([ys356], ys357.2.2.2.2, yFP, zm286.2.2.1, zm286.2.2.2.1, zc286, 0, ys357.2.2.2.1, [], [])
theorem yw357 : ywf ys357.2.2.1 = true := by decide +kernel
theorem yk357 : yver yx357 ys357.2.2.1 4000 = true := by decide +kernel
theorem yt357 {E : zHp → Prop} (h : yEF E yFP) : yTs E 3 ys357 := yver_s (x := yx357) h (yal_c (yt356 h) (by decide) yw356 (yal_n)) yg286 yk357
def ys358 : ySp := (282, 2, (0, [], [], [], [(0, (2, yc 1004, yc 0)), (1, (0, yc 50, yc 0))], []), [(0, [], [], [], [], [(0, yc 112, yc 0)])], [])
def yx358 : yCx := ([ys154, ys357], ys358.2.2.2.2, yFP, zm282.2.2.1, zm282.2.2.2.1, zc282, 0, ys358.2.2.2.1, [], [])
theorem yw358 : ywf ys358.2.2.1 = true := by decide +kernel
theorem yk358 : yver yx358 ys358.2.2.1 4000 = true := by decide +kernel
theorem yt358 {E : zHp → Prop} (h : yEF E yFP) : yTs E 4 ys358 := yver_s (x := yx358) h (yal_c (yt154 h) (by decide) yw154 (yal_c (yt357 h) (by decide) yw357 (yal_n))) yg282 yk358
def ys359 : ySp := (293, 3, (0, [], [], [], [(0, (0, yc 51, yc 0)), (1, (0, yc 66, yc 0)), (2, (7, yc 0, yc 0))], []), [(0, [], [], [], [], [(0, yc 51, yc 0)])], [])
def yx359 : yCx := ([], ys359.2.2.2.2, yFP, zm293.2.2.1, zm293.2.2.2.1, zc293, 0, ys359.2.2.2.1, [], [])
theorem yw359 : ywf ys359.2.2.1 = true := by decide +kernel
theorem yk359 : yver yx359 ys359.2.2.1 4000 = true := by decide +kernel
theorem yt359 {E : zHp → Prop} (h : yEF E yFP) : yTs E 1 ys359 := yver_s (x := yx359) h (yal_n) yg293 yk359
def ys360 : ySp := (285, 2, (0, [], [], [], [(0, (0, yc 51, yc 0)), (1, (0, yc 66, yc 0))], []), [(0, [], [], [], [], [])], [])
def yx360 : yCx := ([ys359], ys360.2.2.2.2, yFP, zm285.2.2.1, zm285.2.2.2.1, zc285, 0, ys360.2.2.2.1, [], [])
theorem yw360 : ywf ys360.2.2.1 = true := by decide +kernel
theorem yk360 : yver yx360 ys360.2.2.1 4000 = true := by decide +kernel
theorem yt360 {E : zHp → Prop} (h : yEF E yFP) : yTs E 2 ys360 := yver_s (x := yx360) h (yal_c (yt359 h) (by decide) yw359 (yal_n)) yg285 yk360
def ys361 : ySp := (286, 2, (0, [], [], [], [(0, (2, yc 1023, yc 0)), (1, (0, yc 51, yc 0))], []), [(0, [], [], [], [], [(0, yc 97, yc 0)])], [])
def yx361 : yCx := ([ys360], ys361.2.2.2.2, yFP, zm286.2.2.1, zm286.2.2.2.1, zc286, 0, ys361.2.2.2.1, [], [])
theorem yw361 : ywf ys361.2.2.1 = true := by decide +kernel
theorem yk361 : yver yx361 ys361.2.2.1 4000 = true := by decide +kernel
theorem yt361 {E : zHp → Prop} (h : yEF E yFP) : yTs E 3 ys361 := yver_s (x := yx361) h (yal_c (yt360 h) (by decide) yw360 (yal_n)) yg286 yk361
def ys362 : ySp := (282, 2, (0, [], [], [], [(0, (2, yc 1004, yc 0)), (1, (0, yc 51, yc 0))], []), [(0, [], [], [], [], [(0, yc 97, yc 0)])], [])
def yx362 : yCx := ([ys154, ys361], ys362.2.2.2.2, yFP, zm282.2.2.1, zm282.2.2.2.1, zc282, 0, ys362.2.2.2.1, [], [])
theorem yw362 : ywf ys362.2.2.1 = true := by decide +kernel
theorem yk362 : yver yx362 ys362.2.2.1 4000 = true := by decide +kernel
theorem yt362 {E : zHp → Prop} (h : yEF E yFP) : yTs E 4 ys362 := yver_s (x := yx362) h (yal_c (yt154 h) (by decide) yw154 (yal_c (yt361 h) (by decide) yw361 (yal_n))) yg282 yk362
def ys363 : ySp := (293, 3, (0, [], [], [], [(0, (0, yc 52, yc 0)), (1, (0, yc 66, yc 0)), (2, (7, yc 0, yc 0))], []), [(0, [], [], [], [], [(0, yc 52, yc 0)])], [])
def yx363 : yCx := ([], ys363.2.2.2.2, yFP, zm293.2.2.1, zm293.2.2.2.1, zc293, 0, ys363.2.2.2.1, [], [])
theorem yw363 : ywf ys363.2.2.1 = true := by decide +kernel
theorem yk363 : yver yx363 ys363.2.2.1 4000 = true := by decide +kernel
theorem yt363 {E : zHp → Prop} (h : yEF E yFP) : yTs E 1 ys363 := yver_s (x := yx363) h (yal_n) yg293 yk363
def ys364 : ySp := (285, 2, (0, [], [], [], [(0, (0, yc 52, yc 0)), (1, (0, yc 66, yc 0))], []), [(0, [], [], [], [], [])], [])
def yx364 : yCx := ([ys363], ys364.2.2.2.2, yFP, zm285.2.2.1, zm285.2.2.2.1, zc285, 0, ys364.2.2.2.1, [], [])
theorem yw364 : ywf ys364.2.2.1 = true := by decide +kernel
theorem yk364 : yver yx364 ys364.2.2.1 4000 = true := by decide +kernel
theorem yt364 {E : zHp → Prop} (h : yEF E yFP) : yTs E 2 ys364 := yver_s (x := yx364) h (yal_c (yt363 h) (by decide) yw363 (yal_n)) yg285 yk364
def ys365 : ySp := (286, 2, (0, [], [], [], [(0, (2, yc 1023, yc 0)), (1, (0, yc 52, yc 0))], []), [(0, [], [], [], [], [(0, yc 121, yc 0)])], [])
def yx365 : yCx := ([ys364], ys365.2.2.2.2, yFP, zm286.2.2.1, zm286.2.2.2.1, zc286, 0, ys365.2.2.2.1, [], [])
theorem yw365 : ywf ys365.2.2.1 = true := by decide +kernel
theorem yk365 : yver yx365 ys365.2.2.1 4000 = true := by decide +kernel
theorem yt365 {E : zHp → Prop} (h : yEF E yFP) : yTs E 3 ys365 := yver_s (x := yx365) h (yal_c (yt364 h) (by decide) yw364 (yal_n)) yg286 yk365
def ys366 : ySp := (282, 2, (0, [], [], [], [(0, (2, yc 1004, yc 0)), (1, (0, yc 52, yc 0))], []), [(0, [], [], [], [], [(0, yc 121, yc 0)])], [])
def yx366 : yCx := ([ys154, ys365], ys366.2.2.2.2, yFP, zm282.2.2.1, zm282.2.2.2.1, zc282, 0, ys366.2.2.2.1, [], [])
theorem yw366 : ywf ys366.2.2.1 = true := by decide +kernel
theorem yk366 : yver yx366 ys366.2.2.1 4000 = true := by decide +kernel
theorem yt366 {E : zHp → Prop} (h : yEF E yFP) : yTs E 4 ys366 := yver_s (x := yx366) h (yal_c (yt154 h) (by decide) yw154 (yal_c (yt365 h) (by decide) yw365 (yal_n))) yg282 yk366
def ys367 : ySp := (293, 3, (0, [], [], [], [(0, (0, yc 53, yc 0)), (1, (0, yc 66, yc 0)), (2, (7, yc 0, yc 0))], []), [(0, [], [], [], [], [(0, yc 53, yc 0)])], [])
def yx367 : yCx := ([], ys367.2.2.2.2, yFP, zm293.2.2.1, zm293.2.2.2.1, zc293, 0, ys367.2.2.2.1, [], [])
theorem yw367 : ywf ys367.2.2.1 = true := by decide +kernel
theorem yk367 : yver yx367 ys367.2.2.1 4000 = true := by decide +kernel
theorem yt367 {E : zHp → Prop} (h : yEF E yFP) : yTs E 1 ys367 := yver_s (x := yx367) h (yal_n) yg293 yk367
def ys368 : ySp := (285, 2, (0, [], [], [], [(0, (0, yc 53, yc 0)), (1, (0, yc 66, yc 0))], []), [(0, [], [], [], [], [])], [])
def yx368 : yCx := ([ys367], ys368.2.2.2.2, yFP, zm285.2.2.1, zm285.2.2.2.1, zc285, 0, ys368.2.2.2.1, [], [])
theorem yw368 : ywf ys368.2.2.1 = true := by decide +kernel
theorem yk368 : yver yx368 ys368.2.2.1 4000 = true := by decide +kernel
theorem yt368 {E : zHp → Prop} (h : yEF E yFP) : yTs E 2 ys368 := yver_s (x := yx368) h (yal_c (yt367 h) (by decide) yw367 (yal_n)) yg285 yk368
def ys369 : ySp := (286, 2, (0, [], [], [], [(0, (2, yc 1023, yc 0)), (1, (0, yc 53, yc 0))], []), [(0, [], [], [], [], [(0, yc 32, yc 0)])], [])
def yx369 : yCx := ([ys368], ys369.2.2.2.2, yFP, zm286.2.2.1, zm286.2.2.2.1, zc286, 0, ys369.2.2.2.1, [], [])
theorem yw369 : ywf ys369.2.2.1 = true := by decide +kernel
theorem yk369 : yver yx369 ys369.2.2.1 4000 = true := by decide +kernel
theorem yt369 {E : zHp → Prop} (h : yEF E yFP) : yTs E 3 ys369 := yver_s (x := yx369) h (yal_c (yt368 h) (by decide) yw368 (yal_n)) yg286 yk369
def ys370 : ySp := (282, 2, (0, [], [], [], [(0, (2, yc 1004, yc 0)), (1, (0, yc 53, yc 0))], []), [(0, [], [], [], [], [(0, yc 32, yc 0)])], [])
def yx370 : yCx := ([ys154, ys369], ys370.2.2.2.2, yFP, zm282.2.2.1, zm282.2.2.2.1, zc282, 0, ys370.2.2.2.1, [], [])
theorem yw370 : ywf ys370.2.2.1 = true := by decide +kernel
theorem yk370 : yver yx370 ys370.2.2.1 4000 = true := by decide +kernel
theorem yt370 {E : zHp → Prop} (h : yEF E yFP) : yTs E 4 ys370 := yver_s (x := yx370) h (yal_c (yt154 h) (by decide) yw154 (yal_c (yt369 h) (by decide) yw369 (yal_n))) yg282 yk370
def ys371 : ySp := (293, 3, (0, [], [], [], [(0, (0, yc 54, yc 0)), (1, (0, yc 66, yc 0)), (2, (7, yc 0, yc 0))], []), [(0, [], [], [], [], [(0, yc 54, yc 0)])], [])
def yx371 : yCx := ([], ys371.2.2.2.2, yFP, zm293.2.2.1, zm293.2.2.2.1, zc293, 0, ys371.2.2.2.1, [], [])
theorem yw371 : ywf ys371.2.2.1 = true := by decide +kernel
theorem yk371 : yver yx371 ys371.2.2.1 4000 = true := by decide +kernel
theorem yt371 {E : zHp → Prop} (h : yEF E yFP) : yTs E 1 ys371 := yver_s (x := yx371) h (yal_n) yg293 yk371
def ys372 : ySp := (285, 2, (0, [], [], [], [(0, (0, yc 54, yc 0)), (1, (0, yc 66, yc 0))], []), [(0, [], [], [], [], [])], [])
def yx372 : yCx := ([ys371], ys372.2.2.2.2, yFP, zm285.2.2.1, zm285.2.2.2.1, zc285, 0, ys372.2.2.2.1, [], [])
theorem yw372 : ywf ys372.2.2.1 = true := by decide +kernel
theorem yk372 : yver yx372 ys372.2.2.1 4000 = true := by decide +kernel
theorem yt372 {E : zHp → Prop} (h : yEF E yFP) : yTs E 2 ys372 := yver_s (x := yx372) h (yal_c (yt371 h) (by decide) yw371 (yal_n)) yg285 yk372
def ys373 : ySp := (286, 2, (0, [], [], [], [(0, (2, yc 1023, yc 0)), (1, (0, yc 54, yc 0))], []), [(0, [], [], [], [], [(0, yc 111, yc 0)])], [])
def yx373 : yCx := ([ys372], ys373.2.2.2.2, yFP, zm286.2.2.1, zm286.2.2.2.1, zc286, 0, ys373.2.2.2.1, [], [])
theorem yw373 : ywf ys373.2.2.1 = true := by decide +kernel
theorem yk373 : yver yx373 ys373.2.2.1 4000 = true := by decide +kernel
theorem yt373 {E : zHp → Prop} (h : yEF E yFP) : yTs E 3 ys373 := yver_s (x := yx373) h (yal_c (yt372 h) (by decide) yw372 (yal_n)) yg286 yk373
def ys374 : ySp := (282, 2, (0, [], [], [], [(0, (2, yc 1004, yc 0)), (1, (0, yc 54, yc 0))], []), [(0, [], [], [], [], [(0, yc 111, yc 0)])], [])
def yx374 : yCx := ([ys154, ys373], ys374.2.2.2.2, yFP, zm282.2.2.1, zm282.2.2.2.1, zc282, 0, ys374.2.2.2.1, [], [])
theorem yw374 : ywf ys374.2.2.1 = true := by decide +kernel
theorem yk374 : yver yx374 ys374.2.2.1 4000 = true := by decide +kernel
theorem yt374 {E : zHp → Prop} (h : yEF E yFP) : yTs E 4 ys374 := yver_s (x := yx374) h (yal_c (yt154 h) (by decide) yw154 (yal_c (yt373 h) (by decide) yw373 (yal_n))) yg282 yk374
def ys375 : ySp := (293, 3, (0, [], [], [], [(0, (0, yc 55, yc 0)), (1, (0, yc 66, yc 0)), (2, (7, yc 0, yc 0))], []), [(0, [], [], [], [], [(0, yc 55, yc 0)])], [])
def yx375 : yCx := ([], ys375.2.2.2.2, yFP, zm293.2.2.1, zm293.2.2.2.1, zc293, 0, ys375.2.2.2.1, [], [])
theorem yw375 : ywf ys375.2.2.1 = true := by decide +kernel
theorem yk375 : yver yx375 ys375.2.2.1 4000 = true := by decide +kernel
theorem yt375 {E : zHp → Prop} (h : yEF E yFP) : yTs E 1 ys375 := yver_s (x := yx375) h (yal_n) yg293 yk375
def ys376 : ySp := (285, 2, (0, [], [], [], [(0, (0, yc 55, yc 0)), (1, (0, yc 66, yc 0))], []), [(0, [], [], [], [], [])], [])
def yx376 : yCx := ([ys375], ys376.2.2.2.2, yFP, zm285.2.2.1, zm285.2.2.2.1, zc285, 0, ys376.2.2.2.1, [], [])
theorem yw376 : ywf ys376.2.2.1 = true := by decide +kernel
theorem yk376 : yver yx376 ys376.2.2.1 4000 = true := by decide +kernel
theorem yt376 {E : zHp → Prop} (h : yEF E yFP) : yTs E 2 ys376 := yver_s (x := yx376) h (yal_c (yt375 h) (by decide) yw375 (yal_n)) yg285 yk376
def ys377 : ySp := (286, 2, (0, [], [], [], [(0, (2, yc 1023, yc 0)), (1, (0, yc 55, yc 0))], []), [(0, [], [], [], [], [(0, yc 119, yc 0)])], [])
def yx377 : yCx := ([ys376], ys377.2.2.2.2, yFP, zm286.2.2.1, zm286.2.2.2.1, zc286, 0, ys377.2.2.2.1, [], [])
theorem yw377 : ywf ys377.2.2.1 = true := by decide +kernel
theorem yk377 : yver yx377 ys377.2.2.1 4000 = true := by decide +kernel
theorem yt377 {E : zHp → Prop} (h : yEF E yFP) : yTs E 3 ys377 := yver_s (x := yx377) h (yal_c (yt376 h) (by decide) yw376 (yal_n)) yg286 yk377
def ys378 : ySp := (282, 2, (0, [], [], [], [(0, (2, yc 1004, yc 0)), (1, (0, yc 55, yc 0))], []), [(0, [], [], [], [], [(0, yc 119, yc 0)])], [])
def yx378 : yCx := ([ys154, ys377], ys378.2.2.2.2, yFP, zm282.2.2.1, zm282.2.2.2.1, zc282, 0, ys378.2.2.2.1, [], [])
theorem yw378 : ywf ys378.2.2.1 = true := by decide +kernel
theorem yk378 : yver yx378 ys378.2.2.1 4000 = true := by decide +kernel
theorem yt378 {E : zHp → Prop} (h : yEF E yFP) : yTs E 4 ys378 := yver_s (x := yx378) h (yal_c (yt154 h) (by decide) yw154 (yal_c (yt377 h) (by decide) yw377 (yal_n))) yg282 yk378
def ys379 : ySp := (293, 3, (0, [], [], [], [(0, (0, yc 56, yc 0)), (1, (0, yc 66, yc 0)), (2, (7, yc 0, yc 0))], []), [(0, [], [], [], [], [(0, yc 56, yc 0)])], [])
def yx379 : yCx := ([], ys379.2.2.2.2, yFP, zm293.2.2.1, zm293.2.2.2.1, zc293, 0, ys379.2.2.2.1, [], [])
theorem yw379 : ywf ys379.2.2.1 = true := by decide +kernel
theorem yk379 : yver yx379 ys379.2.2.1 4000 = true := by decide +kernel
theorem yt379 {E : zHp → Prop} (h : yEF E yFP) : yTs E 1 ys379 := yver_s (x := yx379) h (yal_n) yg293 yk379
def ys380 : ySp := (285, 2, (0, [], [], [], [(0, (0, yc 56, yc 0)), (1, (0, yc 66, yc 0))], []), [(0, [], [], [], [], [])], [])
def yx380 : yCx := ([ys379], ys380.2.2.2.2, yFP, zm285.2.2.1, zm285.2.2.2.1, zc285, 0, ys380.2.2.2.1, [], [])
theorem yw380 : ywf ys380.2.2.1 = true := by decide +kernel
theorem yk380 : yver yx380 ys380.2.2.1 4000 = true := by decide +kernel
theorem yt380 {E : zHp → Prop} (h : yEF E yFP) : yTs E 2 ys380 := yver_s (x := yx380) h (yal_c (yt379 h) (by decide) yw379 (yal_n)) yg285 yk380
def ys381 : ySp := (286, 2, (0, [], [], [], [(0, (2, yc 1023, yc 0)), (1, (0, yc 56, yc 0))], []), [(0, [], [], [], [], [(0, yc 101, yc 0)])], [])
def yx381 : yCx := ([ys380], ys381.2.2.2.2, yFP, zm286.2.2.1, zm286.2.2.2.1, zc286, 0, ys381.2.2.2.1, [], [])
theorem yw381 : ywf ys381.2.2.1 = true := by decide +kernel
theorem yk381 : yver yx381 ys381.2.2.1 4000 = true := by decide +kernel
theorem yt381 {E : zHp → Prop} (h : yEF E yFP) : yTs E 3 ys381 := yver_s (x := yx381) h (yal_c (yt380 h) (by decide) yw380 (yal_n)) yg286 yk381
def ys382 : ySp := (282, 2, (0, [], [], [], [(0, (2, yc 1004, yc 0)), (1, (0, yc 56, yc 0))], []), [(0, [], [], [], [], [(0, yc 101, yc 0)])], [])
def yx382 : yCx := ([ys154, ys381], ys382.2.2.2.2, yFP, zm282.2.2.1, zm282.2.2.2.1, zc282, 0, ys382.2.2.2.1, [], [])
theorem yw382 : ywf ys382.2.2.1 = true := by decide +kernel
theorem yk382 : yver yx382 ys382.2.2.1 4000 = true := by decide +kernel
theorem yt382 {E : zHp → Prop} (h : yEF E yFP) : yTs E 4 ys382 := yver_s (x := yx382) h (yal_c (yt154 h) (by decide) yw154 (yal_c (yt381 h) (by decide) yw381 (yal_n))) yg282 yk382
def ys383 : ySp := (293, 3, (0, [], [], [], [(0, (0, yc 57, yc 0)), (1, (0, yc 66, yc 0)), (2, (7, yc 0, yc 0))], []), [(0, [], [], [], [], [(0, yc 57, yc 0)])], [])
def yx383 : yCx := ([], ys383.2.2.2.2, yFP, zm293.2.2.1, zm293.2.2.2.1, zc293, 0, ys383.2.2.2.1, [], [])
theorem yw383 : ywf ys383.2.2.1 = true := by decide +kernel
theorem yk383 : yver yx383 ys383.2.2.1 4000 = true := by decide +kernel
theorem yt383 {E : zHp → Prop} (h : yEF E yFP) : yTs E 1 ys383 := yver_s (x := yx383) h (yal_n) yg293 yk383
def ys384 : ySp := (285, 2, (0, [], [], [], [(0, (0, yc 57, yc 0)), (1, (0, yc 66, yc 0))], []), [(0, [], [], [], [], [])], [])
def yx384 : yCx := ([ys383], ys384.2.2.2.2, yFP, zm285.2.2.1, zm285.2.2.2.1, zc285, 0, ys384.2.2.2.1, [], [])
theorem yw384 : ywf ys384.2.2.1 = true := by decide +kernel
theorem yk384 : yver yx384 ys384.2.2.1 4000 = true := by decide +kernel
theorem yt384 {E : zHp → Prop} (h : yEF E yFP) : yTs E 2 ys384 := yver_s (x := yx384) h (yal_c (yt383 h) (by decide) yw383 (yal_n)) yg285 yk384
def ys385 : ySp := (286, 2, (0, [], [], [], [(0, (2, yc 1023, yc 0)), (1, (0, yc 57, yc 0))], []), [(0, [], [], [], [], [(0, yc 115, yc 0)])], [])
def yx385 : yCx := ([ys384], ys385.2.2.2.2, yFP, zm286.2.2.1, zm286.2.2.2.1, zc286, 0, ys385.2.2.2.1, [], [])
theorem yw385 : ywf ys385.2.2.1 = true := by decide +kernel
theorem yk385 : yver yx385 ys385.2.2.1 4000 = true := by decide +kernel
theorem yt385 {E : zHp → Prop} (h : yEF E yFP) : yTs E 3 ys385 := yver_s (x := yx385) h (yal_c (yt384 h) (by decide) yw384 (yal_n)) yg286 yk385
def ys386 : ySp := (282, 2, (0, [], [], [], [(0, (2, yc 1004, yc 0)), (1, (0, yc 57, yc 0))], []), [(0, [], [], [], [], [(0, yc 115, yc 0)])], [])
def yx386 : yCx := ([ys154, ys385], ys386.2.2.2.2, yFP, zm282.2.2.1, zm282.2.2.2.1, zc282, 0, ys386.2.2.2.1, [], [])
theorem yw386 : ywf ys386.2.2.1 = true := by decide +kernel
theorem yk386 : yver yx386 ys386.2.2.1 4000 = true := by decide +kernel
theorem yt386 {E : zHp → Prop} (h : yEF E yFP) : yTs E 4 ys386 := yver_s (x := yx386) h (yal_c (yt154 h) (by decide) yw154 (yal_c (yt385 h) (by decide) yw385 (yal_n))) yg282 yk386
def ys387 : ySp := (293, 3, (0, [], [], [], [(0, (0, yc 58, yc 0)), (1, (0, yc 66, yc 0)), (2, (7, yc 0, yc 0))], []), [(0, [], [], [], [], [(0, yc 58, yc 0)])], [])
def yx387 : yCx := ([], ys387.2.2.2.2, yFP, zm293.2.2.1, zm293.2.2.2.1, zc293, 0, ys387.2.2.2.1, [], [])
theorem yw387 : ywf ys387.2.2.1 = true := by decide +kernel
theorem yk387 : yver yx387 ys387.2.2.1 4000 = true := by decide +kernel
theorem yt387 {E : zHp → Prop} (h : yEF E yFP) : yTs E 1 ys387 := yver_s (x := yx387) h (yal_n) yg293 yk387
def ys388 : ySp := (285, 2, (0, [], [], [], [(0, (0, yc 58, yc 0)), (1, (0, yc 66, yc 0))], []), [(0, [], [], [], [], [])], [])
def yx388 : yCx := ([ys387], ys388.2.2.2.2, yFP, zm285.2.2.1, zm285.2.2.2.1, zc285, 0, ys388.2.2.2.1, [], [])
theorem yw388 : ywf ys388.2.2.1 = true := by decide +kernel
theorem yk388 : yver yx388 ys388.2.2.1 4000 = true := by decide +kernel
theorem yt388 {E : zHp → Prop} (h : yEF E yFP) : yTs E 2 ys388 := yver_s (x := yx388) h (yal_c (yt387 h) (by decide) yw387 (yal_n)) yg285 yk388
def ys389 : ySp := (286, 2, (0, [], [], [], [(0, (2, yc 1023, yc 0)), (1, (0, yc 58, yc 0))], []), [(0, [], [], [], [], [(0, yc 32, yc 0)])], [])
def yx389 : yCx := ([ys388], ys389.2.2.2.2, yFP, zm286.2.2.1, zm286.2.2.2.1, zc286, 0, ys389.2.2.2.1, [], [])
theorem yw389 : ywf ys389.2.2.1 = true := by decide +kernel
theorem yk389 : yver yx389 ys389.2.2.1 4000 = true := by decide +kernel
theorem yt389 {E : zHp → Prop} (h : yEF E yFP) : yTs E 3 ys389 := yver_s (x := yx389) h (yal_c (yt388 h) (by decide) yw388 (yal_n)) yg286 yk389
def ys390 : ySp := (282, 2, (0, [], [], [], [(0, (2, yc 1004, yc 0)), (1, (0, yc 58, yc 0))], []), [(0, [], [], [], [], [(0, yc 32, yc 0)])], [])
def yx390 : yCx := ([ys154, ys389], ys390.2.2.2.2, yFP, zm282.2.2.1, zm282.2.2.2.1, zc282, 0, ys390.2.2.2.1, [], [])
theorem yw390 : ywf ys390.2.2.1 = true := by decide +kernel
theorem yk390 : yver yx390 ys390.2.2.1 4000 = true := by decide +kernel
theorem yt390 {E : zHp → Prop} (h : yEF E yFP) : yTs E 4 ys390 := yver_s (x := yx390) h (yal_c (yt154 h) (by decide) yw154 (yal_c (yt389 h) (by decide) yw389 (yal_n))) yg282 yk390
def ys391 : ySp := (293, 3, (0, [], [], [], [(0, (0, yc 59, yc 0)), (1, (0, yc 66, yc 0)), (2, (7, yc 0, yc 0))], []), [(0, [], [], [], [], [(0, yc 59, yc 0)])], [])
def yx391 : yCx := ([], ys391.2.2.2.2, yFP, zm293.2.2.1, zm293.2.2.2.1, zc293, 0, ys391.2.2.2.1, [], [])
theorem yw391 : ywf ys391.2.2.1 = true := by decide +kernel
theorem yk391 : yver yx391 ys391.2.2.1 4000 = true := by decide +kernel
theorem yt391 {E : zHp → Prop} (h : yEF E yFP) : yTs E 1 ys391 := yver_s (x := yx391) h (yal_n) yg293 yk391
def ys392 : ySp := (285, 2, (0, [], [], [], [(0, (0, yc 59, yc 0)), (1, (0, yc 66, yc 0))], []), [(0, [], [], [], [], [])], [])
def yx392 : yCx := ([ys391], ys392.2.2.2.2, yFP, zm285.2.2.1, zm285.2.2.2.1, zc285, 0, ys392.2.2.2.1, [], [])
theorem yw392 : ywf ys392.2.2.1 = true := by decide +kernel
theorem yk392 : yver yx392 ys392.2.2.1 4000 = true := by decide +kernel
theorem yt392 {E : zHp → Prop} (h : yEF E yFP) : yTs E 2 ys392 := yver_s (x := yx392) h (yal_c (yt391 h) (by decide) yw391 (yal_n)) yg285 yk392
def ys393 : ySp := (286, 2, (0, [], [], [], [(0, (2, yc 1023, yc 0)), (1, (0, yc 59, yc 0))], []), [(0, [], [], [], [], [(0, yc 116, yc 0)])], [])
def yx393 : yCx := ([ys392], ys393.2.2.2.2, yFP, zm286.2.2.1, zm286.2.2.2.1, zc286, 0, ys393.2.2.2.1, [], [])
theorem yw393 : ywf ys393.2.2.1 = true := by decide +kernel
theorem yk393 : yver yx393 ys393.2.2.1 4000 = true := by decide +kernel
theorem yt393 {E : zHp → Prop} (h : yEF E yFP) : yTs E 3 ys393 := yver_s (x := yx393) h (yal_c (yt392 h) (by decide) yw392 (yal_n)) yg286 yk393
def ys394 : ySp := (282, 2, (0, [], [], [], [(0, (2, yc 1004, yc 0)), (1, (0, yc 59, yc 0))], []), [(0, [], [], [], [], [(0, yc 116, yc 0)])], [])
def yx394 : yCx := ([ys154, ys393], ys394.2.2.2.2, yFP, zm282.2.2.1, zm282.2.2.2.1, zc282, 0, ys394.2.2.2.1, [], [])
theorem yw394 : ywf ys394.2.2.1 = true := by decide +kernel
theorem yk394 : yver yx394 ys394.2.2.1 4000 = true := by decide +kernel
theorem yt394 {E : zHp → Prop} (h : yEF E yFP) : yTs E 4 ys394 := yver_s (x := yx394) h (yal_c (yt154 h) (by decide) yw154 (yal_c (yt393 h) (by decide) yw393 (yal_n))) yg282 yk394
def ys395 : ySp := (293, 3, (0, [], [], [], [(0, (0, yc 60, yc 0)), (1, (0, yc 66, yc 0)), (2, (7, yc 0, yc 0))], []), [(0, [], [], [], [], [(0, yc 60, yc 0)])], [])
def yx395 : yCx := ([], ys395.2.2.2.2, yFP, zm293.2.2.1, zm293.2.2.2.1, zc293, 0, ys395.2.2.2.1, [], [])
theorem yw395 : ywf ys395.2.2.1 = true := by decide +kernel
theorem yk395 : yver yx395 ys395.2.2.1 4000 = true := by decide +kernel
theorem yt395 {E : zHp → Prop} (h : yEF E yFP) : yTs E 1 ys395 := yver_s (x := yx395) h (yal_n) yg293 yk395
def ys396 : ySp := (285, 2, (0, [], [], [], [(0, (0, yc 60, yc 0)), (1, (0, yc 66, yc 0))], []), [(0, [], [], [], [], [])], [])
def yx396 : yCx := ([ys395], ys396.2.2.2.2, yFP, zm285.2.2.1, zm285.2.2.2.1, zc285, 0, ys396.2.2.2.1, [], [])
theorem yw396 : ywf ys396.2.2.1 = true := by decide +kernel
theorem yk396 : yver yx396 ys396.2.2.1 4000 = true := by decide +kernel
theorem yt396 {E : zHp → Prop} (h : yEF E yFP) : yTs E 2 ys396 := yver_s (x := yx396) h (yal_c (yt395 h) (by decide) yw395 (yal_n)) yg285 yk396
def ys397 : ySp := (286, 2, (0, [], [], [], [(0, (2, yc 1023, yc 0)), (1, (0, yc 60, yc 0))], []), [(0, [], [], [], [], [(0, yc 114, yc 0)])], [])
def yx397 : yCx := ([ys396], ys397.2.2.2.2, yFP, zm286.2.2.1, zm286.2.2.2.1, zc286, 0, ys397.2.2.2.1, [], [])
theorem yw397 : ywf ys397.2.2.1 = true := by decide +kernel
theorem yk397 : yver yx397 ys397.2.2.1 4000 = true := by decide +kernel
theorem yt397 {E : zHp → Prop} (h : yEF E yFP) : yTs E 3 ys397 := yver_s (x := yx397) h (yal_c (yt396 h) (by decide) yw396 (yal_n)) yg286 yk397
def ys398 : ySp := (282, 2, (0, [], [], [], [(0, (2, yc 1004, yc 0)), (1, (0, yc 60, yc 0))], []), [(0, [], [], [], [], [(0, yc 114, yc 0)])], [])
def yx398 : yCx := ([ys154, ys397], ys398.2.2.2.2, yFP, zm282.2.2.1, zm282.2.2.2.1, zc282, 0, ys398.2.2.2.1, [], [])
theorem yw398 : ywf ys398.2.2.1 = true := by decide +kernel
theorem yk398 : yver yx398 ys398.2.2.1 4000 = true := by decide +kernel
theorem yt398 {E : zHp → Prop} (h : yEF E yFP) : yTs E 4 ys398 := yver_s (x := yx398) h (yal_c (yt154 h) (by decide) yw154 (yal_c (yt397 h) (by decide) yw397 (yal_n))) yg282 yk398
def ys399 : ySp := (293, 3, (0, [], [], [], [(0, (0, yc 61, yc 0)), (1, (0, yc 66, yc 0)), (2, (7, yc 0, yc 0))], []), [(0, [], [], [], [], [(0, yc 61, yc 0)])], [])
def yx399 : yCx := ([], ys399.2.2.2.2, yFP, zm293.2.2.1, zm293.2.2.2.1, zc293, 0, ys399.2.2.2.1, [], [])
theorem yw399 : ywf ys399.2.2.1 = true := by decide +kernel
theorem yk399 : yver yx399 ys399.2.2.1 4000 = true := by decide +kernel
theorem yt399 {E : zHp → Prop} (h : yEF E yFP) : yTs E 1 ys399 := yver_s (x := yx399) h (yal_n) yg293 yk399
def ys400 : ySp := (285, 2, (0, [], [], [], [(0, (0, yc 61, yc 0)), (1, (0, yc 66, yc 0))], []), [(0, [], [], [], [], [])], [])
def yx400 : yCx := ([ys399], ys400.2.2.2.2, yFP, zm285.2.2.1, zm285.2.2.2.1, zc285, 0, ys400.2.2.2.1, [], [])
theorem yw400 : ywf ys400.2.2.1 = true := by decide +kernel
theorem yk400 : yver yx400 ys400.2.2.1 4000 = true := by decide +kernel
theorem yt400 {E : zHp → Prop} (h : yEF E yFP) : yTs E 2 ys400 := yver_s (x := yx400) h (yal_c (yt399 h) (by decide) yw399 (yal_n)) yg285 yk400
def ys401 : ySp := (286, 2, (0, [], [], [], [(0, (2, yc 1023, yc 0)), (1, (0, yc 61, yc 0))], []), [(0, [], [], [], [], [(0, yc 117, yc 0)])], [])
def yx401 : yCx := ([ys400], ys401.2.2.2.2, yFP, zm286.2.2.1, zm286.2.2.2.1, zc286, 0, ys401.2.2.2.1, [], [])
theorem yw401 : ywf ys401.2.2.1 = true := by decide +kernel
theorem yk401 : yver yx401 ys401.2.2.1 4000 = true := by decide +kernel
theorem yt401 {E : zHp → Prop} (h : yEF E yFP) : yTs E 3 ys401 := yver_s (x := yx401) h (yal_c (yt400 h) (by decide) yw400 (yal_n)) yg286 yk401
def ys402 : ySp := (282, 2, (0, [], [], [], [(0, (2, yc 1004, yc 0)), (1, (0, yc 61, yc 0))], []), [(0, [], [], [], [], [(0, yc 117, yc 0)])], [])
def yx402 : yCx := ([ys154, ys401], ys402.2.2.2.2, yFP, zm282.2.2.1, zm282.2.2.2.1, zc282, 0, ys402.2.2.2.1, [], [])
theorem yw402 : ywf ys402.2.2.1 = true := by decide +kernel
theorem yk402 : yver yx402 ys402.2.2.1 4000 = true := by decide +kernel
theorem yt402 {E : zHp → Prop} (h : yEF E yFP) : yTs E 4 ys402 := yver_s (x := yx402) h (yal_c (yt154 h) (by decide) yw154 (yal_c (yt401 h) (by decide) yw401 (yal_n))) yg282 yk402
def ys403 : ySp := (293, 3, (0, [], [], [], [(0, (0, yc 62, yc 0)), (1, (0, yc 66, yc 0)), (2, (7, yc 0, yc 0))], []), [(0, [], [], [], [], [(0, yc 62, yc 0)])], [])
def yx403 : yCx := ([], ys403.2.2.2.2, yFP, zm293.2.2.1, zm293.2.2.2.1, zc293, 0, ys403.2.2.2.1, [], [])
theorem yw403 : ywf ys403.2.2.1 = true := by decide +kernel
theorem yk403 : yver yx403 ys403.2.2.1 4000 = true := by decide +kernel
theorem yt403 {E : zHp → Prop} (h : yEF E yFP) : yTs E 1 ys403 := yver_s (x := yx403) h (yal_n) yg293 yk403
