def ys581 : ySp := (87, 3, (1, [(0, 0, 5)], [], [], [(0, (2, yc 11, yc 0)), (1, (0, (1, 0, 0), yc 0)), (2, (0, yc 2, yc 0))], []), [(2, [(1, (-2147483648), 2147483647)], [], [], [], [(0, (1, 1, 0), yc 0)])], [])
def yx581 : yCx := ([], ys581.2.2.2.2, yFP, zm87.2.2.1, zm87.2.2.2.1, zc87, 1, ys581.2.2.2.1, [], [])
theorem yw581 : ywf ys581.2.2.1 = true := by decide +kernel
theorem yk581 : yver yx581 ys581.2.2.1 4000 = true := by decide +kernel
theorem yt581 {E : zHp → Prop} (h : yEF E yFP) : yTs E 1 ys581 := yver_s (x := yx581) h (yal_n) yg87 yk581
def ys582 : ySp := (87, 3, (1, [(0, 0, 5)], [], [], [(0, (2, yc 11, yc 0)), (1, (0, (1, 0, 0), yc 0)), (2, (0, yc 5, yc 0))], []), [(2, [(1, (-2147483648), 2147483647)], [], [], [], [(0, (1, 1, 0), yc 0)])], [])
def yx582 : yCx := ([], ys582.2.2.2.2, yFP, zm87.2.2.1, zm87.2.2.2.1, zc87, 1, ys582.2.2.2.1, [], [])
theorem yw582 : ywf ys582.2.2.1 = true := by decide +kernel
theorem yk582 : yver yx582 ys582.2.2.1 4000 = true := by decide +kernel
theorem yt582 {E : zHp → Prop} (h : yEF E yFP) : yTs E 1 ys582 := yver_s (x := yx582) h (yal_n) yg87 yk582
def ys583 : ySp := (98, 2, (1, [(0, 0, 5)], [], [], [(0, (2, yc 11, yc 0)), (1, (0, (1, 0, 0), yc 0))], []), [(2, [(1, 0, 2147483647)], [], [], [], [(0, (1, 1, 0), yc 0)])], [])
def yx583 : yCx := ([ys567, ys582], ys583.2.2.2.2, yFP, zm98.2.2.1, zm98.2.2.2.1, zc98, 1, ys583.2.2.2.1, [], [])
theorem yw583 : ywf ys583.2.2.1 = true := by decide +kernel
theorem yk583 : yver yx583 ys583.2.2.1 4000 = true := by decide +kernel
theorem yt583 {E : zHp → Prop} (h : yEF E yFP) : yTs E 2 ys583 := yver_s (x := yx583) h (yal_c (yt567 h) (by decide) yw567 (yal_c (yt582 h) (by decide) yw582 (yal_n))) yg98 yk583
def ys584 : ySp := (100, 3, (1, [(0, 0, 5)], [], [], [(0, (2, yc 11, yc 0)), (1, (0, (1, 0, 0), yc 0)), (2, (0, yc 0, yc 0))], []), [(1, [], [], [], [], [(0, yc 0, yc 0)]), (2, [(1, 0, 2147483647)], [], [], [], [(0, (1, 1, 0), yc 0)])], [])
def yx584 : yCx := ([ys554, ys581, ys580, ys583], ys584.2.2.2.2, yFP, zm100.2.2.1, zm100.2.2.2.1, zc100, 1, ys584.2.2.2.1, [], [])
theorem yw584 : ywf ys584.2.2.1 = true := by decide +kernel
theorem yk584 : yver yx584 ys584.2.2.1 4000 = true := by decide +kernel
theorem yt584 {E : zHp → Prop} (h : yEF E yFP) : yTs E 3 ys584 := yver_s (x := yx584) h (yal_c (yt554 h) (by decide) yw554 (yal_c (yt581 h) (by decide) yw581 (yal_c (yt580 h) (by decide) yw580 (yal_c (yt583 h) (by decide) yw583 (yal_n))))) yg100 yk584
def ys585 : ySp := (99, 2, (1, [(0, 0, 5)], [], [], [(0, (2, yc 11, yc 0)), (1, (0, (1, 0, 0), yc 0))], []), [(1, [], [], [], [], [(0, yc 0, yc 0)]), (2, [(1, 0, 2147483647)], [], [], [], [(0, (1, 1, 0), yc 0)])], [])
def yx585 : yCx := ([ys584], ys585.2.2.2.2, yFP, zm99.2.2.1, zm99.2.2.2.1, zc99, 1, ys585.2.2.2.1, [], [])
theorem yw585 : ywf ys585.2.2.1 = true := by decide +kernel
theorem yk585 : yver yx585 ys585.2.2.1 4000 = true := by decide +kernel
theorem yt585 {E : zHp → Prop} (h : yEF E yFP) : yTs E 4 ys585 := yver_s (x := yx585) h (yal_c (yt584 h) (by decide) yw584 (yal_n)) yg99 yk585
def ys588 : ySp := (81, 1, (0, [], [], [], [(0, (2, yc 11, yc 0))], []), [(1, [(0, (-2147483648), 2147483647)], [], [], [], [(0, (1, 0, 0), yc 0)])], [])
def yx588 : yCx := ([], ys588.2.2.2.2, yFP, zm81.2.2.1, zm81.2.2.2.1, zc81, 0, ys588.2.2.2.1, [], [])
theorem yw588 : ywf ys588.2.2.1 = true := by decide +kernel
theorem yk588 : yver yx588 ys588.2.2.1 4000 = true := by decide +kernel
theorem yt588 {E : zHp → Prop} (h : yEF E yFP) : yTs E 1 ys588 := yver_s (x := yx588) h (yal_n) yg81 yk588
def ys600 : ySp := (89, 3, (1, [(0, 0, 5)], [], [], [(0, (2, yc 11, yc 0)), (1, (0, (1, 0, 0), yc 0)), (2, (0, yc 4, yc 0))], []), [(2, [(1, (-2147483648), 2147483647)], [], [], [], [(0, (1, 1, 0), yc 0)])], [])
def yx600 : yCx := ([], ys600.2.2.2.2, yFP, zm89.2.2.1, zm89.2.2.2.1, zc89, 1, ys600.2.2.2.1, [], [])
theorem yw600 : ywf ys600.2.2.1 = true := by decide +kernel
theorem yk600 : yver yx600 ys600.2.2.1 4000 = true := by decide +kernel
theorem yt600 {E : zHp → Prop} (h : yEF E yFP) : yTs E 1 ys600 := yver_s (x := yx600) h (yal_n) yg89 yk600
def ys601 : ySp := (106, 2, (1, [(0, 0, 5)], [], [], [(0, (2, yc 11, yc 0)), (1, (0, (1, 0, 0), yc 0))], []), [(1, [], [], [], [], [(0, yc 0, yc 0)]), (1, [], [], [], [], [(0, yc 1, yc 0)])], [])
def yx601 : yCx := ([ys600], ys601.2.2.2.2, yFP, zm106.2.2.1, zm106.2.2.2.1, zc106, 1, ys601.2.2.2.1, [], [])
theorem yw601 : ywf ys601.2.2.1 = true := by decide +kernel
theorem yk601 : yver yx601 ys601.2.2.1 4000 = true := by decide +kernel
theorem yt601 {E : zHp → Prop} (h : yEF E yFP) : yTs E 2 ys601 := yver_s (x := yx601) h (yal_c (yt600 h) (by decide) yw600 (yal_n)) yg106 yk601
def ys602 : ySp := (89, 3, (1, [(0, 0, 5)], [], [], [(0, (2, yc 11, yc 0)), (1, (0, (1, 0, 0), yc 0)), (2, (0, yc 1, yc 0))], []), [(2, [(1, (-2147483648), 2147483647)], [], [], [], [(0, (1, 1, 0), yc 0)])], [])
def yx602 : yCx := ([], ys602.2.2.2.2, yFP, zm89.2.2.1, zm89.2.2.2.1, zc89, 1, ys602.2.2.2.1, [], [])
theorem yw602 : ywf ys602.2.2.1 = true := by decide +kernel
theorem yk602 : yver yx602 ys602.2.2.1 4000 = true := by decide +kernel
theorem yt602 {E : zHp → Prop} (h : yEF E yFP) : yTs E 1 ys602 := yver_s (x := yx602) h (yal_n) yg89 yk602
def ys603 : ySp := (89, 3, (1, [(0, 0, 5)], [], [], [(0, (2, yc 11, yc 0)), (1, (0, (1, 0, 0), yc 0)), (2, (0, yc 0, yc 0))], []), [(2, [(1, 0, 5)], [], [], [], [(0, (1, 1, 0), yc 0)])], [])
def yx603 : yCx := ([], ys603.2.2.2.2, yFP, zm89.2.2.1, zm89.2.2.2.1, zc89, 1, ys603.2.2.2.1, [], [])
theorem yw603 : ywf ys603.2.2.1 = true := by decide +kernel
theorem yk603 : yver yx603 ys603.2.2.1 4000 = true := by decide +kernel
theorem yt603 {E : zHp → Prop} (h : yEF E yFP) : yTs E 1 ys603 := yver_s (x := yx603) h (yal_n) yg89 yk603
def ys604 : ySp := (89, 3, (1, [(0, 0, 5)], [], [], [(0, (2, yc 11, yc 0)), (1, (0, (1, 0, 0), yc 0)), (2, (0, yc 2, yc 0))], []), [(2, [(1, (-2147483648), 2147483647)], [], [], [], [(0, (1, 1, 0), yc 0)])], [])
def yx604 : yCx := ([], ys604.2.2.2.2, yFP, zm89.2.2.1, zm89.2.2.2.1, zc89, 1, ys604.2.2.2.1, [], [])
theorem yw604 : ywf ys604.2.2.1 = true := by decide +kernel
theorem yk604 : yver yx604 ys604.2.2.1 4000 = true := by decide +kernel
theorem yt604 {E : zHp → Prop} (h : yEF E yFP) : yTs E 1 ys604 := yver_s (x := yx604) h (yal_n) yg89 yk604
def ys605 : ySp := (107, 3, (1, [(0, 0, 5)], [], [], [(0, (2, yc 11, yc 0)), (1, (0, (1, 0, 0), yc 0))], []), [(1, [], [], [], [], [(0, yc 0, yc 0)]), (1, [], [], [], [], [(0, yc 1, yc 0)])], [])
def yx605 : yCx := ([ys520, ys552, ys579, ys602, ys603, ys604, ys585, ys601], ys605.2.2.2.2, yFP, zm107.2.2.1, zm107.2.2.2.1, zc107, 1, ys605.2.2.2.1, [(12, (2, [(0, 0, 5), (1, 0, 6)], [], [], [(0, (2, yc 11, yc 0)), (1, (0, (1, 0, 0), yc 0)), (2, (0, (1, 1, 0), yc 0))], []), ([((-1), 1)], 7))], [])
theorem yw605 : ywf ys605.2.2.1 = true := by decide +kernel
theorem yk605 : yver yx605 ys605.2.2.1 4000 = true := by decide +kernel
theorem yt605 {E : zHp → Prop} (h : yEF E yFP) : yTs E 5 ys605 := yver_s (x := yx605) h (yal_c (yt520 h) (by decide) yw520 (yal_c (yt552 h) (by decide) yw552 (yal_c (yt579 h) (by decide) yw579 (yal_c (yt602 h) (by decide) yw602 (yal_c (yt603 h) (by decide) yw603 (yal_c (yt604 h) (by decide) yw604 (yal_c (yt585 h) (by decide) yw585 (yal_c (yt601 h) (by decide) yw601 (yal_n))))))))) yg107 yk605
def ys606 : ySp := (89, 3, (1, [(0, 0, 5)], [], [], [(0, (2, yc 11, yc 0)), (1, (0, (1, 0, 0), yc 0)), (2, (0, yc 3, yc 0))], []), [(2, [(1, (-2147483648), 2147483647)], [], [], [], [(0, (1, 1, 0), yc 0)])], [])
def yx606 : yCx := ([], ys606.2.2.2.2, yFP, zm89.2.2.1, zm89.2.2.2.1, zc89, 1, ys606.2.2.2.1, [], [])
theorem yw606 : ywf ys606.2.2.1 = true := by decide +kernel
theorem yk606 : yver yx606 ys606.2.2.1 4000 = true := by decide +kernel
theorem yt606 {E : zHp → Prop} (h : yEF E yFP) : yTs E 1 ys606 := yver_s (x := yx606) h (yal_n) yg89 yk606
def ys607 : ySp := (90, 4, (2, [(0, 0, 5), (1, (-2147483648), 2147483647)], [], [], [(0, (2, yc 11, yc 0)), (1, (0, (1, 0, 0), yc 0)), (2, (0, yc 4, yc 0)), (3, (0, (1, 1, 0), yc 0))], []), [(2, [], [], [], [], [])], [(12, 12, 1000)])
def yx607 : yCx := ([], ys607.2.2.2.2, yFP, zm90.2.2.1, zm90.2.2.2.1, zc90, 2, ys607.2.2.2.1, [], [])
theorem yw607 : ywf ys607.2.2.1 = true := by decide +kernel
theorem yk607 : yver yx607 ys607.2.2.1 4000 = true := by decide +kernel
theorem yt607 {E : zHp → Prop} (h : yEF E yFP) : yTs E 1 ys607 := yver_s (x := yx607) h (yal_n) yg90 yk607
def ys608 : ySp := (108, 3, (1, [(0, 0, 5)], [], [], [(0, (2, yc 11, yc 0)), (1, (0, (1, 0, 0), yc 0))], []), [(2, [(1, (-2147483648), 2147483647)], [], [], [], [(0, (1, 1, 0), yc 0)])], [(12, 12, 1000)])
def yx608 : yCx := ([ys588, ys606, ys607], ys608.2.2.2.2, yFP, zm108.2.2.1, zm108.2.2.2.1, zc108, 1, ys608.2.2.2.1, [], [])
theorem yw608 : ywf ys608.2.2.1 = true := by decide +kernel
theorem yk608 : yver yx608 ys608.2.2.1 4000 = true := by decide +kernel
theorem yt608 {E : zHp → Prop} (h : yEF E yFP) : yTs E 2 ys608 := yver_s (x := yx608) h (yal_c (yt588 h) (by decide) yw588 (yal_c (yt606 h) (by decide) yw606 (yal_c (yt607 h) (by decide) yw607 (yal_n)))) yg108 yk608
def ys609 : ySp := (109, 2, (0, [], [], [], [(0, (2, yc 11, yc 0))], []), [(0, [], [], [], [], [])], [(12, 12, 1000)])
def yx609 : yCx := ([ys558, ys605, ys608], ys609.2.2.2.2, yFP, zm109.2.2.1, zm109.2.2.2.1, zc109, 0, ys609.2.2.2.1, [(2, (1, [(0, 0, 6)], [], [], [(0, (2, yc 11, yc 0)), (1, (0, (1, 0, 0), yc 0))], []), ([((-1), 0)], 7))], [])
theorem yw609 : ywf ys609.2.2.1 = true := by decide +kernel
theorem yk609 : yver yx609 ys609.2.2.1 4000 = true := by decide +kernel
theorem yt609 {E : zHp → Prop} (h : yEF E yFP) : yTs E 6 ys609 := yver_s (x := yx609) h (yal_c (yt558 h) (by decide) yw558 (yal_c (yt605 h) (by decide) yw605 (yal_c (yt608 h) (by decide) yw608 (yal_n)))) yg109 yk609
def ys612 : ySp := (88, 4, (2, [(0, 0, 5), (1, (-2147483648), 2147483647)], [], [], [(0, (2, yc 11, yc 0)), (1, (0, (1, 0, 0), yc 0)), (2, (0, yc 5, yc 0)), (3, (0, (1, 1, 0), yc 0))], []), [(2, [], [], [], [], [])], [(12, 12, 1000)])
def yx612 : yCx := ([], ys612.2.2.2.2, yFP, zm88.2.2.1, zm88.2.2.2.1, zc88, 2, ys612.2.2.2.1, [], [])
theorem yw612 : ywf ys612.2.2.1 = true := by decide +kernel
theorem yk612 : yver yx612 ys612.2.2.1 4000 = true := by decide +kernel
theorem yt612 {E : zHp → Prop} (h : yEF E yFP) : yTs E 1 ys612 := yver_s (x := yx612) h (yal_n) yg88 yk612
def ys613 : ySp := (112, 2, (0, [], [], [], [(0, (2, yc 11, yc 0))], []), [(0, [], [], [], [], [])], [(12, 12, 1000)])
def yx613 : yCx := ([ys520, ys588, ys582, ys612, ys580], ys613.2.2.2.2, yFP, zm112.2.2.1, zm112.2.2.2.1, zc112, 0, ys613.2.2.2.1, [(2, (1, [(0, 0, 6)], [], [], [(0, (2, yc 11, yc 0)), (1, (0, (1, 0, 0), yc 0))], []), ([((-1), 0)], 7))], [])
theorem yw613 : ywf ys613.2.2.1 = true := by decide +kernel
theorem yk613 : yver yx613 ys613.2.2.1 4000 = true := by decide +kernel
theorem yt613 {E : zHp → Prop} (h : yEF E yFP) : yTs E 3 ys613 := yver_s (x := yx613) h (yal_c (yt520 h) (by decide) yw520 (yal_c (yt588 h) (by decide) yw588 (yal_c (yt582 h) (by decide) yw582 (yal_c (yt612 h) (by decide) yw612 (yal_c (yt580 h) (by decide) yw580 (yal_n)))))) yg112 yk613
def ys614 : ySp := (82, 1, (0, [], [], [], [(0, (2, yc 11, yc 0))], []), [(1, [(0, (-2147483648), 2147483647)], [], [], [], [(0, (1, 0, 0), yc 0)])], [])
def yx614 : yCx := ([], ys614.2.2.2.2, yFP, zm82.2.2.1, zm82.2.2.2.1, zc82, 0, ys614.2.2.2.1, [], [])
theorem yw614 : ywf ys614.2.2.1 = true := by decide +kernel
theorem yk614 : yver yx614 ys614.2.2.1 4000 = true := by decide +kernel
theorem yt614 {E : zHp → Prop} (h : yEF E yFP) : yTs E 1 ys614 := yver_s (x := yx614) h (yal_n) yg82 yk614
def ys616 : ySp := (204, 1, (1, [(0, 0, 6)], [], [(yc 80, yc 0, (0, (1, 0, 0), yc 0))], [(0, (2, yc 70, yc 0))], []), [(1, [(0, 0, 0)], [], [(yc 80, yc 0, (0, yc 0, yc 0))], [], [(0, yc 0, yc 0)]), (1, [(0, 1, 6)], [], [(yc 80, yc 0, (0, (1, 0, 0), yc 0))], [], [(0, yc 1, yc 0)])], [])
def yx616 : yCx := ([], ys616.2.2.2.2, yFP, zm204.2.2.1, zm204.2.2.2.1, zc204, 1, ys616.2.2.2.1, [], [])
theorem yw616 : ywf ys616.2.2.1 = true := by decide +kernel
theorem yk616 : yver yx616 ys616.2.2.1 4000 = true := by decide +kernel
theorem yt616 {E : zHp → Prop} (h : yEF E yFP) : yTs E 1 ys616 := yver_s (x := yx616) h (yal_n) yg204 yk616
def ys617 : ySp := (158, 6, (1, [(0, 0, 2147483647)], [], [], [(0, (1, (1, 0, 0), yc 0)), (2, (1, yc 1, yc 0)), (4, (1, yc 10, yc 0))], []), [(1, [(0, 0, 0)], [], [], [], [(0, yc 0, yc 0)]), (1, [(0, 11, 2147483647)], [], [], [], [(0, yc 0, yc 0)]), (1, [(0, 1, 10)], [], [], [], [(0, yc 1, yc 0)])], [])
def yx617 : yCx := ([], ys617.2.2.2.2, yFP, zm158.2.2.1, zm158.2.2.2.1, zc158, 1, ys617.2.2.2.1, [], [])
theorem yw617 : ywf ys617.2.2.1 = true := by decide +kernel
theorem yk617 : yver yx617 ys617.2.2.1 4000 = true := by decide +kernel
theorem yt617 {E : zHp → Prop} (h : yEF E yFP) : yTs E 1 ys617 := yver_s (x := yx617) h (yal_n) yg158 yk617
def ys618 : ySp := (158, 6, (1, [(0, 0, 2147483647)], [], [], [(0, (1, (1, 0, 0), yc 0)), (2, (1, yc 1, yc 0)), (4, (1, yc 60, yc 0))], []), [(1, [(0, 0, 0)], [], [], [], [(0, yc 0, yc 0)]), (1, [(0, 61, 2147483647)], [], [], [], [(0, yc 0, yc 0)]), (1, [(0, 1, 60)], [], [], [], [(0, yc 1, yc 0)])], [])
def yx618 : yCx := ([], ys618.2.2.2.2, yFP, zm158.2.2.1, zm158.2.2.2.1, zc158, 1, ys618.2.2.2.1, [], [])
theorem yw618 : ywf ys618.2.2.1 = true := by decide +kernel
theorem yk618 : yver yx618 ys618.2.2.1 4000 = true := by decide +kernel
theorem yt618 {E : zHp → Prop} (h : yEF E yFP) : yTs E 1 ys618 := yver_s (x := yx618) h (yal_n) yg158 yk618
def ys619 : ySp := (158, 6, (1, [(0, 0, 2147483647)], [], [], [(0, (1, (1, 0, 0), yc 0)), (2, (1, yc 0, yc 0)), (4, (1, yc 1, yc 0))], []), [(1, [(0, 2, 2147483647)], [], [], [], [(0, yc 0, yc 0)]), (1, [(0, 0, 1)], [], [], [], [(0, yc 1, yc 0)])], [])
def yx619 : yCx := ([], ys619.2.2.2.2, yFP, zm158.2.2.1, zm158.2.2.2.1, zc158, 1, ys619.2.2.2.1, [], [])
theorem yw619 : ywf ys619.2.2.1 = true := by decide +kernel
theorem yk619 : yver yx619 ys619.2.2.1 4000 = true := by decide +kernel
theorem yt619 {E : zHp → Prop} (h : yEF E yFP) : yTs E 1 ys619 := yver_s (x := yx619) h (yal_n) yg158 yk619
def ys620 : ySp := (274, 2, (0, [], [], [], [(0, (2, yc 70, yc 0)), (1, (0, yc 7, yc 0))], []), [(1, [(0, 0, 6)], [], [], [], [(0, (1, 0, 0), yc 0)])], [(70, 70, 35)])
def yx620 : yCx := ([], ys620.2.2.2.2, yFP, zm274.2.2.1, zm274.2.2.2.1, zc274, 0, ys620.2.2.2.1, [], [])
theorem yw620 : ywf ys620.2.2.1 = true := by decide +kernel
theorem yk620 : yver yx620 ys620.2.2.1 4000 = true := by decide +kernel
theorem yt620 {E : zHp → Prop} (h : yEF E yFP) : yTs E 1 ys620 := yver_s (x := yx620) h (yal_n) yg274 yk620
def ys624 : ySp := (210, 3, (2, [(0, 0, 5), (1, 0, 5)], [], [], [(0, (2, yc 70, yc 0)), (1, (0, (1, 0, 0), yc 0)), (2, (0, (1, 1, 0), yc 0))], []), [(2, [], [], [], [], [(0, yc 0, yc 0)]), (2, [], [], [], [], [(0, yc 1, yc 0)])], [])
def yx624 : yCx := ([], ys624.2.2.2.2, yFP, zm210.2.2.1, zm210.2.2.2.1, zc210, 2, ys624.2.2.2.1, [], [])
theorem yw624 : ywf ys624.2.2.1 = true := by decide +kernel
theorem yk624 : yver yx624 ys624.2.2.1 4000 = true := by decide +kernel
theorem yt624 {E : zHp → Prop} (h : yEF E yFP) : yTs E 1 ys624 := yver_s (x := yx624) h (yal_n) yg210 yk624
def ys627 : ySp := (274, 2, (0, [], [], [], [(0, (2, yc 70, yc 0)), (1, (0, yc 6, yc 0))], []), [(1, [(0, 0, 5)], [], [], [], [(0, (1, 0, 0), yc 0)])], [(70, 70, 35)])
def yx627 : yCx := ([], ys627.2.2.2.2, yFP, zm274.2.2.1, zm274.2.2.2.1, zc274, 0, ys627.2.2.2.1, [], [])
theorem yw627 : ywf ys627.2.2.1 = true := by decide +kernel
theorem yk627 : yver yx627 ys627.2.2.1 4000 = true := by decide +kernel
theorem yt627 {E : zHp → Prop} (h : yEF E yFP) : yTs E 1 ys627 := yver_s (x := yx627) h (yal_n) yg274 yk627
def ys628 : ySp := (274, 2, (0, [], [], [], [(0, (2, yc 70, yc 0)), (1, (0, yc 5, yc 0))], []), [(1, [(0, 0, 4)], [], [], [], [(0, (1, 0, 0), yc 0)])], [(70, 70, 35)])
def yx628 : yCx := ([], ys628.2.2.2.2, yFP, zm274.2.2.1, zm274.2.2.2.1, zc274, 0, ys628.2.2.2.1, [], [])
theorem yw628 : ywf ys628.2.2.1 = true := by decide +kernel
theorem yk628 : yver yx628 ys628.2.2.1 4000 = true := by decide +kernel
theorem yt628 {E : zHp → Prop} (h : yEF E yFP) : yTs E 1 ys628 := yver_s (x := yx628) h (yal_n) yg274 yk628
def ys629 : ySp := (274, 2, (0, [], [], [], [(0, (2, yc 70, yc 0)), (1, (0, yc 4, yc 0))], []), [(1, [(0, 0, 3)], [], [], [], [(0, (1, 0, 0), yc 0)])], [(70, 70, 35)])
def yx629 : yCx := ([], ys629.2.2.2.2, yFP, zm274.2.2.1, zm274.2.2.2.1, zc274, 0, ys629.2.2.2.1, [], [])
theorem yw629 : ywf ys629.2.2.1 = true := by decide +kernel
theorem yk629 : yver yx629 ys629.2.2.1 4000 = true := by decide +kernel
theorem yt629 {E : zHp → Prop} (h : yEF E yFP) : yTs E 1 ys629 := yver_s (x := yx629) h (yal_n) yg274 yk629
def ys630 : ySp := (274, 2, (0, [], [], [], [(0, (2, yc 70, yc 0)), (1, (0, yc 3, yc 0))], []), [(1, [(0, 0, 2)], [], [], [], [(0, (1, 0, 0), yc 0)])], [(70, 70, 35)])
def yx630 : yCx := ([], ys630.2.2.2.2, yFP, zm274.2.2.1, zm274.2.2.2.1, zc274, 0, ys630.2.2.2.1, [], [])
theorem yw630 : ywf ys630.2.2.1 = true := by decide +kernel
theorem yk630 : yver yx630 ys630.2.2.1 4000 = true := by decide +kernel
theorem yt630 {E : zHp → Prop} (h : yEF E yFP) : yTs E 1 ys630 := yver_s (x := yx630) h (yal_n) yg274 yk630
def ys631 : ySp := (274, 2, (0, [], [], [], [(0, (2, yc 70, yc 0)), (1, (0, yc 2, yc 0))], []), [(1, [(0, 0, 1)], [], [], [], [(0, (1, 0, 0), yc 0)])], [(70, 70, 35)])
def yx631 : yCx := ([], ys631.2.2.2.2, yFP, zm274.2.2.1, zm274.2.2.2.1, zc274, 0, ys631.2.2.2.1, [], [])
theorem yw631 : ywf ys631.2.2.1 = true := by decide +kernel
theorem yk631 : yver yx631 ys631.2.2.1 4000 = true := by decide +kernel
theorem yt631 {E : zHp → Prop} (h : yEF E yFP) : yTs E 1 ys631 := yver_s (x := yx631) h (yal_n) yg274 yk631
def ys632 : ySp := (274, 2, (0, [], [], [], [(0, (2, yc 70, yc 0)), (1, (0, yc 1, yc 0))], []), [(0, [], [], [], [], [(0, yc 0, yc 0)])], [(70, 70, 35)])
def yx632 : yCx := ([], ys632.2.2.2.2, yFP, zm274.2.2.1, zm274.2.2.2.1, zc274, 0, ys632.2.2.2.1, [], [])
theorem yw632 : ywf ys632.2.2.1 = true := by decide +kernel
theorem yk632 : yver yx632 ys632.2.2.1 4000 = true := by decide +kernel
theorem yt632 {E : zHp → Prop} (h : yEF E yFP) : yTs E 1 ys632 := yver_s (x := yx632) h (yal_n) yg274 yk632
def ys633 : ySp := (208, 3, (1, [(0, 0, 5)], [], [], [(0, (2, yc 70, yc 0)), (1, (0, (1, 0, 0), yc 0)), (2, (0, yc 0, yc 0))], []), [(2, [(1, 0, 5)], [], [], [], [(0, (1, 1, 0), yc 0)])], [])
def yx633 : yCx := ([], ys633.2.2.2.2, yFP, zm208.2.2.1, zm208.2.2.2.1, zc208, 1, ys633.2.2.2.1, [], [])
theorem yw633 : ywf ys633.2.2.1 = true := by decide +kernel
theorem yk633 : yver yx633 ys633.2.2.1 4000 = true := by decide +kernel
theorem yt633 {E : zHp → Prop} (h : yEF E yFP) : yTs E 1 ys633 := yver_s (x := yx633) h (yal_n) yg208 yk633
def ys634 : ySp := (224, 2, (1, [(0, 0, 5)], [], [], [(0, (2, yc 70, yc 0)), (1, (0, (1, 0, 0), yc 0))], []), [(1, [], [], [], [], [])], [(80, 80, 1000)])
def yx634 : yCx := ([ys633], ys634.2.2.2.2, yFP, zm224.2.2.1, zm224.2.2.2.1, zc224, 1, ys634.2.2.2.1, [], [])
theorem yw634 : ywf ys634.2.2.1 = true := by decide +kernel
theorem yk634 : yver yx634 ys634.2.2.1 4000 = true := by decide +kernel
theorem yt634 {E : zHp → Prop} (h : yEF E yFP) : yTs E 2 ys634 := yver_s (x := yx634) h (yal_c (yt633 h) (by decide) yw633 (yal_n)) yg224 yk634
def ys635 : ySp := (208, 3, (1, [(0, 0, 5)], [], [], [(0, (2, yc 70, yc 0)), (1, (0, (1, 0, 0), yc 0)), (2, (0, yc 3, yc 0))], []), [(2, [(1, 0, 5)], [], [], [], [(0, (1, 1, 0), yc 0)])], [])
def yx635 : yCx := ([], ys635.2.2.2.2, yFP, zm208.2.2.1, zm208.2.2.2.1, zc208, 1, ys635.2.2.2.1, [], [])
theorem yw635 : ywf ys635.2.2.1 = true := by decide +kernel
theorem yk635 : yver yx635 ys635.2.2.1 4000 = true := by decide +kernel
theorem yt635 {E : zHp → Prop} (h : yEF E yFP) : yTs E 1 ys635 := yver_s (x := yx635) h (yal_n) yg208 yk635
def ys636 : ySp := (222, 4, (2, [(0, 0, 5), (1, 0, 5)], [], [], [(0, (2, yc 70, yc 0)), (1, (0, (1, 0, 0), yc 0)), (2, (0, (1, 1, 0), yc 0))], []), [(2, [], [], [], [], [(0, yc 0, yc 0)]), (2, [], [], [], [], [(0, yc 1, yc 0)])], [])
def yx636 : yCx := ([ys633, ys635, ys624], ys636.2.2.2.2, yFP, zm222.2.2.1, zm222.2.2.2.1, zc222, 2, ys636.2.2.2.1, [], [])
theorem yw636 : ywf ys636.2.2.1 = true := by decide +kernel
theorem yk636 : yver yx636 ys636.2.2.1 4000 = true := by decide +kernel
theorem yt636 {E : zHp → Prop} (h : yEF E yFP) : yTs E 2 ys636 := yver_s (x := yx636) h (yal_c (yt633 h) (by decide) yw633 (yal_c (yt635 h) (by decide) yw635 (yal_c (yt624 h) (by decide) yw624 (yal_n)))) yg222 yk636
def ys637 : ySp := (223, 4, (2, [(0, 0, 5), (1, 0, 5)], [], [], [(0, (2, yc 70, yc 0)), (1, (0, (1, 0, 0), yc 0)), (2, (0, (1, 1, 0), yc 0))], []), [(2, [], [], [], [], [])], [(80, 80, 1000)])
def yx637 : yCx := ([ys635], ys637.2.2.2.2, yFP, zm223.2.2.1, zm223.2.2.2.1, zc223, 2, ys637.2.2.2.1, [], [])
theorem yw637 : ywf ys637.2.2.1 = true := by decide +kernel
theorem yk637 : yver yx637 ys637.2.2.1 4000 = true := by decide +kernel
theorem yt637 {E : zHp → Prop} (h : yEF E yFP) : yTs E 2 ys637 := yver_s (x := yx637) h (yal_c (yt635 h) (by decide) yw635 (yal_n)) yg223 yk637
def ys638 : ySp := (275, 4, (0, [], [], [], [(0, (2, yc 70, yc 0))], []), [(1, [(0, (-2147483648), 2147483647)], [], [], [], [(0, (1, 0, 0), yc 0)])], [(70, 70, 35), (80, 80, 1000)])
def yx638 : yCx := ([ys636, ys637, ys634, ys620, ys627, ys628, ys629, ys630, ys631, ys632], ys638.2.2.2.2, yFP, zm275.2.2.1, zm275.2.2.2.1, zc275, 0, ys638.2.2.2.1, [(4, (2, [(0, (-2147483648), 2147483647), (1, 0, 6)], [], [], [(0, (2, yc 70, yc 0)), (1, (0, (1, 0, 0), yc 0)), (2, (0, (1, 1, 0), yc 0))], []), ([((-1), 1)], 7))], [(14, 1, 80, 0)])
theorem yw638 : ywf ys638.2.2.1 = true := by decide +kernel
theorem yk638 : yver yx638 ys638.2.2.1 4000 = true := by decide +kernel
theorem yt638 {E : zHp → Prop} (h : yEF E yFP) : yTs E 3 ys638 := yver_s (x := yx638) h (yal_c (yt636 h) (by decide) yw636 (yal_c (yt637 h) (by decide) yw637 (yal_c (yt634 h) (by decide) yw634 (yal_c (yt620 h) (by decide) yw620 (yal_c (yt627 h) (by decide) yw627 (yal_c (yt628 h) (by decide) yw628 (yal_c (yt629 h) (by decide) yw629 (yal_c (yt630 h) (by decide) yw630 (yal_c (yt631 h) (by decide) yw631 (yal_c (yt632 h) (by decide) yw632 (yal_n))))))))))) yg275 yk638
def ys656 : ySp := (208, 3, (1, [(0, 0, 5)], [], [], [(0, (2, yc 70, yc 0)), (1, (0, (1, 0, 0), yc 0)), (2, (0, yc 1, yc 0))], []), [(2, [(1, (-2147483648), 2147483647)], [], [], [], [(0, (1, 1, 0), yc 0)])], [])
def yx656 : yCx := ([], ys656.2.2.2.2, yFP, zm208.2.2.1, zm208.2.2.2.1, zc208, 1, ys656.2.2.2.1, [], [])
theorem yw656 : ywf ys656.2.2.1 = true := by decide +kernel
theorem yk656 : yver yx656 ys656.2.2.1 4000 = true := by decide +kernel
theorem yt656 {E : zHp → Prop} (h : yEF E yFP) : yTs E 1 ys656 := yver_s (x := yx656) h (yal_n) yg208 yk656
def ys657 : ySp := (212, 2, (1, [(0, 0, 5)], [], [], [(0, (2, yc 70, yc 0)), (1, (0, (1, 0, 0), yc 0))], []), [(1, [], [], [], [], [(0, yc 0, yc 0)]), (1, [], [], [], [], [(0, yc 1, yc 0)])], [])
def yx657 : yCx := ([ys633, ys635], ys657.2.2.2.2, yFP, zm212.2.2.1, zm212.2.2.2.1, zc212, 1, ys657.2.2.2.1, [], [])
theorem yw657 : ywf ys657.2.2.1 = true := by decide +kernel
theorem yk657 : yver yx657 ys657.2.2.1 4000 = true := by decide +kernel
theorem yt657 {E : zHp → Prop} (h : yEF E yFP) : yTs E 2 ys657 := yver_s (x := yx657) h (yal_c (yt633 h) (by decide) yw633 (yal_c (yt635 h) (by decide) yw635 (yal_n))) yg212 yk657
def ys658 : ySp := (208, 3, (1, [(0, 0, 5)], [], [], [(0, (2, yc 70, yc 0)), (1, (0, (1, 0, 0), yc 0)), (2, (0, yc 2, yc 0))], []), [(2, [(1, (-2147483648), 2147483647)], [], [], [], [(0, (1, 1, 0), yc 0)])], [])
def yx658 : yCx := ([], ys658.2.2.2.2, yFP, zm208.2.2.1, zm208.2.2.2.1, zc208, 1, ys658.2.2.2.1, [], [])
theorem yw658 : ywf ys658.2.2.1 = true := by decide +kernel
theorem yk658 : yver yx658 ys658.2.2.1 4000 = true := by decide +kernel
theorem yt658 {E : zHp → Prop} (h : yEF E yFP) : yTs E 1 ys658 := yver_s (x := yx658) h (yal_n) yg208 yk658
def ys659 : ySp := (208, 3, (1, [(0, 0, 5)], [], [], [(0, (2, yc 70, yc 0)), (1, (0, (1, 0, 0), yc 0)), (2, (0, yc 4, yc 0))], []), [(2, [(1, (-2147483648), 2147483647)], [], [], [], [(0, (1, 1, 0), yc 0)])], [])
def yx659 : yCx := ([], ys659.2.2.2.2, yFP, zm208.2.2.1, zm208.2.2.2.1, zc208, 1, ys659.2.2.2.1, [], [])
theorem yw659 : ywf ys659.2.2.1 = true := by decide +kernel
theorem yk659 : yver yx659 ys659.2.2.1 4000 = true := by decide +kernel
theorem yt659 {E : zHp → Prop} (h : yEF E yFP) : yTs E 1 ys659 := yver_s (x := yx659) h (yal_n) yg208 yk659
def ys660 : ySp := (208, 3, (1, [(0, 0, 5)], [], [], [(0, (2, yc 70, yc 0)), (1, (0, (1, 0, 0), yc 0)), (2, (0, yc 5, yc 0))], []), [(2, [(1, (-2147483648), 2147483647)], [], [], [], [(0, (1, 1, 0), yc 0)])], [])
def yx660 : yCx := ([], ys660.2.2.2.2, yFP, zm208.2.2.1, zm208.2.2.2.1, zc208, 1, ys660.2.2.2.1, [], [])
theorem yw660 : ywf ys660.2.2.1 = true := by decide +kernel
theorem yk660 : yver yx660 ys660.2.2.1 4000 = true := by decide +kernel
theorem yt660 {E : zHp → Prop} (h : yEF E yFP) : yTs E 1 ys660 := yver_s (x := yx660) h (yal_n) yg208 yk660
def ys661 : ySp := (213, 3, (1, [(0, 0, 5)], [], [], [(0, (2, yc 70, yc 0)), (1, (0, (1, 0, 0), yc 0))], []), [(1, [], [], [], [], [(0, yc 0, yc 0)]), (2, [(1, 0, 2147483647)], [], [], [], [(0, (1, 1, 0), yc 0)])], [])
def yx661 : yCx := ([ys660, ys657], ys661.2.2.2.2, yFP, zm213.2.2.1, zm213.2.2.2.1, zc213, 1, ys661.2.2.2.1, [], [])
theorem yw661 : ywf ys661.2.2.1 = true := by decide +kernel
theorem yk661 : yver yx661 ys661.2.2.1 4000 = true := by decide +kernel
theorem yt661 {E : zHp → Prop} (h : yEF E yFP) : yTs E 3 ys661 := yver_s (x := yx661) h (yal_c (yt660 h) (by decide) yw660 (yal_c (yt657 h) (by decide) yw657 (yal_n))) yg213 yk661
def ys662 : ySp := (214, 4, (1, [(0, 0, 5)], [], [], [(0, (2, yc 70, yc 0)), (1, (0, (1, 0, 0), yc 0)), (2, (0, yc 0, yc 0))], []), [(1, [], [], [], [], [(0, yc 0, yc 0)]), (2, [(1, 0, 2147483647)], [], [], [], [(0, (1, 1, 0), yc 0)])], [])
def yx662 : yCx := ([ys658, ys659, ys657, ys661], ys662.2.2.2.2, yFP, zm214.2.2.1, zm214.2.2.2.1, zc214, 1, ys662.2.2.2.1, [], [])
theorem yw662 : ywf ys662.2.2.1 = true := by decide +kernel
theorem yk662 : yver yx662 ys662.2.2.1 4000 = true := by decide +kernel
theorem yt662 {E : zHp → Prop} (h : yEF E yFP) : yTs E 4 ys662 := yver_s (x := yx662) h (yal_c (yt658 h) (by decide) yw658 (yal_c (yt659 h) (by decide) yw659 (yal_c (yt657 h) (by decide) yw657 (yal_c (yt661 h) (by decide) yw661 (yal_n))))) yg214 yk662
def ys672 : ySp := (209, 3, (1, [(0, 0, 5)], [], [], [(0, (2, yc 70, yc 0)), (1, (0, (1, 0, 0), yc 0)), (2, (0, yc 1, yc 0))], []), [(2, [(1, (-2147483648), 2147483647)], [], [], [], [(0, (1, 1, 0), yc 0)])], [])
def yx672 : yCx := ([], ys672.2.2.2.2, yFP, zm209.2.2.1, zm209.2.2.2.1, zc209, 1, ys672.2.2.2.1, [], [])
theorem yw672 : ywf ys672.2.2.1 = true := by decide +kernel
theorem yk672 : yver yx672 ys672.2.2.1 4000 = true := by decide +kernel
theorem yt672 {E : zHp → Prop} (h : yEF E yFP) : yTs E 1 ys672 := yver_s (x := yx672) h (yal_n) yg209 yk672
def ys673 : ySp := (209, 3, (1, [(0, 0, 5)], [], [], [(0, (2, yc 70, yc 0)), (1, (0, (1, 0, 0), yc 0)), (2, (0, yc 0, yc 0))], []), [(2, [(1, 0, 5)], [], [], [], [(0, (1, 1, 0), yc 0)])], [])
def yx673 : yCx := ([], ys673.2.2.2.2, yFP, zm209.2.2.1, zm209.2.2.2.1, zc209, 1, ys673.2.2.2.1, [], [])
theorem yw673 : ywf ys673.2.2.1 = true := by decide +kernel
theorem yk673 : yver yx673 ys673.2.2.1 4000 = true := by decide +kernel
theorem yt673 {E : zHp → Prop} (h : yEF E yFP) : yTs E 1 ys673 := yver_s (x := yx673) h (yal_n) yg209 yk673
def ys674 : ySp := (209, 3, (1, [(0, 0, 5)], [], [], [(0, (2, yc 70, yc 0)), (1, (0, (1, 0, 0), yc 0)), (2, (0, yc 2, yc 0))], []), [(2, [(1, (-2147483648), 2147483647)], [], [], [], [(0, (1, 1, 0), yc 0)])], [])
def yx674 : yCx := ([], ys674.2.2.2.2, yFP, zm209.2.2.1, zm209.2.2.2.1, zc209, 1, ys674.2.2.2.1, [], [])
theorem yw674 : ywf ys674.2.2.1 = true := by decide +kernel
theorem yk674 : yver yx674 ys674.2.2.1 4000 = true := by decide +kernel
theorem yt674 {E : zHp → Prop} (h : yEF E yFP) : yTs E 1 ys674 := yver_s (x := yx674) h (yal_n) yg209 yk674
def ys675 : ySp := (216, 3, (1, [(0, 0, 5)], [], [], [(0, (2, yc 70, yc 0)), (1, (0, (1, 0, 0), yc 0))], []), [(1, [], [], [], [], [(0, yc 0, yc 0)]), (1, [], [], [], [], [(0, yc 1, yc 0)])], [])
def yx675 : yCx := ([ys635, ys656, ys672, ys673, ys674, ys662, ys515], ys675.2.2.2.2, yFP, zm216.2.2.1, zm216.2.2.2.1, zc216, 1, ys675.2.2.2.1, [(12, (2, [(0, 0, 5), (1, 0, 6)], [], [], [(0, (2, yc 70, yc 0)), (1, (0, (1, 0, 0), yc 0)), (2, (0, (1, 1, 0), yc 0))], []), ([((-1), 1)], 7))], [])
theorem yw675 : ywf ys675.2.2.1 = true := by decide +kernel
theorem yk675 : yver yx675 ys675.2.2.1 4000 = true := by decide +kernel
theorem yt675 {E : zHp → Prop} (h : yEF E yFP) : yTs E 5 ys675 := yver_s (x := yx675) h (yal_c (yt635 h) (by decide) yw635 (yal_c (yt656 h) (by decide) yw656 (yal_c (yt672 h) (by decide) yw672 (yal_c (yt673 h) (by decide) yw673 (yal_c (yt674 h) (by decide) yw674 (yal_c (yt662 h) (by decide) yw662 (yal_c (yt515 h) (by decide) yw515 (yal_n)))))))) yg216 yk675
def ys676 : ySp := (209, 3, (1, [(0, 0, 5)], [], [], [(0, (2, yc 70, yc 0)), (1, (0, (1, 0, 0), yc 0)), (2, (0, yc 3, yc 0))], []), [(2, [(1, (-2147483648), 2147483647)], [], [], [], [(0, (1, 1, 0), yc 0)])], [])
def yx676 : yCx := ([], ys676.2.2.2.2, yFP, zm209.2.2.1, zm209.2.2.2.1, zc209, 1, ys676.2.2.2.1, [], [])
theorem yw676 : ywf ys676.2.2.1 = true := by decide +kernel
theorem yk676 : yver yx676 ys676.2.2.1 4000 = true := by decide +kernel
theorem yt676 {E : zHp → Prop} (h : yEF E yFP) : yTs E 1 ys676 := yver_s (x := yx676) h (yal_n) yg209 yk676
def ys677 : ySp := (225, 2, (1, [(0, 0, 5)], [], [], [(0, (2, yc 70, yc 0)), (1, (0, (1, 0, 0), yc 0))], []), [(2, [(1, (-2147483648), 2147483647)], [], [], [], [(0, (1, 1, 0), yc 0)])], [(80, 80, 1000)])
def yx677 : yCx := ([ys676], ys677.2.2.2.2, yFP, zm225.2.2.1, zm225.2.2.2.1, zc225, 1, ys677.2.2.2.1, [], [])
theorem yw677 : ywf ys677.2.2.1 = true := by decide +kernel
theorem yk677 : yver yx677 ys677.2.2.1 4000 = true := by decide +kernel
theorem yt677 {E : zHp → Prop} (h : yEF E yFP) : yTs E 2 ys677 := yver_s (x := yx677) h (yal_c (yt676 h) (by decide) yw676 (yal_n)) yg225 yk677
def ys678 : ySp := (246, 3, (0, [], [], [], [(0, (2, yc 70, yc 0))], []), [(1, [(0, (-2147483648), 2147483647)], [], [], [], [(0, (1, 0, 0), yc 0)])], [(80, 80, 1000)])
def yx678 : yCx := ([ys675, ys677], ys678.2.2.2.2, yFP, zm246.2.2.1, zm246.2.2.2.1, zc246, 0, ys678.2.2.2.1, [(4, (2, [(0, (-2147483648), 2147483647), (1, 0, 6)], [], [], [(0, (2, yc 70, yc 0)), (1, (0, (1, 0, 0), yc 0)), (2, (0, (1, 1, 0), yc 0))], []), ([((-1), 1)], 7))], [])
theorem yw678 : ywf ys678.2.2.1 = true := by decide +kernel
theorem yk678 : yver yx678 ys678.2.2.1 4000 = true := by decide +kernel
theorem yt678 {E : zHp → Prop} (h : yEF E yFP) : yTs E 6 ys678 := yver_s (x := yx678) h (yal_c (yt675 h) (by decide) yw675 (yal_c (yt677 h) (by decide) yw677 (yal_n))) yg246 yk678
def ys679 : ySp := (233, 3, (0, [], [], [], [(0, (2, yc 70, yc 0))], []), [(1, [(0, (-2147483648), 2147483647)], [], [], [], [(0, (1, 0, 0), yc 0)])], [(80, 80, 1000)])
def yx679 : yCx := ([ys660, ys657], ys679.2.2.2.2, yFP, zm233.2.2.1, zm233.2.2.2.1, zc233, 0, ys679.2.2.2.1, [(4, (2, [(0, (-2147483648), 2147483647), (1, 0, 6)], [], [], [(0, (2, yc 70, yc 0)), (1, (0, (1, 0, 0), yc 0)), (2, (0, (1, 1, 0), yc 0))], []), ([((-1), 1)], 7))], [])
theorem yw679 : ywf ys679.2.2.1 = true := by decide +kernel
theorem yk679 : yver yx679 ys679.2.2.1 4000 = true := by decide +kernel
theorem yt679 {E : zHp → Prop} (h : yEF E yFP) : yTs E 3 ys679 := yver_s (x := yx679) h (yal_c (yt660 h) (by decide) yw660 (yal_c (yt657 h) (by decide) yw657 (yal_n))) yg233 yk679
def ys680 : ySp := (276, 8, (3, [(0, 0, 63), (1, 0, 63), (2, 0, 1)], [], [], [(0, (2, yc 70, yc 0)), (1, (0, (1, 0, 0), yc 0)), (2, (0, (1, 1, 0), yc 0)), (3, (0, (1, 2, 0), yc 0))], []), [(3, [], [], [], [], [(0, yc (-1), yc 0)]), (4, [(0, 1, 10), (1, 1, 60), (3, (-2147483648), 2147483647)], [], [], [], [(0, (1, 3, 0), yc 0)])], [(70, 70, 35), (80, 80, 1000), (84, 84, 1000)])
def yx680 : yCx := ([ys617, ys618, ys619, ys616, ys679, ys678, ys4, ys5, ys638], ys680.2.2.2.2, yFP, zm276.2.2.1, zm276.2.2.2.1, zc276, 3, ys680.2.2.2.1, [(65, (11, [(0, 1, 10), (1, 1, 60), (2, 0, 1), (3, 1, 60), (4, (-2147483648), 2147483647), (5, (-2147483648), 2147483647), (6, 0, 40), (7, 0, 2147483647), (8, 0, 2147483647), (9, 1, 6), (10, 0, 6)], [], [(yc 70, yc 23, (0, (1, 7, 0), yc 0)), (yc 70, yc 35, (1, (1, 8, 0), yc 0)), (yc 80, yc 0, (0, (1, 9, 0), yc 0)), (yc 80, yc 2, (0, (1, 10, 0), yc 0)), (yc 84, yc 0, (0, (1, 9, 0), yc 0)), (yc 84, yc 2, (0, (1, 10, 0), yc 0))], [(0, (2, yc 70, yc 0)), (1, (0, (1, 0, 0), yc 0)), (2, (0, (1, 3, 0), yc 0)), (3, (0, (1, 2, 0), yc 0)), (4, (0, (1, 4, 0), yc 0)), (5, (0, (1, 5, 0), yc 0)), (6, (0, (1, 6, 0), yc 0))], []), ([((-63), 6)], 2583)), (74, (14, [(0, 1, 10), (1, 1, 60), (2, 0, 1), (3, 1, 60), (4, (-2147483648), 2147483647), (5, (-2147483648), 2147483647), (6, 0, 20), (7, 0, 60), (8, 0, 2147483647), (9, 0, 2147483647), (10, 0, 6), (11, 0, 6), (12, 1, 6), (13, 0, 6)], [], [(yc 70, yc 23, (0, (1, 8, 0), yc 0)), (yc 70, yc 35, (1, (1, 9, 0), yc 0)), (yc 80, yc 0, (0, (1, 10, 0), yc 0)), (yc 80, yc 2, (0, (1, 11, 0), yc 0)), (yc 84, yc 0, (0, (1, 12, 0), yc 0)), (yc 84, yc 2, (0, (1, 13, 0), yc 0))], [(0, (2, yc 70, yc 0)), (1, (0, (1, 0, 0), yc 0)), (2, (0, (1, 3, 0), yc 0)), (3, (0, (1, 2, 0), yc 0)), (4, (0, (1, 4, 0), yc 0)), (5, (0, (1, 5, 0), yc 0)), (6, (0, (1, 6, 0), yc 0)), (7, (0, (1, 7, 0), yc 0))], []), ([((-1), 7), ((-63), 6)], 2581))], [])
theorem yw680 : ywf ys680.2.2.1 = true := by decide +kernel
theorem yk680 : yver yx680 ys680.2.2.1 4000 = true := by decide +kernel
theorem yt680 {E : zHp → Prop} (h : yXt E) : yTs E 7 ys680 := yver_s (x := yx680) h.1 (yal_c (yt617 h.1) (by decide) yw617 (yal_c (yt618 h.1) (by decide) yw618 (yal_c (yt619 h.1) (by decide) yw619 (yal_c (yt616 h.1) (by decide) yw616 (yal_c (yt679 h.1) (by decide) yw679 (yal_c (yt678 h.1) (by decide) yw678 (yal_c (yl4 h) (by decide) yw4 (yal_c (yl5 h) (by decide) yw5 (yal_c (yt638 h.1) (by decide) yw638 (yal_n)))))))))) yg276 yk680
def ys681 : ySp := (158, 6, (1, [(0, (-9223372036854775808), 9223372036854775807)], [], [], [(0, (1, (1, 0, 0), yc 0)), (2, (1, yc 1, yc 0)), (4, (1, yc 10, yc 0))], []), [(1, [(0, (-9223372036854775808), 0)], [], [], [], [(0, yc 0, yc 0)]), (1, [(0, 11, 9223372036854775807)], [], [], [], [(0, yc 0, yc 0)]), (1, [(0, 1, 10)], [], [], [], [(0, yc 1, yc 0)])], [])
def yx681 : yCx := ([], ys681.2.2.2.2, yFP, zm158.2.2.1, zm158.2.2.2.1, zc158, 1, ys681.2.2.2.1, [], [])
theorem yw681 : ywf ys681.2.2.1 = true := by decide +kernel
theorem yk681 : yver yx681 ys681.2.2.1 4000 = true := by decide +kernel
theorem yt681 {E : zHp → Prop} (h : yEF E yFP) : yTs E 1 ys681 := yver_s (x := yx681) h (yal_n) yg158 yk681
def ys682 : ySp := (158, 6, (1, [(0, (-9223372036854775808), 9223372036854775807)], [], [], [(0, (1, (1, 0, 0), yc 0)), (2, (1, yc 1, yc 0)), (4, (1, yc 60, yc 0))], []), [(1, [(0, (-9223372036854775808), 0)], [], [], [], [(0, yc 0, yc 0)]), (1, [(0, 61, 9223372036854775807)], [], [], [], [(0, yc 0, yc 0)]), (1, [(0, 1, 60)], [], [], [], [(0, yc 1, yc 0)])], [])
def yx682 : yCx := ([], ys682.2.2.2.2, yFP, zm158.2.2.1, zm158.2.2.2.1, zc158, 1, ys682.2.2.2.1, [], [])
theorem yw682 : ywf ys682.2.2.1 = true := by decide +kernel
theorem yk682 : yver yx682 ys682.2.2.1 4000 = true := by decide +kernel
theorem yt682 {E : zHp → Prop} (h : yEF E yFP) : yTs E 1 ys682 := yver_s (x := yx682) h (yal_n) yg158 yk682
def ys683 : ySp := (158, 6, (1, [(0, (-9223372036854775808), 9223372036854775807)], [], [], [(0, (1, (1, 0, 0), yc 0)), (2, (1, yc 0, yc 0)), (4, (1, yc 1, yc 0))], []), [(1, [(0, (-9223372036854775808), (-1))], [], [], [], [(0, yc 0, yc 0)]), (1, [(0, 2, 9223372036854775807)], [], [], [], [(0, yc 0, yc 0)]), (1, [(0, 0, 1)], [], [], [], [(0, yc 1, yc 0)])], [])
def yx683 : yCx := ([], ys683.2.2.2.2, yFP, zm158.2.2.1, zm158.2.2.2.1, zc158, 1, ys683.2.2.2.1, [], [])
theorem yw683 : ywf ys683.2.2.1 = true := by decide +kernel
theorem yk683 : yver yx683 ys683.2.2.1 4000 = true := by decide +kernel
theorem yt683 {E : zHp → Prop} (h : yEF E yFP) : yTs E 1 ys683 := yver_s (x := yx683) h (yal_n) yg158 yk683
def ys684 : ySp := (276, 8, (3, [(0, (-2147483648), 2147483647), (1, (-2147483648), 2147483647), (2, (-2147483648), 2147483647)], [], [], [(0, (2, yc 70, yc 0)), (1, (0, (1, 0, 0), yc 0)), (2, (0, (1, 1, 0), yc 0)), (3, (0, (1, 2, 0), yc 0))], []), [(3, [], [], [], [], [(0, yc (-1), yc 0)]), (4, [(0, 1, 10), (1, 1, 60), (2, 0, 1), (3, (-2147483648), 2147483647)], [], [], [], [(0, (1, 3, 0), yc 0)])], [(70, 70, 35), (80, 80, 1000), (84, 84, 1000)])
def yx684 : yCx := ([ys681, ys682, ys683, ys616, ys679, ys678, ys4, ys5, ys638], ys684.2.2.2.2, yFP, zm276.2.2.1, zm276.2.2.2.1, zc276, 3, ys684.2.2.2.1, [(65, (11, [(0, 1, 10), (1, 1, 60), (2, 0, 1), (3, 1, 60), (4, (-2147483648), 2147483647), (5, (-2147483648), 2147483647), (6, 0, 40), (7, 0, 2147483647), (8, 0, 2147483647), (9, 1, 6), (10, 0, 6)], [], [(yc 70, yc 23, (0, (1, 7, 0), yc 0)), (yc 70, yc 35, (1, (1, 8, 0), yc 0)), (yc 80, yc 0, (0, (1, 9, 0), yc 0)), (yc 80, yc 2, (0, (1, 10, 0), yc 0)), (yc 84, yc 0, (0, (1, 9, 0), yc 0)), (yc 84, yc 2, (0, (1, 10, 0), yc 0))], [(0, (2, yc 70, yc 0)), (1, (0, (1, 0, 0), yc 0)), (2, (0, (1, 3, 0), yc 0)), (3, (0, (1, 2, 0), yc 0)), (4, (0, (1, 4, 0), yc 0)), (5, (0, (1, 5, 0), yc 0)), (6, (0, (1, 6, 0), yc 0))], []), ([((-63), 6)], 2583)), (74, (14, [(0, 1, 10), (1, 1, 60), (2, 0, 1), (3, 1, 60), (4, (-2147483648), 2147483647), (5, (-2147483648), 2147483647), (6, 0, 20), (7, 0, 60), (8, 0, 2147483647), (9, 0, 2147483647), (10, 0, 6), (11, 0, 6), (12, 1, 6), (13, 0, 6)], [], [(yc 70, yc 23, (0, (1, 8, 0), yc 0)), (yc 70, yc 35, (1, (1, 9, 0), yc 0)), (yc 80, yc 0, (0, (1, 10, 0), yc 0)), (yc 80, yc 2, (0, (1, 11, 0), yc 0)), (yc 84, yc 0, (0, (1, 12, 0), yc 0)), (yc 84, yc 2, (0, (1, 13, 0), yc 0))], [(0, (2, yc 70, yc 0)), (1, (0, (1, 0, 0), yc 0)), (2, (0, (1, 3, 0), yc 0)), (3, (0, (1, 2, 0), yc 0)), (4, (0, (1, 4, 0), yc 0)), (5, (0, (1, 5, 0), yc 0)), (6, (0, (1, 6, 0), yc 0)), (7, (0, (1, 7, 0), yc 0))], []), ([((-1), 7), ((-63), 6)], 2581))], [])
theorem yw684 : ywf ys684.2.2.1 = true := by decide +kernel
theorem yk684 : yver yx684 ys684.2.2.1 4000 = true := by decide +kernel
theorem yt684 {E : zHp → Prop} (h : yXt E) : yTs E 7 ys684 := yver_s (x := yx684) h.1 (yal_c (yt681 h.1) (by decide) yw681 (yal_c (yt682 h.1) (by decide) yw682 (yal_c (yt683 h.1) (by decide) yw683 (yal_c (yt616 h.1) (by decide) yw616 (yal_c (yt679 h.1) (by decide) yw679 (yal_c (yt678 h.1) (by decide) yw678 (yal_c (yl4 h) (by decide) yw4 (yal_c (yl5 h) (by decide) yw5 (yal_c (yt638 h.1) (by decide) yw638 (yal_n)))))))))) yg276 yk684
def ys689 : ySp := (291, 4, (1, [(0, (-1), 5)], [], [], [(0, (2, yc 45, yc 0)), (1, (0, (1, 0, 0), yc 0))], []), [(1, [], [], [], [], [])], [(45, 45, 1000)])
def yx689 : yCx := ([], ys689.2.2.2.2, yFP, zm291.2.2.1, zm291.2.2.2.1, zc291, 1, ys689.2.2.2.1, [(5, (2, [(0, (-1), 5), (1, 0, 6)], [], [], [(0, (2, yc 45, yc 0)), (1, (0, (1, 0, 0), yc 0)), (2, (0, (1, 1, 0), yc 0)), (3, (0, yc 6, yc 0))], []), ([((-1), 1)], 7))], [])
theorem yw689 : ywf ys689.2.2.1 = true := by decide +kernel
theorem yk689 : yver yx689 ys689.2.2.1 4000 = true := by decide +kernel
theorem yt689 {E : zHp → Prop} (h : yEF E yFP) : yTs E 1 ys689 := yver_s (x := yx689) h (yal_n) yg291 yk689
def ys690 : ySp := (291, 4, (1, [(0, (-1), 5)], [], [], [(0, (2, yc 46, yc 0)), (1, (0, (1, 0, 0), yc 0))], []), [(1, [], [], [], [], [])], [(46, 46, 1000)])
def yx690 : yCx := ([], ys690.2.2.2.2, yFP, zm291.2.2.1, zm291.2.2.2.1, zc291, 1, ys690.2.2.2.1, [(5, (2, [(0, (-1), 5), (1, 0, 6)], [], [], [(0, (2, yc 46, yc 0)), (1, (0, (1, 0, 0), yc 0)), (2, (0, (1, 1, 0), yc 0)), (3, (0, yc 6, yc 0))], []), ([((-1), 1)], 7))], [])
theorem yw690 : ywf ys690.2.2.1 = true := by decide +kernel
theorem yk690 : yver yx690 ys690.2.2.1 4000 = true := by decide +kernel
theorem yt690 {E : zHp → Prop} (h : yEF E yFP) : yTs E 1 ys690 := yver_s (x := yx690) h (yal_n) yg291 yk690
def ys691 : ySp := (291, 4, (1, [(0, 0, 1)], [], [], [(0, (2, yc 47, yc 0)), (1, (0, (1, 0, 0), yc 0))], []), [(1, [], [], [], [], [])], [(47, 47, 1000)])
def yx691 : yCx := ([], ys691.2.2.2.2, yFP, zm291.2.2.1, zm291.2.2.2.1, zc291, 1, ys691.2.2.2.1, [(5, (2, [(0, 0, 1), (1, 0, 64)], [], [], [(0, (2, yc 47, yc 0)), (1, (0, (1, 0, 0), yc 0)), (2, (0, (1, 1, 0), yc 0)), (3, (0, yc 64, yc 0))], []), ([((-1), 1)], 65))], [])
theorem yw691 : ywf ys691.2.2.1 = true := by decide +kernel
theorem yk691 : yver yx691 ys691.2.2.1 4000 = true := by decide +kernel
theorem yt691 {E : zHp → Prop} (h : yEF E yFP) : yTs E 1 ys691 := yver_s (x := yx691) h (yal_n) yg291 yk691
def ys692 : ySp := (77, 1, (1, [(0, 0, 6)], [], [(yc 12, yc 0, (0, (1, 0, 0), yc 0))], [(0, (2, yc 11, yc 0))], []), [(1, [], [], [(yc 12, yc 0, (0, (1, 0, 0), yc 0))], [], [(0, (1, 0, 0), yc 0)])], [])
def yx692 : yCx := ([], ys692.2.2.2.2, yFP, zm77.2.2.1, zm77.2.2.2.1, zc77, 1, ys692.2.2.2.1, [], [])
theorem yw692 : ywf ys692.2.2.1 = true := by decide +kernel
theorem yk692 : yver yx692 ys692.2.2.1 4000 = true := by decide +kernel
theorem yt692 {E : zHp → Prop} (h : yEF E yFP) : yTs E 1 ys692 := yver_s (x := yx692) h (yal_n) yg77 yk692
def ys693 : ySp := (280, 1, (1, [(0, (-2147483648), 2147483647)], [], [], [(0, (0, (1, 0, 0), yc 0))], []), [(2, [(1, 0, 63)], [], [], [], [(0, (1, 1, 0), yc 0)])], [])
def yx693 : yCx := ([], ys693.2.2.2.2, yFP, zm280.2.2.1, zm280.2.2.2.1, zc280, 1, ys693.2.2.2.1, [], [])
theorem yw693 : ywf ys693.2.2.1 = true := by decide +kernel
theorem yk693 : yver yx693 ys693.2.2.1 4000 = true := by decide +kernel
theorem yt693 {E : zHp → Prop} (h : yEF E yFP) : yTs E 1 ys693 := yver_s (x := yx693) h (yal_n) yg280 yk693
