def ys734 : ySp := (87, 3, (1, [(0, 0, 5)], [], [], [(0, (2, yc 11, yc 0)), (1, (0, (1, 0, 0), yc 0)), (2, (0, yc 2, yc 0))], []), [(2, [(1, (-2147483648), 2147483647)], [], [], [], [(0, (1, 1, 0), yc 0)])], [])
def yx734 : yCx := ([], ys734.2.2.2.2, yFP, zm87.2.2.1, zm87.2.2.2.1, zc87, 1, ys734.2.2.2.1, [], [])
theorem yw734 : ywf ys734.2.2.1 = true := by decide +kernel
theorem yk734 : yver yx734 ys734.2.2.1 4000 = true := by decide +kernel
theorem yt734 {E : zHp → Prop} (h : yEF E yFP) : yTs E 1 ys734 := yver_s (x := yx734) h (yal_n) yg87 yk734
def ys735 : ySp := (87, 3, (1, [(0, 0, 5)], [], [], [(0, (2, yc 11, yc 0)), (1, (0, (1, 0, 0), yc 0)), (2, (0, yc 5, yc 0))], []), [(2, [(1, (-2147483648), 2147483647)], [], [], [], [(0, (1, 1, 0), yc 0)])], [])
def yx735 : yCx := ([], ys735.2.2.2.2, yFP, zm87.2.2.1, zm87.2.2.2.1, zc87, 1, ys735.2.2.2.1, [], [])
theorem yw735 : ywf ys735.2.2.1 = true := by decide +kernel
theorem yk735 : yver yx735 ys735.2.2.1 4000 = true := by decide +kernel
theorem yt735 {E : zHp → Prop} (h : yEF E yFP) : yTs E 1 ys735 := yver_s (x := yx735) h (yal_n) yg87 yk735
def ys736 : ySp := (98, 2, (1, [(0, 0, 5)], [], [], [(0, (2, yc 11, yc 0)), (1, (0, (1, 0, 0), yc 0))], []), [(2, [(1, 0, 2147483647)], [], [], [], [(0, (1, 1, 0), yc 0)])], [])
def yx736 : yCx := ([ys720, ys735], ys736.2.2.2.2, yFP, zm98.2.2.1, zm98.2.2.2.1, zc98, 1, ys736.2.2.2.1, [], [])
theorem yw736 : ywf ys736.2.2.1 = true := by decide +kernel
theorem yk736 : yver yx736 ys736.2.2.1 4000 = true := by decide +kernel
theorem yt736 {E : zHp → Prop} (h : yEF E yFP) : yTs E 2 ys736 := yver_s (x := yx736) h (yal_c (yt720 h) (by decide) yw720 (yal_c (yt735 h) (by decide) yw735 (yal_n))) yg98 yk736
def ys737 : ySp := (100, 3, (1, [(0, 0, 5)], [], [], [(0, (2, yc 11, yc 0)), (1, (0, (1, 0, 0), yc 0)), (2, (0, yc 0, yc 0))], []), [(1, [], [], [], [], [(0, yc 0, yc 0)]), (2, [(1, 0, 2147483647)], [], [], [], [(0, (1, 1, 0), yc 0)])], [])
def yx737 : yCx := ([ys707, ys734, ys733, ys736], ys737.2.2.2.2, yFP, zm100.2.2.1, zm100.2.2.2.1, zc100, 1, ys737.2.2.2.1, [], [])
theorem yw737 : ywf ys737.2.2.1 = true := by decide +kernel
theorem yk737 : yver yx737 ys737.2.2.1 4000 = true := by decide +kernel
theorem yt737 {E : zHp → Prop} (h : yEF E yFP) : yTs E 3 ys737 := yver_s (x := yx737) h (yal_c (yt707 h) (by decide) yw707 (yal_c (yt734 h) (by decide) yw734 (yal_c (yt733 h) (by decide) yw733 (yal_c (yt736 h) (by decide) yw736 (yal_n))))) yg100 yk737
def ys738 : ySp := (99, 2, (1, [(0, 0, 5)], [], [], [(0, (2, yc 11, yc 0)), (1, (0, (1, 0, 0), yc 0))], []), [(1, [], [], [], [], [(0, yc 0, yc 0)]), (2, [(1, 0, 2147483647)], [], [], [], [(0, (1, 1, 0), yc 0)])], [])
def yx738 : yCx := ([ys737], ys738.2.2.2.2, yFP, zm99.2.2.1, zm99.2.2.2.1, zc99, 1, ys738.2.2.2.1, [], [])
theorem yw738 : ywf ys738.2.2.1 = true := by decide +kernel
theorem yk738 : yver yx738 ys738.2.2.1 4000 = true := by decide +kernel
theorem yt738 {E : zHp → Prop} (h : yEF E yFP) : yTs E 4 ys738 := yver_s (x := yx738) h (yal_c (yt737 h) (by decide) yw737 (yal_n)) yg99 yk738
def ys741 : ySp := (81, 1, (0, [], [], [], [(0, (2, yc 11, yc 0))], []), [(1, [(0, (-2147483648), 2147483647)], [], [], [], [(0, (1, 0, 0), yc 0)])], [])
def yx741 : yCx := ([], ys741.2.2.2.2, yFP, zm81.2.2.1, zm81.2.2.2.1, zc81, 0, ys741.2.2.2.1, [], [])
theorem yw741 : ywf ys741.2.2.1 = true := by decide +kernel
theorem yk741 : yver yx741 ys741.2.2.1 4000 = true := by decide +kernel
theorem yt741 {E : zHp → Prop} (h : yEF E yFP) : yTs E 1 ys741 := yver_s (x := yx741) h (yal_n) yg81 yk741
def ys753 : ySp := (89, 3, (1, [(0, 0, 5)], [], [], [(0, (2, yc 11, yc 0)), (1, (0, (1, 0, 0), yc 0)), (2, (0, yc 4, yc 0))], []), [(2, [(1, (-2147483648), 2147483647)], [], [], [], [(0, (1, 1, 0), yc 0)])], [])
def yx753 : yCx := ([], ys753.2.2.2.2, yFP, zm89.2.2.1, zm89.2.2.2.1, zc89, 1, ys753.2.2.2.1, [], [])
theorem yw753 : ywf ys753.2.2.1 = true := by decide +kernel
theorem yk753 : yver yx753 ys753.2.2.1 4000 = true := by decide +kernel
theorem yt753 {E : zHp → Prop} (h : yEF E yFP) : yTs E 1 ys753 := yver_s (x := yx753) h (yal_n) yg89 yk753
def ys754 : ySp := (106, 2, (1, [(0, 0, 5)], [], [], [(0, (2, yc 11, yc 0)), (1, (0, (1, 0, 0), yc 0))], []), [(1, [], [], [], [], [(0, yc 0, yc 0)]), (1, [], [], [], [], [(0, yc 1, yc 0)])], [])
def yx754 : yCx := ([ys753], ys754.2.2.2.2, yFP, zm106.2.2.1, zm106.2.2.2.1, zc106, 1, ys754.2.2.2.1, [], [])
theorem yw754 : ywf ys754.2.2.1 = true := by decide +kernel
theorem yk754 : yver yx754 ys754.2.2.1 4000 = true := by decide +kernel
theorem yt754 {E : zHp → Prop} (h : yEF E yFP) : yTs E 2 ys754 := yver_s (x := yx754) h (yal_c (yt753 h) (by decide) yw753 (yal_n)) yg106 yk754
def ys755 : ySp := (89, 3, (1, [(0, 0, 5)], [], [], [(0, (2, yc 11, yc 0)), (1, (0, (1, 0, 0), yc 0)), (2, (0, yc 1, yc 0))], []), [(2, [(1, (-2147483648), 2147483647)], [], [], [], [(0, (1, 1, 0), yc 0)])], [])
def yx755 : yCx := ([], ys755.2.2.2.2, yFP, zm89.2.2.1, zm89.2.2.2.1, zc89, 1, ys755.2.2.2.1, [], [])
theorem yw755 : ywf ys755.2.2.1 = true := by decide +kernel
theorem yk755 : yver yx755 ys755.2.2.1 4000 = true := by decide +kernel
theorem yt755 {E : zHp → Prop} (h : yEF E yFP) : yTs E 1 ys755 := yver_s (x := yx755) h (yal_n) yg89 yk755
def ys756 : ySp := (89, 3, (1, [(0, 0, 5)], [], [], [(0, (2, yc 11, yc 0)), (1, (0, (1, 0, 0), yc 0)), (2, (0, yc 0, yc 0))], []), [(2, [(1, 0, 5)], [], [], [], [(0, (1, 1, 0), yc 0)])], [])
def yx756 : yCx := ([], ys756.2.2.2.2, yFP, zm89.2.2.1, zm89.2.2.2.1, zc89, 1, ys756.2.2.2.1, [], [])
theorem yw756 : ywf ys756.2.2.1 = true := by decide +kernel
theorem yk756 : yver yx756 ys756.2.2.1 4000 = true := by decide +kernel
theorem yt756 {E : zHp → Prop} (h : yEF E yFP) : yTs E 1 ys756 := yver_s (x := yx756) h (yal_n) yg89 yk756
def ys757 : ySp := (89, 3, (1, [(0, 0, 5)], [], [], [(0, (2, yc 11, yc 0)), (1, (0, (1, 0, 0), yc 0)), (2, (0, yc 2, yc 0))], []), [(2, [(1, (-2147483648), 2147483647)], [], [], [], [(0, (1, 1, 0), yc 0)])], [])
def yx757 : yCx := ([], ys757.2.2.2.2, yFP, zm89.2.2.1, zm89.2.2.2.1, zc89, 1, ys757.2.2.2.1, [], [])
theorem yw757 : ywf ys757.2.2.1 = true := by decide +kernel
theorem yk757 : yver yx757 ys757.2.2.1 4000 = true := by decide +kernel
theorem yt757 {E : zHp → Prop} (h : yEF E yFP) : yTs E 1 ys757 := yver_s (x := yx757) h (yal_n) yg89 yk757
def ys758 : ySp := (107, 3, (1, [(0, 0, 5)], [], [], [(0, (2, yc 11, yc 0)), (1, (0, (1, 0, 0), yc 0))], []), [(1, [], [], [], [], [(0, yc 0, yc 0)]), (1, [], [], [], [], [(0, yc 1, yc 0)])], [])
def yx758 : yCx := ([ys673, ys705, ys732, ys755, ys756, ys757, ys738, ys754], ys758.2.2.2.2, yFP, zm107.2.2.1, zm107.2.2.2.1, zc107, 1, ys758.2.2.2.1, [(12, (2, [(0, 0, 5), (1, 0, 6)], [], [], [(0, (2, yc 11, yc 0)), (1, (0, (1, 0, 0), yc 0)), (2, (0, (1, 1, 0), yc 0))], []), ([((-1), 1)], 7))], [])
theorem yw758 : ywf ys758.2.2.1 = true := by decide +kernel
theorem yk758 : yver yx758 ys758.2.2.1 4000 = true := by decide +kernel
theorem yt758 {E : zHp → Prop} (h : yEF E yFP) : yTs E 5 ys758 := yver_s (x := yx758) h (yal_c (yt673 h) (by decide) yw673 (yal_c (yt705 h) (by decide) yw705 (yal_c (yt732 h) (by decide) yw732 (yal_c (yt755 h) (by decide) yw755 (yal_c (yt756 h) (by decide) yw756 (yal_c (yt757 h) (by decide) yw757 (yal_c (yt738 h) (by decide) yw738 (yal_c (yt754 h) (by decide) yw754 (yal_n))))))))) yg107 yk758
def ys759 : ySp := (89, 3, (1, [(0, 0, 5)], [], [], [(0, (2, yc 11, yc 0)), (1, (0, (1, 0, 0), yc 0)), (2, (0, yc 3, yc 0))], []), [(2, [(1, (-2147483648), 2147483647)], [], [], [], [(0, (1, 1, 0), yc 0)])], [])
def yx759 : yCx := ([], ys759.2.2.2.2, yFP, zm89.2.2.1, zm89.2.2.2.1, zc89, 1, ys759.2.2.2.1, [], [])
theorem yw759 : ywf ys759.2.2.1 = true := by decide +kernel
theorem yk759 : yver yx759 ys759.2.2.1 4000 = true := by decide +kernel
theorem yt759 {E : zHp → Prop} (h : yEF E yFP) : yTs E 1 ys759 := yver_s (x := yx759) h (yal_n) yg89 yk759
def ys760 : ySp := (90, 4, (2, [(0, 0, 5), (1, (-2147483648), 2147483647)], [], [], [(0, (2, yc 11, yc 0)), (1, (0, (1, 0, 0), yc 0)), (2, (0, yc 4, yc 0)), (3, (0, (1, 1, 0), yc 0))], []), [(2, [], [], [], [], [])], [(12, 12, 1000)])
def yx760 : yCx := ([], ys760.2.2.2.2, yFP, zm90.2.2.1, zm90.2.2.2.1, zc90, 2, ys760.2.2.2.1, [], [])
theorem yw760 : ywf ys760.2.2.1 = true := by decide +kernel
theorem yk760 : yver yx760 ys760.2.2.1 4000 = true := by decide +kernel
theorem yt760 {E : zHp → Prop} (h : yEF E yFP) : yTs E 1 ys760 := yver_s (x := yx760) h (yal_n) yg90 yk760
def ys761 : ySp := (108, 3, (1, [(0, 0, 5)], [], [], [(0, (2, yc 11, yc 0)), (1, (0, (1, 0, 0), yc 0))], []), [(2, [(1, (-2147483648), 2147483647)], [], [], [], [(0, (1, 1, 0), yc 0)])], [(12, 12, 1000)])
def yx761 : yCx := ([ys741, ys759, ys760], ys761.2.2.2.2, yFP, zm108.2.2.1, zm108.2.2.2.1, zc108, 1, ys761.2.2.2.1, [], [])
theorem yw761 : ywf ys761.2.2.1 = true := by decide +kernel
theorem yk761 : yver yx761 ys761.2.2.1 4000 = true := by decide +kernel
theorem yt761 {E : zHp → Prop} (h : yEF E yFP) : yTs E 2 ys761 := yver_s (x := yx761) h (yal_c (yt741 h) (by decide) yw741 (yal_c (yt759 h) (by decide) yw759 (yal_c (yt760 h) (by decide) yw760 (yal_n)))) yg108 yk761
def ys762 : ySp := (109, 2, (0, [], [], [], [(0, (2, yc 11, yc 0))], []), [(0, [], [], [], [], [])], [(12, 12, 1000)])
def yx762 : yCx := ([ys711, ys758, ys761], ys762.2.2.2.2, yFP, zm109.2.2.1, zm109.2.2.2.1, zc109, 0, ys762.2.2.2.1, [(2, (1, [(0, 0, 6)], [], [], [(0, (2, yc 11, yc 0)), (1, (0, (1, 0, 0), yc 0))], []), ([((-1), 0)], 7))], [])
theorem yw762 : ywf ys762.2.2.1 = true := by decide +kernel
theorem yk762 : yver yx762 ys762.2.2.1 4000 = true := by decide +kernel
theorem yt762 {E : zHp → Prop} (h : yEF E yFP) : yTs E 6 ys762 := yver_s (x := yx762) h (yal_c (yt711 h) (by decide) yw711 (yal_c (yt758 h) (by decide) yw758 (yal_c (yt761 h) (by decide) yw761 (yal_n)))) yg109 yk762
def ys765 : ySp := (88, 4, (2, [(0, 0, 5), (1, (-2147483648), 2147483647)], [], [], [(0, (2, yc 11, yc 0)), (1, (0, (1, 0, 0), yc 0)), (2, (0, yc 5, yc 0)), (3, (0, (1, 1, 0), yc 0))], []), [(2, [], [], [], [], [])], [(12, 12, 1000)])
def yx765 : yCx := ([], ys765.2.2.2.2, yFP, zm88.2.2.1, zm88.2.2.2.1, zc88, 2, ys765.2.2.2.1, [], [])
theorem yw765 : ywf ys765.2.2.1 = true := by decide +kernel
theorem yk765 : yver yx765 ys765.2.2.1 4000 = true := by decide +kernel
theorem yt765 {E : zHp → Prop} (h : yEF E yFP) : yTs E 1 ys765 := yver_s (x := yx765) h (yal_n) yg88 yk765
def ys766 : ySp := (112, 2, (0, [], [], [], [(0, (2, yc 11, yc 0))], []), [(0, [], [], [], [], [])], [(12, 12, 1000)])
def yx766 : yCx := ([ys673, ys741, ys735, ys765, ys733], ys766.2.2.2.2, yFP, zm112.2.2.1, zm112.2.2.2.1, zc112, 0, ys766.2.2.2.1, [(2, (1, [(0, 0, 6)], [], [], [(0, (2, yc 11, yc 0)), (1, (0, (1, 0, 0), yc 0))], []), ([((-1), 0)], 7))], [])
theorem yw766 : ywf ys766.2.2.1 = true := by decide +kernel
theorem yk766 : yver yx766 ys766.2.2.1 4000 = true := by decide +kernel
theorem yt766 {E : zHp → Prop} (h : yEF E yFP) : yTs E 3 ys766 := yver_s (x := yx766) h (yal_c (yt673 h) (by decide) yw673 (yal_c (yt741 h) (by decide) yw741 (yal_c (yt735 h) (by decide) yw735 (yal_c (yt765 h) (by decide) yw765 (yal_c (yt733 h) (by decide) yw733 (yal_n)))))) yg112 yk766
def ys767 : ySp := (82, 1, (0, [], [], [], [(0, (2, yc 11, yc 0))], []), [(1, [(0, (-2147483648), 2147483647)], [], [], [], [(0, (1, 0, 0), yc 0)])], [])
def yx767 : yCx := ([], ys767.2.2.2.2, yFP, zm82.2.2.1, zm82.2.2.2.1, zc82, 0, ys767.2.2.2.1, [], [])
theorem yw767 : ywf ys767.2.2.1 = true := by decide +kernel
theorem yk767 : yver yx767 ys767.2.2.1 4000 = true := by decide +kernel
theorem yt767 {E : zHp → Prop} (h : yEF E yFP) : yTs E 1 ys767 := yver_s (x := yx767) h (yal_n) yg82 yk767
def ys769 : ySp := (204, 1, (1, [(0, 0, 6)], [], [(yc 80, yc 0, (0, (1, 0, 0), yc 0))], [(0, (2, yc 70, yc 0))], []), [(1, [(0, 0, 0)], [], [(yc 80, yc 0, (0, yc 0, yc 0))], [], [(0, yc 0, yc 0)]), (1, [(0, 1, 6)], [], [(yc 80, yc 0, (0, (1, 0, 0), yc 0))], [], [(0, yc 1, yc 0)])], [])
def yx769 : yCx := ([], ys769.2.2.2.2, yFP, zm204.2.2.1, zm204.2.2.2.1, zc204, 1, ys769.2.2.2.1, [], [])
theorem yw769 : ywf ys769.2.2.1 = true := by decide +kernel
theorem yk769 : yver yx769 ys769.2.2.1 4000 = true := by decide +kernel
theorem yt769 {E : zHp → Prop} (h : yEF E yFP) : yTs E 1 ys769 := yver_s (x := yx769) h (yal_n) yg204 yk769
def ys770 : ySp := (158, 6, (1, [(0, 0, 2147483647)], [], [], [(0, (1, (1, 0, 0), yc 0)), (2, (1, yc 1, yc 0)), (4, (1, yc 10, yc 0))], []), [(1, [(0, 0, 0)], [], [], [], [(0, yc 0, yc 0)]), (1, [(0, 11, 2147483647)], [], [], [], [(0, yc 0, yc 0)]), (1, [(0, 1, 10)], [], [], [], [(0, yc 1, yc 0)])], [])
def yx770 : yCx := ([], ys770.2.2.2.2, yFP, zm158.2.2.1, zm158.2.2.2.1, zc158, 1, ys770.2.2.2.1, [], [])
theorem yw770 : ywf ys770.2.2.1 = true := by decide +kernel
theorem yk770 : yver yx770 ys770.2.2.1 4000 = true := by decide +kernel
theorem yt770 {E : zHp → Prop} (h : yEF E yFP) : yTs E 1 ys770 := yver_s (x := yx770) h (yal_n) yg158 yk770
def ys771 : ySp := (158, 6, (1, [(0, 0, 2147483647)], [], [], [(0, (1, (1, 0, 0), yc 0)), (2, (1, yc 1, yc 0)), (4, (1, yc 60, yc 0))], []), [(1, [(0, 0, 0)], [], [], [], [(0, yc 0, yc 0)]), (1, [(0, 61, 2147483647)], [], [], [], [(0, yc 0, yc 0)]), (1, [(0, 1, 60)], [], [], [], [(0, yc 1, yc 0)])], [])
def yx771 : yCx := ([], ys771.2.2.2.2, yFP, zm158.2.2.1, zm158.2.2.2.1, zc158, 1, ys771.2.2.2.1, [], [])
theorem yw771 : ywf ys771.2.2.1 = true := by decide +kernel
theorem yk771 : yver yx771 ys771.2.2.1 4000 = true := by decide +kernel
theorem yt771 {E : zHp → Prop} (h : yEF E yFP) : yTs E 1 ys771 := yver_s (x := yx771) h (yal_n) yg158 yk771
def ys772 : ySp := (158, 6, (1, [(0, 0, 2147483647)], [], [], [(0, (1, (1, 0, 0), yc 0)), (2, (1, yc 0, yc 0)), (4, (1, yc 1, yc 0))], []), [(1, [(0, 2, 2147483647)], [], [], [], [(0, yc 0, yc 0)]), (1, [(0, 0, 1)], [], [], [], [(0, yc 1, yc 0)])], [])
def yx772 : yCx := ([], ys772.2.2.2.2, yFP, zm158.2.2.1, zm158.2.2.2.1, zc158, 1, ys772.2.2.2.1, [], [])
theorem yw772 : ywf ys772.2.2.1 = true := by decide +kernel
theorem yk772 : yver yx772 ys772.2.2.1 4000 = true := by decide +kernel
theorem yt772 {E : zHp → Prop} (h : yEF E yFP) : yTs E 1 ys772 := yver_s (x := yx772) h (yal_n) yg158 yk772
def ys773 : ySp := (274, 2, (0, [], [], [], [(0, (2, yc 70, yc 0)), (1, (0, yc 7, yc 0))], []), [(1, [(0, 0, 6)], [], [], [], [(0, (1, 0, 0), yc 0)])], [(70, 70, 35)])
def yx773 : yCx := ([], ys773.2.2.2.2, yFP, zm274.2.2.1, zm274.2.2.2.1, zc274, 0, ys773.2.2.2.1, [], [])
theorem yw773 : ywf ys773.2.2.1 = true := by decide +kernel
theorem yk773 : yver yx773 ys773.2.2.1 4000 = true := by decide +kernel
theorem yt773 {E : zHp → Prop} (h : yEF E yFP) : yTs E 1 ys773 := yver_s (x := yx773) h (yal_n) yg274 yk773
def ys777 : ySp := (210, 3, (2, [(0, 0, 5), (1, 0, 5)], [], [], [(0, (2, yc 70, yc 0)), (1, (0, (1, 0, 0), yc 0)), (2, (0, (1, 1, 0), yc 0))], []), [(2, [], [], [], [], [(0, yc 0, yc 0)]), (2, [], [], [], [], [(0, yc 1, yc 0)])], [])
def yx777 : yCx := ([], ys777.2.2.2.2, yFP, zm210.2.2.1, zm210.2.2.2.1, zc210, 2, ys777.2.2.2.1, [], [])
theorem yw777 : ywf ys777.2.2.1 = true := by decide +kernel
theorem yk777 : yver yx777 ys777.2.2.1 4000 = true := by decide +kernel
theorem yt777 {E : zHp → Prop} (h : yEF E yFP) : yTs E 1 ys777 := yver_s (x := yx777) h (yal_n) yg210 yk777
def ys780 : ySp := (274, 2, (0, [], [], [], [(0, (2, yc 70, yc 0)), (1, (0, yc 6, yc 0))], []), [(1, [(0, 0, 5)], [], [], [], [(0, (1, 0, 0), yc 0)])], [(70, 70, 35)])
def yx780 : yCx := ([], ys780.2.2.2.2, yFP, zm274.2.2.1, zm274.2.2.2.1, zc274, 0, ys780.2.2.2.1, [], [])
theorem yw780 : ywf ys780.2.2.1 = true := by decide +kernel
theorem yk780 : yver yx780 ys780.2.2.1 4000 = true := by decide +kernel
theorem yt780 {E : zHp → Prop} (h : yEF E yFP) : yTs E 1 ys780 := yver_s (x := yx780) h (yal_n) yg274 yk780
def ys781 : ySp := (274, 2, (0, [], [], [], [(0, (2, yc 70, yc 0)), (1, (0, yc 5, yc 0))], []), [(1, [(0, 0, 4)], [], [], [], [(0, (1, 0, 0), yc 0)])], [(70, 70, 35)])
def yx781 : yCx := ([], ys781.2.2.2.2, yFP, zm274.2.2.1, zm274.2.2.2.1, zc274, 0, ys781.2.2.2.1, [], [])
theorem yw781 : ywf ys781.2.2.1 = true := by decide +kernel
theorem yk781 : yver yx781 ys781.2.2.1 4000 = true := by decide +kernel
theorem yt781 {E : zHp → Prop} (h : yEF E yFP) : yTs E 1 ys781 := yver_s (x := yx781) h (yal_n) yg274 yk781
def ys782 : ySp := (274, 2, (0, [], [], [], [(0, (2, yc 70, yc 0)), (1, (0, yc 4, yc 0))], []), [(1, [(0, 0, 3)], [], [], [], [(0, (1, 0, 0), yc 0)])], [(70, 70, 35)])
def yx782 : yCx := ([], ys782.2.2.2.2, yFP, zm274.2.2.1, zm274.2.2.2.1, zc274, 0, ys782.2.2.2.1, [], [])
theorem yw782 : ywf ys782.2.2.1 = true := by decide +kernel
theorem yk782 : yver yx782 ys782.2.2.1 4000 = true := by decide +kernel
theorem yt782 {E : zHp → Prop} (h : yEF E yFP) : yTs E 1 ys782 := yver_s (x := yx782) h (yal_n) yg274 yk782
def ys783 : ySp := (274, 2, (0, [], [], [], [(0, (2, yc 70, yc 0)), (1, (0, yc 3, yc 0))], []), [(1, [(0, 0, 2)], [], [], [], [(0, (1, 0, 0), yc 0)])], [(70, 70, 35)])
def yx783 : yCx := ([], ys783.2.2.2.2, yFP, zm274.2.2.1, zm274.2.2.2.1, zc274, 0, ys783.2.2.2.1, [], [])
theorem yw783 : ywf ys783.2.2.1 = true := by decide +kernel
theorem yk783 : yver yx783 ys783.2.2.1 4000 = true := by decide +kernel
theorem yt783 {E : zHp → Prop} (h : yEF E yFP) : yTs E 1 ys783 := yver_s (x := yx783) h (yal_n) yg274 yk783
def ys784 : ySp := (274, 2, (0, [], [], [], [(0, (2, yc 70, yc 0)), (1, (0, yc 2, yc 0))], []), [(1, [(0, 0, 1)], [], [], [], [(0, (1, 0, 0), yc 0)])], [(70, 70, 35)])
def yx784 : yCx := ([], ys784.2.2.2.2, yFP, zm274.2.2.1, zm274.2.2.2.1, zc274, 0, ys784.2.2.2.1, [], [])
theorem yw784 : ywf ys784.2.2.1 = true := by decide +kernel
theorem yk784 : yver yx784 ys784.2.2.1 4000 = true := by decide +kernel
theorem yt784 {E : zHp → Prop} (h : yEF E yFP) : yTs E 1 ys784 := yver_s (x := yx784) h (yal_n) yg274 yk784
def ys785 : ySp := (274, 2, (0, [], [], [], [(0, (2, yc 70, yc 0)), (1, (0, yc 1, yc 0))], []), [(0, [], [], [], [], [(0, yc 0, yc 0)])], [(70, 70, 35)])
def yx785 : yCx := ([], ys785.2.2.2.2, yFP, zm274.2.2.1, zm274.2.2.2.1, zc274, 0, ys785.2.2.2.1, [], [])
theorem yw785 : ywf ys785.2.2.1 = true := by decide +kernel
theorem yk785 : yver yx785 ys785.2.2.1 4000 = true := by decide +kernel
theorem yt785 {E : zHp → Prop} (h : yEF E yFP) : yTs E 1 ys785 := yver_s (x := yx785) h (yal_n) yg274 yk785
def ys786 : ySp := (208, 3, (1, [(0, 0, 5)], [], [], [(0, (2, yc 70, yc 0)), (1, (0, (1, 0, 0), yc 0)), (2, (0, yc 0, yc 0))], []), [(2, [(1, 0, 5)], [], [], [], [(0, (1, 1, 0), yc 0)])], [])
def yx786 : yCx := ([], ys786.2.2.2.2, yFP, zm208.2.2.1, zm208.2.2.2.1, zc208, 1, ys786.2.2.2.1, [], [])
theorem yw786 : ywf ys786.2.2.1 = true := by decide +kernel
theorem yk786 : yver yx786 ys786.2.2.1 4000 = true := by decide +kernel
theorem yt786 {E : zHp → Prop} (h : yEF E yFP) : yTs E 1 ys786 := yver_s (x := yx786) h (yal_n) yg208 yk786
def ys787 : ySp := (224, 2, (1, [(0, 0, 5)], [], [], [(0, (2, yc 70, yc 0)), (1, (0, (1, 0, 0), yc 0))], []), [(1, [], [], [], [], [])], [(80, 80, 1000)])
def yx787 : yCx := ([ys786], ys787.2.2.2.2, yFP, zm224.2.2.1, zm224.2.2.2.1, zc224, 1, ys787.2.2.2.1, [], [])
theorem yw787 : ywf ys787.2.2.1 = true := by decide +kernel
theorem yk787 : yver yx787 ys787.2.2.1 4000 = true := by decide +kernel
theorem yt787 {E : zHp → Prop} (h : yEF E yFP) : yTs E 2 ys787 := yver_s (x := yx787) h (yal_c (yt786 h) (by decide) yw786 (yal_n)) yg224 yk787
def ys788 : ySp := (208, 3, (1, [(0, 0, 5)], [], [], [(0, (2, yc 70, yc 0)), (1, (0, (1, 0, 0), yc 0)), (2, (0, yc 3, yc 0))], []), [(2, [(1, 0, 5)], [], [], [], [(0, (1, 1, 0), yc 0)])], [])
def yx788 : yCx := ([], ys788.2.2.2.2, yFP, zm208.2.2.1, zm208.2.2.2.1, zc208, 1, ys788.2.2.2.1, [], [])
theorem yw788 : ywf ys788.2.2.1 = true := by decide +kernel
theorem yk788 : yver yx788 ys788.2.2.1 4000 = true := by decide +kernel
theorem yt788 {E : zHp → Prop} (h : yEF E yFP) : yTs E 1 ys788 := yver_s (x := yx788) h (yal_n) yg208 yk788
def ys789 : ySp := (222, 4, (2, [(0, 0, 5), (1, 0, 5)], [], [], [(0, (2, yc 70, yc 0)), (1, (0, (1, 0, 0), yc 0)), (2, (0, (1, 1, 0), yc 0))], []), [(2, [], [], [], [], [(0, yc 0, yc 0)]), (2, [], [], [], [], [(0, yc 1, yc 0)])], [])
def yx789 : yCx := ([ys786, ys788, ys777], ys789.2.2.2.2, yFP, zm222.2.2.1, zm222.2.2.2.1, zc222, 2, ys789.2.2.2.1, [], [])
theorem yw789 : ywf ys789.2.2.1 = true := by decide +kernel
theorem yk789 : yver yx789 ys789.2.2.1 4000 = true := by decide +kernel
theorem yt789 {E : zHp → Prop} (h : yEF E yFP) : yTs E 2 ys789 := yver_s (x := yx789) h (yal_c (yt786 h) (by decide) yw786 (yal_c (yt788 h) (by decide) yw788 (yal_c (yt777 h) (by decide) yw777 (yal_n)))) yg222 yk789
def ys790 : ySp := (223, 4, (2, [(0, 0, 5), (1, 0, 5)], [], [], [(0, (2, yc 70, yc 0)), (1, (0, (1, 0, 0), yc 0)), (2, (0, (1, 1, 0), yc 0))], []), [(2, [], [], [], [], [])], [(80, 80, 1000)])
def yx790 : yCx := ([ys788], ys790.2.2.2.2, yFP, zm223.2.2.1, zm223.2.2.2.1, zc223, 2, ys790.2.2.2.1, [], [])
theorem yw790 : ywf ys790.2.2.1 = true := by decide +kernel
theorem yk790 : yver yx790 ys790.2.2.1 4000 = true := by decide +kernel
theorem yt790 {E : zHp → Prop} (h : yEF E yFP) : yTs E 2 ys790 := yver_s (x := yx790) h (yal_c (yt788 h) (by decide) yw788 (yal_n)) yg223 yk790
def ys791 : ySp := (275, 4, (0, [], [], [], [(0, (2, yc 70, yc 0))], []), [(1, [(0, (-2147483648), 2147483647)], [], [], [], [(0, (1, 0, 0), yc 0)])], [(70, 70, 35), (80, 80, 1000)])
def yx791 : yCx := ([ys789, ys790, ys787, ys773, ys780, ys781, ys782, ys783, ys784, ys785], ys791.2.2.2.2, yFP, zm275.2.2.1, zm275.2.2.2.1, zc275, 0, ys791.2.2.2.1, [(4, (2, [(0, (-2147483648), 2147483647), (1, 0, 6)], [], [], [(0, (2, yc 70, yc 0)), (1, (0, (1, 0, 0), yc 0)), (2, (0, (1, 1, 0), yc 0))], []), ([((-1), 1)], 7))], [(14, 1, 80, 0)])
theorem yw791 : ywf ys791.2.2.1 = true := by decide +kernel
theorem yk791 : yver yx791 ys791.2.2.1 4000 = true := by decide +kernel
theorem yt791 {E : zHp → Prop} (h : yEF E yFP) : yTs E 3 ys791 := yver_s (x := yx791) h (yal_c (yt789 h) (by decide) yw789 (yal_c (yt790 h) (by decide) yw790 (yal_c (yt787 h) (by decide) yw787 (yal_c (yt773 h) (by decide) yw773 (yal_c (yt780 h) (by decide) yw780 (yal_c (yt781 h) (by decide) yw781 (yal_c (yt782 h) (by decide) yw782 (yal_c (yt783 h) (by decide) yw783 (yal_c (yt784 h) (by decide) yw784 (yal_c (yt785 h) (by decide) yw785 (yal_n))))))))))) yg275 yk791
def ys809 : ySp := (208, 3, (1, [(0, 0, 5)], [], [], [(0, (2, yc 70, yc 0)), (1, (0, (1, 0, 0), yc 0)), (2, (0, yc 1, yc 0))], []), [(2, [(1, (-2147483648), 2147483647)], [], [], [], [(0, (1, 1, 0), yc 0)])], [])
def yx809 : yCx := ([], ys809.2.2.2.2, yFP, zm208.2.2.1, zm208.2.2.2.1, zc208, 1, ys809.2.2.2.1, [], [])
theorem yw809 : ywf ys809.2.2.1 = true := by decide +kernel
theorem yk809 : yver yx809 ys809.2.2.1 4000 = true := by decide +kernel
theorem yt809 {E : zHp → Prop} (h : yEF E yFP) : yTs E 1 ys809 := yver_s (x := yx809) h (yal_n) yg208 yk809
def ys810 : ySp := (212, 2, (1, [(0, 0, 5)], [], [], [(0, (2, yc 70, yc 0)), (1, (0, (1, 0, 0), yc 0))], []), [(1, [], [], [], [], [(0, yc 0, yc 0)]), (1, [], [], [], [], [(0, yc 1, yc 0)])], [])
def yx810 : yCx := ([ys786, ys788], ys810.2.2.2.2, yFP, zm212.2.2.1, zm212.2.2.2.1, zc212, 1, ys810.2.2.2.1, [], [])
theorem yw810 : ywf ys810.2.2.1 = true := by decide +kernel
theorem yk810 : yver yx810 ys810.2.2.1 4000 = true := by decide +kernel
theorem yt810 {E : zHp → Prop} (h : yEF E yFP) : yTs E 2 ys810 := yver_s (x := yx810) h (yal_c (yt786 h) (by decide) yw786 (yal_c (yt788 h) (by decide) yw788 (yal_n))) yg212 yk810
def ys811 : ySp := (208, 3, (1, [(0, 0, 5)], [], [], [(0, (2, yc 70, yc 0)), (1, (0, (1, 0, 0), yc 0)), (2, (0, yc 2, yc 0))], []), [(2, [(1, (-2147483648), 2147483647)], [], [], [], [(0, (1, 1, 0), yc 0)])], [])
def yx811 : yCx := ([], ys811.2.2.2.2, yFP, zm208.2.2.1, zm208.2.2.2.1, zc208, 1, ys811.2.2.2.1, [], [])
theorem yw811 : ywf ys811.2.2.1 = true := by decide +kernel
theorem yk811 : yver yx811 ys811.2.2.1 4000 = true := by decide +kernel
theorem yt811 {E : zHp → Prop} (h : yEF E yFP) : yTs E 1 ys811 := yver_s (x := yx811) h (yal_n) yg208 yk811
def ys812 : ySp := (208, 3, (1, [(0, 0, 5)], [], [], [(0, (2, yc 70, yc 0)), (1, (0, (1, 0, 0), yc 0)), (2, (0, yc 4, yc 0))], []), [(2, [(1, (-2147483648), 2147483647)], [], [], [], [(0, (1, 1, 0), yc 0)])], [])
def yx812 : yCx := ([], ys812.2.2.2.2, yFP, zm208.2.2.1, zm208.2.2.2.1, zc208, 1, ys812.2.2.2.1, [], [])
theorem yw812 : ywf ys812.2.2.1 = true := by decide +kernel
theorem yk812 : yver yx812 ys812.2.2.1 4000 = true := by decide +kernel
theorem yt812 {E : zHp → Prop} (h : yEF E yFP) : yTs E 1 ys812 := yver_s (x := yx812) h (yal_n) yg208 yk812
def ys813 : ySp := (208, 3, (1, [(0, 0, 5)], [], [], [(0, (2, yc 70, yc 0)), (1, (0, (1, 0, 0), yc 0)), (2, (0, yc 5, yc 0))], []), [(2, [(1, (-2147483648), 2147483647)], [], [], [], [(0, (1, 1, 0), yc 0)])], [])
def yx813 : yCx := ([], ys813.2.2.2.2, yFP, zm208.2.2.1, zm208.2.2.2.1, zc208, 1, ys813.2.2.2.1, [], [])
theorem yw813 : ywf ys813.2.2.1 = true := by decide +kernel
theorem yk813 : yver yx813 ys813.2.2.1 4000 = true := by decide +kernel
theorem yt813 {E : zHp → Prop} (h : yEF E yFP) : yTs E 1 ys813 := yver_s (x := yx813) h (yal_n) yg208 yk813
def ys814 : ySp := (213, 3, (1, [(0, 0, 5)], [], [], [(0, (2, yc 70, yc 0)), (1, (0, (1, 0, 0), yc 0))], []), [(1, [], [], [], [], [(0, yc 0, yc 0)]), (2, [(1, 0, 2147483647)], [], [], [], [(0, (1, 1, 0), yc 0)])], [])
def yx814 : yCx := ([ys813, ys810], ys814.2.2.2.2, yFP, zm213.2.2.1, zm213.2.2.2.1, zc213, 1, ys814.2.2.2.1, [], [])
theorem yw814 : ywf ys814.2.2.1 = true := by decide +kernel
theorem yk814 : yver yx814 ys814.2.2.1 4000 = true := by decide +kernel
theorem yt814 {E : zHp → Prop} (h : yEF E yFP) : yTs E 3 ys814 := yver_s (x := yx814) h (yal_c (yt813 h) (by decide) yw813 (yal_c (yt810 h) (by decide) yw810 (yal_n))) yg213 yk814
def ys815 : ySp := (214, 4, (1, [(0, 0, 5)], [], [], [(0, (2, yc 70, yc 0)), (1, (0, (1, 0, 0), yc 0)), (2, (0, yc 0, yc 0))], []), [(1, [], [], [], [], [(0, yc 0, yc 0)]), (2, [(1, 0, 2147483647)], [], [], [], [(0, (1, 1, 0), yc 0)])], [])
def yx815 : yCx := ([ys811, ys812, ys810, ys814], ys815.2.2.2.2, yFP, zm214.2.2.1, zm214.2.2.2.1, zc214, 1, ys815.2.2.2.1, [], [])
theorem yw815 : ywf ys815.2.2.1 = true := by decide +kernel
theorem yk815 : yver yx815 ys815.2.2.1 4000 = true := by decide +kernel
theorem yt815 {E : zHp → Prop} (h : yEF E yFP) : yTs E 4 ys815 := yver_s (x := yx815) h (yal_c (yt811 h) (by decide) yw811 (yal_c (yt812 h) (by decide) yw812 (yal_c (yt810 h) (by decide) yw810 (yal_c (yt814 h) (by decide) yw814 (yal_n))))) yg214 yk815
def ys825 : ySp := (209, 3, (1, [(0, 0, 5)], [], [], [(0, (2, yc 70, yc 0)), (1, (0, (1, 0, 0), yc 0)), (2, (0, yc 1, yc 0))], []), [(2, [(1, (-2147483648), 2147483647)], [], [], [], [(0, (1, 1, 0), yc 0)])], [])
def yx825 : yCx := ([], ys825.2.2.2.2, yFP, zm209.2.2.1, zm209.2.2.2.1, zc209, 1, ys825.2.2.2.1, [], [])
theorem yw825 : ywf ys825.2.2.1 = true := by decide +kernel
theorem yk825 : yver yx825 ys825.2.2.1 4000 = true := by decide +kernel
theorem yt825 {E : zHp → Prop} (h : yEF E yFP) : yTs E 1 ys825 := yver_s (x := yx825) h (yal_n) yg209 yk825
def ys826 : ySp := (209, 3, (1, [(0, 0, 5)], [], [], [(0, (2, yc 70, yc 0)), (1, (0, (1, 0, 0), yc 0)), (2, (0, yc 0, yc 0))], []), [(2, [(1, 0, 5)], [], [], [], [(0, (1, 1, 0), yc 0)])], [])
def yx826 : yCx := ([], ys826.2.2.2.2, yFP, zm209.2.2.1, zm209.2.2.2.1, zc209, 1, ys826.2.2.2.1, [], [])
theorem yw826 : ywf ys826.2.2.1 = true := by decide +kernel
theorem yk826 : yver yx826 ys826.2.2.1 4000 = true := by decide +kernel
theorem yt826 {E : zHp → Prop} (h : yEF E yFP) : yTs E 1 ys826 := yver_s (x := yx826) h (yal_n) yg209 yk826
def ys827 : ySp := (209, 3, (1, [(0, 0, 5)], [], [], [(0, (2, yc 70, yc 0)), (1, (0, (1, 0, 0), yc 0)), (2, (0, yc 2, yc 0))], []), [(2, [(1, (-2147483648), 2147483647)], [], [], [], [(0, (1, 1, 0), yc 0)])], [])
def yx827 : yCx := ([], ys827.2.2.2.2, yFP, zm209.2.2.1, zm209.2.2.2.1, zc209, 1, ys827.2.2.2.1, [], [])
theorem yw827 : ywf ys827.2.2.1 = true := by decide +kernel
theorem yk827 : yver yx827 ys827.2.2.1 4000 = true := by decide +kernel
theorem yt827 {E : zHp → Prop} (h : yEF E yFP) : yTs E 1 ys827 := yver_s (x := yx827) h (yal_n) yg209 yk827
def ys828 : ySp := (216, 3, (1, [(0, 0, 5)], [], [], [(0, (2, yc 70, yc 0)), (1, (0, (1, 0, 0), yc 0))], []), [(1, [], [], [], [], [(0, yc 0, yc 0)]), (1, [], [], [], [], [(0, yc 1, yc 0)])], [])
def yx828 : yCx := ([ys788, ys809, ys825, ys826, ys827, ys815, ys668], ys828.2.2.2.2, yFP, zm216.2.2.1, zm216.2.2.2.1, zc216, 1, ys828.2.2.2.1, [(12, (2, [(0, 0, 5), (1, 0, 6)], [], [], [(0, (2, yc 70, yc 0)), (1, (0, (1, 0, 0), yc 0)), (2, (0, (1, 1, 0), yc 0))], []), ([((-1), 1)], 7))], [])
theorem yw828 : ywf ys828.2.2.1 = true := by decide +kernel
theorem yk828 : yver yx828 ys828.2.2.1 4000 = true := by decide +kernel
theorem yt828 {E : zHp → Prop} (h : yEF E yFP) : yTs E 5 ys828 := yver_s (x := yx828) h (yal_c (yt788 h) (by decide) yw788 (yal_c (yt809 h) (by decide) yw809 (yal_c (yt825 h) (by decide) yw825 (yal_c (yt826 h) (by decide) yw826 (yal_c (yt827 h) (by decide) yw827 (yal_c (yt815 h) (by decide) yw815 (yal_c (yt668 h) (by decide) yw668 (yal_n)))))))) yg216 yk828
def ys829 : ySp := (209, 3, (1, [(0, 0, 5)], [], [], [(0, (2, yc 70, yc 0)), (1, (0, (1, 0, 0), yc 0)), (2, (0, yc 3, yc 0))], []), [(2, [(1, (-2147483648), 2147483647)], [], [], [], [(0, (1, 1, 0), yc 0)])], [])
def yx829 : yCx := ([], ys829.2.2.2.2, yFP, zm209.2.2.1, zm209.2.2.2.1, zc209, 1, ys829.2.2.2.1, [], [])
theorem yw829 : ywf ys829.2.2.1 = true := by decide +kernel
theorem yk829 : yver yx829 ys829.2.2.1 4000 = true := by decide +kernel
theorem yt829 {E : zHp → Prop} (h : yEF E yFP) : yTs E 1 ys829 := yver_s (x := yx829) h (yal_n) yg209 yk829
def ys830 : ySp := (225, 2, (1, [(0, 0, 5)], [], [], [(0, (2, yc 70, yc 0)), (1, (0, (1, 0, 0), yc 0))], []), [(2, [(1, (-2147483648), 2147483647)], [], [], [], [(0, (1, 1, 0), yc 0)])], [(80, 80, 1000)])
def yx830 : yCx := ([ys829], ys830.2.2.2.2, yFP, zm225.2.2.1, zm225.2.2.2.1, zc225, 1, ys830.2.2.2.1, [], [])
theorem yw830 : ywf ys830.2.2.1 = true := by decide +kernel
theorem yk830 : yver yx830 ys830.2.2.1 4000 = true := by decide +kernel
theorem yt830 {E : zHp → Prop} (h : yEF E yFP) : yTs E 2 ys830 := yver_s (x := yx830) h (yal_c (yt829 h) (by decide) yw829 (yal_n)) yg225 yk830
def ys831 : ySp := (246, 3, (0, [], [], [], [(0, (2, yc 70, yc 0))], []), [(1, [(0, (-2147483648), 2147483647)], [], [], [], [(0, (1, 0, 0), yc 0)])], [(80, 80, 1000)])
def yx831 : yCx := ([ys828, ys830], ys831.2.2.2.2, yFP, zm246.2.2.1, zm246.2.2.2.1, zc246, 0, ys831.2.2.2.1, [(4, (2, [(0, (-2147483648), 2147483647), (1, 0, 6)], [], [], [(0, (2, yc 70, yc 0)), (1, (0, (1, 0, 0), yc 0)), (2, (0, (1, 1, 0), yc 0))], []), ([((-1), 1)], 7))], [])
theorem yw831 : ywf ys831.2.2.1 = true := by decide +kernel
theorem yk831 : yver yx831 ys831.2.2.1 4000 = true := by decide +kernel
theorem yt831 {E : zHp → Prop} (h : yEF E yFP) : yTs E 6 ys831 := yver_s (x := yx831) h (yal_c (yt828 h) (by decide) yw828 (yal_c (yt830 h) (by decide) yw830 (yal_n))) yg246 yk831
def ys832 : ySp := (233, 3, (0, [], [], [], [(0, (2, yc 70, yc 0))], []), [(1, [(0, (-2147483648), 2147483647)], [], [], [], [(0, (1, 0, 0), yc 0)])], [(80, 80, 1000)])
def yx832 : yCx := ([ys813, ys810], ys832.2.2.2.2, yFP, zm233.2.2.1, zm233.2.2.2.1, zc233, 0, ys832.2.2.2.1, [(4, (2, [(0, (-2147483648), 2147483647), (1, 0, 6)], [], [], [(0, (2, yc 70, yc 0)), (1, (0, (1, 0, 0), yc 0)), (2, (0, (1, 1, 0), yc 0))], []), ([((-1), 1)], 7))], [])
theorem yw832 : ywf ys832.2.2.1 = true := by decide +kernel
theorem yk832 : yver yx832 ys832.2.2.1 4000 = true := by decide +kernel
theorem yt832 {E : zHp → Prop} (h : yEF E yFP) : yTs E 3 ys832 := yver_s (x := yx832) h (yal_c (yt813 h) (by decide) yw813 (yal_c (yt810 h) (by decide) yw810 (yal_n))) yg233 yk832
def ys833 : ySp := (276, 8, (3, [(0, 0, 63), (1, 0, 63), (2, 0, 1)], [], [], [(0, (2, yc 70, yc 0)), (1, (0, (1, 0, 0), yc 0)), (2, (0, (1, 1, 0), yc 0)), (3, (0, (1, 2, 0), yc 0))], []), [(3, [], [], [], [], [(0, yc (-1), yc 0)]), (4, [(0, 1, 10), (1, 1, 60), (3, (-2147483648), 2147483647)], [], [], [], [(0, (1, 3, 0), yc 0)])], [(70, 70, 35), (80, 80, 1000), (84, 84, 1000)])
def yx833 : yCx := ([ys770, ys771, ys772, ys769, ys832, ys831, ys4, ys5, ys791], ys833.2.2.2.2, yFP, zm276.2.2.1, zm276.2.2.2.1, zc276, 3, ys833.2.2.2.1, [(65, (11, [(0, 1, 10), (1, 1, 60), (2, 0, 1), (3, 1, 60), (4, (-2147483648), 2147483647), (5, (-2147483648), 2147483647), (6, 0, 40), (7, 0, 2147483647), (8, 0, 2147483647), (9, 1, 6), (10, 0, 6)], [], [(yc 70, yc 23, (0, (1, 7, 0), yc 0)), (yc 70, yc 35, (1, (1, 8, 0), yc 0)), (yc 80, yc 0, (0, (1, 9, 0), yc 0)), (yc 80, yc 2, (0, (1, 10, 0), yc 0)), (yc 84, yc 0, (0, (1, 9, 0), yc 0)), (yc 84, yc 2, (0, (1, 10, 0), yc 0))], [(0, (2, yc 70, yc 0)), (1, (0, (1, 0, 0), yc 0)), (2, (0, (1, 3, 0), yc 0)), (3, (0, (1, 2, 0), yc 0)), (4, (0, (1, 4, 0), yc 0)), (5, (0, (1, 5, 0), yc 0)), (6, (0, (1, 6, 0), yc 0))], []), ([((-63), 6)], 2583)), (74, (14, [(0, 1, 10), (1, 1, 60), (2, 0, 1), (3, 1, 60), (4, (-2147483648), 2147483647), (5, (-2147483648), 2147483647), (6, 0, 20), (7, 0, 60), (8, 0, 2147483647), (9, 0, 2147483647), (10, 0, 6), (11, 0, 6), (12, 1, 6), (13, 0, 6)], [], [(yc 70, yc 23, (0, (1, 8, 0), yc 0)), (yc 70, yc 35, (1, (1, 9, 0), yc 0)), (yc 80, yc 0, (0, (1, 10, 0), yc 0)), (yc 80, yc 2, (0, (1, 11, 0), yc 0)), (yc 84, yc 0, (0, (1, 12, 0), yc 0)), (yc 84, yc 2, (0, (1, 13, 0), yc 0))], [(0, (2, yc 70, yc 0)), (1, (0, (1, 0, 0), yc 0)), (2, (0, (1, 3, 0), yc 0)), (3, (0, (1, 2, 0), yc 0)), (4, (0, (1, 4, 0), yc 0)), (5, (0, (1, 5, 0), yc 0)), (6, (0, (1, 6, 0), yc 0)), (7, (0, (1, 7, 0), yc 0))], []), ([((-1), 7), ((-63), 6)], 2581))], [])
theorem yw833 : ywf ys833.2.2.1 = true := by decide +kernel
theorem yk833 : yver yx833 ys833.2.2.1 4000 = true := by decide +kernel
theorem yt833 {E : zHp → Prop} (h : yXt E) : yTs E 7 ys833 := yver_s (x := yx833) h.1 (yal_c (yt770 h.1) (by decide) yw770 (yal_c (yt771 h.1) (by decide) yw771 (yal_c (yt772 h.1) (by decide) yw772 (yal_c (yt769 h.1) (by decide) yw769 (yal_c (yt832 h.1) (by decide) yw832 (yal_c (yt831 h.1) (by decide) yw831 (yal_c (yl4 h) (by decide) yw4 (yal_c (yl5 h) (by decide) yw5 (yal_c (yt791 h.1) (by decide) yw791 (yal_n)))))))))) yg276 yk833
def ys834 : ySp := (158, 6, (1, [(0, (-9223372036854775808), 9223372036854775807)], [], [], [(0, (1, (1, 0, 0), yc 0)), (2, (1, yc 1, yc 0)), (4, (1, yc 10, yc 0))], []), [(1, [(0, (-9223372036854775808), 0)], [], [], [], [(0, yc 0, yc 0)]), (1, [(0, 11, 9223372036854775807)], [], [], [], [(0, yc 0, yc 0)]), (1, [(0, 1, 10)], [], [], [], [(0, yc 1, yc 0)])], [])
def yx834 : yCx := ([], ys834.2.2.2.2, yFP, zm158.2.2.1, zm158.2.2.2.1, zc158, 1, ys834.2.2.2.1, [], [])
theorem yw834 : ywf ys834.2.2.1 = true := by decide +kernel
theorem yk834 : yver yx834 ys834.2.2.1 4000 = true := by decide +kernel
theorem yt834 {E : zHp → Prop} (h : yEF E yFP) : yTs E 1 ys834 := yver_s (x := yx834) h (yal_n) yg158 yk834
def ys835 : ySp := (158, 6, (1, [(0, (-9223372036854775808), 9223372036854775807)], [], [], [(0, (1, (1, 0, 0), yc 0)), (2, (1, yc 1, yc 0)), (4, (1, yc 60, yc 0))], []), [(1, [(0, (-9223372036854775808), 0)], [], [], [], [(0, yc 0, yc 0)]), (1, [(0, 61, 9223372036854775807)], [], [], [], [(0, yc 0, yc 0)]), (1, [(0, 1, 60)], [], [], [], [(0, yc 1, yc 0)])], [])
def yx835 : yCx := ([], ys835.2.2.2.2, yFP, zm158.2.2.1, zm158.2.2.2.1, zc158, 1, ys835.2.2.2.1, [], [])
theorem yw835 : ywf ys835.2.2.1 = true := by decide +kernel
theorem yk835 : yver yx835 ys835.2.2.1 4000 = true := by decide +kernel
theorem yt835 {E : zHp → Prop} (h : yEF E yFP) : yTs E 1 ys835 := yver_s (x := yx835) h (yal_n) yg158 yk835
def ys836 : ySp := (158, 6, (1, [(0, (-9223372036854775808), 9223372036854775807)], [], [], [(0, (1, (1, 0, 0), yc 0)), (2, (1, yc 0, yc 0)), (4, (1, yc 1, yc 0))], []), [(1, [(0, (-9223372036854775808), (-1))], [], [], [], [(0, yc 0, yc 0)]), (1, [(0, 2, 9223372036854775807)], [], [], [], [(0, yc 0, yc 0)]), (1, [(0, 0, 1)], [], [], [], [(0, yc 1, yc 0)])], [])
def yx836 : yCx := ([], ys836.2.2.2.2, yFP, zm158.2.2.1, zm158.2.2.2.1, zc158, 1, ys836.2.2.2.1, [], [])
theorem yw836 : ywf ys836.2.2.1 = true := by decide +kernel
theorem yk836 : yver yx836 ys836.2.2.1 4000 = true := by decide +kernel
theorem yt836 {E : zHp → Prop} (h : yEF E yFP) : yTs E 1 ys836 := yver_s (x := yx836) h (yal_n) yg158 yk836
def ys837 : ySp := (276, 8, (3, [(0, (-2147483648), 2147483647), (1, (-2147483648), 2147483647), (2, (-2147483648), 2147483647)], [], [], [(0, (2, yc 70, yc 0)), (1, (0, (1, 0, 0), yc 0)), (2, (0, (1, 1, 0), yc 0)), (3, (0, (1, 2, 0), yc 0))], []), [(3, [], [], [], [], [(0, yc (-1), yc 0)]), (4, [(0, 1, 10), (1, 1, 60), (2, 0, 1), (3, (-2147483648), 2147483647)], [], [], [], [(0, (1, 3, 0), yc 0)])], [(70, 70, 35), (80, 80, 1000), (84, 84, 1000)])
def yx837 : yCx := ([ys834, ys835, ys836, ys769, ys832, ys831, ys4, ys5, ys791], ys837.2.2.2.2, yFP, zm276.2.2.1, zm276.2.2.2.1, zc276, 3, ys837.2.2.2.1, [(65, (11, [(0, 1, 10), (1, 1, 60), (2, 0, 1), (3, 1, 60), (4, (-2147483648), 2147483647), (5, (-2147483648), 2147483647), (6, 0, 40), (7, 0, 2147483647), (8, 0, 2147483647), (9, 1, 6), (10, 0, 6)], [], [(yc 70, yc 23, (0, (1, 7, 0), yc 0)), (yc 70, yc 35, (1, (1, 8, 0), yc 0)), (yc 80, yc 0, (0, (1, 9, 0), yc 0)), (yc 80, yc 2, (0, (1, 10, 0), yc 0)), (yc 84, yc 0, (0, (1, 9, 0), yc 0)), (yc 84, yc 2, (0, (1, 10, 0), yc 0))], [(0, (2, yc 70, yc 0)), (1, (0, (1, 0, 0), yc 0)), (2, (0, (1, 3, 0), yc 0)), (3, (0, (1, 2, 0), yc 0)), (4, (0, (1, 4, 0), yc 0)), (5, (0, (1, 5, 0), yc 0)), (6, (0, (1, 6, 0), yc 0))], []), ([((-63), 6)], 2583)), (74, (14, [(0, 1, 10), (1, 1, 60), (2, 0, 1), (3, 1, 60), (4, (-2147483648), 2147483647), (5, (-2147483648), 2147483647), (6, 0, 20), (7, 0, 60), (8, 0, 2147483647), (9, 0, 2147483647), (10, 0, 6), (11, 0, 6), (12, 1, 6), (13, 0, 6)], [], [(yc 70, yc 23, (0, (1, 8, 0), yc 0)), (yc 70, yc 35, (1, (1, 9, 0), yc 0)), (yc 80, yc 0, (0, (1, 10, 0), yc 0)), (yc 80, yc 2, (0, (1, 11, 0), yc 0)), (yc 84, yc 0, (0, (1, 12, 0), yc 0)), (yc 84, yc 2, (0, (1, 13, 0), yc 0))], [(0, (2, yc 70, yc 0)), (1, (0, (1, 0, 0), yc 0)), (2, (0, (1, 3, 0), yc 0)), (3, (0, (1, 2, 0), yc 0)), (4, (0, (1, 4, 0), yc 0)), (5, (0, (1, 5, 0), yc 0)), (6, (0, (1, 6, 0), yc 0)), (7, (0, (1, 7, 0), yc 0))], []), ([((-1), 7), ((-63), 6)], 2581))], [])
theorem yw837 : ywf ys837.2.2.1 = true := by decide +kernel
theorem yk837 : yver yx837 ys837.2.2.1 4000 = true := by decide +kernel
theorem yt837 {E : zHp → Prop} (h : yXt E) : yTs E 7 ys837 := yver_s (x := yx837) h.1 (yal_c (yt834 h.1) (by decide) yw834 (yal_c (yt835 h.1) (by decide) yw835 (yal_c (yt836 h.1) (by decide) yw836 (yal_c (yt769 h.1) (by decide) yw769 (yal_c (yt832 h.1) (by decide) yw832 (yal_c (yt831 h.1) (by decide) yw831 (yal_c (yl4 h) (by decide) yw4 (yal_c (yl5 h) (by decide) yw5 (yal_c (yt791 h.1) (by decide) yw791 (yal_n)))))))))) yg276 yk837
def ys842 : ySp := (291, 4, (1, [(0, (-1), 5)], [], [], [(0, (2, yc 45, yc 0)), (1, (0, (1, 0, 0), yc 0))], []), [(1, [], [], [], [], [])], [(45, 45, 1000)])
def yx842 : yCx := ([], ys842.2.2.2.2, yFP, zm291.2.2.1, zm291.2.2.2.1, zc291, 1, ys842.2.2.2.1, [(5, (2, [(0, (-1), 5), (1, 0, 6)], [], [], [(0, (2, yc 45, yc 0)), (1, (0, (1, 0, 0), yc 0)), (2, (0, (1, 1, 0), yc 0)), (3, (0, yc 6, yc 0))], []), ([((-1), 1)], 7))], [])
theorem yw842 : ywf ys842.2.2.1 = true := by decide +kernel
theorem yk842 : yver yx842 ys842.2.2.1 4000 = true := by decide +kernel
theorem yt842 {E : zHp → Prop} (h : yEF E yFP) : yTs E 1 ys842 := yver_s (x := yx842) h (yal_n) yg291 yk842
def ys843 : ySp := (291, 4, (1, [(0, (-1), 5)], [], [], [(0, (2, yc 46, yc 0)), (1, (0, (1, 0, 0), yc 0))], []), [(1, [], [], [], [], [])], [(46, 46, 1000)])
def yx843 : yCx := ([], ys843.2.2.2.2, yFP, zm291.2.2.1, zm291.2.2.2.1, zc291, 1, ys843.2.2.2.1, [(5, (2, [(0, (-1), 5), (1, 0, 6)], [], [], [(0, (2, yc 46, yc 0)), (1, (0, (1, 0, 0), yc 0)), (2, (0, (1, 1, 0), yc 0)), (3, (0, yc 6, yc 0))], []), ([((-1), 1)], 7))], [])
theorem yw843 : ywf ys843.2.2.1 = true := by decide +kernel
theorem yk843 : yver yx843 ys843.2.2.1 4000 = true := by decide +kernel
theorem yt843 {E : zHp → Prop} (h : yEF E yFP) : yTs E 1 ys843 := yver_s (x := yx843) h (yal_n) yg291 yk843
def ys844 : ySp := (291, 4, (1, [(0, 0, 1)], [], [], [(0, (2, yc 47, yc 0)), (1, (0, (1, 0, 0), yc 0))], []), [(1, [], [], [], [], [])], [(47, 47, 1000)])
def yx844 : yCx := ([], ys844.2.2.2.2, yFP, zm291.2.2.1, zm291.2.2.2.1, zc291, 1, ys844.2.2.2.1, [(5, (2, [(0, 0, 1), (1, 0, 64)], [], [], [(0, (2, yc 47, yc 0)), (1, (0, (1, 0, 0), yc 0)), (2, (0, (1, 1, 0), yc 0)), (3, (0, yc 64, yc 0))], []), ([((-1), 1)], 65))], [])
theorem yw844 : ywf ys844.2.2.1 = true := by decide +kernel
theorem yk844 : yver yx844 ys844.2.2.1 4000 = true := by decide +kernel
theorem yt844 {E : zHp → Prop} (h : yEF E yFP) : yTs E 1 ys844 := yver_s (x := yx844) h (yal_n) yg291 yk844
def ys845 : ySp := (77, 1, (1, [(0, 0, 6)], [], [(yc 12, yc 0, (0, (1, 0, 0), yc 0))], [(0, (2, yc 11, yc 0))], []), [(1, [], [], [(yc 12, yc 0, (0, (1, 0, 0), yc 0))], [], [(0, (1, 0, 0), yc 0)])], [])
def yx845 : yCx := ([], ys845.2.2.2.2, yFP, zm77.2.2.1, zm77.2.2.2.1, zc77, 1, ys845.2.2.2.1, [], [])
theorem yw845 : ywf ys845.2.2.1 = true := by decide +kernel
theorem yk845 : yver yx845 ys845.2.2.1 4000 = true := by decide +kernel
theorem yt845 {E : zHp → Prop} (h : yEF E yFP) : yTs E 1 ys845 := yver_s (x := yx845) h (yal_n) yg77 yk845
def ys846 : ySp := (280, 1, (1, [(0, (-2147483648), 2147483647)], [], [], [(0, (0, (1, 0, 0), yc 0))], []), [(2, [(1, 0, 63)], [], [], [], [(0, (1, 1, 0), yc 0)])], [])
def yx846 : yCx := ([], ys846.2.2.2.2, yFP, zm280.2.2.1, zm280.2.2.2.1, zc280, 1, ys846.2.2.2.1, [], [])
theorem yw846 : ywf ys846.2.2.1 = true := by decide +kernel
theorem yk846 : yver yx846 ys846.2.2.1 4000 = true := by decide +kernel
theorem yt846 {E : zHp → Prop} (h : yEF E yFP) : yTs E 1 ys846 := yver_s (x := yx846) h (yal_n) yg280 yk846
