theorem zK_30_0 : zKP hpC 156 279 [.int 0] := zclo_ok (v := -1) (by decide +kernel)
theorem zK_30_1 : zKP hpC 156 279 [.int 1] := zclo_ok (v := -1) (by decide +kernel)
theorem zK_30_2 : zKP hpC 156 279 [.int 2] := zclo_ok (v := -1) (by decide +kernel)
theorem zK_30_3 : zKP hpC 156 279 [.int 3] := zclo_ok (v := -1) (by decide +kernel)
