theorem zK_29_1 : zKP hpC 155 278 [.int 1] := zclo_ok (v := 0) (by decide +kernel)
