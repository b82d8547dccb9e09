theorem zK_29_3 : zKP hpC 155 278 [.int 3] := zclo_ok (v := 0) (by decide +kernel)
