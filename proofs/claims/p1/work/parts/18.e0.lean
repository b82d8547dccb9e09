theorem zK_29_0 : zKP hpC 155 278 [.int 0] := zclo_ok (v := 0) (by decide +kernel)
