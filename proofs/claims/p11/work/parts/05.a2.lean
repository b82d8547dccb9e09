theorem zok98 : zokC zm98.1 zm98.2.1 0 zc98 = true := zokH_ok (hs := [10143, 10151, 10155]) (by decide +kernel)
theorem zoy98 : zokY zm98 = true := zokYh_ok (a := 8005) (b := 10148) (c := 10149) (by decide +kernel)
set_option maxRecDepth 20000 in
theorem zow98 : Cond.code zm98.1 zm98.2.1 zm98.2.2.1 zm98.2.2.2.1 ∈ zTw := zpw (p := 10) (i := 150) rfl rfl rfl
theorem zok99 : zokC zm99.1 zm99.2.1 0 zc99 = true := zokH_ok (hs := [10135]) (by decide +kernel)
theorem zoy99 : zokY zm99 = true := zokYh_ok (a := 8005) (b := 10132) (c := 10133) (by decide +kernel)
set_option maxRecDepth 20000 in
theorem zow99 : Cond.code zm99.1 zm99.2.1 zm99.2.2.1 zm99.2.2.2.1 ∈ zTw := zpw (p := 10) (i := 134) rfl rfl rfl
theorem zok100 : zokC zm100.1 zm100.2.1 0 zc100 = true := zokH_ok (hs := [10139, 10143, 10143, 10147, 10155]) (by decide +kernel)
theorem zoy100 : zokY zm100 = true := zokYh_ok (a := 8005) (b := 10136) (c := 10137) (by decide +kernel)
set_option maxRecDepth 20000 in
theorem zow100 : Cond.code zm100.1 zm100.2.1 zm100.2.2.1 zm100.2.2.2.1 ∈ zTw := zpw (p := 10) (i := 138) rfl rfl rfl
theorem zok101 : zokC zm101.1 zm101.2.1 0 zc101 = true := zokH_ok (hs := [10143, 10143, 10216]) (by decide +kernel)
theorem zoy101 : zokY zm101 = true := zokYh_ok (a := 8005) (b := 10213) (c := 10214) (by decide +kernel)
set_option maxRecDepth 20000 in
theorem zow101 : Cond.code zm101.1 zm101.2.1 zm101.2.2.1 zm101.2.2.2.1 ∈ zTw := zpw (p := 10) (i := 215) rfl rfl rfl
theorem zok102 : zokC zm102.1 zm102.2.1 0 zc102 = true := zokH_ok (hs := [10143, 10230, 10231, 10232, 10143, 9204, 9204]) (by decide +kernel)
theorem zoy102 : zokY zm102 = true := zokYh_ok (a := 8005) (b := 10227) (c := 10228) (by decide +kernel)
set_option maxRecDepth 20000 in
theorem zow102 : Cond.code zm102.1 zm102.2.1 zm102.2.2.1 zm102.2.2.2.1 ∈ zTw := zpw (p := 10) (i := 229) rfl rfl rfl
theorem zok103 : zokC zm103.1 zm103.2.1 0 zc103 = true := zokH_ok (hs := [10143, 11002]) (by decide +kernel)
theorem zoy103 : zokY zm103 = true := zokYh_ok (a := 8005) (b := 10239) (c := 11000) (by decide +kernel)
set_option maxRecDepth 20000 in
theorem zow103 : Cond.code zm103.1 zm103.2.1 zm103.2.2.1 zm103.2.2.2.1 ∈ zTw := zpw (p := 11) (i := 1) rfl rfl rfl
theorem zok104 : zokC zm104.1 zm104.2.1 0 zc104 = true := zokH_ok (hs := [9204, 9204, 9204, 9204]) (by decide +kernel)
theorem zoy104 : zokY zm104 = true := zokYh_ok (a := 8005) (b := 11003) (c := 11004) (by decide +kernel)
set_option maxRecDepth 20000 in
theorem zow104 : Cond.code zm104.1 zm104.2.1 zm104.2.2.1 zm104.2.2.2.1 ∈ zTw := zpw (p := 11) (i := 5) rfl rfl rfl
theorem zok105 : zokC zm105.1 zm105.2.1 0 zc105 = true := zokH_ok (hs := [8109, 8109]) (by decide +kernel)
theorem zoy105 : zokY zm105 = true := zokYh_ok (a := 8005) (b := 11027) (c := 11028) (by decide +kernel)
set_option maxRecDepth 20000 in
theorem zow105 : Cond.code zm105.1 zm105.2.1 zm105.2.2.1 zm105.2.2.2.1 ∈ zTw := zpw (p := 11) (i := 29) rfl rfl rfl
theorem zok106 : zokC zm106.1 zm106.2.1 0 zc106 = true := zokH_ok (hs := [10176]) (by decide +kernel)
theorem zoy106 : zokY zm106 = true := zokYh_ok (a := 8005) (b := 10173) (c := 10174) (by decide +kernel)
set_option maxRecDepth 20000 in
theorem zow106 : Cond.code zm106.1 zm106.2.1 zm106.2.2.1 zm106.2.2.2.1 ∈ zTw := zpw (p := 10) (i := 175) rfl rfl rfl
theorem zok107 : zokC zm107.1 zm107.2.1 0 zc107 = true := zokH_ok (hs := [10172, 9203, 10143, 10176, 10143, 10176, 10180, 10176]) (by decide +kernel)
theorem zoy107 : zokY zm107 = true := zokYh_ok (a := 8005) (b := 10169) (c := 10170) (by decide +kernel)
set_option maxRecDepth 20000 in
theorem zow107 : Cond.code zm107.1 zm107.2.1 zm107.2.2.1 zm107.2.2.2.1 ∈ zTw := zpw (p := 10) (i := 171) rfl rfl rfl
theorem zok108 : zokC zm108.1 zm108.2.1 0 zc108 = true := zokH_ok (hs := [10176, 11014, 9217, 8109]) (by decide +kernel)
theorem zoy108 : zokY zm108 = true := zokYh_ok (a := 8005) (b := 11011) (c := 11012) (by decide +kernel)
set_option maxRecDepth 20000 in
theorem zow108 : Cond.code zm108.1 zm108.2.1 zm108.2.2.1 zm108.2.2.2.1 ∈ zTw := zpw (p := 11) (i := 13) rfl rfl rfl
theorem zok109 : zokC zm109.1 zm109.2.1 0 zc109 = true := zokH_ok (hs := [9216, 11133, 11134]) (by decide +kernel)
theorem zoy109 : zokY zm109 = true := zokYh_ok (a := 8005) (b := 11130) (c := 11131) (by decide +kernel)
set_option maxRecDepth 20000 in
theorem zow109 : Cond.code zm109.1 zm109.2.1 zm109.2.2.1 zm109.2.2.2.1 ∈ zTw := zpw (p := 11) (i := 132) rfl rfl rfl
theorem zok110 : zokC zm110.1 zm110.2.1 0 zc110 = true := zokH_ok (hs := [9216, 10172]) (by decide +kernel)
theorem zoy110 : zokY zm110 = true := zokYh_ok (a := 8005) (b := 12026) (c := 12027) (by decide +kernel)
set_option maxRecDepth 20000 in
theorem zow110 : Cond.code zm110.1 zm110.2.1 zm110.2.2.1 zm110.2.2.2.1 ∈ zTw := zpw (p := 12) (i := 28) rfl rfl rfl
theorem zok111 : zokC zm111.1 zm111.2.1 0 zc111 = true := zokH_ok (hs := [12025, 9216]) (by decide +kernel)
theorem zoy111 : zokY zm111 = true := zokYh_ok (a := 8005) (b := 12022) (c := 12023) (by decide +kernel)
set_option maxRecDepth 20000 in
theorem zow111 : Cond.code zm111.1 zm111.2.1 zm111.2.2.1 zm111.2.2.2.1 ∈ zTw := zpw (p := 12) (i := 24) rfl rfl rfl
theorem zok112 : zokC zm112.1 zm112.2.1 0 zc112 = true := zokH_ok (hs := [9203, 10139, 10143, 9204, 8109, 11014, 10231]) (by decide +kernel)
theorem zoy112 : zokY zm112 = true := zokYh_ok (a := 8005) (b := 11064) (c := 11065) (by decide +kernel)
set_option maxRecDepth 20000 in
theorem zow112 : Cond.code zm112.1 zm112.2.1 zm112.2.2.1 zm112.2.2.2.1 ∈ zTw := zpw (p := 11) (i := 66) rfl rfl rfl
theorem zok113 : zokC zm113.1 zm113.2.1 0 zc113 = true := zokH_ok (hs := [9203, 10147]) (by decide +kernel)
theorem zoy113 : zokY zm113 = true := zokYh_ok (a := 8005) (b := 11068) (c := 11069) (by decide +kernel)
set_option maxRecDepth 20000 in
theorem zow113 : Cond.code zm113.1 zm113.2.1 zm113.2.2.1 zm113.2.2.2.1 ∈ zTw := zpw (p := 11) (i := 70) rfl rfl rfl
theorem zok114 : zokC zm114.1 zm114.2.1 0 zc114 = true := zokH_ok (hs := [9216, 10176, 10176, 10176, 10143, 10176, 10155]) (by decide +kernel)
theorem zoy114 : zokY zm114 = true := zokYh_ok (a := 8005) (b := 11117) (c := 11118) (by decide +kernel)
set_option maxRecDepth 20000 in
theorem zow114 : Cond.code zm114.1 zm114.2.1 zm114.2.2.1 zm114.2.2.2.1 ∈ zTw := zpw (p := 11) (i := 119) rfl rfl rfl
theorem zok115 : zokC zm115.1 zm115.2.1 0 zc115 = true := zokH_ok (hs := [8061, 8062]) (by decide +kernel)
theorem zoy115 : zokY zm115 = true := zokYh_ok (a := 8003) (b := 8059) (c := 0) (by decide +kernel)
set_option maxRecDepth 20000 in
theorem zow115 : Cond.code zm115.1 zm115.2.1 zm115.2.2.1 zm115.2.2.2.1 ∈ zTw := zpw (p := 8) (i := 60) rfl rfl rfl
theorem zok116 : zokC zm116.1 zm116.2.1 0 zc116 = true := zokH_ok (hs := [9079, 9225]) (by decide +kernel)
theorem zoy116 : zokY zm116 = true := zokYh_ok (a := 8003) (b := 9076) (c := 9077) (by decide +kernel)
set_option maxRecDepth 20000 in
theorem zow116 : Cond.code zm116.1 zm116.2.1 zm116.2.2.1 zm116.2.2.2.1 ∈ zTw := zpw (p := 9) (i := 78) rfl rfl rfl
theorem zok117 : zokC zm117.1 zm117.2.1 0 zc117 = true := zokH_ok (hs := [9084, 9151, 8040, 9162, 9163, 9167, 9173, 9188]) (by decide +kernel)
theorem zoy117 : zokY zm117 = true := zokYh_ok (a := 8003) (b := 9081) (c := 2) (by decide +kernel)
set_option maxRecDepth 20000 in
theorem zow117 : Cond.code zm117.1 zm117.2.1 zm117.2.2.1 zm117.2.2.2.1 ∈ zTw := zpw (p := 9) (i := 82) rfl rfl rfl
theorem zok118 : zokC zm118.1 zm118.2.1 0 zc118 = true := zokH_ok (hs := [9154, 9158]) (by decide +kernel)
theorem zoy118 : zokY zm118 = true := zokYh_ok (a := 8003) (b := 9152) (c := 0) (by decide +kernel)
set_option maxRecDepth 20000 in
theorem zow118 : Cond.code zm118.1 zm118.2.1 zm118.2.2.1 zm118.2.2.2.1 ∈ zTw := zpw (p := 9) (i := 153) rfl rfl rfl
theorem zok119 : zokC zm119.1 zm119.2.1 0 zc119 = true := zokH_ok (hs := [9171, 9171, 9173, 9177, 9177, 8062, 9179, 9181, 8062, 8062, 8040, 9162]) (by decide +kernel)
theorem zoy119 : zokY zm119 = true := zokYh_ok (a := 8003) (b := 9169) (c := 3) (by decide +kernel)
set_option maxRecDepth 20000 in
theorem zow119 : Cond.code zm119.1 zm119.2.1 zm119.2.2.1 zm119.2.2.2.1 ∈ zTw := zpw (p := 9) (i := 170) rfl rfl rfl
theorem zok120 : zokC zm120.1 zm120.2.1 0 zc120 = true := zokH_ok (hs := [8062, 8062, 9192, 8062, 8062, 8062, 9199, 8062, 8062, 9208, 8062, 8062, 8062, 8062, 9212, 8062, 8062, 8062, 9221]) (by decide +kernel)
theorem zoy120 : zokY zm120 = true := zokYh_ok (a := 8003) (b := 9190) (c := 4) (by decide +kernel)
set_option maxRecDepth 20000 in
theorem zow120 : Cond.code zm120.1 zm120.2.1 zm120.2.2.1 zm120.2.2.2.1 ∈ zTw := zpw (p := 9) (i := 191) rfl rfl rfl
theorem zok121 : zokC zm121.1 zm121.2.1 0 zc121 = true := zokH_ok (hs := [8026, 8236, 8029, 8030, 8002, 8238, 8056, 8057, 8003, 8239, 8066, 8067, 8004, 9000, 8103, 8104, 8005, 9001, 8103, 8104, 8005, 9002, 8113, 9003, 8115, 8116, 8006, 9005, 8133, 9006, 9007, 9008, 8134, 8135, 8007, 9009, 8146, 8147, 8008, 9010, 8193, 8194, 8009, 9011, 8218, 8219, 8010, 9012]) (by decide +kernel)
theorem zoy121 : zokY zm121 = true := zokYh_ok (a := 8001) (b := 8024) (c := 0) (by decide +kernel)
set_option maxRecDepth 20000 in
theorem zow121 : Cond.code zm121.1 zm121.2.1 zm121.2.2.1 zm121.2.2.2.1 ∈ zTw := zpw (p := 8) (i := 25) rfl rfl rfl
theorem zok122 : zokC zm122.1 zm122.2.1 0 zc122 = true := zokH_ok (hs := [8237, 9052, 9052, 9052, 9052, 9052, 8237]) (by decide +kernel)
theorem zoy122 : zokY zm122 = true := zokYh_ok (a := 8001) (b := 9049) (c := 9050) (by decide +kernel)
set_option maxRecDepth 20000 in
theorem zow122 : Cond.code zm122.1 zm122.2.1 zm122.2.2.1 zm122.2.2.2.1 ∈ zTw := zpw (p := 9) (i := 51) rfl rfl rfl
theorem zok123 : zokC zm123.1 zm123.2.1 0 zc123 = true := zokH_ok (hs := [8237, 8236, 8237, 8237, 8237]) (by decide +kernel)
theorem zoy123 : zokY zm123 = true := zokYh_ok (a := 8001) (b := 9054) (c := 0) (by decide +kernel)
set_option maxRecDepth 20000 in
theorem zow123 : Cond.code zm123.1 zm123.2.1 zm123.2.2.1 zm123.2.2.2.1 ∈ zTw := zpw (p := 9) (i := 55) rfl rfl rfl
theorem zok124 : zokC zm124.1 zm124.2.1 0 zc124 = true := zokH_ok (hs := [8237, 8237]) (by decide +kernel)
theorem zoy124 : zokY zm124 = true := zokYh_ok (a := 8001) (b := 9057) (c := 9058) (by decide +kernel)
set_option maxRecDepth 20000 in
theorem zow124 : Cond.code zm124.1 zm124.2.1 zm124.2.2.1 zm124.2.2.2.1 ∈ zTw := zpw (p := 9) (i := 59) rfl rfl rfl
theorem zok125 : zokC zm125.1 zm125.2.1 0 zc125 = true := zokH_ok (hs := [9064, 8239, 8238, 9002, 9075, 8238, 9234, 8238, 8043, 9001, 9002, 9235, 9005, 10002, 9001, 10006]) (by decide +kernel)
theorem zoy125 : zokY zm125 = true := zokYh_ok (a := 8001) (b := 9061) (c := 9062) (by decide +kernel)
set_option maxRecDepth 20000 in
theorem zow125 : Cond.code zm125.1 zm125.2.1 zm125.2.2.1 zm125.2.2.2.1 ∈ zTw := zpw (p := 9) (i := 63) rfl rfl rfl
theorem zok126 : zokC zm126.1 zm126.2.1 0 zc126 = true := zokH_ok (hs := [9004, 9064, 9000, 8238, 10012, 8238, 8043, 9003, 9004, 9004, 9004, 9004]) (by decide +kernel)
theorem zoy126 : zokY zm126 = true := zokYh_ok (a := 8001) (b := 10009) (c := 10010) (by decide +kernel)
set_option maxRecDepth 20000 in
theorem zow126 : Cond.code zm126.1 zm126.2.1 zm126.2.2.1 zm126.2.2.2.1 ∈ zTw := zpw (p := 10) (i := 11) rfl rfl rfl
theorem zok127 : zokC zm127.1 zm127.2.1 0 zc127 = true := zokH_ok (hs := [8238, 8236, 8237, 9068, 8237]) (by decide +kernel)
theorem zoy127 : zokY zm127 = true := zokYh_ok (a := 8001) (b := 9066) (c := 1) (by decide +kernel)
set_option maxRecDepth 20000 in
theorem zow127 : Cond.code zm127.1 zm127.2.1 zm127.2.2.1 zm127.2.2.2.1 ∈ zTw := zpw (p := 9) (i := 67) rfl rfl rfl
theorem zok128 : zokC zm128.1 zm128.2.1 0 zc128 = true := zokH_ok (hs := [9001, 10127, 9001, 10131, 9001, 10158, 9001, 10159]) (by decide +kernel)
theorem zoy128 : zokY zm128 = true := zokYh_ok (a := 8001) (b := 10124) (c := 10125) (by decide +kernel)
set_option maxRecDepth 20000 in
theorem zow128 : Cond.code zm128.1 zm128.2.1 zm128.2.2.1 zm128.2.2.2.1 ∈ zTw := zpw (p := 10) (i := 126) rfl rfl rfl
theorem zok129 : zokC zm129.1 zm129.2.1 0 zc129 = true := zokH_ok (hs := [9001, 10164, 9001, 10168, 9001, 10181]) (by decide +kernel)
theorem zoy129 : zokY zm129 = true := zokYh_ok (a := 8001) (b := 10161) (c := 10162) (by decide +kernel)
set_option maxRecDepth 20000 in
theorem zow129 : Cond.code zm129.1 zm129.2.1 zm129.2.2.1 zm129.2.2.2.1 ∈ zTw := zpw (p := 10) (i := 163) rfl rfl rfl
theorem zok130 : zokC zm130.1 zm130.2.1 0 zc130 = true := zokH_ok (hs := [9001, 10186, 9001, 10195, 9001, 10203]) (by decide +kernel)
theorem zoy130 : zokY zm130 = true := zokYh_ok (a := 8001) (b := 10183) (c := 10184) (by decide +kernel)
set_option maxRecDepth 20000 in
theorem zow130 : Cond.code zm130.1 zm130.2.1 zm130.2.2.1 zm130.2.2.2.1 ∈ zTw := zpw (p := 10) (i := 185) rfl rfl rfl
theorem zok131 : zokC zm131.1 zm131.2.1 0 zc131 = true := zokH_ok (hs := [9001, 10127, 9001, 10211, 9001, 10212, 9005, 9001, 10217, 9001, 10226, 9001, 10131]) (by decide +kernel)
theorem zoy131 : zokY zm131 = true := zokYh_ok (a := 8001) (b := 10208) (c := 10209) (by decide +kernel)
set_option maxRecDepth 20000 in
theorem zow131 : Cond.code zm131.1 zm131.2.1 zm131.2.2.1 zm131.2.2.2.1 ∈ zTw := zpw (p := 10) (i := 210) rfl rfl rfl
theorem zok132 : zokC zm132.1 zm132.2.1 0 zc132 = true := zokH_ok (hs := [9001, 10127, 9001, 10237, 9005, 9001, 10217, 9001, 10238, 9001, 10159]) (by decide +kernel)
theorem zoy132 : zokY zm132 = true := zokYh_ok (a := 8001) (b := 10234) (c := 10235) (by decide +kernel)
set_option maxRecDepth 20000 in
theorem zow132 : Cond.code zm132.1 zm132.2.1 zm132.2.2.1 zm132.2.2.2.1 ∈ zTw := zpw (p := 10) (i := 236) rfl rfl rfl
theorem zok133 : zokC zm133.1 zm133.2.1 0 zc133 = true := zokH_ok (hs := [9001, 10164, 9001, 10168, 9005, 9001, 10217, 9001, 11010]) (by decide +kernel)
theorem zoy133 : zokY zm133 = true := zokYh_ok (a := 8001) (b := 11007) (c := 11008) (by decide +kernel)
set_option maxRecDepth 20000 in
theorem zow133 : Cond.code zm133.1 zm133.2.1 zm133.2.2.1 zm133.2.2.2.1 ∈ zTw := zpw (p := 11) (i := 9) rfl rfl rfl
theorem zok134 : zokC zm134.1 zm134.2.1 0 zc134 = true := zokH_ok (hs := [9001, 10186, 9001, 11022, 9005, 9001, 10217, 9001, 11026]) (by decide +kernel)
theorem zoy134 : zokY zm134 = true := zokYh_ok (a := 8001) (b := 11019) (c := 11020) (by decide +kernel)
set_option maxRecDepth 20000 in
theorem zow134 : Cond.code zm134.1 zm134.2.1 zm134.2.2.1 zm134.2.2.2.1 ∈ zTw := zpw (p := 11) (i := 21) rfl rfl rfl
theorem zok135 : zokC zm135.1 zm135.2.1 0 zc135 = true := zokH_ok (hs := [9012, 9001, 11034, 9012, 8227, 9005, 9001, 10217, 9012, 9001, 11044, 9012, 8227]) (by decide +kernel)
theorem zoy135 : zokY zm135 = true := zokYh_ok (a := 8001) (b := 11031) (c := 11032) (by decide +kernel)
set_option maxRecDepth 20000 in
theorem zow135 : Cond.code zm135.1 zm135.2.1 zm135.2.2.1 zm135.2.2.2.1 ∈ zTw := zpw (p := 11) (i := 33) rfl rfl rfl
theorem zok136 : zokC zm136.1 zm136.2.1 0 zc136 = true := zokH_ok (hs := [9001, 10127, 9001, 10211, 9001, 10159, 9005, 9001, 10217, 9001, 11053]) (by decide +kernel)
theorem zoy136 : zokY zm136 = true := zokYh_ok (a := 8001) (b := 11050) (c := 11051) (by decide +kernel)
set_option maxRecDepth 20000 in
theorem zow136 : Cond.code zm136.1 zm136.2.1 zm136.2.2.1 zm136.2.2.2.1 ∈ zTw := zpw (p := 11) (i := 52) rfl rfl rfl
theorem zok137 : zokC zm137.1 zm137.2.1 0 zc137 = true := zokH_ok (hs := [9001, 11058, 9001, 11062, 9005, 9001, 10217, 9001, 11063, 9001, 11067]) (by decide +kernel)
theorem zoy137 : zokY zm137 = true := zokYh_ok (a := 8001) (b := 11055) (c := 11056) (by decide +kernel)
set_option maxRecDepth 20000 in
theorem zow137 : Cond.code zm137.1 zm137.2.1 zm137.2.2.1 zm137.2.2.2.1 ∈ zTw := zpw (p := 11) (i := 57) rfl rfl rfl
theorem zok138 : zokC zm138.1 zm138.2.1 0 zc138 = true := zokH_ok (hs := [9005, 11075, 9005, 9001, 11079, 9005, 11075]) (by decide +kernel)
theorem zoy138 : zokY zm138 = true := zokYh_ok (a := 8001) (b := 11072) (c := 11073) (by decide +kernel)
set_option maxRecDepth 20000 in
theorem zow138 : Cond.code zm138.1 zm138.2.1 zm138.2.2.1 zm138.2.2.2.1 ∈ zTw := zpw (p := 11) (i := 74) rfl rfl rfl
theorem zok139 : zokC zm139.1 zm139.2.1 0 zc139 = true := zokH_ok (hs := [9001, 11058, 11091, 9001, 11062, 9001, 11095, 9003, 9001, 11099, 9001, 11129, 9001, 11063, 9005, 10002, 9001, 11095]) (by decide +kernel)
theorem zoy139 : zokY zm139 = true := zokYh_ok (a := 8001) (b := 11088) (c := 11089) (by decide +kernel)
set_option maxRecDepth 20000 in
theorem zow139 : Cond.code zm139.1 zm139.2.1 zm139.2.2.1 zm139.2.2.2.1 ∈ zTw := zpw (p := 11) (i := 90) rfl rfl rfl
theorem zok140 : zokC zm140.1 zm140.2.1 0 zc140 = true := zokH_ok (hs := [9004, 9003]) (by decide +kernel)
theorem zoy140 : zokY zm140 = true := zokYh_ok (a := 8001) (b := 11093) (c := 1006) (by decide +kernel)
set_option maxRecDepth 20000 in
theorem zow140 : Cond.code zm140.1 zm140.2.1 zm140.2.2.1 zm140.2.2.2.1 ∈ zTw := zpw (p := 11) (i := 94) rfl rfl rfl
theorem zok141 : zokC zm141.1 zm141.2.1 0 zc141 = true := zokH_ok (hs := [9001, 10127, 9001, 10211, 9010, 9001, 11139, 9010, 8154, 9010, 8156, 9001, 11162, 9010, 9001, 11163, 9010, 8161]) (by decide +kernel)
theorem zoy141 : zokY zm141 = true := zokYh_ok (a := 8001) (b := 11136) (c := 11137) (by decide +kernel)
set_option maxRecDepth 20000 in
theorem zow141 : Cond.code zm141.1 zm141.2.1 zm141.2.2.1 zm141.2.2.2.1 ∈ zTw := zpw (p := 11) (i := 138) rfl rfl rfl
theorem zok142 : zokC zm142.1 zm142.2.1 0 zc142 = true := zokH_ok (hs := [9001, 11058, 9001, 11185, 9011, 9001, 11186, 9011, 11212]) (by decide +kernel)
theorem zoy142 : zokY zm142 = true := zokYh_ok (a := 8001) (b := 11182) (c := 11183) (by decide +kernel)
set_option maxRecDepth 20000 in
theorem zow142 : Cond.code zm142.1 zm142.2.1 zm142.2.2.1 zm142.2.2.2.1 ∈ zTw := zpw (p := 11) (i := 184) rfl rfl rfl
theorem zok143 : zokC zm143.1 zm143.2.1 0 zc143 = true := zokH_ok (hs := [9001, 10127, 9011, 9001, 11186, 9011, 9001, 11186]) (by decide +kernel)
theorem zoy143 : zokY zm143 = true := zokYh_ok (a := 8001) (b := 11221) (c := 11222) (by decide +kernel)
set_option maxRecDepth 20000 in
theorem zow143 : Cond.code zm143.1 zm143.2.1 zm143.2.2.1 zm143.2.2.2.1 ∈ zTw := zpw (p := 11) (i := 223) rfl rfl rfl
theorem zok144 : zokC zm144.1 zm144.2.1 0 zc144 = true := zokH_ok (hs := [9001, 10127, 9001, 10159, 9011, 9001, 11186, 9001, 11228, 9001, 10159, 9002, 9001, 9235, 9002, 11053, 9011, 9002, 11186]) (by decide +kernel)
theorem zoy144 : zokY zm144 = true := zokYh_ok (a := 8001) (b := 11225) (c := 11226) (by decide +kernel)
set_option maxRecDepth 20000 in
theorem zow144 : Cond.code zm144.1 zm144.2.1 zm144.2.2.1 zm144.2.2.2.1 ∈ zTw := zpw (p := 11) (i := 227) rfl rfl rfl
theorem zok145 : zokC zm145.1 zm145.2.1 0 zc145 = true := zokH_ok (hs := [9001, 11058, 9001, 11228, 9001, 11228, 9001, 11022, 9002, 9001, 9235, 9002, 11026, 9011, 9002, 11186, 9011, 9001, 11186]) (by decide +kernel)
theorem zoy145 : zokY zm145 = true := zokYh_ok (a := 8001) (b := 11230) (c := 11231) (by decide +kernel)
set_option maxRecDepth 20000 in
theorem zow145 : Cond.code zm145.1 zm145.2.1 zm145.2.2.1 zm145.2.2.2.1 ∈ zTw := zpw (p := 11) (i := 232) rfl rfl rfl
theorem zok146 : zokC zm146.1 zm146.2.1 0 zc146 = true := zokH_ok (hs := [9001, 11058, 9012, 9001, 11237, 9012, 9001, 11034, 9012, 8227, 9012, 8227, 9012, 8225]) (by decide +kernel)
theorem zoy146 : zokY zm146 = true := zokYh_ok (a := 8001) (b := 11234) (c := 11235) (by decide +kernel)
set_option maxRecDepth 20000 in
theorem zow146 : Cond.code zm146.1 zm146.2.1 zm146.2.2.1 zm146.2.2.2.1 ∈ zTw := zpw (p := 11) (i := 236) rfl rfl rfl
