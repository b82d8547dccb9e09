theorem zok98 : zokC zm98.1 zm98.2.1 0 zc98 = true := zokH_ok (hs := [744, 752, 756]) (by decide +kernel)
theorem zoy98 : zokY zm98 = true := by decide +kernel
set_option maxRecDepth 20000 in
theorem zow98 : Cond.code zm98.1 zm98.2.1 zm98.2.2.1 zm98.2.2.2.1 ∈ zTw := List.mem_filter.mpr ⟨List.mem_of_getElem? (i := 751) rfl, rfl⟩
theorem zok99 : zokC zm99.1 zm99.2.1 0 zc99 = true := zokH_ok (hs := [736]) (by decide +kernel)
theorem zoy99 : zokY zm99 = true := by decide +kernel
set_option maxRecDepth 20000 in
theorem zow99 : Cond.code zm99.1 zm99.2.1 zm99.2.2.1 zm99.2.2.2.1 ∈ zTw := List.mem_filter.mpr ⟨List.mem_of_getElem? (i := 735) rfl, rfl⟩
theorem zok100 : zokC zm100.1 zm100.2.1 0 zc100 = true := zokH_ok (hs := [740, 744, 744, 748, 756]) (by decide +kernel)
theorem zoy100 : zokY zm100 = true := by decide +kernel
set_option maxRecDepth 20000 in
theorem zow100 : Cond.code zm100.1 zm100.2.1 zm100.2.2.1 zm100.2.2.2.1 ∈ zTw := List.mem_filter.mpr ⟨List.mem_of_getElem? (i := 739) rfl, rfl⟩
theorem zok101 : zokC zm101.1 zm101.2.1 0 zc101 = true := zokH_ok (hs := [744, 744, 817]) (by decide +kernel)
theorem zoy101 : zokY zm101 = true := by decide +kernel
set_option maxRecDepth 20000 in
theorem zow101 : Cond.code zm101.1 zm101.2.1 zm101.2.2.1 zm101.2.2.2.1 ∈ zTw := List.mem_filter.mpr ⟨List.mem_of_getElem? (i := 816) rfl, rfl⟩
theorem zok102 : zokC zm102.1 zm102.2.1 0 zc102 = true := zokH_ok (hs := [744, 831, 832, 833, 744, 565, 565]) (by decide +kernel)
theorem zoy102 : zokY zm102 = true := by decide +kernel
set_option maxRecDepth 20000 in
theorem zow102 : Cond.code zm102.1 zm102.2.1 zm102.2.2.1 zm102.2.2.2.1 ∈ zTw := List.mem_filter.mpr ⟨List.mem_of_getElem? (i := 830) rfl, rfl⟩
theorem zok103 : zokC zm103.1 zm103.2.1 0 zc103 = true := zokH_ok (hs := [744, 843]) (by decide +kernel)
theorem zoy103 : zokY zm103 = true := by decide +kernel
set_option maxRecDepth 20000 in
theorem zow103 : Cond.code zm103.1 zm103.2.1 zm103.2.2.1 zm103.2.2.2.1 ∈ zTw := List.mem_filter.mpr ⟨List.mem_of_getElem? (i := 842) rfl, rfl⟩
theorem zok104 : zokC zm104.1 zm104.2.1 0 zc104 = true := zokH_ok (hs := [565, 565, 565, 565]) (by decide +kernel)
theorem zoy104 : zokY zm104 = true := by decide +kernel
set_option maxRecDepth 20000 in
theorem zow104 : Cond.code zm104.1 zm104.2.1 zm104.2.2.1 zm104.2.2.2.1 ∈ zTw := List.mem_filter.mpr ⟨List.mem_of_getElem? (i := 846) rfl, rfl⟩
theorem zok105 : zokC zm105.1 zm105.2.1 0 zc105 = true := zokH_ok (hs := [230, 230]) (by decide +kernel)
theorem zoy105 : zokY zm105 = true := by decide +kernel
set_option maxRecDepth 20000 in
theorem zow105 : Cond.code zm105.1 zm105.2.1 zm105.2.2.1 zm105.2.2.2.1 ∈ zTw := List.mem_filter.mpr ⟨List.mem_of_getElem? (i := 870) rfl, rfl⟩
theorem zok106 : zokC zm106.1 zm106.2.1 0 zc106 = true := zokH_ok (hs := [777]) (by decide +kernel)
theorem zoy106 : zokY zm106 = true := by decide +kernel
set_option maxRecDepth 20000 in
theorem zow106 : Cond.code zm106.1 zm106.2.1 zm106.2.2.1 zm106.2.2.2.1 ∈ zTw := List.mem_filter.mpr ⟨List.mem_of_getElem? (i := 776) rfl, rfl⟩
theorem zok107 : zokC zm107.1 zm107.2.1 0 zc107 = true := zokH_ok (hs := [773, 564, 744, 777, 744, 777, 781, 777]) (by decide +kernel)
theorem zoy107 : zokY zm107 = true := by decide +kernel
set_option maxRecDepth 20000 in
theorem zow107 : Cond.code zm107.1 zm107.2.1 zm107.2.2.1 zm107.2.2.2.1 ∈ zTw := List.mem_filter.mpr ⟨List.mem_of_getElem? (i := 772) rfl, rfl⟩
theorem zok108 : zokC zm108.1 zm108.2.1 0 zc108 = true := zokH_ok (hs := [777, 855, 578, 230]) (by decide +kernel)
theorem zoy108 : zokY zm108 = true := by decide +kernel
set_option maxRecDepth 20000 in
theorem zow108 : Cond.code zm108.1 zm108.2.1 zm108.2.2.1 zm108.2.2.2.1 ∈ zTw := List.mem_filter.mpr ⟨List.mem_of_getElem? (i := 854) rfl, rfl⟩
theorem zok109 : zokC zm109.1 zm109.2.1 0 zc109 = true := zokH_ok (hs := [577, 974, 975]) (by decide +kernel)
theorem zoy109 : zokY zm109 = true := by decide +kernel
set_option maxRecDepth 20000 in
theorem zow109 : Cond.code zm109.1 zm109.2.1 zm109.2.2.1 zm109.2.2.2.1 ∈ zTw := List.mem_filter.mpr ⟨List.mem_of_getElem? (i := 973) rfl, rfl⟩
theorem zok110 : zokC zm110.1 zm110.2.1 0 zc110 = true := zokH_ok (hs := [577, 773]) (by decide +kernel)
theorem zoy110 : zokY zm110 = true := by decide +kernel
set_option maxRecDepth 20000 in
theorem zow110 : Cond.code zm110.1 zm110.2.1 zm110.2.2.1 zm110.2.2.2.1 ∈ zTw := List.mem_filter.mpr ⟨List.mem_of_getElem? (i := 1109) rfl, rfl⟩
theorem zok111 : zokC zm111.1 zm111.2.1 0 zc111 = true := zokH_ok (hs := [1106, 577]) (by decide +kernel)
theorem zoy111 : zokY zm111 = true := by decide +kernel
set_option maxRecDepth 20000 in
theorem zow111 : Cond.code zm111.1 zm111.2.1 zm111.2.2.1 zm111.2.2.2.1 ∈ zTw := List.mem_filter.mpr ⟨List.mem_of_getElem? (i := 1105) rfl, rfl⟩
theorem zok112 : zokC zm112.1 zm112.2.1 0 zc112 = true := zokH_ok (hs := [564, 740, 744, 565, 230, 855, 832]) (by decide +kernel)
theorem zoy112 : zokY zm112 = true := by decide +kernel
set_option maxRecDepth 20000 in
theorem zow112 : Cond.code zm112.1 zm112.2.1 zm112.2.2.1 zm112.2.2.2.1 ∈ zTw := List.mem_filter.mpr ⟨List.mem_of_getElem? (i := 907) rfl, rfl⟩
theorem zok113 : zokC zm113.1 zm113.2.1 0 zc113 = true := zokH_ok (hs := [564, 748]) (by decide +kernel)
theorem zoy113 : zokY zm113 = true := by decide +kernel
set_option maxRecDepth 20000 in
theorem zow113 : Cond.code zm113.1 zm113.2.1 zm113.2.2.1 zm113.2.2.2.1 ∈ zTw := List.mem_filter.mpr ⟨List.mem_of_getElem? (i := 911) rfl, rfl⟩
theorem zok114 : zokC zm114.1 zm114.2.1 0 zc114 = true := zokH_ok (hs := [577, 777, 777, 777, 744, 777, 756]) (by decide +kernel)
theorem zoy114 : zokY zm114 = true := by decide +kernel
set_option maxRecDepth 20000 in
theorem zow114 : Cond.code zm114.1 zm114.2.1 zm114.2.2.1 zm114.2.2.2.1 ∈ zTw := List.mem_filter.mpr ⟨List.mem_of_getElem? (i := 960) rfl, rfl⟩
theorem zok115 : zokC zm115.1 zm115.2.1 0 zc115 = true := zokH_ok (hs := [182, 183]) (by decide +kernel)
theorem zoy115 : zokY zm115 = true := by decide +kernel
set_option maxRecDepth 20000 in
theorem zow115 : Cond.code zm115.1 zm115.2.1 zm115.2.2.1 zm115.2.2.2.1 ∈ zTw := List.mem_filter.mpr ⟨List.mem_of_getElem? (i := 181) rfl, rfl⟩
theorem zok116 : zokC zm116.1 zm116.2.1 0 zc116 = true := zokH_ok (hs := [440, 586]) (by decide +kernel)
theorem zoy116 : zokY zm116 = true := by decide +kernel
set_option maxRecDepth 20000 in
theorem zow116 : Cond.code zm116.1 zm116.2.1 zm116.2.2.1 zm116.2.2.2.1 ∈ zTw := List.mem_filter.mpr ⟨List.mem_of_getElem? (i := 439) rfl, rfl⟩
theorem zok117 : zokC zm117.1 zm117.2.1 0 zc117 = true := zokH_ok (hs := [445, 512, 161, 523, 524, 528, 534, 549]) (by decide +kernel)
theorem zoy117 : zokY zm117 = true := by decide +kernel
set_option maxRecDepth 20000 in
theorem zow117 : Cond.code zm117.1 zm117.2.1 zm117.2.2.1 zm117.2.2.2.1 ∈ zTw := List.mem_filter.mpr ⟨List.mem_of_getElem? (i := 443) rfl, rfl⟩
theorem zok118 : zokC zm118.1 zm118.2.1 0 zc118 = true := zokH_ok (hs := [515, 519]) (by decide +kernel)
theorem zoy118 : zokY zm118 = true := by decide +kernel
set_option maxRecDepth 20000 in
theorem zow118 : Cond.code zm118.1 zm118.2.1 zm118.2.2.1 zm118.2.2.2.1 ∈ zTw := List.mem_filter.mpr ⟨List.mem_of_getElem? (i := 514) rfl, rfl⟩
theorem zok119 : zokC zm119.1 zm119.2.1 0 zc119 = true := zokH_ok (hs := [532, 532, 534, 538, 538, 183, 540, 542, 183, 183, 161, 523]) (by decide +kernel)
theorem zoy119 : zokY zm119 = true := by decide +kernel
set_option maxRecDepth 20000 in
theorem zow119 : Cond.code zm119.1 zm119.2.1 zm119.2.2.1 zm119.2.2.2.1 ∈ zTw := List.mem_filter.mpr ⟨List.mem_of_getElem? (i := 531) rfl, rfl⟩
theorem zok120 : zokC zm120.1 zm120.2.1 0 zc120 = true := zokH_ok (hs := [183, 183, 553, 183, 183, 183, 560, 183, 183, 569, 183, 183, 183, 183, 573, 183, 183, 183, 582]) (by decide +kernel)
theorem zoy120 : zokY zm120 = true := by decide +kernel
set_option maxRecDepth 20000 in
theorem zow120 : Cond.code zm120.1 zm120.2.1 zm120.2.2.1 zm120.2.2.2.1 ∈ zTw := List.mem_filter.mpr ⟨List.mem_of_getElem? (i := 552) rfl, rfl⟩
theorem zok121 : zokC zm121.1 zm121.2.1 0 zc121 = true := zokH_ok (hs := [147, 357, 150, 151, 123, 359, 177, 178, 124, 360, 187, 188, 125, 361, 224, 225, 126, 362, 224, 225, 126, 363, 234, 364, 236, 237, 127, 366, 254, 367, 368, 369, 255, 256, 128, 370, 267, 268, 129, 371, 314, 315, 130, 372, 339, 340, 131, 373]) (by decide +kernel)
theorem zoy121 : zokY zm121 = true := by decide +kernel
set_option maxRecDepth 20000 in
theorem zow121 : Cond.code zm121.1 zm121.2.1 zm121.2.2.1 zm121.2.2.2.1 ∈ zTw := List.mem_filter.mpr ⟨List.mem_of_getElem? (i := 146) rfl, rfl⟩
theorem zok122 : zokC zm122.1 zm122.2.1 0 zc122 = true := zokH_ok (hs := [358, 413, 413, 413, 413, 413, 358]) (by decide +kernel)
theorem zoy122 : zokY zm122 = true := by decide +kernel
set_option maxRecDepth 20000 in
theorem zow122 : Cond.code zm122.1 zm122.2.1 zm122.2.2.1 zm122.2.2.2.1 ∈ zTw := List.mem_filter.mpr ⟨List.mem_of_getElem? (i := 412) rfl, rfl⟩
theorem zok123 : zokC zm123.1 zm123.2.1 0 zc123 = true := zokH_ok (hs := [358, 357, 358, 358, 358]) (by decide +kernel)
theorem zoy123 : zokY zm123 = true := by decide +kernel
set_option maxRecDepth 20000 in
theorem zow123 : Cond.code zm123.1 zm123.2.1 zm123.2.2.1 zm123.2.2.2.1 ∈ zTw := List.mem_filter.mpr ⟨List.mem_of_getElem? (i := 416) rfl, rfl⟩
theorem zok124 : zokC zm124.1 zm124.2.1 0 zc124 = true := zokH_ok (hs := [358, 358]) (by decide +kernel)
theorem zoy124 : zokY zm124 = true := by decide +kernel
set_option maxRecDepth 20000 in
theorem zow124 : Cond.code zm124.1 zm124.2.1 zm124.2.2.1 zm124.2.2.2.1 ∈ zTw := List.mem_filter.mpr ⟨List.mem_of_getElem? (i := 420) rfl, rfl⟩
theorem zok125 : zokC zm125.1 zm125.2.1 0 zc125 = true := zokH_ok (hs := [425, 360, 359, 363, 436, 359, 595, 359, 164, 362, 363, 596, 366, 603, 362, 607]) (by decide +kernel)
theorem zoy125 : zokY zm125 = true := by decide +kernel
set_option maxRecDepth 20000 in
theorem zow125 : Cond.code zm125.1 zm125.2.1 zm125.2.2.1 zm125.2.2.2.1 ∈ zTw := List.mem_filter.mpr ⟨List.mem_of_getElem? (i := 424) rfl, rfl⟩
theorem zok126 : zokC zm126.1 zm126.2.1 0 zc126 = true := zokH_ok (hs := [365, 425, 361, 359, 613, 359, 164, 364, 365, 365, 365, 365]) (by decide +kernel)
theorem zoy126 : zokY zm126 = true := by decide +kernel
set_option maxRecDepth 20000 in
theorem zow126 : Cond.code zm126.1 zm126.2.1 zm126.2.2.1 zm126.2.2.2.1 ∈ zTw := List.mem_filter.mpr ⟨List.mem_of_getElem? (i := 612) rfl, rfl⟩
theorem zok127 : zokC zm127.1 zm127.2.1 0 zc127 = true := zokH_ok (hs := [359, 357, 358, 429, 358]) (by decide +kernel)
theorem zoy127 : zokY zm127 = true := by decide +kernel
set_option maxRecDepth 20000 in
theorem zow127 : Cond.code zm127.1 zm127.2.1 zm127.2.2.1 zm127.2.2.2.1 ∈ zTw := List.mem_filter.mpr ⟨List.mem_of_getElem? (i := 428) rfl, rfl⟩
theorem zok128 : zokC zm128.1 zm128.2.1 0 zc128 = true := zokH_ok (hs := [362, 728, 362, 732, 362, 759, 362, 760]) (by decide +kernel)
theorem zoy128 : zokY zm128 = true := by decide +kernel
set_option maxRecDepth 20000 in
theorem zow128 : Cond.code zm128.1 zm128.2.1 zm128.2.2.1 zm128.2.2.2.1 ∈ zTw := List.mem_filter.mpr ⟨List.mem_of_getElem? (i := 727) rfl, rfl⟩
theorem zok129 : zokC zm129.1 zm129.2.1 0 zc129 = true := zokH_ok (hs := [362, 765, 362, 769, 362, 782]) (by decide +kernel)
theorem zoy129 : zokY zm129 = true := by decide +kernel
set_option maxRecDepth 20000 in
theorem zow129 : Cond.code zm129.1 zm129.2.1 zm129.2.2.1 zm129.2.2.2.1 ∈ zTw := List.mem_filter.mpr ⟨List.mem_of_getElem? (i := 764) rfl, rfl⟩
theorem zok130 : zokC zm130.1 zm130.2.1 0 zc130 = true := zokH_ok (hs := [362, 787, 362, 796, 362, 804]) (by decide +kernel)
theorem zoy130 : zokY zm130 = true := by decide +kernel
set_option maxRecDepth 20000 in
theorem zow130 : Cond.code zm130.1 zm130.2.1 zm130.2.2.1 zm130.2.2.2.1 ∈ zTw := List.mem_filter.mpr ⟨List.mem_of_getElem? (i := 786) rfl, rfl⟩
theorem zok131 : zokC zm131.1 zm131.2.1 0 zc131 = true := zokH_ok (hs := [362, 728, 362, 812, 362, 813, 366, 362, 818, 362, 827, 362, 732]) (by decide +kernel)
theorem zoy131 : zokY zm131 = true := by decide +kernel
set_option maxRecDepth 20000 in
theorem zow131 : Cond.code zm131.1 zm131.2.1 zm131.2.2.1 zm131.2.2.2.1 ∈ zTw := List.mem_filter.mpr ⟨List.mem_of_getElem? (i := 811) rfl, rfl⟩
theorem zok132 : zokC zm132.1 zm132.2.1 0 zc132 = true := zokH_ok (hs := [362, 728, 362, 838, 366, 362, 818, 362, 839, 362, 760]) (by decide +kernel)
theorem zoy132 : zokY zm132 = true := by decide +kernel
set_option maxRecDepth 20000 in
theorem zow132 : Cond.code zm132.1 zm132.2.1 zm132.2.2.1 zm132.2.2.2.1 ∈ zTw := List.mem_filter.mpr ⟨List.mem_of_getElem? (i := 837) rfl, rfl⟩
theorem zok133 : zokC zm133.1 zm133.2.1 0 zc133 = true := zokH_ok (hs := [362, 765, 362, 769, 366, 362, 818, 362, 851]) (by decide +kernel)
theorem zoy133 : zokY zm133 = true := by decide +kernel
set_option maxRecDepth 20000 in
theorem zow133 : Cond.code zm133.1 zm133.2.1 zm133.2.2.1 zm133.2.2.2.1 ∈ zTw := List.mem_filter.mpr ⟨List.mem_of_getElem? (i := 850) rfl, rfl⟩
theorem zok134 : zokC zm134.1 zm134.2.1 0 zc134 = true := zokH_ok (hs := [362, 787, 362, 863, 366, 362, 818, 362, 867]) (by decide +kernel)
theorem zoy134 : zokY zm134 = true := by decide +kernel
set_option maxRecDepth 20000 in
theorem zow134 : Cond.code zm134.1 zm134.2.1 zm134.2.2.1 zm134.2.2.2.1 ∈ zTw := List.mem_filter.mpr ⟨List.mem_of_getElem? (i := 862) rfl, rfl⟩
theorem zok135 : zokC zm135.1 zm135.2.1 0 zc135 = true := zokH_ok (hs := [373, 362, 875, 373, 348, 366, 362, 818, 373, 362, 885, 373, 348]) (by decide +kernel)
theorem zoy135 : zokY zm135 = true := by decide +kernel
set_option maxRecDepth 20000 in
theorem zow135 : Cond.code zm135.1 zm135.2.1 zm135.2.2.1 zm135.2.2.2.1 ∈ zTw := List.mem_filter.mpr ⟨List.mem_of_getElem? (i := 874) rfl, rfl⟩
theorem zok136 : zokC zm136.1 zm136.2.1 0 zc136 = true := zokH_ok (hs := [362, 728, 362, 812, 362, 760, 366, 362, 818, 362, 894]) (by decide +kernel)
theorem zoy136 : zokY zm136 = true := by decide +kernel
set_option maxRecDepth 20000 in
theorem zow136 : Cond.code zm136.1 zm136.2.1 zm136.2.2.1 zm136.2.2.2.1 ∈ zTw := List.mem_filter.mpr ⟨List.mem_of_getElem? (i := 893) rfl, rfl⟩
theorem zok137 : zokC zm137.1 zm137.2.1 0 zc137 = true := zokH_ok (hs := [362, 899, 362, 903, 366, 362, 818, 362, 904, 362, 908]) (by decide +kernel)
theorem zoy137 : zokY zm137 = true := by decide +kernel
set_option maxRecDepth 20000 in
theorem zow137 : Cond.code zm137.1 zm137.2.1 zm137.2.2.1 zm137.2.2.2.1 ∈ zTw := List.mem_filter.mpr ⟨List.mem_of_getElem? (i := 898) rfl, rfl⟩
theorem zok138 : zokC zm138.1 zm138.2.1 0 zc138 = true := zokH_ok (hs := [366, 916, 366, 362, 920, 366, 916]) (by decide +kernel)
theorem zoy138 : zokY zm138 = true := by decide +kernel
set_option maxRecDepth 20000 in
theorem zow138 : Cond.code zm138.1 zm138.2.1 zm138.2.2.1 zm138.2.2.2.1 ∈ zTw := List.mem_filter.mpr ⟨List.mem_of_getElem? (i := 915) rfl, rfl⟩
theorem zok139 : zokC zm139.1 zm139.2.1 0 zc139 = true := zokH_ok (hs := [362, 899, 932, 362, 903, 362, 936, 364, 362, 940, 362, 970, 362, 904, 366, 603, 362, 936]) (by decide +kernel)
theorem zoy139 : zokY zm139 = true := by decide +kernel
set_option maxRecDepth 20000 in
theorem zow139 : Cond.code zm139.1 zm139.2.1 zm139.2.2.1 zm139.2.2.2.1 ∈ zTw := List.mem_filter.mpr ⟨List.mem_of_getElem? (i := 931) rfl, rfl⟩
theorem zok140 : zokC zm140.1 zm140.2.1 0 zc140 = true := zokH_ok (hs := [365, 364]) (by decide +kernel)
theorem zoy140 : zokY zm140 = true := by decide +kernel
set_option maxRecDepth 20000 in
theorem zow140 : Cond.code zm140.1 zm140.2.1 zm140.2.2.1 zm140.2.2.2.1 ∈ zTw := List.mem_filter.mpr ⟨List.mem_of_getElem? (i := 935) rfl, rfl⟩
theorem zok141 : zokC zm141.1 zm141.2.1 0 zc141 = true := zokH_ok (hs := [362, 728, 362, 812, 371, 362, 980, 371, 275, 371, 277, 362, 1003, 371, 362, 1004, 371, 282]) (by decide +kernel)
theorem zoy141 : zokY zm141 = true := by decide +kernel
set_option maxRecDepth 20000 in
theorem zow141 : Cond.code zm141.1 zm141.2.1 zm141.2.2.1 zm141.2.2.2.1 ∈ zTw := List.mem_filter.mpr ⟨List.mem_of_getElem? (i := 979) rfl, rfl⟩
theorem zok142 : zokC zm142.1 zm142.2.1 0 zc142 = true := zokH_ok (hs := [362, 899, 362, 1026, 372, 362, 1027, 372, 1053]) (by decide +kernel)
theorem zoy142 : zokY zm142 = true := by decide +kernel
set_option maxRecDepth 20000 in
theorem zow142 : Cond.code zm142.1 zm142.2.1 zm142.2.2.1 zm142.2.2.2.1 ∈ zTw := List.mem_filter.mpr ⟨List.mem_of_getElem? (i := 1025) rfl, rfl⟩
theorem zok143 : zokC zm143.1 zm143.2.1 0 zc143 = true := zokH_ok (hs := [362, 728, 372, 362, 1027, 372, 362, 1027]) (by decide +kernel)
theorem zoy143 : zokY zm143 = true := by decide +kernel
set_option maxRecDepth 20000 in
theorem zow143 : Cond.code zm143.1 zm143.2.1 zm143.2.2.1 zm143.2.2.2.1 ∈ zTw := List.mem_filter.mpr ⟨List.mem_of_getElem? (i := 1064) rfl, rfl⟩
theorem zok144 : zokC zm144.1 zm144.2.1 0 zc144 = true := zokH_ok (hs := [362, 728, 362, 760, 372, 362, 1027, 362, 1069, 362, 760, 363, 362, 596, 363, 894, 372, 363, 1027]) (by decide +kernel)
theorem zoy144 : zokY zm144 = true := by decide +kernel
set_option maxRecDepth 20000 in
theorem zow144 : Cond.code zm144.1 zm144.2.1 zm144.2.2.1 zm144.2.2.2.1 ∈ zTw := List.mem_filter.mpr ⟨List.mem_of_getElem? (i := 1068) rfl, rfl⟩
theorem zok145 : zokC zm145.1 zm145.2.1 0 zc145 = true := zokH_ok (hs := [362, 899, 362, 1069, 362, 1069, 362, 863, 363, 362, 596, 363, 867, 372, 363, 1027, 372, 362, 1027]) (by decide +kernel)
theorem zoy145 : zokY zm145 = true := by decide +kernel
set_option maxRecDepth 20000 in
theorem zow145 : Cond.code zm145.1 zm145.2.1 zm145.2.2.1 zm145.2.2.2.1 ∈ zTw := List.mem_filter.mpr ⟨List.mem_of_getElem? (i := 1073) rfl, rfl⟩
theorem zok146 : zokC zm146.1 zm146.2.1 0 zc146 = true := zokH_ok (hs := [362, 899, 373, 362, 1078, 373, 362, 875, 373, 348, 373, 348, 373, 346]) (by decide +kernel)
theorem zoy146 : zokY zm146 = true := by decide +kernel
set_option maxRecDepth 20000 in
theorem zow146 : Cond.code zm146.1 zm146.2.1 zm146.2.2.1 zm146.2.2.2.1 ∈ zTw := List.mem_filter.mpr ⟨List.mem_of_getElem? (i := 1077) rfl, rfl⟩
