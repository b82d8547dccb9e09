theorem zok147 : zokC zm147.1 zm147.2.1 0 zc147 = true := zokH_ok (hs := [9001, 10211, 9001, 12005]) (by decide +kernel)
theorem zoy147 : zokY zm147 = true := zokYh_ok (a := 8001) (b := 12002) (c := 12003) (by decide +kernel)
set_option maxRecDepth 20000 in
theorem zow147 : Cond.code zm147.1 zm147.2.1 zm147.2.2.1 zm147.2.2.2.1 ∈ zTw := zpw (p := 12) (i := 4) rfl rfl rfl
theorem zok148 : zokC zm148.1 zm148.2.1 0 zc148 = true := zokH_ok (hs := [9001, 10127, 9010, 9001, 12013, 9010, 8159, 9010, 8163, 9010, 8159, 9001, 10237, 9010, 8165]) (by decide +kernel)
theorem zoy148 : zokY zm148 = true := zokYh_ok (a := 8001) (b := 12010) (c := 12011) (by decide +kernel)
set_option maxRecDepth 20000 in
theorem zow148 : Cond.code zm148.1 zm148.2.1 zm148.2.2.1 zm148.2.2.2.1 ∈ zTw := zpw (p := 12) (i := 12) rfl rfl rfl
theorem zok149 : zokC zm149.1 zm149.2.1 0 zc149 = true := zokH_ok (hs := [9001, 11058, 11091, 9001, 12021, 9001, 11062, 9002, 9001, 9235, 9003, 9002, 11099, 9002, 11129, 9002, 12021, 9002, 11062, 9002, 11063]) (by decide +kernel)
theorem zoy149 : zokY zm149 = true := zokYh_ok (a := 8001) (b := 12018) (c := 12019) (by decide +kernel)
set_option maxRecDepth 20000 in
theorem zow149 : Cond.code zm149.1 zm149.2.1 zm149.2.2.1 zm149.2.2.2.1 ∈ zTw := zpw (p := 12) (i := 20) rfl rfl rfl
theorem zok150 : zokC zm150.1 zm150.2.1 0 zc150 = true := zokH_ok (hs := [9001, 11058, 9001, 11228, 12033]) (by decide +kernel)
theorem zoy150 : zokY zm150 = true := zokYh_ok (a := 8001) (b := 12030) (c := 12031) (by decide +kernel)
set_option maxRecDepth 20000 in
theorem zow150 : Cond.code zm150.1 zm150.2.1 zm150.2.2.1 zm150.2.2.2.1 ∈ zTw := zpw (p := 12) (i := 32) rfl rfl rfl
theorem zok151 : zokC zm151.1 zm151.2.1 0 zc151 = true := zokH_ok (hs := [9001, 11228, 9002, 9001, 9235, 9002, 11026, 9010, 9002, 12037]) (by decide +kernel)
theorem zoy151 : zokY zm151 = true := zokYh_ok (a := 8001) (b := 12035) (c := 2001) (by decide +kernel)
set_option maxRecDepth 20000 in
theorem zow151 : Cond.code zm151.1 zm151.2.1 zm151.2.2.1 zm151.2.2.2.1 ∈ zTw := zpw (p := 12) (i := 36) rfl rfl rfl
theorem zok152 : zokC zm152.1 zm152.2.1 0 zc152 = true := zokH_ok (hs := [9009, 8141, 9009, 8141]) (by decide +kernel)
theorem zoy152 : zokY zm152 = true := zokYh_ok (a := 8001) (b := 12044) (c := 12045) (by decide +kernel)
set_option maxRecDepth 20000 in
theorem zow152 : Cond.code zm152.1 zm152.2.1 zm152.2.2.1 zm152.2.2.2.1 ∈ zTw := zpw (p := 12) (i := 46) rfl rfl rfl
theorem zok153 : zokC zm153.1 zm153.2.1 0 zc153 = true := zokH_ok (hs := [9001, 11058, 9009, 8141, 9002, 9001, 9235, 9009, 9002, 12051, 9002, 11129, 9002, 11063, 9002, 11095, 9001, 11095, 9009, 8141]) (by decide +kernel)
theorem zoy153 : zokY zm153 = true := zokYh_ok (a := 8001) (b := 12048) (c := 12049) (by decide +kernel)
set_option maxRecDepth 20000 in
theorem zow153 : Cond.code zm153.1 zm153.2.1 zm153.2.2.1 zm153.2.2.2.1 ∈ zTw := zpw (p := 12) (i := 50) rfl rfl rfl
theorem zok154 : zokC zm154.1 zm154.2.1 0 zc154 = true := zokH_ok (hs := [9001, 11228, 9001, 12072, 9001, 10006, 9001, 11185, 9004, 9001, 11062, 9001, 11095, 9001, 12073, 9001, 12074, 9005, 11075, 9009, 8141, 8237]) (by decide +kernel)
theorem zoy154 : zokY zm154 = true := zokYh_ok (a := 8001) (b := 12069) (c := 12070) (by decide +kernel)
set_option maxRecDepth 20000 in
theorem zow154 : Cond.code zm154.1 zm154.2.1 zm154.2.2.1 zm154.2.2.2.1 ∈ zTw := zpw (p := 12) (i := 71) rfl rfl rfl
theorem zok155 : zokC zm155.1 zm155.2.1 0 zc155 = true := zokH_ok (hs := [9001, 9006, 12082, 9007, 9009, 8141, 9008, 9001, 11062]) (by decide +kernel)
theorem zoy155 : zokY zm155 = true := zokYh_ok (a := 8001) (b := 12079) (c := 12080) (by decide +kernel)
set_option maxRecDepth 20000 in
theorem zow155 : Cond.code zm155.1 zm155.2.1 zm155.2.2.1 zm155.2.2.2.1 ∈ zTw := zpw (p := 12) (i := 81) rfl rfl rfl
theorem zok156 : zokC zm156.1 zm156.2.1 0 zc156 = true := zokH_ok (hs := [9008, 9001, 9006, 12087, 9009, 9007, 8141, 9005, 10002, 9001, 11062]) (by decide +kernel)
theorem zoy156 : zokY zm156 = true := zokYh_ok (a := 8001) (b := 12084) (c := 12085) (by decide +kernel)
set_option maxRecDepth 20000 in
theorem zow156 : Cond.code zm156.1 zm156.2.1 zm156.2.2.1 zm156.2.2.2.1 ∈ zTw := zpw (p := 12) (i := 86) rfl rfl rfl
theorem zok157 : zokC zm157.1 zm157.2.1 0 zc157 = true := zokH_ok (hs := [12093, 12094, 12097, 12098, 12099, 12100, 12101, 12109, 12113, 12115, 12116, 12118, 12122, 12123, 12125, 12130, 12131, 12132]) (by decide +kernel)
theorem zoy157 : zokY zm157 = true := zokYh_ok (a := 8011) (b := 12091) (c := 0) (by decide +kernel)
set_option maxRecDepth 20000 in
theorem zow157 : Cond.code zm157.1 zm157.2.1 zm157.2.2.1 zm157.2.2.2.1 ∈ zTw := zpw (p := 12) (i := 92) rfl rfl rfl
theorem zok158 : zokC zm158.1 zm158.2.1 0 zc158 = true := zokH_ok (hs := []) (by decide +kernel)
theorem zoy158 : zokY zm158 = true := zokYh_ok (a := 8011) (b := 13043) (c := 0) (by decide +kernel)
set_option maxRecDepth 20000 in
theorem zow158 : Cond.code zm158.1 zm158.2.1 zm158.2.2.1 zm158.2.2.2.1 ∈ zTw := zpw (p := 13) (i := 44) rfl rfl rfl
theorem zok159 : zokC zm159.1 zm159.2.1 0 zc159 = true := zokH_ok (hs := []) (by decide +kernel)
theorem zoy159 : zokY zm159 = true := zokYh_ok (a := 8011) (b := 14063) (c := 0) (by decide +kernel)
set_option maxRecDepth 20000 in
theorem zow159 : Cond.code zm159.1 zm159.2.1 zm159.2.2.1 zm159.2.2.2.1 ∈ zTw := zpw (p := 14) (i := 64) rfl rfl rfl
theorem zok160 : zokC zm160.1 zm160.2.1 0 zc160 = true := zokH_ok (hs := [12094, 12095, 12095, 12095]) (by decide +kernel)
theorem zoy160 : zokY zm160 = true := zokYh_ok (a := 8011) (b := 12218) (c := 2003) (by decide +kernel)
set_option maxRecDepth 20000 in
theorem zow160 : Cond.code zm160.1 zm160.2.1 zm160.2.2.1 zm160.2.2.2.1 ∈ zTw := zpw (p := 12) (i := 219) rfl rfl rfl
theorem zok161 : zokC zm161.1 zm161.2.1 0 zc161 = true := zokH_ok (hs := [12095, 12216, 12216, 12216, 12216, 12216, 12095]) (by decide +kernel)
theorem zoy161 : zokY zm161 = true := zokYh_ok (a := 8011) (b := 12213) (c := 12214) (by decide +kernel)
set_option maxRecDepth 20000 in
theorem zow161 : Cond.code zm161.1 zm161.2.1 zm161.2.2.1 zm161.2.2.2.1 ∈ zTw := zpw (p := 12) (i := 215) rfl rfl rfl
theorem zok162 : zokC zm162.1 zm162.2.1 0 zc162 = true := zokH_ok (hs := [12095, 12095]) (by decide +kernel)
theorem zoy162 : zokY zm162 = true := zokYh_ok (a := 8011) (b := 12221) (c := 12222) (by decide +kernel)
set_option maxRecDepth 20000 in
theorem zow162 : Cond.code zm162.1 zm162.2.1 zm162.2.2.1 zm162.2.2.2.1 ∈ zTw := zpw (p := 12) (i := 223) rfl rfl rfl
theorem zok163 : zokC zm163.1 zm163.2.1 0 zc163 = true := zokH_ok (hs := [12103, 12103]) (by decide +kernel)
theorem zoy163 : zokY zm163 = true := zokYh_ok (a := 8011) (b := 13020) (c := 2010) (by decide +kernel)
set_option maxRecDepth 20000 in
theorem zow163 : Cond.code zm163.1 zm163.2.1 zm163.2.2.1 zm163.2.2.2.1 ∈ zTw := zpw (p := 13) (i := 21) rfl rfl rfl
theorem zok164 : zokC zm164.1 zm164.2.1 0 zc164 = true := zokH_ok (hs := [12102, 12095, 12094, 12102, 12102, 12102, 12102, 12095, 12094, 12102]) (by decide +kernel)
theorem zoy164 : zokY zm164 = true := zokYh_ok (a := 8011) (b := 12238) (c := 2006) (by decide +kernel)
set_option maxRecDepth 20000 in
theorem zow164 : Cond.code zm164.1 zm164.2.1 zm164.2.2.1 zm164.2.2.2.1 ∈ zTw := zpw (p := 12) (i := 239) rfl rfl rfl
theorem zok165 : zokC zm165.1 zm165.2.1 0 zc165 = true := zokH_ok (hs := [12095, 12094, 12094]) (by decide +kernel)
theorem zoy165 : zokY zm165 = true := zokYh_ok (a := 8011) (b := 13040) (c := 2015) (by decide +kernel)
set_option maxRecDepth 20000 in
theorem zow165 : Cond.code zm165.1 zm165.2.1 zm165.2.2.1 zm165.2.2.2.1 ∈ zTw := zpw (p := 13) (i := 41) rfl rfl rfl
theorem zok166 : zokC zm166.1 zm166.2.1 0 zc166 = true := zokH_ok (hs := [12095, 12094, 12094]) (by decide +kernel)
theorem zoy166 : zokY zm166 = true := zokYh_ok (a := 8011) (b := 13011) (c := 2009) (by decide +kernel)
set_option maxRecDepth 20000 in
theorem zow166 : Cond.code zm166.1 zm166.2.1 zm166.2.2.1 zm166.2.2.2.1 ∈ zTw := zpw (p := 13) (i := 12) rfl rfl rfl
theorem zok167 : zokC zm167.1 zm167.2.1 0 zc167 = true := zokH_ok (hs := [12236, 12102, 13009, 12094, 12102]) (by decide +kernel)
theorem zoy167 : zokY zm167 = true := zokYh_ok (a := 8011) (b := 13007) (c := 2008) (by decide +kernel)
set_option maxRecDepth 20000 in
theorem zow167 : Cond.code zm167.1 zm167.2.1 zm167.2.2.1 zm167.2.2.2.1 ∈ zTw := zpw (p := 13) (i := 8) rfl rfl rfl
theorem zok168 : zokC zm168.1 zm168.2.1 0 zc168 = true := zokH_ok (hs := [12102, 13009, 12102, 12102]) (by decide +kernel)
theorem zoy168 : zokY zm168 = true := zokYh_ok (a := 8011) (b := 13032) (c := 2013) (by decide +kernel)
set_option maxRecDepth 20000 in
theorem zow168 : Cond.code zm168.1 zm168.2.1 zm168.2.2.1 zm168.2.2.2.1 ∈ zTw := zpw (p := 13) (i := 33) rfl rfl rfl
theorem zok169 : zokC zm169.1 zm169.2.1 0 zc169 = true := zokH_ok (hs := [13005, 13030]) (by decide +kernel)
theorem zoy169 : zokY zm169 = true := zokYh_ok (a := 8011) (b := 13113) (c := 3013) (by decide +kernel)
set_option maxRecDepth 20000 in
theorem zow169 : Cond.code zm169.1 zm169.2.1 zm169.2.2.1 zm169.2.2.2.1 ∈ zTw := zpw (p := 13) (i := 114) rfl rfl rfl
theorem zok170 : zokC zm170.1 zm170.2.1 0 zc170 = true := zokH_ok (hs := [12236, 12102, 13038, 12102, 13018, 12102, 12102, 13038, 12102, 12094, 12102, 12102, 12102, 12104, 12102, 13042, 13018]) (by decide +kernel)
theorem zoy170 : zokY zm170 = true := zokYh_ok (a := 8011) (b := 13036) (c := 2014) (by decide +kernel)
set_option maxRecDepth 20000 in
theorem zow170 : Cond.code zm170.1 zm170.2.1 zm170.2.2.1 zm170.2.2.2.1 ∈ zTw := zpw (p := 13) (i := 37) rfl rfl rfl
theorem zok171 : zokC zm171.1 zm171.2.1 0 zc171 = true := zokH_ok (hs := [13013, 13005, 13098, 13005, 13099, 13005, 13100, 13005, 13101, 13005, 13102, 13005, 13103, 13005, 13104, 13005, 13105, 13005, 13106, 13005, 13107, 13005, 13108, 13005, 13109, 13005]) (by decide +kernel)
theorem zoy171 : zokY zm171 = true := zokYh_ok (a := 8011) (b := 13096) (c := 3012) (by decide +kernel)
set_option maxRecDepth 20000 in
theorem zow171 : Cond.code zm171.1 zm171.2.1 zm171.2.2.1 zm171.2.2.2.1 ∈ zTw := zpw (p := 13) (i := 97) rfl rfl rfl
theorem zok172 : zokC zm172.1 zm172.2.1 0 zc172 = true := zokH_ok (hs := [12097, 12105, 12098, 12105, 12098, 12105]) (by decide +kernel)
theorem zoy172 : zokY zm172 = true := zokYh_ok (a := 8011) (b := 13092) (c := 3011) (by decide +kernel)
set_option maxRecDepth 20000 in
theorem zow172 : Cond.code zm172.1 zm172.2.1 zm172.2.2.1 zm172.2.2.2.1 ∈ zTw := zpw (p := 13) (i := 93) rfl rfl rfl
theorem zok173 : zokC zm173.1 zm173.2.1 0 zc173 = true := zokH_ok (hs := [12106, 13018, 12106, 12106]) (by decide +kernel)
theorem zoy173 : zokY zm173 = true := zokYh_ok (a := 8011) (b := 13088) (c := 3010) (by decide +kernel)
set_option maxRecDepth 20000 in
theorem zow173 : Cond.code zm173.1 zm173.2.1 zm173.2.2.1 zm173.2.2.2.1 ∈ zTw := zpw (p := 13) (i := 89) rfl rfl rfl
theorem zok174 : zokC zm174.1 zm174.2.1 0 zc174 = true := zokH_ok (hs := [12107, 12102, 13018, 12107, 12107, 12109, 12110, 12110, 12110]) (by decide +kernel)
theorem zoy174 : zokY zm174 = true := zokYh_ok (a := 8011) (b := 13126) (c := 4000) (by decide +kernel)
set_option maxRecDepth 20000 in
theorem zow174 : Cond.code zm174.1 zm174.2.1 zm174.2.2.1 zm174.2.2.2.1 ∈ zTw := zpw (p := 13) (i := 127) rfl rfl rfl
theorem zok175 : zokC zm175.1 zm175.2.1 0 zc175 = true := zokH_ok (hs := []) (by decide +kernel)
theorem zoy175 : zokY zm175 = true := zokYh_ok (a := 8011) (b := 13141) (c := 0) (by decide +kernel)
set_option maxRecDepth 20000 in
theorem zow175 : Cond.code zm175.1 zm175.2.1 zm175.2.2.1 zm175.2.2.2.1 ∈ zTw := zpw (p := 13) (i := 142) rfl rfl rfl
theorem zok176 : zokC zm176.1 zm176.2.1 0 zc176 = true := zokH_ok (hs := [12110, 12109, 12110, 13140, 12110, 12110, 12109, 12110, 13090, 12109, 12110, 12107, 12107]) (by decide +kernel)
theorem zoy176 : zokY zm176 = true := zokYh_ok (a := 8011) (b := 13138) (c := 4003) (by decide +kernel)
set_option maxRecDepth 20000 in
theorem zow176 : Cond.code zm176.1 zm176.2.1 zm176.2.2.1 zm176.2.2.2.1 ∈ zTw := zpw (p := 13) (i := 139) rfl rfl rfl
theorem zok177 : zokC zm177.1 zm177.2.1 0 zc177 = true := zokH_ok (hs := [12236, 12102, 12102, 13038, 13085, 13034, 13086, 12104, 13090, 13094, 13018, 13086, 13030, 13090]) (by decide +kernel)
theorem zoy177 : zokY zm177 = true := zokYh_ok (a := 8011) (b := 13083) (c := 3009) (by decide +kernel)
set_option maxRecDepth 20000 in
theorem zow177 : Cond.code zm177.1 zm177.2.1 zm177.2.2.1 zm177.2.2.2.1 ∈ zTw := zpw (p := 13) (i := 84) rfl rfl rfl
theorem zok178 : zokC zm178.1 zm178.2.1 0 zc178 = true := zokH_ok (hs := [13081, 12236, 12236, 12236, 12094, 12102, 12094, 12102, 12102, 12102, 13081, 13090]) (by decide +kernel)
theorem zoy178 : zokY zm178 = true := zokYh_ok (a := 8011) (b := 13079) (c := 3008) (by decide +kernel)
set_option maxRecDepth 20000 in
theorem zow178 : Cond.code zm178.1 zm178.2.1 zm178.2.2.1 zm178.2.2.2.1 ∈ zTw := zpw (p := 13) (i := 80) rfl rfl rfl
theorem zok179 : zokC zm179.1 zm179.2.1 0 zc179 = true := zokH_ok (hs := [13077, 12236, 12236, 12094, 12102, 12102, 12102, 13077, 13090]) (by decide +kernel)
theorem zoy179 : zokY zm179 = true := zokYh_ok (a := 8011) (b := 13075) (c := 3007) (by decide +kernel)
set_option maxRecDepth 20000 in
theorem zow179 : Cond.code zm179.1 zm179.2.1 zm179.2.2.1 zm179.2.2.2.1 ∈ zTw := zpw (p := 13) (i := 76) rfl rfl rfl
theorem zok180 : zokC zm180.1 zm180.2.1 0 zc180 = true := zokH_ok (hs := [13073, 12236, 12102, 13018, 12102, 12102, 12102, 12095, 12094, 12102, 12102, 12102, 13086, 13073, 13090]) (by decide +kernel)
theorem zoy180 : zokY zm180 = true := zokYh_ok (a := 8011) (b := 13130) (c := 4001) (by decide +kernel)
set_option maxRecDepth 20000 in
theorem zow180 : Cond.code zm180.1 zm180.2.1 zm180.2.2.1 zm180.2.2.2.1 ∈ zTw := zpw (p := 13) (i := 131) rfl rfl rfl
theorem zok181 : zokC zm181.1 zm181.2.1 0 zc181 = true := zokH_ok (hs := [12236, 13123, 13005, 13124, 13030, 13124, 12102, 12102, 13128]) (by decide +kernel)
theorem zoy181 : zokY zm181 = true := zokYh_ok (a := 8011) (b := 13121) (c := 3015) (by decide +kernel)
set_option maxRecDepth 20000 in
theorem zow181 : Cond.code zm181.1 zm181.2.1 zm181.2.2.1 zm181.2.2.2.1 ∈ zTw := zpw (p := 13) (i := 122) rfl rfl rfl
theorem zok182 : zokC zm182.1 zm182.2.1 0 zc182 = true := zokH_ok (hs := [12110, 12109]) (by decide +kernel)
theorem zoy182 : zokY zm182 = true := zokYh_ok (a := 8011) (b := 13145) (c := 4004) (by decide +kernel)
set_option maxRecDepth 20000 in
theorem zow182 : Cond.code zm182.1 zm182.2.1 zm182.2.2.1 zm182.2.2.2.1 ∈ zTw := zpw (p := 13) (i := 146) rfl rfl rfl
theorem zok183 : zokC zm183.1 zm183.2.1 0 zc183 = true := zokH_ok (hs := [13136, 12236, 13143, 13136, 12110, 12110, 12107, 12107, 12102, 12102, 13136]) (by decide +kernel)
theorem zoy183 : zokY zm183 = true := zokYh_ok (a := 8011) (b := 13134) (c := 4002) (by decide +kernel)
set_option maxRecDepth 20000 in
theorem zow183 : Cond.code zm183.1 zm183.2.1 zm183.2.2.1 zm183.2.2.2.1 ∈ zTw := zpw (p := 13) (i := 135) rfl rfl rfl
theorem zok184 : zokC zm184.1 zm184.2.1 0 zc184 = true := zokH_ok (hs := [12110, 12107, 13119, 13132, 13147, 13005, 13148, 13005, 13147, 13005, 13030, 13140, 13136, 12109, 12110, 12110, 12110, 13143, 12236, 12102, 13018, 13136]) (by decide +kernel)
theorem zoy184 : zokY zm184 = true := zokYh_ok (a := 8011) (b := 13117) (c := 3014) (by decide +kernel)
set_option maxRecDepth 20000 in
theorem zow184 : Cond.code zm184.1 zm184.2.1 zm184.2.2.1 zm184.2.2.2.1 ∈ zTw := zpw (p := 13) (i := 118) rfl rfl rfl
theorem zok185 : zokC zm185.1 zm185.2.1 0 zc185 = true := zokH_ok (hs := [13030, 12105, 12100, 12105, 12099, 12098, 12105, 13073, 12099, 12098, 12105, 12099, 13110, 13111, 12099, 12098, 12105, 13115, 12099, 12098, 12105, 12100, 12105]) (by decide +kernel)
theorem zoy185 : zokY zm185 = true := zokYh_ok (a := 8011) (b := 13071) (c := 3006) (by decide +kernel)
set_option maxRecDepth 20000 in
theorem zow185 : Cond.code zm185.1 zm185.2.1 zm185.2.2.1 zm185.2.2.2.1 ∈ zTw := zpw (p := 13) (i := 72) rfl rfl rfl
theorem zok186 : zokC zm186.1 zm186.2.1 0 zc186 = true := zokH_ok (hs := [13034, 12101, 12104]) (by decide +kernel)
theorem zoy186 : zokY zm186 = true := zokYh_ok (a := 8011) (b := 13047) (c := 3000) (by decide +kernel)
set_option maxRecDepth 20000 in
theorem zow186 : Cond.code zm186.1 zm186.2.1 zm186.2.2.1 zm186.2.2.2.1 ∈ zTw := zpw (p := 13) (i := 48) rfl rfl rfl
theorem zok187 : zokC zm187.1 zm187.2.1 0 zc187 = true := zokH_ok (hs := [12101, 13018, 13030, 13034, 12104, 13045, 12101]) (by decide +kernel)
theorem zoy187 : zokY zm187 = true := zokYh_ok (a := 8011) (b := 13028) (c := 2012) (by decide +kernel)
set_option maxRecDepth 20000 in
theorem zow187 : Cond.code zm187.1 zm187.2.1 zm187.2.2.1 zm187.2.2.2.1 ∈ zTw := zpw (p := 13) (i := 29) rfl rfl rfl
theorem zok188 : zokC zm188.1 zm188.2.1 0 zc188 = true := zokH_ok (hs := [12101, 13018, 13030, 12101, 12101, 13045, 13045, 13045, 12101, 12101, 12101, 12101, 12101]) (by decide +kernel)
theorem zoy188 : zokY zm188 = true := zokYh_ok (a := 8011) (b := 13051) (c := 3001) (by decide +kernel)
set_option maxRecDepth 20000 in
theorem zow188 : Cond.code zm188.1 zm188.2.1 zm188.2.2.1 zm188.2.2.2.1 ∈ zTw := zpw (p := 13) (i := 52) rfl rfl rfl
theorem zok189 : zokC zm189.1 zm189.2.1 0 zc189 = true := zokH_ok (hs := [13030, 12101, 13034, 12104, 12111, 12236, 12102, 12101, 13034, 12104, 12112, 12111, 12112, 13018]) (by decide +kernel)
theorem zoy189 : zokY zm189 = true := zokYh_ok (a := 8011) (b := 13059) (c := 3003) (by decide +kernel)
set_option maxRecDepth 20000 in
theorem zow189 : Cond.code zm189.1 zm189.2.1 zm189.2.2.1 zm189.2.2.2.1 ∈ zTw := zpw (p := 13) (i := 60) rfl rfl rfl
theorem zok190 : zokC zm190.1 zm190.2.1 0 zc190 = true := zokH_ok (hs := [13057, 12101, 12111, 12112]) (by decide +kernel)
theorem zoy190 : zokY zm190 = true := zokYh_ok (a := 8011) (b := 13055) (c := 3002) (by decide +kernel)
set_option maxRecDepth 20000 in
theorem zow190 : Cond.code zm190.1 zm190.2.1 zm190.2.2.1 zm190.2.2.2.1 ∈ zTw := zpw (p := 13) (i := 56) rfl rfl rfl
theorem zok191 : zokC zm191.1 zm191.2.1 0 zc191 = true := zokH_ok (hs := [13057, 12111, 12112, 13045]) (by decide +kernel)
theorem zoy191 : zokY zm191 = true := zokYh_ok (a := 8011) (b := 13067) (c := 3005) (by decide +kernel)
set_option maxRecDepth 20000 in
theorem zow191 : Cond.code zm191.1 zm191.2.1 zm191.2.2.1 zm191.2.2.2.1 ∈ zTw := zpw (p := 13) (i := 68) rfl rfl rfl
theorem zok192 : zokC zm192.1 zm192.2.1 0 zc192 = true := zokH_ok (hs := [12101, 13018, 13030, 12101, 12101, 13045, 13045, 13045, 13045, 12101]) (by decide +kernel)
theorem zoy192 : zokY zm192 = true := zokYh_ok (a := 8011) (b := 13063) (c := 3004) (by decide +kernel)
set_option maxRecDepth 20000 in
theorem zow192 : Cond.code zm192.1 zm192.2.1 zm192.2.2.1 zm192.2.2.2.1 ∈ zTw := zpw (p := 13) (i := 64) rfl rfl rfl
theorem zok193 : zokC zm193.1 zm193.2.1 0 zc193 = true := zokH_ok (hs := [13004, 13005, 13026, 12101, 13018, 13013, 13005, 13049, 13014, 13005, 13053, 13015, 13005, 13061, 13065]) (by decide +kernel)
theorem zoy193 : zokY zm193 = true := zokYh_ok (a := 8011) (b := 13024) (c := 2011) (by decide +kernel)
set_option maxRecDepth 20000 in
theorem zow193 : Cond.code zm193.1 zm193.2.1 zm193.2.2.1 zm193.2.2.2.1 ∈ zTw := zpw (p := 13) (i := 25) rfl rfl rfl
theorem zok194 : zokC zm194.1 zm194.2.1 0 zc194 = true := zokH_ok (hs := [13004, 13005, 13013, 13005, 13014, 13005, 13015, 13005, 13016, 13005]) (by decide +kernel)
theorem zoy194 : zokY zm194 = true := zokYh_ok (a := 8011) (b := 13002) (c := 2007) (by decide +kernel)
set_option maxRecDepth 20000 in
theorem zow194 : Cond.code zm194.1 zm194.2.1 zm194.2.2.1 zm194.2.2.2.1 ∈ zTw := zpw (p := 13) (i := 3) rfl rfl rfl
theorem zok195 : zokC zm195.1 zm195.2.1 0 zc195 = true := zokH_ok (hs := [12236, 12102, 12105, 13000, 13017, 13005, 13018, 12108, 13018, 12108, 12108, 13022, 13069]) (by decide +kernel)
theorem zoy195 : zokY zm195 = true := zokYh_ok (a := 8011) (b := 12234) (c := 2005) (by decide +kernel)
set_option maxRecDepth 20000 in
theorem zow195 : Cond.code zm195.1 zm195.2.1 zm195.2.2.1 zm195.2.2.2.1 ∈ zTw := zpw (p := 12) (i := 235) rfl rfl rfl
