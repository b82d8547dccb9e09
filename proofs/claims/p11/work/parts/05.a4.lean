theorem zok196 : zokC zm196.1 zm196.2.1 0 zc196 = true := zokH_ok (hs := [12098, 12105, 12108, 12102, 12103, 12106, 12232, 12236, 12102, 12102, 12232, 12236, 12102, 13018, 12095, 12103]) (by decide +kernel)
theorem zoy196 : zokY zm196 = true := zokYh_ok (a := 8011) (b := 12230) (c := 2004) (by decide +kernel)
set_option maxRecDepth 20000 in
theorem zow196 : Cond.code zm196.1 zm196.2.1 zm196.2.2.1 zm196.2.2.2.1 ∈ zTw := zpw (p := 12) (i := 231) rfl rfl rfl
theorem zok197 : zokC zm197.1 zm197.2.1 0 zc197 = true := zokH_ok (hs := [12096, 12096, 12105, 12100, 12105, 12228, 12103, 12096, 12096, 12096]) (by decide +kernel)
theorem zoy197 : zokY zm197 = true := zokYh_ok (a := 8011) (b := 12225) (c := 12226) (by decide +kernel)
set_option maxRecDepth 20000 in
theorem zow197 : Cond.code zm197.1 zm197.2.1 zm197.2.2.1 zm197.2.2.2.1 ∈ zTw := zpw (p := 12) (i := 227) rfl rfl rfl
theorem zok198 : zokC zm198.1 zm198.2.1 0 zc198 = true := zokH_ok (hs := [12105, 12101, 12228, 12103, 12116, 12101, 12116, 12119, 12116]) (by decide +kernel)
theorem zoy198 : zokY zm198 = true := zokYh_ok (a := 8011) (b := 13150) (c := 13151) (by decide +kernel)
set_option maxRecDepth 20000 in
theorem zow198 : Cond.code zm198.1 zm198.2.1 zm198.2.2.1 zm198.2.2.2.1 ∈ zTw := zpw (p := 13) (i := 152) rfl rfl rfl
theorem zok199 : zokC zm199.1 zm199.2.1 0 zc199 = true := zokH_ok (hs := [12096]) (by decide +kernel)
theorem zoy199 : zokY zm199 = true := zokYh_ok (a := 8011) (b := 14071) (c := 5014) (by decide +kernel)
set_option maxRecDepth 20000 in
theorem zow199 : Cond.code zm199.1 zm199.2.1 zm199.2.2.1 zm199.2.2.2.1 ∈ zTw := zpw (p := 14) (i := 72) rfl rfl rfl
theorem zok200 : zokC zm200.1 zm200.2.1 0 zc200 = true := zokH_ok (hs := [12113, 12114, 12114, 12114]) (by decide +kernel)
theorem zoy200 : zokY zm200 = true := zokYh_ok (a := 8011) (b := 14096) (c := 6004) (by decide +kernel)
set_option maxRecDepth 20000 in
theorem zow200 : Cond.code zm200.1 zm200.2.1 zm200.2.2.1 zm200.2.2.2.1 ∈ zTw := zpw (p := 14) (i := 97) rfl rfl rfl
theorem zok201 : zokC zm201.1 zm201.2.1 0 zc201 = true := zokH_ok (hs := [12114, 12114, 12113, 12114]) (by decide +kernel)
theorem zoy201 : zokY zm201 = true := zokYh_ok (a := 8011) (b := 14100) (c := 6005) (by decide +kernel)
set_option maxRecDepth 20000 in
theorem zow201 : Cond.code zm201.1 zm201.2.1 zm201.2.2.1 zm201.2.2.2.1 ∈ zTw := zpw (p := 14) (i := 101) rfl rfl rfl
theorem zok202 : zokC zm202.1 zm202.2.1 0 zc202 = true := zokH_ok (hs := []) (by decide +kernel)
theorem zoy202 : zokY zm202 = true := zokYh_ok (a := 8011) (b := 14103) (c := 0) (by decide +kernel)
set_option maxRecDepth 20000 in
theorem zow202 : Cond.code zm202.1 zm202.2.1 zm202.2.2.1 zm202.2.2.2.1 ∈ zTw := zpw (p := 14) (i := 104) rfl rfl rfl
theorem zok203 : zokC zm203.1 zm203.2.1 0 zc203 = true := zokH_ok (hs := [12114, 12097, 12097, 14094, 12115, 14094, 14098, 14094, 14098, 14098, 14102, 14094, 14098]) (by decide +kernel)
theorem zoy203 : zokY zm203 = true := zokYh_ok (a := 8011) (b := 14092) (c := 6003) (by decide +kernel)
set_option maxRecDepth 20000 in
theorem zow203 : Cond.code zm203.1 zm203.2.1 zm203.2.2.1 zm203.2.2.2.1 ∈ zTw := zpw (p := 14) (i := 93) rfl rfl rfl
theorem zok204 : zokC zm204.1 zm204.2.1 0 zc204 = true := zokH_ok (hs := [12116]) (by decide +kernel)
theorem zoy204 : zokY zm204 = true := zokYh_ok (a := 8011) (b := 14033) (c := 5008) (by decide +kernel)
set_option maxRecDepth 20000 in
theorem zow204 : Cond.code zm204.1 zm204.2.1 zm204.2.2.1 zm204.2.2.2.1 ∈ zTw := zpw (p := 14) (i := 34) rfl rfl rfl
theorem zok205 : zokC zm205.1 zm205.2.1 0 zc205 = true := zokH_ok (hs := [12116]) (by decide +kernel)
theorem zoy205 : zokY zm205 = true := zokYh_ok (a := 8011) (b := 13205) (c := 4014) (by decide +kernel)
set_option maxRecDepth 20000 in
theorem zow205 : Cond.code zm205.1 zm205.2.1 zm205.2.2.1 zm205.2.2.2.1 ∈ zTw := zpw (p := 13) (i := 206) rfl rfl rfl
theorem zok206 : zokC zm206.1 zm206.2.1 0 zc206 = true := zokH_ok (hs := [12116]) (by decide +kernel)
theorem zoy206 : zokY zm206 = true := zokYh_ok (a := 8011) (b := 13159) (c := 4005) (by decide +kernel)
set_option maxRecDepth 20000 in
theorem zow206 : Cond.code zm206.1 zm206.2.1 zm206.2.2.1 zm206.2.2.2.1 ∈ zTw := zpw (p := 13) (i := 160) rfl rfl rfl
theorem zok207 : zokC zm207.1 zm207.2.1 0 zc207 = true := zokH_ok (hs := [12116]) (by decide +kernel)
theorem zoy207 : zokY zm207 = true := zokYh_ok (a := 8011) (b := 13184) (c := 4010) (by decide +kernel)
set_option maxRecDepth 20000 in
theorem zow207 : Cond.code zm207.1 zm207.2.1 zm207.2.2.1 zm207.2.2.2.1 ∈ zTw := zpw (p := 13) (i := 185) rfl rfl rfl
theorem zok208 : zokC zm208.1 zm208.2.1 0 zc208 = true := zokH_ok (hs := [12116]) (by decide +kernel)
theorem zoy208 : zokY zm208 = true := zokYh_ok (a := 8011) (b := 13164) (c := 4006) (by decide +kernel)
set_option maxRecDepth 20000 in
theorem zow208 : Cond.code zm208.1 zm208.2.1 zm208.2.2.1 zm208.2.2.2.1 ∈ zTw := zpw (p := 13) (i := 165) rfl rfl rfl
theorem zok209 : zokC zm209.1 zm209.2.1 0 zc209 = true := zokH_ok (hs := [12116]) (by decide +kernel)
theorem zoy209 : zokY zm209 = true := zokYh_ok (a := 8011) (b := 13189) (c := 4011) (by decide +kernel)
set_option maxRecDepth 20000 in
theorem zow209 : Cond.code zm209.1 zm209.2.1 zm209.2.2.1 zm209.2.2.2.1 ∈ zTw := zpw (p := 13) (i := 190) rfl rfl rfl
theorem zok210 : zokC zm210.1 zm210.2.1 0 zc210 = true := zokH_ok (hs := [12116]) (by decide +kernel)
theorem zoy210 : zokY zm210 = true := zokYh_ok (a := 8011) (b := 13213) (c := 5000) (by decide +kernel)
set_option maxRecDepth 20000 in
theorem zow210 : Cond.code zm210.1 zm210.2.1 zm210.2.2.1 zm210.2.2.2.1 ∈ zTw := zpw (p := 13) (i := 214) rfl rfl rfl
theorem zok211 : zokC zm211.1 zm211.2.1 0 zc211 = true := zokH_ok (hs := [12116]) (by decide +kernel)
theorem zoy211 : zokY zm211 = true := zokYh_ok (a := 8011) (b := 13209) (c := 4015) (by decide +kernel)
set_option maxRecDepth 20000 in
theorem zow211 : Cond.code zm211.1 zm211.2.1 zm211.2.2.1 zm211.2.2.2.1 ∈ zTw := zpw (p := 13) (i := 210) rfl rfl rfl
theorem zok212 : zokC zm212.1 zm212.2.1 0 zc212 = true := zokH_ok (hs := [13162, 13162]) (by decide +kernel)
theorem zoy212 : zokY zm212 = true := zokYh_ok (a := 8011) (b := 13172) (c := 4008) (by decide +kernel)
set_option maxRecDepth 20000 in
theorem zow212 : Cond.code zm212.1 zm212.2.1 zm212.2.2.1 zm212.2.2.2.1 ∈ zTw := zpw (p := 13) (i := 173) rfl rfl rfl
theorem zok213 : zokC zm213.1 zm213.2.1 0 zc213 = true := zokH_ok (hs := [13162, 12116, 13170]) (by decide +kernel)
theorem zoy213 : zokY zm213 = true := zokYh_ok (a := 8011) (b := 13176) (c := 4009) (by decide +kernel)
set_option maxRecDepth 20000 in
theorem zow213 : Cond.code zm213.1 zm213.2.1 zm213.2.2.1 zm213.2.2.2.1 ∈ zTw := zpw (p := 13) (i := 177) rfl rfl rfl
theorem zok214 : zokC zm214.1 zm214.2.1 0 zc214 = true := zokH_ok (hs := [13170, 13162, 13162, 13174]) (by decide +kernel)
theorem zoy214 : zokY zm214 = true := zokYh_ok (a := 8011) (b := 13168) (c := 4007) (by decide +kernel)
set_option maxRecDepth 20000 in
theorem zow214 : Cond.code zm214.1 zm214.2.1 zm214.2.2.1 zm214.2.2.2.1 ∈ zTw := zpw (p := 13) (i := 169) rfl rfl rfl
theorem zok215 : zokC zm215.1 zm215.2.1 0 zc215 = true := zokH_ok (hs := [12116]) (by decide +kernel)
theorem zoy215 : zokY zm215 = true := zokYh_ok (a := 8011) (b := 13197) (c := 4013) (by decide +kernel)
set_option maxRecDepth 20000 in
theorem zow215 : Cond.code zm215.1 zm215.2.1 zm215.2.2.1 zm215.2.2.2.1 ∈ zTw := zpw (p := 13) (i := 198) rfl rfl rfl
theorem zok216 : zokC zm216.1 zm216.2.1 0 zc216 = true := zokH_ok (hs := [13195, 12116, 13162, 13187, 13162, 13187, 13166, 13187]) (by decide +kernel)
theorem zoy216 : zokY zm216 = true := zokYh_ok (a := 8011) (b := 13193) (c := 4012) (by decide +kernel)
set_option maxRecDepth 20000 in
theorem zow216 : Cond.code zm216.1 zm216.2.1 zm216.2.2.1 zm216.2.2.2.1 ∈ zTw := zpw (p := 13) (i := 194) rfl rfl rfl
theorem zok217 : zokC zm217.1 zm217.2.1 0 zc217 = true := zokH_ok (hs := [13157, 13161, 13042, 13162, 13166, 13174]) (by decide +kernel)
theorem zoy217 : zokY zm217 = true := zokYh_ok (a := 8011) (b := 13154) (c := 13155) (by decide +kernel)
set_option maxRecDepth 20000 in
theorem zow217 : Cond.code zm217.1 zm217.2.1 zm217.2.2.1 zm217.2.2.2.1 ∈ zTw := zpw (p := 13) (i := 156) rfl rfl rfl
theorem zok218 : zokC zm218.1 zm218.2.1 0 zc218 = true := zokH_ok (hs := [13182, 13186, 13042, 13187, 12116, 13191]) (by decide +kernel)
theorem zoy218 : zokY zm218 = true := zokYh_ok (a := 8011) (b := 13179) (c := 13180) (by decide +kernel)
set_option maxRecDepth 20000 in
theorem zow218 : Cond.code zm218.1 zm218.2.1 zm218.2.2.1 zm218.2.2.2.1 ∈ zTw := zpw (p := 13) (i := 181) rfl rfl rfl
theorem zok219 : zokC zm219.1 zm219.2.1 0 zc219 = true := zokH_ok (hs := [13203, 13203, 13042, 13207, 13211]) (by decide +kernel)
theorem zoy219 : zokY zm219 = true := zokYh_ok (a := 8011) (b := 13200) (c := 13201) (by decide +kernel)
set_option maxRecDepth 20000 in
theorem zow219 : Cond.code zm219.1 zm219.2.1 zm219.2.2.1 zm219.2.2.2.1 ∈ zTw := zpw (p := 13) (i := 202) rfl rfl rfl
theorem zok220 : zokC zm220.1 zm220.2.1 0 zc220 = true := zokH_ok (hs := [12119, 12118, 12118, 12119, 12119, 12118, 12119, 12116, 12119, 12119]) (by decide +kernel)
theorem zoy220 : zokY zm220 = true := zokYh_ok (a := 8011) (b := 13229) (c := 5002) (by decide +kernel)
set_option maxRecDepth 20000 in
theorem zow220 : Cond.code zm220.1 zm220.2.1 zm220.2.2.1 zm220.2.2.2.1 ∈ zTw := zpw (p := 13) (i := 230) rfl rfl rfl
theorem zok221 : zokC zm221.1 zm221.2.1 0 zc221 = true := zokH_ok (hs := [12119, 12119, 12119, 12116, 12118, 12119, 12119]) (by decide +kernel)
theorem zoy221 : zokY zm221 = true := zokYh_ok (a := 8011) (b := 13216) (c := 13217) (by decide +kernel)
set_option maxRecDepth 20000 in
theorem zow221 : Cond.code zm221.1 zm221.2.1 zm221.2.2.1 zm221.2.2.2.1 ∈ zTw := zpw (p := 13) (i := 218) rfl rfl rfl
theorem zok222 : zokC zm222.1 zm222.2.1 0 zc222 = true := zokH_ok (hs := [13162, 13162, 13211]) (by decide +kernel)
theorem zoy222 : zokY zm222 = true := zokYh_ok (a := 8011) (b := 13225) (c := 5001) (by decide +kernel)
set_option maxRecDepth 20000 in
theorem zow222 : Cond.code zm222.1 zm222.2.1 zm222.2.2.1 zm222.2.2.2.1 ∈ zTw := zpw (p := 13) (i := 226) rfl rfl rfl
theorem zok223 : zokC zm223.1 zm223.2.1 0 zc223 = true := zokH_ok (hs := [13162, 12116, 12116, 12116, 12116]) (by decide +kernel)
theorem zoy223 : zokY zm223 = true := zokYh_ok (a := 8011) (b := 13233) (c := 5003) (by decide +kernel)
set_option maxRecDepth 20000 in
theorem zow223 : Cond.code zm223.1 zm223.2.1 zm223.2.2.1 zm223.2.2.2.1 ∈ zTw := zpw (p := 13) (i := 234) rfl rfl rfl
theorem zok224 : zokC zm224.1 zm224.2.1 0 zc224 = true := zokH_ok (hs := [12116, 13162, 12116, 12116]) (by decide +kernel)
theorem zoy224 : zokY zm224 = true := zokYh_ok (a := 8011) (b := 14001) (c := 5004) (by decide +kernel)
set_option maxRecDepth 20000 in
theorem zow224 : Cond.code zm224.1 zm224.2.1 zm224.2.2.1 zm224.2.2.2.1 ∈ zTw := zpw (p := 14) (i := 2) rfl rfl rfl
theorem zok225 : zokC zm225.1 zm225.2.1 0 zc225 = true := zokH_ok (hs := [12116, 12116, 12116, 13187, 13187]) (by decide +kernel)
theorem zoy225 : zokY zm225 = true := zokYh_ok (a := 8011) (b := 14009) (c := 5005) (by decide +kernel)
set_option maxRecDepth 20000 in
theorem zow225 : Cond.code zm225.1 zm225.2.1 zm225.2.2.1 zm225.2.2.2.1 ∈ zTw := zpw (p := 14) (i := 10) rfl rfl rfl
theorem zok226 : zokC zm226.1 zm226.2.1 0 zc226 = true := zokH_ok (hs := [13157, 13203, 13223, 13227, 13231, 13166]) (by decide +kernel)
theorem zoy226 : zokY zm226 = true := zokYh_ok (a := 8011) (b := 13220) (c := 13221) (by decide +kernel)
set_option maxRecDepth 20000 in
theorem zow226 : Cond.code zm226.1 zm226.2.1 zm226.2.2.1 zm226.2.2.2.1 ∈ zTw := zpw (p := 13) (i := 222) rfl rfl rfl
theorem zok227 : zokC zm227.1 zm227.2.1 0 zc227 = true := zokH_ok (hs := [13157, 13170, 13227, 13239, 13162]) (by decide +kernel)
theorem zoy227 : zokY zm227 = true := zokYh_ok (a := 8011) (b := 13236) (c := 13237) (by decide +kernel)
set_option maxRecDepth 20000 in
theorem zow227 : Cond.code zm227.1 zm227.2.1 zm227.2.2.1 zm227.2.2.2.1 ∈ zTw := zpw (p := 13) (i := 238) rfl rfl rfl
theorem zok228 : zokC zm228.1 zm228.2.1 0 zc228 = true := zokH_ok (hs := [13182, 13191, 13227, 14007]) (by decide +kernel)
theorem zoy228 : zokY zm228 = true := zokYh_ok (a := 8011) (b := 14004) (c := 14005) (by decide +kernel)
set_option maxRecDepth 20000 in
theorem zow228 : Cond.code zm228.1 zm228.2.1 zm228.2.2.1 zm228.2.2.2.1 ∈ zTw := zpw (p := 14) (i := 6) rfl rfl rfl
theorem zok229 : zokC zm229.1 zm229.2.1 0 zc229 = true := zokH_ok (hs := [12116, 12116]) (by decide +kernel)
theorem zoy229 : zokY zm229 = true := zokYh_ok (a := 8011) (b := 14017) (c := 5006) (by decide +kernel)
set_option maxRecDepth 20000 in
theorem zow229 : Cond.code zm229.1 zm229.2.1 zm229.2.2.1 zm229.2.2.2.1 ∈ zTw := zpw (p := 14) (i := 18) rfl rfl rfl
theorem zok230 : zokC zm230.1 zm230.2.1 0 zc230 = true := zokH_ok (hs := [13203, 13203, 13211, 13211, 13227, 14015]) (by decide +kernel)
theorem zoy230 : zokY zm230 = true := zokYh_ok (a := 8011) (b := 14012) (c := 14013) (by decide +kernel)
set_option maxRecDepth 20000 in
theorem zow230 : Cond.code zm230.1 zm230.2.1 zm230.2.2.1 zm230.2.2.2.1 ∈ zTw := zpw (p := 14) (i := 14) rfl rfl rfl
theorem zok231 : zokC zm231.1 zm231.2.1 0 zc231 = true := zokH_ok (hs := [12116, 13239]) (by decide +kernel)
theorem zoy231 : zokY zm231 = true := zokYh_ok (a := 8011) (b := 14025) (c := 5007) (by decide +kernel)
set_option maxRecDepth 20000 in
theorem zow231 : Cond.code zm231.1 zm231.2.1 zm231.2.2.1 zm231.2.2.2.1 ∈ zTw := zpw (p := 14) (i := 26) rfl rfl rfl
theorem zok232 : zokC zm232.1 zm232.2.1 0 zc232 = true := zokH_ok (hs := [13157, 13203, 13162, 13227, 13162, 14023]) (by decide +kernel)
theorem zoy232 : zokY zm232 = true := zokYh_ok (a := 8011) (b := 14020) (c := 14021) (by decide +kernel)
set_option maxRecDepth 20000 in
theorem zow232 : Cond.code zm232.1 zm232.2.1 zm232.2.2.1 zm232.2.2.2.1 ∈ zTw := zpw (p := 14) (i := 22) rfl rfl rfl
theorem zok233 : zokC zm233.1 zm233.2.1 0 zc233 = true := zokH_ok (hs := [12116, 13170, 12116, 13162, 12116, 12116]) (by decide +kernel)
theorem zoy233 : zokY zm233 = true := zokYh_ok (a := 8011) (b := 14037) (c := 5009) (by decide +kernel)
set_option maxRecDepth 20000 in
theorem zow233 : Cond.code zm233.1 zm233.2.1 zm233.2.2.1 zm233.2.2.2.1 ∈ zTw := zpw (p := 14) (i := 38) rfl rfl rfl
theorem zok234 : zokC zm234.1 zm234.2.1 0 zc234 = true := zokH_ok (hs := [14031, 12116, 13227, 14035]) (by decide +kernel)
theorem zoy234 : zokY zm234 = true := zokYh_ok (a := 8011) (b := 14028) (c := 14029) (by decide +kernel)
set_option maxRecDepth 20000 in
theorem zow234 : Cond.code zm234.1 zm234.2.1 zm234.2.2.1 zm234.2.2.2.1 ∈ zTw := zpw (p := 14) (i := 30) rfl rfl rfl
theorem zok235 : zokC zm235.1 zm235.2.1 0 zc235 = true := zokH_ok (hs := []) (by decide +kernel)
theorem zoy235 : zokY zm235 = true := zokYh_ok (a := 8011) (b := 14048) (c := 0) (by decide +kernel)
set_option maxRecDepth 20000 in
theorem zow235 : Cond.code zm235.1 zm235.2.1 zm235.2.2.1 zm235.2.2.2.1 ∈ zTw := zpw (p := 14) (i := 49) rfl rfl rfl
theorem zok236 : zokC zm236.1 zm236.2.1 0 zc236 = true := zokH_ok (hs := [12116, 14047, 12116]) (by decide +kernel)
theorem zoy236 : zokY zm236 = true := zokYh_ok (a := 8011) (b := 14060) (c := 5013) (by decide +kernel)
set_option maxRecDepth 20000 in
theorem zow236 : Cond.code zm236.1 zm236.2.1 zm236.2.2.1 zm236.2.2.2.1 ∈ zTw := zpw (p := 14) (i := 61) rfl rfl rfl
theorem zok237 : zokC zm237.1 zm237.2.1 0 zc237 = true := zokH_ok (hs := [14058, 14062]) (by decide +kernel)
theorem zoy237 : zokY zm237 = true := zokYh_ok (a := 8011) (b := 14056) (c := 5012) (by decide +kernel)
set_option maxRecDepth 20000 in
theorem zow237 : Cond.code zm237.1 zm237.2.1 zm237.2.2.1 zm237.2.2.2.1 ∈ zTw := zpw (p := 14) (i := 57) rfl rfl rfl
theorem zok238 : zokC zm238.1 zm238.2.1 0 zc238 = true := zokH_ok (hs := [14058]) (by decide +kernel)
theorem zoy238 : zokY zm238 = true := zokYh_ok (a := 8011) (b := 14128) (c := 6010) (by decide +kernel)
set_option maxRecDepth 20000 in
theorem zow238 : Cond.code zm238.1 zm238.2.1 zm238.2.2.1 zm238.2.2.2.1 ∈ zTw := zpw (p := 14) (i := 129) rfl rfl rfl
theorem zok239 : zokC zm239.1 zm239.2.1 0 zc239 = true := zokH_ok (hs := [14058, 13211]) (by decide +kernel)
theorem zoy239 : zokY zm239 = true := zokYh_ok (a := 8011) (b := 14132) (c := 6011) (by decide +kernel)
set_option maxRecDepth 20000 in
theorem zow239 : Cond.code zm239.1 zm239.2.1 zm239.2.2.1 zm239.2.2.2.1 ∈ zTw := zpw (p := 14) (i := 133) rfl rfl rfl
theorem zok240 : zokC zm240.1 zm240.2.1 0 zc240 = true := zokH_ok (hs := [14054, 14058, 14058, 14058, 13207]) (by decide +kernel)
theorem zoy240 : zokY zm240 = true := zokYh_ok (a := 8011) (b := 14052) (c := 5011) (by decide +kernel)
set_option maxRecDepth 20000 in
theorem zow240 : Cond.code zm240.1 zm240.2.1 zm240.2.2.1 zm240.2.2.2.1 ∈ zTw := zpw (p := 14) (i := 53) rfl rfl rfl
theorem zok241 : zokC zm241.1 zm241.2.1 0 zc241 = true := zokH_ok (hs := [12116, 12116, 14047, 14050, 12120]) (by decide +kernel)
theorem zoy241 : zokY zm241 = true := zokYh_ok (a := 8011) (b := 14045) (c := 5010) (by decide +kernel)
set_option maxRecDepth 20000 in
theorem zow241 : Cond.code zm241.1 zm241.2.1 zm241.2.2.1 zm241.2.2.2.1 ∈ zTw := zpw (p := 14) (i := 46) rfl rfl rfl
theorem zok242 : zokC zm242.1 zm242.2.1 0 zc242 = true := zokH_ok (hs := [14031, 14043, 13227, 12116, 12120, 14058, 12120, 14058]) (by decide +kernel)
theorem zoy242 : zokY zm242 = true := zokYh_ok (a := 8011) (b := 14040) (c := 14041) (by decide +kernel)
set_option maxRecDepth 20000 in
theorem zow242 : Cond.code zm242.1 zm242.2.1 zm242.2.2.1 zm242.2.2.2.1 ∈ zTw := zpw (p := 14) (i := 42) rfl rfl rfl
theorem zok243 : zokC zm243.1 zm243.2.1 0 zc243 = true := zokH_ok (hs := [13162, 12116, 13195, 13187, 13187, 13162, 13187, 13187, 13187, 12115, 12115, 13162, 12115, 13162, 12115, 12115, 12115, 13162, 12115, 13166, 12115, 13162, 12115, 12116, 12115, 12115, 12115, 13207, 12115, 13211]) (by decide +kernel)
theorem zoy243 : zokY zm243 = true := zokYh_ok (a := 8011) (b := 14084) (c := 6001) (by decide +kernel)
set_option maxRecDepth 20000 in
theorem zow243 : Cond.code zm243.1 zm243.2.1 zm243.2.2.1 zm243.2.2.2.1 ∈ zTw := zpw (p := 14) (i := 85) rfl rfl rfl
theorem zok244 : zokC zm244.1 zm244.2.1 0 zc244 = true := zokH_ok (hs := [12100, 12099, 12099, 12099, 14090, 12099, 12099, 14090]) (by decide +kernel)
theorem zoy244 : zokY zm244 = true := zokYh_ok (a := 8011) (b := 14088) (c := 6002) (by decide +kernel)
set_option maxRecDepth 20000 in
theorem zow244 : Cond.code zm244.1 zm244.2.1 zm244.2.2.1 zm244.2.2.2.1 ∈ zTw := zpw (p := 14) (i := 89) rfl rfl rfl
