theorem zok196 : zokC zm196.1 zm196.2.1 0 zc196 = true := zokH_ok (hs := [1179, 1186, 1189, 1183, 1184, 1187, 1313, 1317, 1183, 1183, 1313, 1317, 1183, 1339, 1176, 1184]) (by decide +kernel)
theorem zoy196 : zokY zm196 = true := by decide +kernel
set_option maxRecDepth 20000 in
theorem zow196 : Cond.code zm196.1 zm196.2.1 zm196.2.2.1 zm196.2.2.2.1 ∈ zTw := List.mem_filter.mpr ⟨List.mem_of_getElem? (i := 1312) rfl, rfl⟩
theorem zok197 : zokC zm197.1 zm197.2.1 0 zc197 = true := zokH_ok (hs := [1177, 1177, 1186, 1181, 1186, 1309, 1184, 1177, 1177, 1177]) (by decide +kernel)
theorem zoy197 : zokY zm197 = true := by decide +kernel
set_option maxRecDepth 20000 in
theorem zow197 : Cond.code zm197.1 zm197.2.1 zm197.2.2.1 zm197.2.2.2.1 ∈ zTw := List.mem_filter.mpr ⟨List.mem_of_getElem? (i := 1308) rfl, rfl⟩
theorem zok198 : zokC zm198.1 zm198.2.1 0 zc198 = true := zokH_ok (hs := [1186, 1182, 1309, 1184, 1197, 1182, 1197, 1200, 1197]) (by decide +kernel)
theorem zoy198 : zokY zm198 = true := by decide +kernel
set_option maxRecDepth 20000 in
theorem zow198 : Cond.code zm198.1 zm198.2.1 zm198.2.2.1 zm198.2.2.2.1 ∈ zTw := List.mem_filter.mpr ⟨List.mem_of_getElem? (i := 1473) rfl, rfl⟩
theorem zok199 : zokC zm199.1 zm199.2.1 0 zc199 = true := zokH_ok (hs := [1177]) (by decide +kernel)
theorem zoy199 : zokY zm199 = true := by decide +kernel
set_option maxRecDepth 20000 in
theorem zow199 : Cond.code zm199.1 zm199.2.1 zm199.2.2.1 zm199.2.2.2.1 ∈ zTw := List.mem_filter.mpr ⟨List.mem_of_getElem? (i := 1633) rfl, rfl⟩
theorem zok200 : zokC zm200.1 zm200.2.1 0 zc200 = true := zokH_ok (hs := [1194, 1195, 1195, 1195]) (by decide +kernel)
theorem zoy200 : zokY zm200 = true := by decide +kernel
set_option maxRecDepth 20000 in
theorem zow200 : Cond.code zm200.1 zm200.2.1 zm200.2.2.1 zm200.2.2.2.1 ∈ zTw := List.mem_filter.mpr ⟨List.mem_of_getElem? (i := 1658) rfl, rfl⟩
theorem zok201 : zokC zm201.1 zm201.2.1 0 zc201 = true := zokH_ok (hs := [1195, 1195, 1194, 1195]) (by decide +kernel)
theorem zoy201 : zokY zm201 = true := by decide +kernel
set_option maxRecDepth 20000 in
theorem zow201 : Cond.code zm201.1 zm201.2.1 zm201.2.2.1 zm201.2.2.2.1 ∈ zTw := List.mem_filter.mpr ⟨List.mem_of_getElem? (i := 1662) rfl, rfl⟩
theorem zok202 : zokC zm202.1 zm202.2.1 0 zc202 = true := zokH_ok (hs := []) (by decide +kernel)
theorem zoy202 : zokY zm202 = true := by decide +kernel
set_option maxRecDepth 20000 in
theorem zow202 : Cond.code zm202.1 zm202.2.1 zm202.2.2.1 zm202.2.2.2.1 ∈ zTw := List.mem_filter.mpr ⟨List.mem_of_getElem? (i := 1665) rfl, rfl⟩
theorem zok203 : zokC zm203.1 zm203.2.1 0 zc203 = true := zokH_ok (hs := [1195, 1178, 1178, 1655, 1196, 1655, 1659, 1655, 1659, 1659, 1663, 1655, 1659]) (by decide +kernel)
theorem zoy203 : zokY zm203 = true := by decide +kernel
set_option maxRecDepth 20000 in
theorem zow203 : Cond.code zm203.1 zm203.2.1 zm203.2.2.1 zm203.2.2.2.1 ∈ zTw := List.mem_filter.mpr ⟨List.mem_of_getElem? (i := 1654) rfl, rfl⟩
theorem zok204 : zokC zm204.1 zm204.2.1 0 zc204 = true := zokH_ok (hs := [1197]) (by decide +kernel)
theorem zoy204 : zokY zm204 = true := by decide +kernel
set_option maxRecDepth 20000 in
theorem zow204 : Cond.code zm204.1 zm204.2.1 zm204.2.2.1 zm204.2.2.2.1 ∈ zTw := List.mem_filter.mpr ⟨List.mem_of_getElem? (i := 1595) rfl, rfl⟩
theorem zok205 : zokC zm205.1 zm205.2.1 0 zc205 = true := zokH_ok (hs := [1197]) (by decide +kernel)
theorem zoy205 : zokY zm205 = true := by decide +kernel
set_option maxRecDepth 20000 in
theorem zow205 : Cond.code zm205.1 zm205.2.1 zm205.2.2.1 zm205.2.2.2.1 ∈ zTw := List.mem_filter.mpr ⟨List.mem_of_getElem? (i := 1527) rfl, rfl⟩
theorem zok206 : zokC zm206.1 zm206.2.1 0 zc206 = true := zokH_ok (hs := [1197]) (by decide +kernel)
theorem zoy206 : zokY zm206 = true := by decide +kernel
set_option maxRecDepth 20000 in
theorem zow206 : Cond.code zm206.1 zm206.2.1 zm206.2.2.1 zm206.2.2.2.1 ∈ zTw := List.mem_filter.mpr ⟨List.mem_of_getElem? (i := 1481) rfl, rfl⟩
theorem zok207 : zokC zm207.1 zm207.2.1 0 zc207 = true := zokH_ok (hs := [1197]) (by decide +kernel)
theorem zoy207 : zokY zm207 = true := by decide +kernel
set_option maxRecDepth 20000 in
theorem zow207 : Cond.code zm207.1 zm207.2.1 zm207.2.2.1 zm207.2.2.2.1 ∈ zTw := List.mem_filter.mpr ⟨List.mem_of_getElem? (i := 1506) rfl, rfl⟩
theorem zok208 : zokC zm208.1 zm208.2.1 0 zc208 = true := zokH_ok (hs := [1197]) (by decide +kernel)
theorem zoy208 : zokY zm208 = true := by decide +kernel
set_option maxRecDepth 20000 in
theorem zow208 : Cond.code zm208.1 zm208.2.1 zm208.2.2.1 zm208.2.2.2.1 ∈ zTw := List.mem_filter.mpr ⟨List.mem_of_getElem? (i := 1486) rfl, rfl⟩
theorem zok209 : zokC zm209.1 zm209.2.1 0 zc209 = true := zokH_ok (hs := [1197]) (by decide +kernel)
theorem zoy209 : zokY zm209 = true := by decide +kernel
set_option maxRecDepth 20000 in
theorem zow209 : Cond.code zm209.1 zm209.2.1 zm209.2.2.1 zm209.2.2.2.1 ∈ zTw := List.mem_filter.mpr ⟨List.mem_of_getElem? (i := 1511) rfl, rfl⟩
theorem zok210 : zokC zm210.1 zm210.2.1 0 zc210 = true := zokH_ok (hs := [1197]) (by decide +kernel)
theorem zoy210 : zokY zm210 = true := by decide +kernel
set_option maxRecDepth 20000 in
theorem zow210 : Cond.code zm210.1 zm210.2.1 zm210.2.2.1 zm210.2.2.2.1 ∈ zTw := List.mem_filter.mpr ⟨List.mem_of_getElem? (i := 1535) rfl, rfl⟩
theorem zok211 : zokC zm211.1 zm211.2.1 0 zc211 = true := zokH_ok (hs := [1197]) (by decide +kernel)
theorem zoy211 : zokY zm211 = true := by decide +kernel
set_option maxRecDepth 20000 in
theorem zow211 : Cond.code zm211.1 zm211.2.1 zm211.2.2.1 zm211.2.2.2.1 ∈ zTw := List.mem_filter.mpr ⟨List.mem_of_getElem? (i := 1531) rfl, rfl⟩
theorem zok212 : zokC zm212.1 zm212.2.1 0 zc212 = true := zokH_ok (hs := [1483, 1483]) (by decide +kernel)
theorem zoy212 : zokY zm212 = true := by decide +kernel
set_option maxRecDepth 20000 in
theorem zow212 : Cond.code zm212.1 zm212.2.1 zm212.2.2.1 zm212.2.2.2.1 ∈ zTw := List.mem_filter.mpr ⟨List.mem_of_getElem? (i := 1494) rfl, rfl⟩
theorem zok213 : zokC zm213.1 zm213.2.1 0 zc213 = true := zokH_ok (hs := [1483, 1197, 1491]) (by decide +kernel)
theorem zoy213 : zokY zm213 = true := by decide +kernel
set_option maxRecDepth 20000 in
theorem zow213 : Cond.code zm213.1 zm213.2.1 zm213.2.2.1 zm213.2.2.2.1 ∈ zTw := List.mem_filter.mpr ⟨List.mem_of_getElem? (i := 1498) rfl, rfl⟩
theorem zok214 : zokC zm214.1 zm214.2.1 0 zc214 = true := zokH_ok (hs := [1491, 1483, 1483, 1495]) (by decide +kernel)
theorem zoy214 : zokY zm214 = true := by decide +kernel
set_option maxRecDepth 20000 in
theorem zow214 : Cond.code zm214.1 zm214.2.1 zm214.2.2.1 zm214.2.2.2.1 ∈ zTw := List.mem_filter.mpr ⟨List.mem_of_getElem? (i := 1490) rfl, rfl⟩
theorem zok215 : zokC zm215.1 zm215.2.1 0 zc215 = true := zokH_ok (hs := [1197]) (by decide +kernel)
theorem zoy215 : zokY zm215 = true := by decide +kernel
set_option maxRecDepth 20000 in
theorem zow215 : Cond.code zm215.1 zm215.2.1 zm215.2.2.1 zm215.2.2.2.1 ∈ zTw := List.mem_filter.mpr ⟨List.mem_of_getElem? (i := 1519) rfl, rfl⟩
theorem zok216 : zokC zm216.1 zm216.2.1 0 zc216 = true := zokH_ok (hs := [1516, 1197, 1483, 1508, 1483, 1508, 1487, 1508]) (by decide +kernel)
theorem zoy216 : zokY zm216 = true := by decide +kernel
set_option maxRecDepth 20000 in
theorem zow216 : Cond.code zm216.1 zm216.2.1 zm216.2.2.1 zm216.2.2.2.1 ∈ zTw := List.mem_filter.mpr ⟨List.mem_of_getElem? (i := 1515) rfl, rfl⟩
theorem zok217 : zokC zm217.1 zm217.2.1 0 zc217 = true := zokH_ok (hs := [1478, 1482, 1363, 1483, 1487, 1495]) (by decide +kernel)
theorem zoy217 : zokY zm217 = true := by decide +kernel
set_option maxRecDepth 20000 in
theorem zow217 : Cond.code zm217.1 zm217.2.1 zm217.2.2.1 zm217.2.2.2.1 ∈ zTw := List.mem_filter.mpr ⟨List.mem_of_getElem? (i := 1477) rfl, rfl⟩
theorem zok218 : zokC zm218.1 zm218.2.1 0 zc218 = true := zokH_ok (hs := [1503, 1507, 1363, 1508, 1197, 1512]) (by decide +kernel)
theorem zoy218 : zokY zm218 = true := by decide +kernel
set_option maxRecDepth 20000 in
theorem zow218 : Cond.code zm218.1 zm218.2.1 zm218.2.2.1 zm218.2.2.2.1 ∈ zTw := List.mem_filter.mpr ⟨List.mem_of_getElem? (i := 1502) rfl, rfl⟩
theorem zok219 : zokC zm219.1 zm219.2.1 0 zc219 = true := zokH_ok (hs := [1524, 1524, 1363, 1528, 1532]) (by decide +kernel)
theorem zoy219 : zokY zm219 = true := by decide +kernel
set_option maxRecDepth 20000 in
theorem zow219 : Cond.code zm219.1 zm219.2.1 zm219.2.2.1 zm219.2.2.2.1 ∈ zTw := List.mem_filter.mpr ⟨List.mem_of_getElem? (i := 1523) rfl, rfl⟩
theorem zok220 : zokC zm220.1 zm220.2.1 0 zc220 = true := zokH_ok (hs := [1200, 1199, 1199, 1200, 1200, 1199, 1200, 1197, 1200, 1200]) (by decide +kernel)
theorem zoy220 : zokY zm220 = true := by decide +kernel
set_option maxRecDepth 20000 in
theorem zow220 : Cond.code zm220.1 zm220.2.1 zm220.2.2.1 zm220.2.2.2.1 ∈ zTw := List.mem_filter.mpr ⟨List.mem_of_getElem? (i := 1551) rfl, rfl⟩
theorem zok221 : zokC zm221.1 zm221.2.1 0 zc221 = true := zokH_ok (hs := [1200, 1200, 1200, 1197, 1199, 1200, 1200]) (by decide +kernel)
theorem zoy221 : zokY zm221 = true := by decide +kernel
set_option maxRecDepth 20000 in
theorem zow221 : Cond.code zm221.1 zm221.2.1 zm221.2.2.1 zm221.2.2.2.1 ∈ zTw := List.mem_filter.mpr ⟨List.mem_of_getElem? (i := 1539) rfl, rfl⟩
theorem zok222 : zokC zm222.1 zm222.2.1 0 zc222 = true := zokH_ok (hs := [1483, 1483, 1532]) (by decide +kernel)
theorem zoy222 : zokY zm222 = true := by decide +kernel
set_option maxRecDepth 20000 in
theorem zow222 : Cond.code zm222.1 zm222.2.1 zm222.2.2.1 zm222.2.2.2.1 ∈ zTw := List.mem_filter.mpr ⟨List.mem_of_getElem? (i := 1547) rfl, rfl⟩
theorem zok223 : zokC zm223.1 zm223.2.1 0 zc223 = true := zokH_ok (hs := [1483, 1197, 1197, 1197, 1197]) (by decide +kernel)
theorem zoy223 : zokY zm223 = true := by decide +kernel
set_option maxRecDepth 20000 in
theorem zow223 : Cond.code zm223.1 zm223.2.1 zm223.2.2.1 zm223.2.2.2.1 ∈ zTw := List.mem_filter.mpr ⟨List.mem_of_getElem? (i := 1555) rfl, rfl⟩
theorem zok224 : zokC zm224.1 zm224.2.1 0 zc224 = true := zokH_ok (hs := [1197, 1483, 1197, 1197]) (by decide +kernel)
theorem zoy224 : zokY zm224 = true := by decide +kernel
set_option maxRecDepth 20000 in
theorem zow224 : Cond.code zm224.1 zm224.2.1 zm224.2.2.1 zm224.2.2.2.1 ∈ zTw := List.mem_filter.mpr ⟨List.mem_of_getElem? (i := 1563) rfl, rfl⟩
theorem zok225 : zokC zm225.1 zm225.2.1 0 zc225 = true := zokH_ok (hs := [1197, 1197, 1197, 1508, 1508]) (by decide +kernel)
theorem zoy225 : zokY zm225 = true := by decide +kernel
set_option maxRecDepth 20000 in
theorem zow225 : Cond.code zm225.1 zm225.2.1 zm225.2.2.1 zm225.2.2.2.1 ∈ zTw := List.mem_filter.mpr ⟨List.mem_of_getElem? (i := 1571) rfl, rfl⟩
theorem zok226 : zokC zm226.1 zm226.2.1 0 zc226 = true := zokH_ok (hs := [1478, 1524, 1544, 1548, 1552, 1487]) (by decide +kernel)
theorem zoy226 : zokY zm226 = true := by decide +kernel
set_option maxRecDepth 20000 in
theorem zow226 : Cond.code zm226.1 zm226.2.1 zm226.2.2.1 zm226.2.2.2.1 ∈ zTw := List.mem_filter.mpr ⟨List.mem_of_getElem? (i := 1543) rfl, rfl⟩
theorem zok227 : zokC zm227.1 zm227.2.1 0 zc227 = true := zokH_ok (hs := [1478, 1491, 1548, 1560, 1483]) (by decide +kernel)
theorem zoy227 : zokY zm227 = true := by decide +kernel
set_option maxRecDepth 20000 in
theorem zow227 : Cond.code zm227.1 zm227.2.1 zm227.2.2.1 zm227.2.2.2.1 ∈ zTw := List.mem_filter.mpr ⟨List.mem_of_getElem? (i := 1559) rfl, rfl⟩
theorem zok228 : zokC zm228.1 zm228.2.1 0 zc228 = true := zokH_ok (hs := [1503, 1512, 1548, 1568]) (by decide +kernel)
theorem zoy228 : zokY zm228 = true := by decide +kernel
set_option maxRecDepth 20000 in
theorem zow228 : Cond.code zm228.1 zm228.2.1 zm228.2.2.1 zm228.2.2.2.1 ∈ zTw := List.mem_filter.mpr ⟨List.mem_of_getElem? (i := 1567) rfl, rfl⟩
theorem zok229 : zokC zm229.1 zm229.2.1 0 zc229 = true := zokH_ok (hs := [1197, 1197]) (by decide +kernel)
theorem zoy229 : zokY zm229 = true := by decide +kernel
set_option maxRecDepth 20000 in
theorem zow229 : Cond.code zm229.1 zm229.2.1 zm229.2.2.1 zm229.2.2.2.1 ∈ zTw := List.mem_filter.mpr ⟨List.mem_of_getElem? (i := 1579) rfl, rfl⟩
theorem zok230 : zokC zm230.1 zm230.2.1 0 zc230 = true := zokH_ok (hs := [1524, 1524, 1532, 1532, 1548, 1576]) (by decide +kernel)
theorem zoy230 : zokY zm230 = true := by decide +kernel
set_option maxRecDepth 20000 in
theorem zow230 : Cond.code zm230.1 zm230.2.1 zm230.2.2.1 zm230.2.2.2.1 ∈ zTw := List.mem_filter.mpr ⟨List.mem_of_getElem? (i := 1575) rfl, rfl⟩
theorem zok231 : zokC zm231.1 zm231.2.1 0 zc231 = true := zokH_ok (hs := [1197, 1560]) (by decide +kernel)
theorem zoy231 : zokY zm231 = true := by decide +kernel
set_option maxRecDepth 20000 in
theorem zow231 : Cond.code zm231.1 zm231.2.1 zm231.2.2.1 zm231.2.2.2.1 ∈ zTw := List.mem_filter.mpr ⟨List.mem_of_getElem? (i := 1587) rfl, rfl⟩
theorem zok232 : zokC zm232.1 zm232.2.1 0 zc232 = true := zokH_ok (hs := [1478, 1524, 1483, 1548, 1483, 1584]) (by decide +kernel)
theorem zoy232 : zokY zm232 = true := by decide +kernel
set_option maxRecDepth 20000 in
theorem zow232 : Cond.code zm232.1 zm232.2.1 zm232.2.2.1 zm232.2.2.2.1 ∈ zTw := List.mem_filter.mpr ⟨List.mem_of_getElem? (i := 1583) rfl, rfl⟩
theorem zok233 : zokC zm233.1 zm233.2.1 0 zc233 = true := zokH_ok (hs := [1197, 1491, 1197, 1483, 1197, 1197]) (by decide +kernel)
theorem zoy233 : zokY zm233 = true := by decide +kernel
set_option maxRecDepth 20000 in
theorem zow233 : Cond.code zm233.1 zm233.2.1 zm233.2.2.1 zm233.2.2.2.1 ∈ zTw := List.mem_filter.mpr ⟨List.mem_of_getElem? (i := 1599) rfl, rfl⟩
theorem zok234 : zokC zm234.1 zm234.2.1 0 zc234 = true := zokH_ok (hs := [1592, 1197, 1548, 1596]) (by decide +kernel)
theorem zoy234 : zokY zm234 = true := by decide +kernel
set_option maxRecDepth 20000 in
theorem zow234 : Cond.code zm234.1 zm234.2.1 zm234.2.2.1 zm234.2.2.2.1 ∈ zTw := List.mem_filter.mpr ⟨List.mem_of_getElem? (i := 1591) rfl, rfl⟩
theorem zok235 : zokC zm235.1 zm235.2.1 0 zc235 = true := zokH_ok (hs := []) (by decide +kernel)
theorem zoy235 : zokY zm235 = true := by decide +kernel
set_option maxRecDepth 20000 in
theorem zow235 : Cond.code zm235.1 zm235.2.1 zm235.2.2.1 zm235.2.2.2.1 ∈ zTw := List.mem_filter.mpr ⟨List.mem_of_getElem? (i := 1610) rfl, rfl⟩
theorem zok236 : zokC zm236.1 zm236.2.1 0 zc236 = true := zokH_ok (hs := [1197, 1608, 1197]) (by decide +kernel)
theorem zoy236 : zokY zm236 = true := by decide +kernel
set_option maxRecDepth 20000 in
theorem zow236 : Cond.code zm236.1 zm236.2.1 zm236.2.2.1 zm236.2.2.2.1 ∈ zTw := List.mem_filter.mpr ⟨List.mem_of_getElem? (i := 1622) rfl, rfl⟩
theorem zok237 : zokC zm237.1 zm237.2.1 0 zc237 = true := zokH_ok (hs := [1619, 1623]) (by decide +kernel)
theorem zoy237 : zokY zm237 = true := by decide +kernel
set_option maxRecDepth 20000 in
theorem zow237 : Cond.code zm237.1 zm237.2.1 zm237.2.2.1 zm237.2.2.2.1 ∈ zTw := List.mem_filter.mpr ⟨List.mem_of_getElem? (i := 1618) rfl, rfl⟩
theorem zok238 : zokC zm238.1 zm238.2.1 0 zc238 = true := zokH_ok (hs := [1619]) (by decide +kernel)
theorem zoy238 : zokY zm238 = true := by decide +kernel
set_option maxRecDepth 20000 in
theorem zow238 : Cond.code zm238.1 zm238.2.1 zm238.2.2.1 zm238.2.2.2.1 ∈ zTw := List.mem_filter.mpr ⟨List.mem_of_getElem? (i := 1690) rfl, rfl⟩
theorem zok239 : zokC zm239.1 zm239.2.1 0 zc239 = true := zokH_ok (hs := [1619, 1532]) (by decide +kernel)
theorem zoy239 : zokY zm239 = true := by decide +kernel
set_option maxRecDepth 20000 in
theorem zow239 : Cond.code zm239.1 zm239.2.1 zm239.2.2.1 zm239.2.2.2.1 ∈ zTw := List.mem_filter.mpr ⟨List.mem_of_getElem? (i := 1694) rfl, rfl⟩
theorem zok240 : zokC zm240.1 zm240.2.1 0 zc240 = true := zokH_ok (hs := [1615, 1619, 1619, 1619, 1528]) (by decide +kernel)
theorem zoy240 : zokY zm240 = true := by decide +kernel
set_option maxRecDepth 20000 in
theorem zow240 : Cond.code zm240.1 zm240.2.1 zm240.2.2.1 zm240.2.2.2.1 ∈ zTw := List.mem_filter.mpr ⟨List.mem_of_getElem? (i := 1614) rfl, rfl⟩
theorem zok241 : zokC zm241.1 zm241.2.1 0 zc241 = true := zokH_ok (hs := [1197, 1197, 1608, 1611, 1201]) (by decide +kernel)
theorem zoy241 : zokY zm241 = true := by decide +kernel
set_option maxRecDepth 20000 in
theorem zow241 : Cond.code zm241.1 zm241.2.1 zm241.2.2.1 zm241.2.2.2.1 ∈ zTw := List.mem_filter.mpr ⟨List.mem_of_getElem? (i := 1607) rfl, rfl⟩
theorem zok242 : zokC zm242.1 zm242.2.1 0 zc242 = true := zokH_ok (hs := [1592, 1604, 1548, 1197, 1201, 1619, 1201, 1619]) (by decide +kernel)
theorem zoy242 : zokY zm242 = true := by decide +kernel
set_option maxRecDepth 20000 in
theorem zow242 : Cond.code zm242.1 zm242.2.1 zm242.2.2.1 zm242.2.2.2.1 ∈ zTw := List.mem_filter.mpr ⟨List.mem_of_getElem? (i := 1603) rfl, rfl⟩
theorem zok243 : zokC zm243.1 zm243.2.1 0 zc243 = true := zokH_ok (hs := [1483, 1197, 1516, 1508, 1508, 1483, 1508, 1508, 1508, 1196, 1196, 1483, 1196, 1483, 1196, 1196, 1196, 1483, 1196, 1487, 1196, 1483, 1196, 1197, 1196, 1196, 1196, 1528, 1196, 1532]) (by decide +kernel)
theorem zoy243 : zokY zm243 = true := by decide +kernel
set_option maxRecDepth 20000 in
theorem zow243 : Cond.code zm243.1 zm243.2.1 zm243.2.2.1 zm243.2.2.2.1 ∈ zTw := List.mem_filter.mpr ⟨List.mem_of_getElem? (i := 1646) rfl, rfl⟩
theorem zok244 : zokC zm244.1 zm244.2.1 0 zc244 = true := zokH_ok (hs := [1181, 1180, 1180, 1180, 1651, 1180, 1180, 1651]) (by decide +kernel)
theorem zoy244 : zokY zm244 = true := by decide +kernel
set_option maxRecDepth 20000 in
theorem zow244 : Cond.code zm244.1 zm244.2.1 zm244.2.2.1 zm244.2.2.2.1 ∈ zTw := List.mem_filter.mpr ⟨List.mem_of_getElem? (i := 1650) rfl, rfl⟩
