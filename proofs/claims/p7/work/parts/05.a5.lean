theorem zok245 : zokC zm245.1 zm245.2.1 0 zc245 = true := zokH_ok (hs := [1197, 1544, 1643, 1647]) (by decide +kernel)
theorem zoy245 : zokY zm245 = true := by decide +kernel
set_option maxRecDepth 20000 in
theorem zow245 : Cond.code zm245.1 zm245.2.1 zm245.2.2.1 zm245.2.2.2.1 ∈ zTw := List.mem_filter.mpr ⟨List.mem_of_getElem? (i := 1642) rfl, rfl⟩
theorem zok246 : zokC zm246.1 zm246.2.1 0 zc246 = true := zokH_ok (hs := [1197, 1512, 1568]) (by decide +kernel)
theorem zoy246 : zokY zm246 = true := by decide +kernel
set_option maxRecDepth 20000 in
theorem zow246 : Cond.code zm246.1 zm246.2.1 zm246.2.2.1 zm246.2.2.2.1 ∈ zTw := List.mem_filter.mpr ⟨List.mem_of_getElem? (i := 1669) rfl, rfl⟩
theorem zok247 : zokC zm247.1 zm247.2.1 0 zc247 = true := zokH_ok (hs := [1197, 1639, 1552, 1666, 1596]) (by decide +kernel)
theorem zoy247 : zokY zm247 = true := by decide +kernel
set_option maxRecDepth 20000 in
theorem zow247 : Cond.code zm247.1 zm247.2.1 zm247.2.2.1 zm247.2.2.2.1 ∈ zTw := List.mem_filter.mpr ⟨List.mem_of_getElem? (i := 1638) rfl, rfl⟩
theorem zok248 : zokC zm248.1 zm248.2.1 0 zc248 = true := zokH_ok (hs := [1592, 1630, 1634, 1363, 1197, 1200, 1635]) (by decide +kernel)
theorem zoy248 : zokY zm248 = true := by decide +kernel
set_option maxRecDepth 20000 in
theorem zow248 : Cond.code zm248.1 zm248.2.1 zm248.2.2.1 zm248.2.2.2.1 ∈ zTw := List.mem_filter.mpr ⟨List.mem_of_getElem? (i := 1629) rfl, rfl⟩
theorem zok249 : zokC zm249.1 zm249.2.1 0 zc249 = true := zokH_ok (hs := [1619, 1615, 1483, 1687, 1483, 1687, 1483, 1691]) (by decide +kernel)
theorem zoy249 : zokY zm249 = true := by decide +kernel
set_option maxRecDepth 20000 in
theorem zow249 : Cond.code zm249.1 zm249.2.1 zm249.2.2.1 zm249.2.2.2.1 ∈ zTw := List.mem_filter.mpr ⟨List.mem_of_getElem? (i := 1686) rfl, rfl⟩
theorem zok250 : zokC zm250.1 zm250.2.1 0 zc250 = true := zokH_ok (hs := [1197, 1608, 1683, 1202]) (by decide +kernel)
theorem zoy250 : zokY zm250 = true := by decide +kernel
set_option maxRecDepth 20000 in
theorem zow250 : Cond.code zm250.1 zm250.2.1 zm250.2.2.1 zm250.2.2.2.1 ∈ zTw := List.mem_filter.mpr ⟨List.mem_of_getElem? (i := 1682) rfl, rfl⟩
theorem zok251 : zokC zm251.1 zm251.2.1 0 zc251 = true := zokH_ok (hs := [1483, 1483, 1197, 1679]) (by decide +kernel)
theorem zoy251 : zokY zm251 = true := by decide +kernel
set_option maxRecDepth 20000 in
theorem zow251 : Cond.code zm251.1 zm251.2.1 zm251.2.2.1 zm251.2.2.2.1 ∈ zTw := List.mem_filter.mpr ⟨List.mem_of_getElem? (i := 1678) rfl, rfl⟩
theorem zok252 : zokC zm252.1 zm252.2.1 0 zc252 = true := zokH_ok (hs := [1478, 1524, 1674, 1363, 1483, 1491, 1675, 1487, 1202, 1619]) (by decide +kernel)
theorem zoy252 : zokY zm252 = true := by decide +kernel
set_option maxRecDepth 20000 in
theorem zow252 : Cond.code zm252.1 zm252.2.1 zm252.2.2.1 zm252.2.2.2.1 ∈ zTw := List.mem_filter.mpr ⟨List.mem_of_getElem? (i := 1673) rfl, rfl⟩
theorem zok253 : zokC zm253.1 zm253.2.1 0 zc253 = true := zokH_ok (hs := [1197, 1197, 1516, 1483, 1508, 1508, 1675, 1203, 1487, 1508]) (by decide +kernel)
theorem zoy253 : zokY zm253 = true := by decide +kernel
set_option maxRecDepth 20000 in
theorem zow253 : Cond.code zm253.1 zm253.2.1 zm253.2.2.1 zm253.2.2.2.1 ∈ zTw := List.mem_filter.mpr ⟨List.mem_of_getElem? (i := 1706) rfl, rfl⟩
theorem zok254 : zokC zm254.1 zm254.2.1 0 zc254 = true := zokH_ok (hs := [1197, 1197, 1608, 1197]) (by decide +kernel)
theorem zoy254 : zokY zm254 = true := by decide +kernel
set_option maxRecDepth 20000 in
theorem zow254 : Cond.code zm254.1 zm254.2.1 zm254.2.2.1 zm254.2.2.2.1 ∈ zTw := List.mem_filter.mpr ⟨List.mem_of_getElem? (i := 1714) rfl, rfl⟩
theorem zok255 : zokC zm255.1 zm255.2.1 0 zc255 = true := zokH_ok (hs := [1197, 1711, 1203, 1623, 1508]) (by decide +kernel)
theorem zoy255 : zokY zm255 = true := by decide +kernel
set_option maxRecDepth 20000 in
theorem zow255 : Cond.code zm255.1 zm255.2.1 zm255.2.2.1 zm255.2.2.2.1 ∈ zTw := List.mem_filter.mpr ⟨List.mem_of_getElem? (i := 1710) rfl, rfl⟩
theorem zok256 : zokC zm256.1 zm256.2.1 0 zc256 = true := zokH_ok (hs := [1703, 1205, 1197, 1197, 1608, 1707, 1205, 1205, 1197, 1204, 1711, 1205]) (by decide +kernel)
theorem zoy256 : zokY zm256 = true := by decide +kernel
set_option maxRecDepth 20000 in
theorem zow256 : Cond.code zm256.1 zm256.2.1 zm256.2.2.1 zm256.2.2.2.1 ∈ zTw := List.mem_filter.mpr ⟨List.mem_of_getElem? (i := 1702) rfl, rfl⟩
theorem zok257 : zokC zm257.1 zm257.2.1 0 zc257 = true := zokH_ok (hs := [1592, 1674, 1363, 1699, 1205, 1197, 1204]) (by decide +kernel)
theorem zoy257 : zokY zm257 = true := by decide +kernel
set_option maxRecDepth 20000 in
theorem zow257 : Cond.code zm257.1 zm257.2.1 zm257.2.2.1 zm257.2.2.2.1 ∈ zTw := List.mem_filter.mpr ⟨List.mem_of_getElem? (i := 1698) rfl, rfl⟩
theorem zok258 : zokC zm258.1 zm258.2.1 0 zc258 = true := zokH_ok (hs := [1478, 1699, 1699]) (by decide +kernel)
theorem zoy258 : zokY zm258 = true := by decide +kernel
set_option maxRecDepth 20000 in
theorem zow258 : Cond.code zm258.1 zm258.2.1 zm258.2.2.1 zm258.2.2.2.1 ∈ zTw := List.mem_filter.mpr ⟨List.mem_of_getElem? (i := 1718) rfl, rfl⟩
theorem zok259 : zokC zm259.1 zm259.2.1 0 zc259 = true := zokH_ok (hs := [1206, 1197]) (by decide +kernel)
theorem zoy259 : zokY zm259 = true := by decide +kernel
set_option maxRecDepth 20000 in
theorem zow259 : Cond.code zm259.1 zm259.2.1 zm259.2.2.1 zm259.2.2.2.1 ∈ zTw := List.mem_filter.mpr ⟨List.mem_of_getElem? (i := 1726) rfl, rfl⟩
theorem zok260 : zokC zm260.1 zm260.2.1 0 zc260 = true := zokH_ok (hs := [1197, 1206]) (by decide +kernel)
theorem zoy260 : zokY zm260 = true := by decide +kernel
set_option maxRecDepth 20000 in
theorem zow260 : Cond.code zm260.1 zm260.2.1 zm260.2.2.1 zm260.2.2.2.1 ∈ zTw := List.mem_filter.mpr ⟨List.mem_of_getElem? (i := 1730) rfl, rfl⟩
theorem zok261 : zokC zm261.1 zm261.2.1 0 zc261 = true := zokH_ok (hs := [1478, 1363, 1483, 1699, 1197, 1483, 1723, 1584, 1699, 1727]) (by decide +kernel)
theorem zoy261 : zokY zm261 = true := by decide +kernel
set_option maxRecDepth 20000 in
theorem zow261 : Cond.code zm261.1 zm261.2.1 zm261.2.2.1 zm261.2.2.2.1 ∈ zTw := List.mem_filter.mpr ⟨List.mem_of_getElem? (i := 1722) rfl, rfl⟩
theorem zok262 : zokC zm262.1 zm262.2.1 0 zc262 = true := zokH_ok (hs := [1592, 1735, 1363, 1699, 1197, 1197, 1532, 1532, 1723, 1576, 1699, 1727]) (by decide +kernel)
theorem zoy262 : zokY zm262 = true := by decide +kernel
set_option maxRecDepth 20000 in
theorem zow262 : Cond.code zm262.1 zm262.2.1 zm262.2.2.1 zm262.2.2.2.1 ∈ zTw := List.mem_filter.mpr ⟨List.mem_of_getElem? (i := 1734) rfl, rfl⟩
theorem zok263 : zokC zm263.1 zm263.2.1 0 zc263 = true := zokH_ok (hs := [1197, 1197, 1623, 1528]) (by decide +kernel)
theorem zoy263 : zokY zm263 = true := by decide +kernel
set_option maxRecDepth 20000 in
theorem zow263 : Cond.code zm263.1 zm263.2.1 zm263.2.2.1 zm263.2.2.2.1 ∈ zTw := List.mem_filter.mpr ⟨List.mem_of_getElem? (i := 1743) rfl, rfl⟩
theorem zok264 : zokC zm264.1 zm264.2.1 0 zc264 = true := zokH_ok (hs := [1592, 1482, 1363, 1197, 1740, 1623, 1604, 1201, 1619]) (by decide +kernel)
theorem zoy264 : zokY zm264 = true := by decide +kernel
set_option maxRecDepth 20000 in
theorem zow264 : Cond.code zm264.1 zm264.2.1 zm264.2.2.1 zm264.2.2.2.1 ∈ zTw := List.mem_filter.mpr ⟨List.mem_of_getElem? (i := 1739) rfl, rfl⟩
theorem zok265 : zokC zm265.1 zm265.2.1 0 zc265 = true := zokH_ok (hs := [1524, 1197, 1528, 1528]) (by decide +kernel)
theorem zoy265 : zokY zm265 = true := by decide +kernel
set_option maxRecDepth 20000 in
theorem zow265 : Cond.code zm265.1 zm265.2.1 zm265.2.2.1 zm265.2.2.2.1 ∈ zTw := List.mem_filter.mpr ⟨List.mem_of_getElem? (i := 1747) rfl, rfl⟩
theorem zok266 : zokC zm266.1 zm266.2.1 0 zc266 = true := zokH_ok (hs := [1207, 1208, 1209, 1197, 1197, 1608, 1619, 1483, 1615, 1483, 1687, 1483, 1691, 1483, 1619, 1207, 1209, 1208, 1208, 1207, 1207]) (by decide +kernel)
theorem zoy266 : zokY zm266 = true := by decide +kernel
set_option maxRecDepth 20000 in
theorem zow266 : Cond.code zm266.1 zm266.2.1 zm266.2.2.1 zm266.2.2.2.1 ∈ zTw := List.mem_filter.mpr ⟨List.mem_of_getElem? (i := 1755) rfl, rfl⟩
theorem zok267 : zokC zm267.1 zm267.2.1 0 zc267 = true := zokH_ok (hs := [1478, 1735, 1363, 1491, 1483, 1752, 1207, 1208, 1209]) (by decide +kernel)
theorem zoy267 : zokY zm267 = true := by decide +kernel
set_option maxRecDepth 20000 in
theorem zow267 : Cond.code zm267.1 zm267.2.1 zm267.2.2.1 zm267.2.2.2.1 ∈ zTw := List.mem_filter.mpr ⟨List.mem_of_getElem? (i := 1751) rfl, rfl⟩
theorem zok268 : zokC zm268.1 zm268.2.1 0 zc268 = true := zokH_ok (hs := [1197, 1516]) (by decide +kernel)
theorem zoy268 : zokY zm268 = true := by decide +kernel
set_option maxRecDepth 20000 in
theorem zow268 : Cond.code zm268.1 zm268.2.1 zm268.2.2.1 zm268.2.2.2.1 ∈ zTw := List.mem_filter.mpr ⟨List.mem_of_getElem? (i := 1763) rfl, rfl⟩
theorem zok269 : zokC zm269.1 zm269.2.1 0 zc269 = true := zokH_ok (hs := [1592, 1630, 1760, 1197, 1723, 1635, 1760, 1197, 1727]) (by decide +kernel)
theorem zoy269 : zokY zm269 = true := by decide +kernel
set_option maxRecDepth 20000 in
theorem zow269 : Cond.code zm269.1 zm269.2.1 zm269.2.2.1 zm269.2.2.2.1 ∈ zTw := List.mem_filter.mpr ⟨List.mem_of_getElem? (i := 1759) rfl, rfl⟩
theorem zok270 : zokC zm270.1 zm270.2.1 0 zc270 = true := zokH_ok (hs := [1197, 1483, 1483, 1675]) (by decide +kernel)
theorem zoy270 : zokY zm270 = true := by decide +kernel
set_option maxRecDepth 20000 in
theorem zow270 : Cond.code zm270.1 zm270.2.1 zm270.2.2.1 zm270.2.2.2.1 ∈ zTw := List.mem_filter.mpr ⟨List.mem_of_getElem? (i := 1776) rfl, rfl⟩
theorem zok271 : zokC zm271.1 zm271.2.1 0 zc271 = true := zokH_ok (hs := [1197, 1723, 1576, 1773, 1727]) (by decide +kernel)
theorem zoy271 : zokY zm271 = true := by decide +kernel
set_option maxRecDepth 20000 in
theorem zow271 : Cond.code zm271.1 zm271.2.1 zm271.2.2.1 zm271.2.2.2.1 ∈ zTw := List.mem_filter.mpr ⟨List.mem_of_getElem? (i := 1772) rfl, rfl⟩
theorem zok272 : zokC zm272.1 zm272.2.1 0 zc272 = true := zokH_ok (hs := [1592, 1768, 1363, 1197, 1769]) (by decide +kernel)
theorem zoy272 : zokY zm272 = true := by decide +kernel
set_option maxRecDepth 20000 in
theorem zow272 : Cond.code zm272.1 zm272.2.1 zm272.2.2.1 zm272.2.2.2.1 ∈ zTw := List.mem_filter.mpr ⟨List.mem_of_getElem? (i := 1767) rfl, rfl⟩
theorem zok273 : zokC zm273.1 zm273.2.1 0 zc273 = true := zokH_ok (hs := [1198, 1198]) (by decide +kernel)
theorem zoy273 : zokY zm273 = true := by decide +kernel
set_option maxRecDepth 20000 in
theorem zow273 : Cond.code zm273.1 zm273.2.1 zm273.2.2.1 zm273.2.2.2.1 ∈ zTw := List.mem_filter.mpr ⟨List.mem_of_getElem? (i := 1780) rfl, rfl⟩
theorem zok274 : zokC zm274.1 zm274.2.1 0 zc274 = true := zokH_ok (hs := [1210, 1794, 1795, 1796, 1210, 1210, 1797]) (by decide +kernel)
theorem zoy274 : zokY zm274 = true := by decide +kernel
set_option maxRecDepth 20000 in
theorem zow274 : Cond.code zm274.1 zm274.2.1 zm274.2.2.1 zm274.2.2.2.1 ∈ zTw := List.mem_filter.mpr ⟨List.mem_of_getElem? (i := 1793) rfl, rfl⟩
theorem zok275 : zokC zm275.1 zm275.2.1 0 zc275 = true := zokH_ok (hs := [1197, 1197, 1790, 1197, 1560, 1544, 1552]) (by decide +kernel)
theorem zoy275 : zokY zm275 = true := by decide +kernel
set_option maxRecDepth 20000 in
theorem zow275 : Cond.code zm275.1 zm275.2.1 zm275.2.2.1 zm275.2.2.2.1 ∈ zTw := List.mem_filter.mpr ⟨List.mem_of_getElem? (i := 1789) rfl, rfl⟩
theorem zok276 : zokC zm276.1 zm276.2.1 0 zc276 = true := zokH_ok (hs := [1592, 1785, 1363, 1634, 1363, 1363, 1198, 1210, 1723, 1786, 1666, 1596, 1727]) (by decide +kernel)
theorem zoy276 : zokY zm276 = true := by decide +kernel
set_option maxRecDepth 20000 in
theorem zow276 : Cond.code zm276.1 zm276.2.1 zm276.2.2.1 zm276.2.2.2.1 ∈ zTw := List.mem_filter.mpr ⟨List.mem_of_getElem? (i := 1784) rfl, rfl⟩
theorem zok277 : zokC zm277.1 zm277.2.1 0 zc277 = true := zokH_ok (hs := [1197, 1177, 1197, 1197, 1197, 1516, 1197, 1200, 1198, 1176]) (by decide +kernel)
theorem zoy277 : zokY zm277 = true := by decide +kernel
set_option maxRecDepth 20000 in
theorem zow277 : Cond.code zm277.1 zm277.2.1 zm277.2.2.1 zm277.2.2.2.1 ∈ zTw := List.mem_filter.mpr ⟨List.mem_of_getElem? (i := 1801) rfl, rfl⟩
theorem zok278 : zokC zm278.1 zm278.2.1 0 zc278 = true := zokH_ok (hs := [1806, 1363, 1213, 1212, 1198, 1211, 1197, 1197]) (by decide +kernel)
theorem zoy278 : zokY zm278 = true := by decide +kernel
set_option maxRecDepth 20000 in
theorem zow278 : Cond.code zm278.1 zm278.2.1 zm278.2.2.1 zm278.2.2.2.1 ∈ zTw := List.mem_filter.mpr ⟨List.mem_of_getElem? (i := 1805) rfl, rfl⟩
theorem zok279 : zokC zm279.1 zm279.2.1 0 zc279 = true := zokH_ok (hs := [1806, 1363, 1213, 1212, 1198, 1200, 1197, 1211, 1197]) (by decide +kernel)
theorem zoy279 : zokY zm279 = true := by decide +kernel
set_option maxRecDepth 20000 in
theorem zow279 : Cond.code zm279.1 zm279.2.1 zm279.2.2.1 zm279.2.2.2.1 ∈ zTw := List.mem_filter.mpr ⟨List.mem_of_getElem? (i := 1810) rfl, rfl⟩
theorem zok280 : zokC zm280.1 zm280.2.1 0 zc280 = true := zokH_ok (hs := [990, 991, 991, 992]) (by decide +kernel)
theorem zoy280 : zokY zm280 = true := by decide +kernel
set_option maxRecDepth 20000 in
theorem zow280 : Cond.code zm280.1 zm280.2.1 zm280.2.2.1 zm280.2.2.2.1 ∈ zTw := List.mem_filter.mpr ⟨List.mem_of_getElem? (i := 989) rfl, rfl⟩
theorem zok281 : zokC zm281.1 zm281.2.1 0 zc281 = true := zokH_ok (hs := [1811, 464]) (by decide +kernel)
theorem zoy281 : zokY zm281 = true := by decide +kernel
set_option maxRecDepth 20000 in
theorem zow281 : Cond.code zm281.1 zm281.2.1 zm281.2.2.1 zm281.2.2.2.1 ∈ zTw := List.mem_filter.mpr ⟨List.mem_of_getElem? (i := 463) rfl, rfl⟩
theorem zok282 : zokC zm282.1 zm282.2.1 0 zc282 = true := zokH_ok (hs := [474, 1811, 478, 1811, 489]) (by decide +kernel)
theorem zoy282 : zokY zm282 = true := by decide +kernel
set_option maxRecDepth 20000 in
theorem zow282 : Cond.code zm282.1 zm282.2.1 zm282.2.2.1 zm282.2.2.2.1 ∈ zTw := List.mem_filter.mpr ⟨List.mem_of_getElem? (i := 473) rfl, rfl⟩
theorem zok283 : zokC zm283.1 zm283.2.1 0 zc283 = true := zokH_ok (hs := [468, 1812]) (by decide +kernel)
theorem zoy283 : zokY zm283 = true := by decide +kernel
set_option maxRecDepth 20000 in
theorem zow283 : Cond.code zm283.1 zm283.2.1 zm283.2.2.1 zm283.2.2.2.1 ∈ zTw := List.mem_filter.mpr ⟨List.mem_of_getElem? (i := 467) rfl, rfl⟩
theorem zok284 : zokC zm284.1 zm284.2.1 0 zc284 = true := zokH_ok (hs := [468, 1812]) (by decide +kernel)
theorem zoy284 : zokY zm284 = true := by decide +kernel
set_option maxRecDepth 20000 in
theorem zow284 : Cond.code zm284.1 zm284.2.1 zm284.2.2.1 zm284.2.2.2.1 ∈ zTw := List.mem_filter.mpr ⟨List.mem_of_getElem? (i := 477) rfl, rfl⟩
theorem zok285 : zokC zm285.1 zm285.2.1 0 zc285 = true := zokH_ok (hs := [484, 486]) (by decide +kernel)
theorem zoy285 : zokY zm285 = true := by decide +kernel
set_option maxRecDepth 20000 in
theorem zow285 : Cond.code zm285.1 zm285.2.1 zm285.2.2.1 zm285.2.2.2.1 ∈ zTw := List.mem_filter.mpr ⟨List.mem_of_getElem? (i := 483) rfl, rfl⟩
theorem zok286 : zokC zm286.1 zm286.2.1 0 zc286 = true := zokH_ok (hs := [481]) (by decide +kernel)
theorem zoy286 : zokY zm286 = true := by decide +kernel
set_option maxRecDepth 20000 in
theorem zow286 : Cond.code zm286.1 zm286.2.1 zm286.2.2.1 zm286.2.2.2.1 ∈ zTw := List.mem_filter.mpr ⟨List.mem_of_getElem? (i := 480) rfl, rfl⟩
theorem zok287 : zokC zm287.1 zm287.2.1 0 zc287 = true := zokH_ok (hs := [495]) (by decide +kernel)
theorem zoy287 : zokY zm287 = true := by decide +kernel
set_option maxRecDepth 20000 in
theorem zow287 : Cond.code zm287.1 zm287.2.1 zm287.2.2.1 zm287.2.2.2.1 ∈ zTw := List.mem_filter.mpr ⟨List.mem_of_getElem? (i := 501) rfl, rfl⟩
theorem zok288 : zokC zm288.1 zm288.2.1 0 zc288 = true := zokH_ok (hs := []) (by decide +kernel)
theorem zoy288 : zokY zm288 = true := by decide +kernel
set_option maxRecDepth 20000 in
theorem zow288 : Cond.code zm288.1 zm288.2.1 zm288.2.2.1 zm288.2.2.2.1 ∈ zTw := List.mem_filter.mpr ⟨List.mem_of_getElem? (i := 497) rfl, rfl⟩
theorem zok289 : zokC zm289.1 zm289.2.1 0 zc289 = true := zokH_ok (hs := [492, 499]) (by decide +kernel)
theorem zoy289 : zokY zm289 = true := by decide +kernel
set_option maxRecDepth 20000 in
theorem zow289 : Cond.code zm289.1 zm289.2.1 zm289.2.2.1 zm289.2.2.2.1 ∈ zTw := List.mem_filter.mpr ⟨List.mem_of_getElem? (i := 491) rfl, rfl⟩
theorem zok290 : zokC zm290.1 zm290.2.1 0 zc290 = true := zokH_ok (hs := [495, 498]) (by decide +kernel)
theorem zoy290 : zokY zm290 = true := by decide +kernel
set_option maxRecDepth 20000 in
theorem zow290 : Cond.code zm290.1 zm290.2.1 zm290.2.2.1 zm290.2.2.2.1 ∈ zTw := List.mem_filter.mpr ⟨List.mem_of_getElem? (i := 494) rfl, rfl⟩
theorem zok291 : zokC zm291.1 zm291.2.1 0 zc291 = true := zokH_ok (hs := []) (by decide +kernel)
theorem zoy291 : zokY zm291 = true := by decide +kernel
set_option maxRecDepth 20000 in
theorem zow291 : Cond.code zm291.1 zm291.2.1 zm291.2.2.1 zm291.2.2.2.1 ∈ zTw := List.mem_filter.mpr ⟨List.mem_of_getElem? (i := 559) rfl, rfl⟩
theorem zok292 : zokC zm292.1 zm292.2.1 0 zc292 = true := by decide +kernel
theorem zoy292 : zokY zm292 = true := by decide +kernel
set_option maxRecDepth 20000 in
theorem zow292 : Cond.code zm292.1 zm292.2.1 zm292.2.2.1 zm292.2.2.2.1 ∈ zTw := List.mem_filter.mpr ⟨List.mem_of_getElem? (i := 702) rfl, rfl⟩
theorem zok293 : zokC zm293.1 zm293.2.1 0 zc293 = true := zokH_ok (hs := []) (by decide +kernel)
theorem zoy293 : zokY zm293 = true := by decide +kernel
set_option maxRecDepth 20000 in
theorem zow293 : Cond.code zm293.1 zm293.2.1 zm293.2.2.1 zm293.2.2.2.1 ∈ zTw := List.mem_filter.mpr ⟨List.mem_of_getElem? (i := 488) rfl, rfl⟩
