theorem zok147 : zokC zm147.1 zm147.2.1 0 zc147 = true := zokH_ok (hs := [362, 812, 362, 1086]) (by decide +kernel)
theorem zoy147 : zokY zm147 = true := by decide +kernel
set_option maxRecDepth 20000 in
theorem zow147 : Cond.code zm147.1 zm147.2.1 zm147.2.2.1 zm147.2.2.2.1 ∈ zTw := List.mem_filter.mpr ⟨List.mem_of_getElem? (i := 1085) rfl, rfl⟩
theorem zok148 : zokC zm148.1 zm148.2.1 0 zc148 = true := zokH_ok (hs := [362, 728, 371, 362, 1094, 371, 280, 371, 284, 371, 280, 362, 838, 371, 286]) (by decide +kernel)
theorem zoy148 : zokY zm148 = true := by decide +kernel
set_option maxRecDepth 20000 in
theorem zow148 : Cond.code zm148.1 zm148.2.1 zm148.2.2.1 zm148.2.2.2.1 ∈ zTw := List.mem_filter.mpr ⟨List.mem_of_getElem? (i := 1093) rfl, rfl⟩
theorem zok149 : zokC zm149.1 zm149.2.1 0 zc149 = true := zokH_ok (hs := [362, 899, 932, 362, 1102, 362, 903, 363, 362, 596, 364, 363, 940, 363, 970, 363, 1102, 363, 903, 363, 904]) (by decide +kernel)
theorem zoy149 : zokY zm149 = true := by decide +kernel
set_option maxRecDepth 20000 in
theorem zow149 : Cond.code zm149.1 zm149.2.1 zm149.2.2.1 zm149.2.2.2.1 ∈ zTw := List.mem_filter.mpr ⟨List.mem_of_getElem? (i := 1101) rfl, rfl⟩
theorem zok150 : zokC zm150.1 zm150.2.1 0 zc150 = true := zokH_ok (hs := [362, 899, 362, 1069, 1114]) (by decide +kernel)
theorem zoy150 : zokY zm150 = true := by decide +kernel
set_option maxRecDepth 20000 in
theorem zow150 : Cond.code zm150.1 zm150.2.1 zm150.2.2.1 zm150.2.2.2.1 ∈ zTw := List.mem_filter.mpr ⟨List.mem_of_getElem? (i := 1113) rfl, rfl⟩
theorem zok151 : zokC zm151.1 zm151.2.1 0 zc151 = true := zokH_ok (hs := [362, 1069, 363, 362, 596, 363, 867, 371, 363, 1118]) (by decide +kernel)
theorem zoy151 : zokY zm151 = true := by decide +kernel
set_option maxRecDepth 20000 in
theorem zow151 : Cond.code zm151.1 zm151.2.1 zm151.2.2.1 zm151.2.2.2.1 ∈ zTw := List.mem_filter.mpr ⟨List.mem_of_getElem? (i := 1117) rfl, rfl⟩
theorem zok152 : zokC zm152.1 zm152.2.1 0 zc152 = true := zokH_ok (hs := [370, 262, 370, 262]) (by decide +kernel)
theorem zoy152 : zokY zm152 = true := by decide +kernel
set_option maxRecDepth 20000 in
theorem zow152 : Cond.code zm152.1 zm152.2.1 zm152.2.2.1 zm152.2.2.2.1 ∈ zTw := List.mem_filter.mpr ⟨List.mem_of_getElem? (i := 1127) rfl, rfl⟩
theorem zok153 : zokC zm153.1 zm153.2.1 0 zc153 = true := zokH_ok (hs := [362, 899, 370, 262, 363, 362, 596, 370, 363, 1132, 363, 970, 363, 904, 363, 936, 362, 936, 370, 262]) (by decide +kernel)
theorem zoy153 : zokY zm153 = true := by decide +kernel
set_option maxRecDepth 20000 in
theorem zow153 : Cond.code zm153.1 zm153.2.1 zm153.2.2.1 zm153.2.2.2.1 ∈ zTw := List.mem_filter.mpr ⟨List.mem_of_getElem? (i := 1131) rfl, rfl⟩
theorem zok154 : zokC zm154.1 zm154.2.1 0 zc154 = true := zokH_ok (hs := [362, 1069, 362, 1153, 362, 607, 362, 1026, 365, 362, 903, 362, 936, 362, 1154, 362, 1155, 366, 916, 370, 262, 358]) (by decide +kernel)
theorem zoy154 : zokY zm154 = true := by decide +kernel
set_option maxRecDepth 20000 in
theorem zow154 : Cond.code zm154.1 zm154.2.1 zm154.2.2.1 zm154.2.2.2.1 ∈ zTw := List.mem_filter.mpr ⟨List.mem_of_getElem? (i := 1152) rfl, rfl⟩
theorem zok155 : zokC zm155.1 zm155.2.1 0 zc155 = true := zokH_ok (hs := [362, 367, 1163, 368, 370, 262, 369, 362, 903]) (by decide +kernel)
theorem zoy155 : zokY zm155 = true := by decide +kernel
set_option maxRecDepth 20000 in
theorem zow155 : Cond.code zm155.1 zm155.2.1 zm155.2.2.1 zm155.2.2.2.1 ∈ zTw := List.mem_filter.mpr ⟨List.mem_of_getElem? (i := 1162) rfl, rfl⟩
theorem zok156 : zokC zm156.1 zm156.2.1 0 zc156 = true := zokH_ok (hs := [369, 362, 367, 1168, 370, 368, 262, 366, 603, 362, 903]) (by decide +kernel)
theorem zoy156 : zokY zm156 = true := by decide +kernel
set_option maxRecDepth 20000 in
theorem zow156 : Cond.code zm156.1 zm156.2.1 zm156.2.2.1 zm156.2.2.2.1 ∈ zTw := List.mem_filter.mpr ⟨List.mem_of_getElem? (i := 1167) rfl, rfl⟩
theorem zok157 : zokC zm157.1 zm157.2.1 0 zc157 = true := zokH_ok (hs := [1174, 1175, 1178, 1179, 1180, 1181, 1182, 1190, 1194, 1196, 1197, 1199, 1203, 1204, 1206, 1211, 1212, 1213]) (by decide +kernel)
theorem zoy157 : zokY zm157 = true := by decide +kernel
set_option maxRecDepth 20000 in
theorem zow157 : Cond.code zm157.1 zm157.2.1 zm157.2.2.1 zm157.2.2.2.1 ∈ zTw := List.mem_filter.mpr ⟨List.mem_of_getElem? (i := 1173) rfl, rfl⟩
theorem zok158 : zokC zm158.1 zm158.2.1 0 zc158 = true := zokH_ok (hs := []) (by decide +kernel)
theorem zoy158 : zokY zm158 = true := by decide +kernel
set_option maxRecDepth 20000 in
theorem zow158 : Cond.code zm158.1 zm158.2.1 zm158.2.2.1 zm158.2.2.2.1 ∈ zTw := List.mem_filter.mpr ⟨List.mem_of_getElem? (i := 1365) rfl, rfl⟩
theorem zok159 : zokC zm159.1 zm159.2.1 0 zc159 = true := zokH_ok (hs := []) (by decide +kernel)
theorem zoy159 : zokY zm159 = true := by decide +kernel
set_option maxRecDepth 20000 in
theorem zow159 : Cond.code zm159.1 zm159.2.1 zm159.2.2.1 zm159.2.2.2.1 ∈ zTw := List.mem_filter.mpr ⟨List.mem_of_getElem? (i := 1625) rfl, rfl⟩
theorem zok160 : zokC zm160.1 zm160.2.1 0 zc160 = true := zokH_ok (hs := [1175, 1176, 1176, 1176]) (by decide +kernel)
theorem zoy160 : zokY zm160 = true := by decide +kernel
set_option maxRecDepth 20000 in
theorem zow160 : Cond.code zm160.1 zm160.2.1 zm160.2.2.1 zm160.2.2.2.1 ∈ zTw := List.mem_filter.mpr ⟨List.mem_of_getElem? (i := 1300) rfl, rfl⟩
theorem zok161 : zokC zm161.1 zm161.2.1 0 zc161 = true := zokH_ok (hs := [1176, 1297, 1297, 1297, 1297, 1297, 1176]) (by decide +kernel)
theorem zoy161 : zokY zm161 = true := by decide +kernel
set_option maxRecDepth 20000 in
theorem zow161 : Cond.code zm161.1 zm161.2.1 zm161.2.2.1 zm161.2.2.2.1 ∈ zTw := List.mem_filter.mpr ⟨List.mem_of_getElem? (i := 1296) rfl, rfl⟩
theorem zok162 : zokC zm162.1 zm162.2.1 0 zc162 = true := zokH_ok (hs := [1176, 1176]) (by decide +kernel)
theorem zoy162 : zokY zm162 = true := by decide +kernel
set_option maxRecDepth 20000 in
theorem zow162 : Cond.code zm162.1 zm162.2.1 zm162.2.2.1 zm162.2.2.2.1 ∈ zTw := List.mem_filter.mpr ⟨List.mem_of_getElem? (i := 1304) rfl, rfl⟩
theorem zok163 : zokC zm163.1 zm163.2.1 0 zc163 = true := zokH_ok (hs := [1184, 1184]) (by decide +kernel)
theorem zoy163 : zokY zm163 = true := by decide +kernel
set_option maxRecDepth 20000 in
theorem zow163 : Cond.code zm163.1 zm163.2.1 zm163.2.2.1 zm163.2.2.2.1 ∈ zTw := List.mem_filter.mpr ⟨List.mem_of_getElem? (i := 1342) rfl, rfl⟩
theorem zok164 : zokC zm164.1 zm164.2.1 0 zc164 = true := zokH_ok (hs := [1183, 1176, 1175, 1183, 1183, 1183, 1183, 1176, 1175, 1183]) (by decide +kernel)
theorem zoy164 : zokY zm164 = true := by decide +kernel
set_option maxRecDepth 20000 in
theorem zow164 : Cond.code zm164.1 zm164.2.1 zm164.2.2.1 zm164.2.2.2.1 ∈ zTw := List.mem_filter.mpr ⟨List.mem_of_getElem? (i := 1320) rfl, rfl⟩
theorem zok165 : zokC zm165.1 zm165.2.1 0 zc165 = true := zokH_ok (hs := [1176, 1175, 1175]) (by decide +kernel)
theorem zoy165 : zokY zm165 = true := by decide +kernel
set_option maxRecDepth 20000 in
theorem zow165 : Cond.code zm165.1 zm165.2.1 zm165.2.2.1 zm165.2.2.2.1 ∈ zTw := List.mem_filter.mpr ⟨List.mem_of_getElem? (i := 1362) rfl, rfl⟩
theorem zok166 : zokC zm166.1 zm166.2.1 0 zc166 = true := zokH_ok (hs := [1176, 1175, 1175]) (by decide +kernel)
theorem zoy166 : zokY zm166 = true := by decide +kernel
set_option maxRecDepth 20000 in
theorem zow166 : Cond.code zm166.1 zm166.2.1 zm166.2.2.1 zm166.2.2.2.1 ∈ zTw := List.mem_filter.mpr ⟨List.mem_of_getElem? (i := 1333) rfl, rfl⟩
theorem zok167 : zokC zm167.1 zm167.2.1 0 zc167 = true := zokH_ok (hs := [1317, 1183, 1330, 1175, 1183]) (by decide +kernel)
theorem zoy167 : zokY zm167 = true := by decide +kernel
set_option maxRecDepth 20000 in
theorem zow167 : Cond.code zm167.1 zm167.2.1 zm167.2.2.1 zm167.2.2.2.1 ∈ zTw := List.mem_filter.mpr ⟨List.mem_of_getElem? (i := 1329) rfl, rfl⟩
theorem zok168 : zokC zm168.1 zm168.2.1 0 zc168 = true := zokH_ok (hs := [1183, 1330, 1183, 1183]) (by decide +kernel)
theorem zoy168 : zokY zm168 = true := by decide +kernel
set_option maxRecDepth 20000 in
theorem zow168 : Cond.code zm168.1 zm168.2.1 zm168.2.2.1 zm168.2.2.2.1 ∈ zTw := List.mem_filter.mpr ⟨List.mem_of_getElem? (i := 1354) rfl, rfl⟩
theorem zok169 : zokC zm169.1 zm169.2.1 0 zc169 = true := zokH_ok (hs := [1326, 1351]) (by decide +kernel)
theorem zoy169 : zokY zm169 = true := by decide +kernel
set_option maxRecDepth 20000 in
theorem zow169 : Cond.code zm169.1 zm169.2.1 zm169.2.2.1 zm169.2.2.2.1 ∈ zTw := List.mem_filter.mpr ⟨List.mem_of_getElem? (i := 1435) rfl, rfl⟩
theorem zok170 : zokC zm170.1 zm170.2.1 0 zc170 = true := zokH_ok (hs := [1317, 1183, 1359, 1183, 1339, 1183, 1183, 1359, 1183, 1175, 1183, 1183, 1183, 1185, 1183, 1363, 1339]) (by decide +kernel)
theorem zoy170 : zokY zm170 = true := by decide +kernel
set_option maxRecDepth 20000 in
theorem zow170 : Cond.code zm170.1 zm170.2.1 zm170.2.2.1 zm170.2.2.2.1 ∈ zTw := List.mem_filter.mpr ⟨List.mem_of_getElem? (i := 1358) rfl, rfl⟩
theorem zok171 : zokC zm171.1 zm171.2.1 0 zc171 = true := zokH_ok (hs := [1334, 1326, 1419, 1326, 1420, 1326, 1421, 1326, 1422, 1326, 1423, 1326, 1424, 1326, 1425, 1326, 1426, 1326, 1427, 1326, 1428, 1326, 1429, 1326, 1430, 1326]) (by decide +kernel)
theorem zoy171 : zokY zm171 = true := by decide +kernel
set_option maxRecDepth 20000 in
theorem zow171 : Cond.code zm171.1 zm171.2.1 zm171.2.2.1 zm171.2.2.2.1 ∈ zTw := List.mem_filter.mpr ⟨List.mem_of_getElem? (i := 1418) rfl, rfl⟩
theorem zok172 : zokC zm172.1 zm172.2.1 0 zc172 = true := zokH_ok (hs := [1178, 1186, 1179, 1186, 1179, 1186]) (by decide +kernel)
theorem zoy172 : zokY zm172 = true := by decide +kernel
set_option maxRecDepth 20000 in
theorem zow172 : Cond.code zm172.1 zm172.2.1 zm172.2.2.1 zm172.2.2.2.1 ∈ zTw := List.mem_filter.mpr ⟨List.mem_of_getElem? (i := 1414) rfl, rfl⟩
theorem zok173 : zokC zm173.1 zm173.2.1 0 zc173 = true := zokH_ok (hs := [1187, 1339, 1187, 1187]) (by decide +kernel)
theorem zoy173 : zokY zm173 = true := by decide +kernel
set_option maxRecDepth 20000 in
theorem zow173 : Cond.code zm173.1 zm173.2.1 zm173.2.2.1 zm173.2.2.2.1 ∈ zTw := List.mem_filter.mpr ⟨List.mem_of_getElem? (i := 1410) rfl, rfl⟩
theorem zok174 : zokC zm174.1 zm174.2.1 0 zc174 = true := zokH_ok (hs := [1188, 1183, 1339, 1188, 1188, 1190, 1191, 1191, 1191]) (by decide +kernel)
theorem zoy174 : zokY zm174 = true := by decide +kernel
set_option maxRecDepth 20000 in
theorem zow174 : Cond.code zm174.1 zm174.2.1 zm174.2.2.1 zm174.2.2.2.1 ∈ zTw := List.mem_filter.mpr ⟨List.mem_of_getElem? (i := 1448) rfl, rfl⟩
theorem zok175 : zokC zm175.1 zm175.2.1 0 zc175 = true := zokH_ok (hs := []) (by decide +kernel)
theorem zoy175 : zokY zm175 = true := by decide +kernel
set_option maxRecDepth 20000 in
theorem zow175 : Cond.code zm175.1 zm175.2.1 zm175.2.2.1 zm175.2.2.2.1 ∈ zTw := List.mem_filter.mpr ⟨List.mem_of_getElem? (i := 1463) rfl, rfl⟩
theorem zok176 : zokC zm176.1 zm176.2.1 0 zc176 = true := zokH_ok (hs := [1191, 1190, 1191, 1461, 1191, 1191, 1190, 1191, 1411, 1190, 1191, 1188, 1188]) (by decide +kernel)
theorem zoy176 : zokY zm176 = true := by decide +kernel
set_option maxRecDepth 20000 in
theorem zow176 : Cond.code zm176.1 zm176.2.1 zm176.2.2.1 zm176.2.2.2.1 ∈ zTw := List.mem_filter.mpr ⟨List.mem_of_getElem? (i := 1460) rfl, rfl⟩
theorem zok177 : zokC zm177.1 zm177.2.1 0 zc177 = true := zokH_ok (hs := [1317, 1183, 1183, 1359, 1406, 1355, 1407, 1185, 1411, 1415, 1339, 1407, 1351, 1411]) (by decide +kernel)
theorem zoy177 : zokY zm177 = true := by decide +kernel
set_option maxRecDepth 20000 in
theorem zow177 : Cond.code zm177.1 zm177.2.1 zm177.2.2.1 zm177.2.2.2.1 ∈ zTw := List.mem_filter.mpr ⟨List.mem_of_getElem? (i := 1405) rfl, rfl⟩
theorem zok178 : zokC zm178.1 zm178.2.1 0 zc178 = true := zokH_ok (hs := [1402, 1317, 1317, 1317, 1175, 1183, 1175, 1183, 1183, 1183, 1402, 1411]) (by decide +kernel)
theorem zoy178 : zokY zm178 = true := by decide +kernel
set_option maxRecDepth 20000 in
theorem zow178 : Cond.code zm178.1 zm178.2.1 zm178.2.2.1 zm178.2.2.2.1 ∈ zTw := List.mem_filter.mpr ⟨List.mem_of_getElem? (i := 1401) rfl, rfl⟩
theorem zok179 : zokC zm179.1 zm179.2.1 0 zc179 = true := zokH_ok (hs := [1398, 1317, 1317, 1175, 1183, 1183, 1183, 1398, 1411]) (by decide +kernel)
theorem zoy179 : zokY zm179 = true := by decide +kernel
set_option maxRecDepth 20000 in
theorem zow179 : Cond.code zm179.1 zm179.2.1 zm179.2.2.1 zm179.2.2.2.1 ∈ zTw := List.mem_filter.mpr ⟨List.mem_of_getElem? (i := 1397) rfl, rfl⟩
theorem zok180 : zokC zm180.1 zm180.2.1 0 zc180 = true := zokH_ok (hs := [1394, 1317, 1183, 1339, 1183, 1183, 1183, 1176, 1175, 1183, 1183, 1183, 1407, 1394, 1411]) (by decide +kernel)
theorem zoy180 : zokY zm180 = true := by decide +kernel
set_option maxRecDepth 20000 in
theorem zow180 : Cond.code zm180.1 zm180.2.1 zm180.2.2.1 zm180.2.2.2.1 ∈ zTw := List.mem_filter.mpr ⟨List.mem_of_getElem? (i := 1452) rfl, rfl⟩
theorem zok181 : zokC zm181.1 zm181.2.1 0 zc181 = true := zokH_ok (hs := [1317, 1444, 1326, 1445, 1351, 1445, 1183, 1183, 1449]) (by decide +kernel)
theorem zoy181 : zokY zm181 = true := by decide +kernel
set_option maxRecDepth 20000 in
theorem zow181 : Cond.code zm181.1 zm181.2.1 zm181.2.2.1 zm181.2.2.2.1 ∈ zTw := List.mem_filter.mpr ⟨List.mem_of_getElem? (i := 1443) rfl, rfl⟩
theorem zok182 : zokC zm182.1 zm182.2.1 0 zc182 = true := zokH_ok (hs := [1191, 1190]) (by decide +kernel)
theorem zoy182 : zokY zm182 = true := by decide +kernel
set_option maxRecDepth 20000 in
theorem zow182 : Cond.code zm182.1 zm182.2.1 zm182.2.2.1 zm182.2.2.2.1 ∈ zTw := List.mem_filter.mpr ⟨List.mem_of_getElem? (i := 1467) rfl, rfl⟩
theorem zok183 : zokC zm183.1 zm183.2.1 0 zc183 = true := zokH_ok (hs := [1457, 1317, 1464, 1457, 1191, 1191, 1188, 1188, 1183, 1183, 1457]) (by decide +kernel)
theorem zoy183 : zokY zm183 = true := by decide +kernel
set_option maxRecDepth 20000 in
theorem zow183 : Cond.code zm183.1 zm183.2.1 zm183.2.2.1 zm183.2.2.2.1 ∈ zTw := List.mem_filter.mpr ⟨List.mem_of_getElem? (i := 1456) rfl, rfl⟩
theorem zok184 : zokC zm184.1 zm184.2.1 0 zc184 = true := zokH_ok (hs := [1191, 1188, 1440, 1453, 1468, 1326, 1469, 1326, 1468, 1326, 1351, 1461, 1457, 1190, 1191, 1191, 1191, 1464, 1317, 1183, 1339, 1457]) (by decide +kernel)
theorem zoy184 : zokY zm184 = true := by decide +kernel
set_option maxRecDepth 20000 in
theorem zow184 : Cond.code zm184.1 zm184.2.1 zm184.2.2.1 zm184.2.2.2.1 ∈ zTw := List.mem_filter.mpr ⟨List.mem_of_getElem? (i := 1439) rfl, rfl⟩
theorem zok185 : zokC zm185.1 zm185.2.1 0 zc185 = true := zokH_ok (hs := [1351, 1186, 1181, 1186, 1180, 1179, 1186, 1394, 1180, 1179, 1186, 1180, 1431, 1432, 1180, 1179, 1186, 1436, 1180, 1179, 1186, 1181, 1186]) (by decide +kernel)
theorem zoy185 : zokY zm185 = true := by decide +kernel
set_option maxRecDepth 20000 in
theorem zow185 : Cond.code zm185.1 zm185.2.1 zm185.2.2.1 zm185.2.2.2.1 ∈ zTw := List.mem_filter.mpr ⟨List.mem_of_getElem? (i := 1393) rfl, rfl⟩
theorem zok186 : zokC zm186.1 zm186.2.1 0 zc186 = true := zokH_ok (hs := [1355, 1182, 1185]) (by decide +kernel)
theorem zoy186 : zokY zm186 = true := by decide +kernel
set_option maxRecDepth 20000 in
theorem zow186 : Cond.code zm186.1 zm186.2.1 zm186.2.2.1 zm186.2.2.2.1 ∈ zTw := List.mem_filter.mpr ⟨List.mem_of_getElem? (i := 1369) rfl, rfl⟩
theorem zok187 : zokC zm187.1 zm187.2.1 0 zc187 = true := zokH_ok (hs := [1182, 1339, 1351, 1355, 1185, 1366, 1182]) (by decide +kernel)
theorem zoy187 : zokY zm187 = true := by decide +kernel
set_option maxRecDepth 20000 in
theorem zow187 : Cond.code zm187.1 zm187.2.1 zm187.2.2.1 zm187.2.2.2.1 ∈ zTw := List.mem_filter.mpr ⟨List.mem_of_getElem? (i := 1350) rfl, rfl⟩
theorem zok188 : zokC zm188.1 zm188.2.1 0 zc188 = true := zokH_ok (hs := [1182, 1339, 1351, 1182, 1182, 1366, 1366, 1366, 1182, 1182, 1182, 1182, 1182]) (by decide +kernel)
theorem zoy188 : zokY zm188 = true := by decide +kernel
set_option maxRecDepth 20000 in
theorem zow188 : Cond.code zm188.1 zm188.2.1 zm188.2.2.1 zm188.2.2.2.1 ∈ zTw := List.mem_filter.mpr ⟨List.mem_of_getElem? (i := 1373) rfl, rfl⟩
theorem zok189 : zokC zm189.1 zm189.2.1 0 zc189 = true := zokH_ok (hs := [1351, 1182, 1355, 1185, 1192, 1317, 1183, 1182, 1355, 1185, 1193, 1192, 1193, 1339]) (by decide +kernel)
theorem zoy189 : zokY zm189 = true := by decide +kernel
set_option maxRecDepth 20000 in
theorem zow189 : Cond.code zm189.1 zm189.2.1 zm189.2.2.1 zm189.2.2.2.1 ∈ zTw := List.mem_filter.mpr ⟨List.mem_of_getElem? (i := 1381) rfl, rfl⟩
theorem zok190 : zokC zm190.1 zm190.2.1 0 zc190 = true := zokH_ok (hs := [1378, 1182, 1192, 1193]) (by decide +kernel)
theorem zoy190 : zokY zm190 = true := by decide +kernel
set_option maxRecDepth 20000 in
theorem zow190 : Cond.code zm190.1 zm190.2.1 zm190.2.2.1 zm190.2.2.2.1 ∈ zTw := List.mem_filter.mpr ⟨List.mem_of_getElem? (i := 1377) rfl, rfl⟩
theorem zok191 : zokC zm191.1 zm191.2.1 0 zc191 = true := zokH_ok (hs := [1378, 1192, 1193, 1366]) (by decide +kernel)
theorem zoy191 : zokY zm191 = true := by decide +kernel
set_option maxRecDepth 20000 in
theorem zow191 : Cond.code zm191.1 zm191.2.1 zm191.2.2.1 zm191.2.2.2.1 ∈ zTw := List.mem_filter.mpr ⟨List.mem_of_getElem? (i := 1389) rfl, rfl⟩
theorem zok192 : zokC zm192.1 zm192.2.1 0 zc192 = true := zokH_ok (hs := [1182, 1339, 1351, 1182, 1182, 1366, 1366, 1366, 1366, 1182]) (by decide +kernel)
theorem zoy192 : zokY zm192 = true := by decide +kernel
set_option maxRecDepth 20000 in
theorem zow192 : Cond.code zm192.1 zm192.2.1 zm192.2.2.1 zm192.2.2.2.1 ∈ zTw := List.mem_filter.mpr ⟨List.mem_of_getElem? (i := 1385) rfl, rfl⟩
theorem zok193 : zokC zm193.1 zm193.2.1 0 zc193 = true := zokH_ok (hs := [1325, 1326, 1347, 1182, 1339, 1334, 1326, 1370, 1335, 1326, 1374, 1336, 1326, 1382, 1386]) (by decide +kernel)
theorem zoy193 : zokY zm193 = true := by decide +kernel
set_option maxRecDepth 20000 in
theorem zow193 : Cond.code zm193.1 zm193.2.1 zm193.2.2.1 zm193.2.2.2.1 ∈ zTw := List.mem_filter.mpr ⟨List.mem_of_getElem? (i := 1346) rfl, rfl⟩
theorem zok194 : zokC zm194.1 zm194.2.1 0 zc194 = true := zokH_ok (hs := [1325, 1326, 1334, 1326, 1335, 1326, 1336, 1326, 1337, 1326]) (by decide +kernel)
theorem zoy194 : zokY zm194 = true := by decide +kernel
set_option maxRecDepth 20000 in
theorem zow194 : Cond.code zm194.1 zm194.2.1 zm194.2.2.1 zm194.2.2.2.1 ∈ zTw := List.mem_filter.mpr ⟨List.mem_of_getElem? (i := 1324) rfl, rfl⟩
theorem zok195 : zokC zm195.1 zm195.2.1 0 zc195 = true := zokH_ok (hs := [1317, 1183, 1186, 1321, 1338, 1326, 1339, 1189, 1339, 1189, 1189, 1343, 1390]) (by decide +kernel)
theorem zoy195 : zokY zm195 = true := by decide +kernel
set_option maxRecDepth 20000 in
theorem zow195 : Cond.code zm195.1 zm195.2.1 zm195.2.2.1 zm195.2.2.2.1 ∈ zTw := List.mem_filter.mpr ⟨List.mem_of_getElem? (i := 1316) rfl, rfl⟩
