set_option maxRecDepth 20000 in
theorem inL_X0 : ∀ w ∈ u_ws RX0 TX0 6, w ∈ lw_tbl := fun w h => (g_rows (big := lw_tbl) (u_ws RX0 TX0 6) [234, 236, 238, 240, 242, 244] (by decide +kernel) (by decide +kernel) w h).1
set_option maxRecDepth 20000 in
theorem inL_X1 : ∀ w ∈ u_ws RX1 TX1 10, w ∈ lw_tbl := fun w h => (g_rows (big := lw_tbl) (u_ws RX1 TX1 10) [978, 980, 982, 984, 986, 988, 990, 992, 994, 996] (by decide +kernel) (by decide +kernel) w h).1
set_option maxRecDepth 20000 in
theorem inL_X2 : ∀ w ∈ u_ws RX2 TX2 12, w ∈ lw_tbl := fun w h => (g_rows (big := lw_tbl) (u_ws RX2 TX2 12) [289, 291, 293, 295, 297, 299, 301, 303, 305, 307, 309, 311] (by decide +kernel) (by decide +kernel) w h).1
set_option maxRecDepth 20000 in
theorem inL_X3 : ∀ w ∈ u_ws RX3 TX3 12, w ∈ lw_tbl := fun w h => (g_rows (big := lw_tbl) (u_ws RX3 TX3 12) [355, 357, 359, 361, 363, 365, 367, 369, 371, 373, 375, 377] (by decide +kernel) (by decide +kernel) w h).1
set_option maxRecDepth 20000 in
theorem inL_X4 : ∀ w ∈ u_ws RX4 TX4 15, w ∈ lw_tbl := fun w h => (g_rows (big := lw_tbl) (u_ws RX4 TX4 15) [410, 412, 414, 416, 418, 420, 422, 424, 426, 428, 430, 432, 434, 436, 438] (by decide +kernel) (by decide +kernel) w h).1
set_option maxRecDepth 20000 in
theorem inL_X5 : ∀ w ∈ u_ws RX5 TX5 12, w ∈ lw_tbl := fun w h => (g_rows (big := lw_tbl) (u_ws RX5 TX5 12) [172, 174, 176, 178, 180, 182, 184, 186, 188, 190, 192, 194] (by decide +kernel) (by decide +kernel) w h).1
set_option maxRecDepth 20000 in
theorem inL_X6 : ∀ w ∈ u_ws RX6 TX6 3, w ∈ lw_tbl := fun w h => (g_rows (big := lw_tbl) (u_ws RX6 TX6 3) [454, 456, 458] (by decide +kernel) (by decide +kernel) w h).1
set_option maxRecDepth 20000 in
theorem inL_X7 : ∀ w ∈ u_ws RX7 TX7 14, w ∈ lw_tbl := fun w h => (g_rows (big := lw_tbl) (u_ws RX7 TX7 14) [476, 478, 480, 482, 484, 486, 488, 490, 492, 494, 496, 498, 500, 502] (by decide +kernel) (by decide +kernel) w h).1
set_option maxRecDepth 20000 in
theorem inL_X8 : ∀ w ∈ u_ws RX8 TX8 41, w ∈ lw_tbl := fun w h => (g_rows (big := lw_tbl) (u_ws RX8 TX8 41) [1339, 1341, 1343, 1345, 1347, 1349, 1351, 1353, 1355, 1357, 1359, 1361, 1363, 1365, 1367, 1369, 1371, 1373, 1375, 1377, 1379, 1381, 1383, 1385, 1387, 1389, 1391, 1393, 1395, 1397, 1399, 1401, 1403, 1405, 1407, 1409, 1411, 1413, 1415, 1417, 1419] (by decide +kernel) (by decide +kernel) w h).1
theorem ka_prim {args : Array Value} {s : State} {ty : FieldType} (hp : ∀ c : ClassId, s.vm.findClass ("[" ++ ty.toString) = some c → va_RA s c ty) (h : (Cond.arrayClass ty).before args s = true) : ∃ c : ClassId, ArrOfT s c ty ∧ va_RA s c ty := by
  obtain ⟨c, k, comp, h1, h2, h3⟩ := Cond.arrayClass_spec h
  exact ⟨c, fun n z => ⟨fun k h => (by cases h), k, h2, comp, h3⟩, hp c h1⟩
theorem ka_obj {s : State} {C : String} (h : va_AO C s) : ∃ c : ClassId, ArrOfT s c (.object C) ∧ va_RA s c (.object C) := by
  obtain ⟨comp, c, k, h1, -, h3, h4, h5⟩ := Cond.arrayOver_spec h
  exact ⟨c, fun n z => ⟨fun k h => (by cases h), k, h3, comp, h4⟩, k, comp, h3, h4, h1, h5⟩

