theorem mem_places {big ws : List Cond} (ps : List Nat) (hp : ws = ps.filterMap (fun i => big[i]?)) : ∀ w ∈ ws, w ∈ big := by
  intro w hw
  rw [hp] at hw
  obtain ⟨i, -, hi⟩ := List.mem_filterMap.mp hw
  exact List.mem_of_getElem? hi
set_option maxRecDepth 20000 in
theorem lwb_X0 : ∀ w ∈ wsX00, w ∈ lw_tbl := mem_places [162, 164, 166, 168] (by decide +kernel)
set_option maxRecDepth 20000 in
theorem lwb_X1 : ∀ w ∈ wsX10, w ∈ lw_tbl := mem_places [261, 263] (by decide +kernel)
set_option maxRecDepth 20000 in
theorem lwb_X2 : ∀ w ∈ wsX20, w ∈ lw_tbl := mem_places [482, 484, 486] (by decide +kernel)
set_option maxRecDepth 20000 in
theorem lwb_X3 : ∀ w ∈ wsX30, w ∈ lw_tbl := mem_places [211, 213, 215, 217, 219, 221, 223, 225, 227, 229, 231, 233, 235] (by decide +kernel)
set_option maxRecDepth 20000 in
theorem lwb_X4 : ∀ w ∈ wsX40, w ∈ lw_tbl := mem_places [395, 397, 399, 401, 403, 405, 407, 409] (by decide +kernel)
set_option maxRecDepth 20000 in
theorem lwb_X5 : ∀ w ∈ wsX50, w ∈ lw_tbl := mem_places [244, 246, 248] (by decide +kernel)
set_option maxRecDepth 20000 in
theorem lwb_X6 : ∀ w ∈ wsX60, w ∈ lw_tbl := mem_places [346, 348, 350, 352, 354, 356, 358, 360, 362, 364, 366, 368, 370, 372, 374] (by decide +kernel)
set_option maxRecDepth 20000 in
theorem lwb_X7 : ∀ w ∈ wsX70, w ∈ lw_tbl := mem_places [287, 289, 291, 293] (by decide +kernel)
set_option maxRecDepth 20000 in
theorem lwb_X8 : ∀ w ∈ wsX80, w ∈ lw_tbl := mem_places [312, 314, 316, 318, 320, 322, 324] (by decide +kernel)
set_option maxRecDepth 20000 in
theorem lwb_X9 : ∀ w ∈ wsX90, w ∈ lw_tbl := mem_places [523, 525, 527, 529, 531, 533, 535, 537, 539, 541, 543, 545] (by decide +kernel)
set_option maxRecDepth 20000 in
theorem lwb_X10 : ∀ w ∈ wsX100, w ∈ lw_tbl := mem_places [419, 421, 423, 425, 427, 429, 431] (by decide +kernel)
set_option maxRecDepth 20000 in
theorem lwb_X11 : ∀ w ∈ wsX110, w ∈ lw_tbl := mem_places [1263, 1265, 1267, 1269, 1271, 1273, 1275, 1277, 1279, 1281, 1283, 1285, 1287, 1289, 1291, 1293, 1295, 1297, 1299, 1301, 1303, 1305, 1307, 1309, 1311, 1313, 1315, 1317, 1319, 1321, 1323, 1325, 1327, 1329, 1331, 1333, 1335, 1337, 1339, 1341, 1343, 1345, 1347, 1349, 1351, 1353, 1355] (by decide +kernel)
