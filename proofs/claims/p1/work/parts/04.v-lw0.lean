theorem lwi_pick {ws : List Cond} (ps : List Nat) (hp : ws = ps.filterMap (fun i => lw_tbl[i]?)) : ∀ w ∈ ws, w ∈ lw_tbl := by
  intro w hw
  rw [hp] at hw
  obtain ⟨i, -, hi⟩ := List.mem_filterMap.mp hw
  exact List.mem_of_getElem? hi
set_option maxRecDepth 20000 in
theorem lwi_wsL_law0_r1 : ∀ w ∈ wsL_law0_r1, w ∈ lw_tbl := lwi_pick [103, 104, 87, 1098, 1099, 94, 247, 1555, 105, 106, 107, 108, 109, 110, 111, 112, 88, 317, 128, 129, 89, 318, 225, 226] (by decide +kernel)
set_option maxRecDepth 20000 in
theorem lwi_wsL_law0_r2 : ∀ w ∈ wsL_law0_r2, w ∈ lw_tbl := lwi_pick [90, 319, 248, 249, 91, 320, 261, 262, 92, 321, 304, 305, 93, 322, 127, 323, 324, 113, 114, 115, 116, 117, 118, 119] (by decide +kernel)
set_option maxRecDepth 20000 in
theorem lwi_wsL_law0_r3 : ∀ w ∈ wsL_law0_r3, w ∈ lw_tbl := lwi_pick [130, 131, 132, 133, 149, 152, 156, 159, 161, 170, 172, 224, 191, 192, 134, 136, 0, 137, 138, 140, 1, 141, 142, 143] (by decide +kernel)
set_option maxRecDepth 20000 in
theorem lwi_wsL_law0_r4 : ∀ w ∈ wsL_law0_r4, w ∈ lw_tbl := lwi_pick [144, 145, 147, 2, 148, 167, 228, 229, 230, 231, 232, 233, 234, 251, 252, 253, 254, 255, 264, 265, 266, 267, 268, 269] (by decide +kernel)
set_option maxRecDepth 20000 in
theorem lwi_wsL_law0_r5 : ∀ w ∈ wsL_law0_r5, w ∈ lw_tbl := lwi_pick [270, 271, 272, 273, 274, 275, 276, 307, 308, 309, 310, 1100, 1101, 1102, 1103, 1108, 1109, 1110, 1111, 1113, 1114, 1119, 1120, 1121] (by decide +kernel)
set_option maxRecDepth 20000 in
theorem lwi_wsL_law0_r6 : ∀ w ∈ wsL_law0_r6, w ∈ lw_tbl := lwi_pick [1230, 1122, 1104, 1123, 1105, 1124, 1125, 1126, 1127, 1129, 1130, 1131, 1132, 1133, 1134, 1135, 1137, 1138, 1139, 1140, 1141, 1142, 1143, 1144] (by decide +kernel)
set_option maxRecDepth 20000 in
theorem lwi_wsL_law0_r7 : ∀ w ∈ wsL_law0_r7, w ∈ lw_tbl := lwi_pick [1145, 1146, 354, 355, 356, 357, 326, 1235, 1236, 1237, 1238, 1107, 1106, 358, 359, 360, 361, 362, 363, 364, 365, 366, 367, 368] (by decide +kernel)
set_option maxRecDepth 20000 in
theorem lwi_wsL_law0_r8 : ∀ w ∈ wsL_law0_r8, w ∈ lw_tbl := lwi_pick [370, 3, 371, 372, 373, 374, 375, 376, 377, 379, 4, 380, 1239, 1240, 1241, 1242, 1243, 1245, 54, 1246, 381, 382, 383, 384] (by decide +kernel)
set_option maxRecDepth 20000 in
theorem lwi_wsL_law0_r9 : ∀ w ∈ wsL_law0_r9, w ∈ lw_tbl := lwi_pick [385, 387, 5, 388, 389, 391, 6, 392, 393, 394, 395, 396, 397, 398, 399, 400, 401, 402, 403, 404, 405, 1247, 1248, 1249] (by decide +kernel)
set_option maxRecDepth 20000 in
theorem lwi_wsL_law0_r10 : ∀ w ∈ wsL_law0_r10, w ∈ lw_tbl := lwi_pick [1250, 1251, 1253, 55, 1254, 1255, 1257, 56, 1258, 1259, 1260, 1261, 406, 407, 408, 409, 410, 412, 7, 413, 414, 415, 416, 417] (by decide +kernel)
