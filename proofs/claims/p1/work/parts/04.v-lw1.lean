set_option maxRecDepth 20000 in
theorem lwi_wsL_law0_r11 : ∀ w ∈ wsL_law0_r11, w ∈ lw_tbl := lwi_pick [418, 420, 8, 421, 1262, 1263, 1264, 1265, 422, 423, 424, 425, 426, 427, 428, 429, 430, 431, 432, 433, 434, 436, 435, 95] (by decide +kernel)
set_option maxRecDepth 20000 in
theorem lwi_wsL_law0_r12 : ∀ w ∈ wsL_law0_r12, w ∈ lw_tbl := lwi_pick [1266, 1267, 1268, 1269, 437, 438, 439, 440, 441, 443, 9, 444, 445, 446, 447, 448, 449, 450, 451, 452, 453, 454, 96, 455] (by decide +kernel)
set_option maxRecDepth 20000 in
theorem lwi_wsL_law0_r13 : ∀ w ∈ wsL_law0_r13, w ∈ lw_tbl := lwi_pick [456, 458, 10, 459, 327, 460, 461, 462, 97, 463, 551, 1270, 1271, 1272, 1273, 464, 465, 466, 467, 151, 155, 157, 468, 469] (by decide +kernel)
set_option maxRecDepth 20000 in
theorem lwi_wsL_law0_r14 : ∀ w ∈ wsL_law0_r14, w ∈ lw_tbl := lwi_pick [470, 471, 1274, 1275, 1276, 1277, 1278, 1280, 57, 1281, 472, 473, 474, 475, 1282, 1283, 1284, 1285, 476, 477, 478, 479, 480, 481] (by decide +kernel)
set_option maxRecDepth 20000 in
theorem lwi_wsL_law0_r15 : ∀ w ∈ wsL_law0_r15, w ∈ lw_tbl := lwi_pick [482, 483, 1286, 1287, 1288, 1289, 1112, 484, 485, 486, 487, 488, 489, 490, 491, 492, 493, 494, 175, 495, 496, 497, 498, 499] (by decide +kernel)
set_option maxRecDepth 20000 in
theorem lwi_wsL_law0_r16 : ∀ w ∈ wsL_law0_r16, w ∈ lw_tbl := lwi_pick [1290, 1291, 1292, 1293, 1294, 1295, 1296, 1297, 1298, 1299, 500, 501, 502, 503, 174, 1300, 1301, 1302, 1303, 1304, 504, 505, 506, 507] (by decide +kernel)
set_option maxRecDepth 20000 in
theorem lwi_wsL_law0_r17 : ∀ w ∈ wsL_law0_r17, w ∈ lw_tbl := lwi_pick [178, 183, 1305, 1306, 1307, 1308, 1115, 1116, 508, 509, 510, 511, 186, 190, 1309, 1310, 1311, 1312, 1117, 1118, 512, 513, 514, 515] (by decide +kernel)
set_option maxRecDepth 20000 in
theorem lwi_wsL_law0_r18 : ∀ w ∈ wsL_law0_r18, w ∈ lw_tbl := lwi_pick [516, 517, 518, 519, 1313, 1314, 1315, 1316, 1317, 1319, 58, 1320, 1321, 1323, 59, 1324, 520, 521, 522, 523, 524, 526, 11, 527] (by decide +kernel)
set_option maxRecDepth 20000 in
theorem lwi_wsL_law0_r19 : ∀ w ∈ wsL_law0_r19, w ∈ lw_tbl := lwi_pick [528, 529, 530, 531, 177, 180, 185, 188, 532, 533, 535, 12, 536, 537, 539, 13, 540, 541, 542, 543, 544, 545, 546, 547] (by decide +kernel)
set_option maxRecDepth 20000 in
theorem lwi_wsL_law0_r20 : ∀ w ∈ wsL_law0_r20, w ∈ lw_tbl := lwi_pick [549, 550, 548, 561, 562, 563, 564, 187, 565, 566, 567, 568, 569, 571, 14, 572, 573, 574, 575, 576, 577, 579, 15, 580] (by decide +kernel)
