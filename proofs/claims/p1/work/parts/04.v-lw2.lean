set_option maxRecDepth 20000 in
theorem lwi_wsL_law0_r21 : ∀ w ∈ wsL_law0_r21, w ∈ lw_tbl := lwi_pick [168, 173, 581, 582, 583, 96, 584, 585, 586, 587, 588, 589, 590, 591, 592, 593, 594, 595, 597, 16, 598, 599, 600, 601] (by decide +kernel)
set_option maxRecDepth 20000 in
theorem lwi_wsL_law0_r22 : ∀ w ∈ wsL_law0_r22, w ∈ lw_tbl := lwi_pick [603, 17, 604, 165, 605, 160, 606, 607, 608, 609, 610, 611, 612, 613, 614, 615, 616, 617, 619, 18, 620, 621, 622, 624] (by decide +kernel)
set_option maxRecDepth 20000 in
theorem lwi_wsL_law0_r23 : ∀ w ∈ wsL_law0_r23, w ∈ lw_tbl := lwi_pick [19, 625, 1325, 1326, 1327, 1328, 1354, 1329, 1331, 60, 1332, 1333, 1335, 61, 1336, 1337, 1339, 62, 1340, 1341, 1342, 1343, 1344, 1345] (by decide +kernel)
set_option maxRecDepth 20000 in
theorem lwi_wsL_law0_r24 : ∀ w ∈ wsL_law0_r24, w ∈ lw_tbl := lwi_pick [1346, 1347, 1349, 63, 1350, 1351, 1352, 1353, 626, 627, 628, 629, 630, 631, 632, 633, 181, 634, 1355, 1356, 1357, 1358, 635, 636] (by decide +kernel)
set_option maxRecDepth 20000 in
theorem lwi_wsL_law0_r25 : ∀ w ∈ wsL_law0_r25, w ∈ lw_tbl := lwi_pick [637, 638, 1359, 1360, 1361, 1362, 639, 640, 641, 642, 643, 645, 20, 646, 169, 647, 649, 21, 650, 328, 651, 652, 98, 653] (by decide +kernel)
set_option maxRecDepth 20000 in
theorem lwi_wsL_law0_r26 : ∀ w ∈ wsL_law0_r26, w ∈ lw_tbl := lwi_pick [654, 655, 656, 660, 661, 662, 657, 665, 666, 658, 659, 701, 702, 703, 704, 667, 668, 670, 705, 707, 22, 708, 663, 669] (by decide +kernel)
set_option maxRecDepth 20000 in
theorem lwi_wsL_law0_r27 : ∀ w ∈ wsL_law0_r27, w ∈ lw_tbl := lwi_pick [709, 710, 712, 23, 713, 664, 163, 746, 714, 715, 716, 717, 718, 719, 720, 721, 722, 724, 24, 725, 726, 728, 25, 729] (by decide +kernel)
set_option maxRecDepth 20000 in
theorem lwi_wsL_law0_r28 : ∀ w ∈ wsL_law0_r28, w ∈ lw_tbl := lwi_pick [730, 732, 26, 733, 734, 736, 27, 737, 738, 740, 28, 741, 671, 742, 744, 29, 745, 158, 747, 749, 30, 750, 751, 753] (by decide +kernel)
set_option maxRecDepth 20000 in
theorem lwi_wsL_law0_r29 : ∀ w ∈ wsL_law0_r29, w ∈ lw_tbl := lwi_pick [31, 754, 1363, 1364, 1365, 1366, 1375, 1367, 1369, 64, 1370, 1371, 1373, 65, 1374, 1376, 1378, 66, 1379, 1380, 1382, 67, 1383, 1384] (by decide +kernel)
set_option maxRecDepth 20000 in
theorem lwi_wsL_law0_r30 : ∀ w ∈ wsL_law0_r30, w ∈ lw_tbl := lwi_pick [1386, 68, 1387, 1388, 1390, 69, 1391, 755, 756, 757, 758, 759, 760, 761, 762, 1392, 1393, 1394, 1395, 1396, 1398, 70, 1399, 1400] (by decide +kernel)
