set_option maxRecDepth 20000 in
theorem lwi_wsL_law0_r31 : ∀ w ∈ wsL_law0_r31, w ∈ lw_tbl := lwi_pick [1401, 1402, 1403, 1404, 763, 764, 765, 766, 767, 769, 32, 770, 166, 325, 771, 1405, 1406, 1407, 1408, 1136, 772, 773, 774, 775] (by decide +kernel)
set_option maxRecDepth 20000 in
theorem lwi_wsL_law0_r32 : ∀ w ∈ wsL_law0_r32, w ∈ lw_tbl := lwi_pick [776, 778, 33, 779, 780, 782, 34, 783, 784, 785, 787, 35, 788, 1409, 1410, 1411, 1412, 789, 790, 791, 792, 793, 794, 795] (by decide +kernel)
set_option maxRecDepth 20000 in
theorem lwi_wsL_law0_r33 : ∀ w ∈ wsL_law0_r33, w ∈ lw_tbl := lwi_pick [796, 797, 798, 799, 800, 1413, 1414, 1415, 1416, 1423, 1424, 1425, 1417, 1418, 1419, 1420, 1421, 1422, 801, 802, 803, 804, 813, 814] (by decide +kernel)
set_option maxRecDepth 20000 in
theorem lwi_wsL_law0_r34 : ∀ w ∈ wsL_law0_r34, w ∈ lw_tbl := lwi_pick [815, 816, 805, 806, 807, 808, 809, 811, 36, 812, 817, 818, 819, 820, 184, 176, 179, 821, 162, 153, 150, 822, 824, 37] (by decide +kernel)
set_option maxRecDepth 20000 in
theorem lwi_wsL_law0_r35 : ∀ w ∈ wsL_law0_r35, w ∈ lw_tbl := lwi_pick [825, 826, 828, 38, 829, 830, 831, 832, 833, 834, 836, 39, 837, 1426, 1427, 1428, 1429, 1434, 1435, 1436, 1437, 1430, 1432, 71] (by decide +kernel)
set_option maxRecDepth 20000 in
theorem lwi_wsL_law0_r36 : ∀ w ∈ wsL_law0_r36, w ∈ lw_tbl := lwi_pick [1433, 838, 839, 840, 841, 842, 844, 40, 845, 846, 847, 848, 849, 850, 851, 852, 853, 1438, 1439, 1440, 1441, 1442, 1444, 72] (by decide +kernel)
set_option maxRecDepth 20000 in
theorem lwi_wsL_law0_r37 : ∀ w ∈ wsL_law0_r37, w ∈ lw_tbl := lwi_pick [1445, 1446, 1448, 73, 1449, 854, 855, 856, 857, 1450, 1451, 1452, 1453, 858, 859, 860, 861, 862, 863, 864, 865, 235, 1454, 1455] (by decide +kernel)
set_option maxRecDepth 20000 in
theorem lwi_wsL_law0_r38 : ∀ w ∈ wsL_law0_r38, w ∈ lw_tbl := lwi_pick [1456, 1457, 1128, 866, 867, 868, 869, 870, 871, 872, 873, 874, 875, 876, 877, 878, 1458, 1459, 1460, 1461, 879, 880, 881, 882] (by decide +kernel)
set_option maxRecDepth 20000 in
theorem lwi_wsL_law0_r39 : ∀ w ∈ wsL_law0_r39, w ∈ lw_tbl := lwi_pick [883, 884, 885, 886, 887, 888, 889, 890, 891, 892, 1462, 1463, 1464, 1465, 1466, 1468, 74, 1469, 1470, 1472, 75, 1473, 1474, 1475] (by decide +kernel)
set_option maxRecDepth 20000 in
theorem lwi_wsL_law0_r40 : ∀ w ∈ wsL_law0_r40, w ∈ lw_tbl := lwi_pick [1476, 893, 894, 895, 896, 897, 898, 899, 900, 901, 902, 903, 904, 905, 906, 907, 908, 909, 910, 911, 913, 41, 914, 1477] (by decide +kernel)
