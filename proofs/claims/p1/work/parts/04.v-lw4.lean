set_option maxRecDepth 20000 in
theorem lwi_wsL_law0_r41 : ∀ w ∈ wsL_law0_r41, w ∈ lw_tbl := lwi_pick [1478, 1479, 1480, 1481, 1482, 1484, 76, 1485, 915, 916, 917, 918, 919, 921, 42, 922, 923, 924, 925, 1486, 1487, 1488, 1489, 1490] (by decide +kernel)
set_option maxRecDepth 20000 in
theorem lwi_wsL_law0_r42 : ∀ w ∈ wsL_law0_r42, w ∈ lw_tbl := lwi_pick [1492, 77, 1493, 926, 927, 928, 929, 930, 931, 932, 933, 934, 936, 43, 937, 311, 938, 939, 940, 941, 942, 1494, 1495, 1496] (by decide +kernel)
set_option maxRecDepth 20000 in
theorem lwi_wsL_law0_r43 : ∀ w ∈ wsL_law0_r43, w ∈ lw_tbl := lwi_pick [1497, 1498, 1500, 78, 1501, 1502, 1504, 79, 1505, 943, 944, 945, 946, 947, 948, 949, 950, 952, 951, 1506, 1507, 1508, 1509, 953] (by decide +kernel)
set_option maxRecDepth 20000 in
theorem lwi_wsL_law0_r44 : ∀ w ∈ wsL_law0_r44, w ∈ lw_tbl := lwi_pick [954, 955, 956, 957, 958, 959, 960, 961, 962, 963, 964, 991, 965, 967, 44, 968, 277, 982, 977, 969, 971, 45, 972, 182] (by decide +kernel)
set_option maxRecDepth 20000 in
theorem lwi_wsL_law0_r45 : ∀ w ∈ wsL_law0_r45, w ∈ lw_tbl := lwi_pick [189, 973, 975, 46, 976, 171, 164, 154, 978, 980, 47, 981, 983, 985, 48, 986, 987, 988, 989, 990, 992, 994, 49, 995] (by decide +kernel)
set_option maxRecDepth 20000 in
theorem lwi_wsL_law0_r46 : ∀ w ∈ wsL_law0_r46, w ∈ lw_tbl := lwi_pick [996, 998, 50, 999, 1000, 1002, 51, 1003, 1004, 1006, 52, 1007, 1510, 1511, 1512, 1513, 1514, 1516, 80, 1517, 1518, 1520, 81, 1521] (by decide +kernel)
set_option maxRecDepth 20000 in
theorem lwi_wsL_law0_r47 : ∀ w ∈ wsL_law0_r47, w ∈ lw_tbl := lwi_pick [1522, 1524, 82, 1525, 1526, 1008, 1009, 1010, 1011, 1012, 1013, 1014, 1015, 278, 1527, 1528, 1529, 1530, 1531, 1533, 83, 1534, 1535, 1537] (by decide +kernel)
set_option maxRecDepth 20000 in
theorem lwi_wsL_law0_r48 : ∀ w ∈ wsL_law0_r48, w ∈ lw_tbl := lwi_pick [84, 1538, 1539, 1541, 85, 1542, 1543, 1544, 1545, 1546, 1016, 1017, 1018, 1019, 1020, 1021, 1022, 1023, 1024, 1025, 1026, 1027, 1028, 1547] (by decide +kernel)
set_option maxRecDepth 20000 in
theorem lwi_wsL_law0_r49 : ∀ w ∈ wsL_law0_r49, w ∈ lw_tbl := lwi_pick [1548, 1549, 1550, 1029, 1030, 86, 1031, 1032, 1033, 1034, 1035, 1036, 1037, 102, 1551, 1552, 1553, 1554, 1231, 1232, 1233, 1234] (by decide +kernel)
set_option maxRecDepth 20000 in
theorem lwi_wsX80 : ∀ w ∈ wsX80, w ∈ lw_tbl := lwi_pick [329, 331, 333, 335, 337, 339, 341, 343, 345, 347, 349, 351] (by decide +kernel)
