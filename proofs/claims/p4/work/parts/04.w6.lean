set_option maxRecDepth 20000 in
theorem ggX9_fillRow_X9_fillLevels : GoodIn wsX9_fillRow wsX9_fillLevels := goodIn_r _ [13, 7, 14, 5, 15, 16, 17, 18, 19, 20, 21, 22, 23, 24, 25, 26, 27, 28, 29, 30, 31, 32, 33, 34, 35, 36, 37, 38, 39, 40, 41, 42, 43, 44, 45, 46, 47, 48, 49, 50, 51, 52, 53, 54, 55, 56, 57] (by decide +kernel) (by decide +kernel)
set_option maxRecDepth 20000 in
theorem gX9_fillRow_X9_fillLevels : GoodIn wsX9_fillRow (wsV RX9 305 RX9 yX9_fillLevels wsX9_fillLevels) := goodIn_app (goodIn_of _ (by decide +kernel)) ggX9_fillRow_X9_fillLevels
set_option maxRecDepth 20000 in
theorem ggX9_solves_X9_clears : GoodIn wsX9_solves wsX9_clears := goodIn_r _ [10, 2, 11, 12, 13, 9, 14, 15, 16, 17, 18, 19, 20, 21, 22, 23, 24, 25, 26, 27, 28, 29, 30, 31, 32, 33, 34, 35, 36, 37, 38, 39, 40, 41, 42, 43, 44, 45, 46, 47, 48, 49, 50, 51, 52, 53, 54, 55, 56] (by decide +kernel) (by decide +kernel)
set_option maxRecDepth 20000 in
theorem gX9_solves_X9_clears : GoodIn wsX9_solves (wsV RX9 313 RX9 yX9_clears wsX9_clears) := goodIn_app (goodIn_of _ (by decide +kernel)) ggX9_solves_X9_clears
set_option maxRecDepth 20000 in
theorem ggX9_clears_X9_inverse : GoodIn wsX9_clears wsX9_inverse := goodIn_r _ [6, 7, 2] (by decide +kernel) (by decide +kernel)
set_option maxRecDepth 20000 in
theorem gX9_clears_X9_inverse : GoodIn wsX9_clears (va_wsS RX9 317 yX9_inverse wsX9_inverse) := goodIn_app (goodIn_of _ (by decide +kernel)) ggX9_clears_X9_inverse
set_option maxRecDepth 20000 in
theorem ggX9_rule_X9_isBetween : GoodIn wsX9_rule wsX9_isBetween := goodIn_r _ [7, 8, 9, 10, 46, 47, 48, 49, 50, 51, 52, 53, 54, 55, 56, 57, 58, 59, 60, 61, 62, 63, 64, 65, 66, 67, 68, 69, 70, 71, 72, 73, 74, 75, 76, 77, 78, 79, 80, 81, 82, 83, 84, 85, 86] (by decide +kernel) (by decide +kernel)
set_option maxRecDepth 20000 in
theorem gX9_rule_X9_isBetween : GoodIn wsX9_rule (wsV RX9 302 RX9 yX9_isBetween wsX9_isBetween) := goodIn_app (goodIn_of _ (by decide +kernel)) ggX9_rule_X9_isBetween
set_option maxRecDepth 20000 in
theorem ggX9_rule_X9_refuse : GoodIn wsX9_rule wsX9_refuse := goodIn_r _ [14, 2, 46, 47, 48, 49, 50, 51, 52, 53, 54, 55, 56, 57, 58, 59, 60, 61, 62, 63, 64, 65, 66, 67, 68, 69, 70, 71, 72, 73, 74, 75, 76, 77, 78, 79, 80, 81, 82, 83, 84, 85, 86] (by decide +kernel) (by decide +kernel)
set_option maxRecDepth 20000 in
theorem gX9_rule_X9_refuse : GoodIn wsX9_rule (wsV RX9 156 RX9 yX9_refuse wsX9_refuse) := goodIn_app (goodIn_of _ (by decide +kernel)) ggX9_rule_X9_refuse
set_option maxRecDepth 20000 in
theorem ggX9_rule_X9_fillRow : GoodIn wsX9_rule wsX9_fillRow := goodIn_r _ [18, 19, 8, 20, 10, 9, 21, 22, 23, 24, 25, 26, 6, 27, 28, 29, 30, 46, 47, 48, 49, 50, 51, 52, 53, 54, 55, 56, 57, 58, 59, 60, 61, 62, 63, 64, 65, 66, 67, 68, 69, 70, 71, 72, 73, 74, 75, 76, 77, 78, 79, 80, 81, 82, 83, 84, 85, 86] (by decide +kernel) (by decide +kernel)
set_option maxRecDepth 20000 in
theorem gX9_rule_X9_fillRow : GoodIn wsX9_rule (wsV RX9 321 RX9 yX9_fillRow wsX9_fillRow) := goodIn_app (goodIn_of _ (by decide +kernel)) ggX9_rule_X9_fillRow
set_option maxRecDepth 20000 in
theorem ggX9_rule_X9_solves : GoodIn wsX9_rule wsX9_solves := goodIn_r _ [34, 9, 35, 20, 36, 37, 38, 39, 40, 6, 41, 23, 42, 43, 44, 45, 46, 47, 48, 49, 50, 51, 52, 53, 54, 55, 56, 57, 58, 59, 60, 61, 62, 63, 64, 65, 66, 67, 68, 69, 70, 71, 72, 73, 74, 75, 76, 77, 78, 79, 80, 81, 82, 83, 84, 85, 86] (by decide +kernel) (by decide +kernel)
set_option maxRecDepth 20000 in
theorem gX9_rule_X9_solves : GoodIn wsX9_rule (wsV RX9 324 RX9 yX9_solves wsX9_solves) := goodIn_app (goodIn_of _ (by decide +kernel)) ggX9_rule_X9_solves
set_option maxRecDepth 20000 in
theorem ggX9_part_X9_refuse : GoodIn wsX9_part wsX9_refuse := goodIn_r _ [9, 2, 10, 11, 12, 13, 14, 15, 16, 17, 18, 19, 20, 21, 22, 23, 24, 25, 26, 27, 28, 29, 30, 31, 32, 33, 34, 35, 36, 37, 38, 39, 40, 41, 42, 43, 44, 45, 46, 47, 48, 49, 50] (by decide +kernel) (by decide +kernel)
set_option maxRecDepth 20000 in
theorem gX9_part_X9_refuse : GoodIn wsX9_part (wsV RX9 156 RX9 yX9_refuse wsX9_refuse) := goodIn_app (goodIn_of _ (by decide +kernel)) ggX9_part_X9_refuse
