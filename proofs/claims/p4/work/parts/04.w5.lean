set_option maxRecDepth 20000 in
theorem ggX9_weighed_X9_areOpen : GoodIn wsX9_weighed wsX9_areOpen := goodIn_r _ [10, 11, 12, 13, 14, 15, 16, 17, 4, 18, 6, 19, 20, 21, 22, 23, 24, 25, 26, 27, 28, 29, 30, 31, 32, 33, 34, 35, 36, 37, 38, 39, 40, 41, 42, 43, 44, 45, 46, 47, 48, 49, 50, 51, 52, 53, 54, 55, 56, 57, 58, 59, 60, 61, 62, 63, 64, 65, 66, 67, 68, 69, 70, 71, 72] (by decide +kernel) (by decide +kernel)
set_option maxRecDepth 20000 in
theorem gX9_weighed_X9_areOpen : GoodIn wsX9_weighed (wsV RX9 186 RX9 yX9_areOpen wsX9_areOpen) := goodIn_app (goodIn_of _ (by decide +kernel)) ggX9_weighed_X9_areOpen
set_option maxRecDepth 20000 in
theorem ggX9_sum_X9_weighed : GoodIn wsX9_sum wsX9_weighed := goodIn_r _ [8, 9, 10, 11, 7, 12, 13, 14, 15, 16, 17, 18, 19, 20, 21, 22, 23, 24, 25, 26, 27, 28, 29, 30, 31, 32, 33, 34, 35, 36, 37, 38, 71, 72, 73, 74, 75, 76, 77, 78, 79, 80, 81, 82, 83, 84, 85, 86, 87, 88, 89, 90, 91, 92, 93, 94, 95, 96, 97, 98, 99, 100, 101, 102, 103, 104, 105, 106, 107, 108, 109, 110, 111] (by decide +kernel) (by decide +kernel)
set_option maxRecDepth 20000 in
theorem gX9_sum_X9_weighed : GoodIn wsX9_sum (wsV RX9 197 RX9 yX9_weighed wsX9_weighed) := goodIn_app (goodIn_of _ (by decide +kernel)) ggX9_sum_X9_weighed
set_option maxRecDepth 20000 in
theorem ggX9_sum_X9_turns : GoodIn wsX9_sum wsX9_turns := goodIn_r _ [42, 18, 19, 20, 21, 43, 44, 45, 36, 37, 7, 38, 46, 47, 48, 49, 50, 51, 13, 35, 52, 53, 54, 55, 56, 57, 22, 23, 24, 25, 26, 27, 28, 29, 30, 31, 32, 33, 34, 58, 59, 60, 61, 71, 72, 73, 74, 75, 76, 77, 78, 79, 80, 81, 82, 83, 84, 85, 86, 87, 88, 89, 90, 91, 92, 93, 94, 95, 96, 97, 98, 99, 100, 101, 102, 103, 104, 105, 106, 107, 108, 109, 110, 111] (by decide +kernel) (by decide +kernel)
set_option maxRecDepth 20000 in
theorem gX9_sum_X9_turns : GoodIn wsX9_sum (wsV RX9 202 RX9 yX9_turns wsX9_turns) := goodIn_app (goodIn_of _ (by decide +kernel)) ggX9_sum_X9_turns
set_option maxRecDepth 20000 in
theorem ggX9_sum_X9_weights : GoodIn wsX9_sum wsX9_weights := goodIn_r _ [65, 43, 18, 19, 45, 44, 20, 21, 36, 37, 7, 38, 52, 53, 54, 55, 56, 57, 22, 23, 24, 25, 13, 26, 27, 28, 29, 30, 31, 32, 33, 34, 35, 46, 47, 48, 49, 50, 51, 66, 67, 68, 69, 70, 71, 72, 73, 74, 75, 76, 77, 78, 79, 80, 81, 82, 83, 84, 85, 86, 87, 88, 89, 90, 91, 92, 93, 94, 95, 96, 97, 98, 99, 100, 101, 102, 103, 104, 105, 106, 107, 108, 109, 110, 111] (by decide +kernel) (by decide +kernel)
set_option maxRecDepth 20000 in
theorem gX9_sum_X9_weights : GoodIn wsX9_sum (wsV RX9 206 RX9 yX9_weights wsX9_weights) := goodIn_app (goodIn_of _ (by decide +kernel)) ggX9_sum_X9_weights
set_option maxRecDepth 20000 in
theorem ggX9_weights_X9_squareOf : GoodIn wsX9_weights wsX9_squareOf := goodIn_r _ [11] (by decide +kernel) (by decide +kernel)
set_option maxRecDepth 20000 in
theorem gX9_weights_X9_squareOf : GoodIn wsX9_weights (va_wsS RX9 144 yX9_squareOf wsX9_squareOf) := goodIn_app (goodIn_of _ (by decide +kernel)) ggX9_weights_X9_squareOf
set_option maxRecDepth 20000 in
theorem ggX9_weights_X9_xOf : GoodIn wsX9_weights wsX9_xOf := goodIn_r _ [14] (by decide +kernel) (by decide +kernel)
set_option maxRecDepth 20000 in
theorem gX9_weights_X9_xOf : GoodIn wsX9_weights (va_wsS RX9 147 yX9_xOf wsX9_xOf) := goodIn_app (goodIn_of _ (by decide +kernel)) ggX9_weights_X9_xOf
set_option maxRecDepth 20000 in
theorem ggX9_weights_X9_yOf : GoodIn wsX9_weights wsX9_yOf := goodIn_r _ [17] (by decide +kernel) (by decide +kernel)
set_option maxRecDepth 20000 in
theorem gX9_weights_X9_yOf : GoodIn wsX9_weights (va_wsS RX9 150 yX9_yOf wsX9_yOf) := goodIn_app (goodIn_of _ (by decide +kernel)) ggX9_weights_X9_yOf
set_option maxRecDepth 20000 in
theorem ggX9_weights_X9_isOpen : GoodIn wsX9_weights wsX9_isOpen := goodIn_r _ [21, 22, 23, 24, 25, 10, 26, 27, 28, 29, 30, 31, 32, 8, 9, 11, 44, 45, 46, 47, 48, 49, 50, 51, 52, 53, 54, 55, 56, 57, 58, 59, 60, 61, 62, 63, 64, 65, 66, 67, 68, 69, 70, 71, 72, 73, 74, 75, 76, 77, 78, 79, 80, 81, 82, 83, 84] (by decide +kernel) (by decide +kernel)
set_option maxRecDepth 20000 in
theorem gX9_weights_X9_isOpen : GoodIn wsX9_weights (wsV RX9 153 RX9 yX9_isOpen wsX9_isOpen) := goodIn_app (goodIn_of _ (by decide +kernel)) ggX9_weights_X9_isOpen
set_option maxRecDepth 20000 in
theorem ggX9_weights_X9_next : GoodIn wsX9_weights wsX9_next := goodIn_r _ [36, 37, 38, 22, 32, 12, 13, 10, 14, 15, 16, 17, 18, 19, 20, 21, 23, 24, 25, 26, 27, 28, 29, 30, 31, 8, 9, 11, 44, 45, 46, 47, 48, 49, 50, 51, 52, 53, 54, 55, 56, 57, 58, 59, 60, 61, 62, 63, 64, 65, 66, 67, 68, 69, 70, 71, 72, 73, 74, 75, 76, 77, 78, 79, 80, 81, 82, 83, 84] (by decide +kernel) (by decide +kernel)
set_option maxRecDepth 20000 in
theorem gX9_weights_X9_next : GoodIn wsX9_weights (wsV RX9 175 RX9 yX9_next wsX9_next) := goodIn_app (goodIn_of _ (by decide +kernel)) ggX9_weights_X9_next
set_option maxRecDepth 20000 in
theorem ggX9_weights_X9_adds : GoodIn wsX9_weights wsX9_adds := goodIn_r _ [42, 43, 15, 16, 10, 17, 44, 45, 46, 47, 48, 49, 50, 51, 52, 53, 54, 55, 56, 57, 58, 59, 60, 61, 62, 63, 64, 65, 66, 67, 68, 69, 70, 71, 72, 73, 74, 75, 76, 77, 78, 79, 80, 81, 82, 83, 84] (by decide +kernel) (by decide +kernel)
set_option maxRecDepth 20000 in
theorem gX9_weights_X9_adds : GoodIn wsX9_weights (wsV RX9 210 RX9 yX9_adds wsX9_adds) := goodIn_app (goodIn_of _ (by decide +kernel)) ggX9_weights_X9_adds
set_option maxRecDepth 20000 in
theorem ggX9_turns_X9_squareOf : GoodIn wsX9_turns wsX9_squareOf := goodIn_r _ [11] (by decide +kernel) (by decide +kernel)
set_option maxRecDepth 20000 in
theorem gX9_turns_X9_squareOf : GoodIn wsX9_turns (va_wsS RX9 144 yX9_squareOf wsX9_squareOf) := goodIn_app (goodIn_of _ (by decide +kernel)) ggX9_turns_X9_squareOf
set_option maxRecDepth 20000 in
theorem ggX9_turns_X9_next : GoodIn wsX9_turns wsX9_next := goodIn_r _ [15, 16, 17, 18, 19, 20, 21, 10, 22, 23, 24, 25, 26, 27, 28, 29, 30, 31, 32, 33, 34, 35, 36, 37, 38, 8, 9, 11, 43, 44, 45, 46, 47, 48, 49, 50, 51, 52, 53, 54, 55, 56, 57, 58, 59, 60, 61, 62, 63, 64, 65, 66, 67, 68, 69, 70, 71, 72, 73, 74, 75, 76, 77, 78, 79, 80, 81, 82, 83] (by decide +kernel) (by decide +kernel)
set_option maxRecDepth 20000 in
theorem gX9_turns_X9_next : GoodIn wsX9_turns (wsV RX9 175 RX9 yX9_next wsX9_next) := goodIn_app (goodIn_of _ (by decide +kernel)) ggX9_turns_X9_next
set_option maxRecDepth 20000 in
theorem ggX9_turns_X9_goesOn : GoodIn wsX9_turns wsX9_goesOn := goodIn_r _ [42, 6, 7, 5, 12, 13, 14, 10, 15, 16, 17, 18, 19, 20, 21, 22, 23, 24, 25, 26, 27, 28, 29, 30, 31, 32, 33, 34, 35, 36, 37, 38, 8, 9, 11, 43, 44, 45, 46, 47, 48, 49, 50, 51, 52, 53, 54, 55, 56, 57, 58, 59, 60, 61, 62, 63, 64, 65, 66, 67, 68, 69, 70, 71, 72, 73, 74, 75, 76, 77, 78, 79, 80, 81, 82, 83] (by decide +kernel) (by decide +kernel)
set_option maxRecDepth 20000 in
theorem gX9_turns_X9_goesOn : GoodIn wsX9_turns (wsV RX9 214 RX9 yX9_goesOn wsX9_goesOn) := goodIn_app (goodIn_of _ (by decide +kernel)) ggX9_turns_X9_goesOn
set_option maxRecDepth 20000 in
theorem ggX9_goesOn_X9_next : GoodIn wsX9_goesOn wsX9_next := goodIn_r _ [8, 9, 10, 11, 12, 13, 14, 7, 15, 16, 17, 18, 19, 20, 21, 22, 23, 24, 25, 26, 27, 28, 29, 30, 31, 32, 33, 34, 35, 36, 37, 38, 39, 40, 41, 42, 43, 44, 45, 46, 47, 48, 49, 50, 51, 52, 53, 54, 55, 56, 57, 58, 59, 60, 61, 62, 63, 64, 65, 66, 67, 68, 69, 70, 71, 72, 73, 74, 75] (by decide +kernel) (by decide +kernel)
set_option maxRecDepth 20000 in
theorem gX9_goesOn_X9_next : GoodIn wsX9_goesOn (wsV RX9 175 RX9 yX9_next wsX9_next) := goodIn_app (goodIn_of _ (by decide +kernel)) ggX9_goesOn_X9_next
set_option maxRecDepth 20000 in
theorem ggX9_best_X9_weighed : GoodIn wsX9_best wsX9_weighed := goodIn_r _ [13, 14, 15, 16, 12, 17, 18, 19, 20, 21, 22, 4, 5, 7, 8, 23, 24, 25, 26, 27, 28, 29, 30, 31, 32, 33, 34, 35, 36, 37, 38, 39, 76, 77, 78, 79, 80, 81, 82, 83, 84, 85, 86, 87, 88, 89, 90, 91, 92, 93, 94, 95, 96, 97, 98, 99, 100, 101, 102, 103, 104, 105, 106, 107, 108, 109, 110, 111, 112, 113, 114, 115, 116] (by decide +kernel) (by decide +kernel)
set_option maxRecDepth 20000 in
theorem gX9_best_X9_weighed : GoodIn wsX9_best (wsV RX9 197 RX9 yX9_weighed wsX9_weighed) := goodIn_app (goodIn_of _ (by decide +kernel)) ggX9_best_X9_weighed
set_option maxRecDepth 20000 in
theorem ggX9_best_X9_squareOf : GoodIn wsX9_best wsX9_squareOf := goodIn_r _ [39] (by decide +kernel) (by decide +kernel)
set_option maxRecDepth 20000 in
theorem gX9_best_X9_squareOf : GoodIn wsX9_best (va_wsS RX9 144 yX9_squareOf wsX9_squareOf) := goodIn_app (goodIn_of _ (by decide +kernel)) ggX9_best_X9_squareOf
set_option maxRecDepth 20000 in
theorem ggX9_best_X9_lightens : GoodIn wsX9_best wsX9_lightens := goodIn_r _ [43, 44, 3, 6, 45, 46, 47, 12, 48, 49, 50, 18, 36, 51, 52, 53, 54, 55, 56, 23, 24, 25, 26, 27, 28, 29, 30, 31, 32, 33, 34, 35, 37, 38, 39, 57, 58, 59, 60, 61, 62, 63, 64, 65, 66, 67, 68, 69, 70, 71, 76, 77, 78, 79, 80, 81, 82, 83, 84, 85, 86, 87, 88, 89, 90, 91, 92, 93, 94, 95, 96, 97, 98, 99, 100, 101, 102, 103, 104, 105, 106, 107, 108, 109, 110, 111, 112, 113, 114, 115, 116] (by decide +kernel) (by decide +kernel)
set_option maxRecDepth 20000 in
theorem gX9_best_X9_lightens : GoodIn wsX9_best (wsV RX9 218 RX9 yX9_lightens wsX9_lightens) := goodIn_app (goodIn_of _ (by decide +kernel)) ggX9_best_X9_lightens
set_option maxRecDepth 20000 in
theorem ggX9_best_X9_better : GoodIn wsX9_best wsX9_better := goodIn_r _ [64, 65, 66, 67, 68, 69, 70, 71] (by decide +kernel) (by decide +kernel)
set_option maxRecDepth 20000 in
theorem gX9_best_X9_better : GoodIn wsX9_best (va_wsS RX9 222 yX9_better wsX9_better) := goodIn_app (goodIn_of _ (by decide +kernel)) ggX9_best_X9_better
set_option maxRecDepth 20000 in
theorem ggX9_best_X9_refuse : GoodIn wsX9_best wsX9_refuse := goodIn_r _ [75, 2, 76, 77, 78, 79, 80, 81, 82, 83, 84, 85, 86, 87, 88, 89, 90, 91, 92, 93, 94, 95, 96, 97, 98, 99, 100, 101, 102, 103, 104, 105, 106, 107, 108, 109, 110, 111, 112, 113, 114, 115, 116] (by decide +kernel) (by decide +kernel)
set_option maxRecDepth 20000 in
theorem gX9_best_X9_refuse : GoodIn wsX9_best (wsV RX9 156 RX9 yX9_refuse wsX9_refuse) := goodIn_app (goodIn_of _ (by decide +kernel)) ggX9_best_X9_refuse
set_option maxRecDepth 20000 in
theorem ggX9_lightens_X9_next : GoodIn wsX9_lightens wsX9_next := goodIn_r _ [8, 9, 10, 11, 12, 13, 14, 7, 15, 16, 17, 18, 19, 20, 21, 22, 23, 24, 25, 26, 27, 28, 29, 30, 31, 32, 33, 34, 50, 51, 52, 53, 54, 55, 56, 57, 58, 59, 60, 61, 62, 63, 64, 65, 66, 67, 68, 69, 70, 71, 72, 73, 74, 75, 76, 77, 78, 79, 80, 81, 82, 83, 84, 85, 86, 87, 88, 89, 90] (by decide +kernel) (by decide +kernel)
set_option maxRecDepth 20000 in
theorem gX9_lightens_X9_next : GoodIn wsX9_lightens (wsV RX9 175 RX9 yX9_next wsX9_next) := goodIn_app (goodIn_of _ (by decide +kernel)) ggX9_lightens_X9_next
set_option maxRecDepth 20000 in
theorem ggX9_lightens_X9_adds : GoodIn wsX9_lightens wsX9_adds := goodIn_r _ [38, 39, 16, 17, 7, 18, 50, 51, 52, 53, 54, 55, 56, 57, 58, 59, 60, 61, 62, 63, 64, 65, 66, 67, 68, 69, 70, 71, 72, 73, 74, 75, 76, 77, 78, 79, 80, 81, 82, 83, 84, 85, 86, 87, 88, 89, 90] (by decide +kernel) (by decide +kernel)
set_option maxRecDepth 20000 in
theorem gX9_lightens_X9_adds : GoodIn wsX9_lightens (wsV RX9 210 RX9 yX9_adds wsX9_adds) := goodIn_app (goodIn_of _ (by decide +kernel)) ggX9_lightens_X9_adds
set_option maxRecDepth 20000 in
theorem ggX9_lightens_X9_better : GoodIn wsX9_lightens wsX9_better := goodIn_r _ [42, 43, 44, 45, 46, 47, 48, 49] (by decide +kernel) (by decide +kernel)
set_option maxRecDepth 20000 in
theorem gX9_lightens_X9_better : GoodIn wsX9_lightens (va_wsS RX9 222 yX9_better wsX9_better) := goodIn_app (goodIn_of _ (by decide +kernel)) ggX9_lightens_X9_better
set_option maxRecDepth 20000 in
theorem ggX9_walk_X9_refuse : GoodIn wsX9_walk wsX9_refuse := goodIn_r _ [13, 2, 62, 63, 64, 65, 66, 67, 68, 69, 70, 71, 72, 73, 74, 75, 76, 77, 78, 79, 80, 81, 82, 83, 84, 85, 86, 87, 88, 89, 90, 91, 92, 93, 94, 95, 96, 97, 98, 99, 100, 101, 102] (by decide +kernel) (by decide +kernel)
set_option maxRecDepth 20000 in
theorem gX9_walk_X9_refuse : GoodIn wsX9_walk (wsV RX9 156 RX9 yX9_refuse wsX9_refuse) := goodIn_app (goodIn_of _ (by decide +kernel)) ggX9_walk_X9_refuse
set_option maxRecDepth 20000 in
theorem ggX9_walk_X9_areOpen : GoodIn wsX9_walk wsX9_areOpen := goodIn_r _ [17, 5, 6, 18, 19, 20, 21, 22, 12, 23, 24, 25, 26, 27, 28, 29, 30, 31, 32, 33, 34, 35, 36, 37, 62, 63, 64, 65, 66, 67, 68, 69, 70, 71, 72, 73, 74, 75, 76, 77, 78, 79, 80, 81, 82, 83, 84, 85, 86, 87, 88, 89, 90, 91, 92, 93, 94, 95, 96, 97, 98, 99, 100, 101, 102] (by decide +kernel) (by decide +kernel)
set_option maxRecDepth 20000 in
theorem gX9_walk_X9_areOpen : GoodIn wsX9_walk (wsV RX9 186 RX9 yX9_areOpen wsX9_areOpen) := goodIn_app (goodIn_of _ (by decide +kernel)) ggX9_walk_X9_areOpen
set_option maxRecDepth 20000 in
theorem ggX9_walk_X9_countOf : GoodIn wsX9_walk wsX9_countOf := goodIn_r _ [41, 7, 5, 6, 42, 43, 44, 12, 45, 18, 19, 46, 47, 48, 49, 50, 51, 52, 20, 21, 22, 23, 24, 25, 26, 27, 28, 29, 30, 31, 32, 33, 34, 35, 36, 37, 53, 54, 55, 56, 57, 58, 59, 60, 61, 3, 62, 63, 64, 65, 66, 67, 68, 69, 70, 71, 72, 73, 74, 75, 76, 77, 78, 79, 80, 81, 82, 83, 84, 85, 86, 87, 88, 89, 90, 91, 92, 93, 94, 95, 96, 97, 98, 99, 100, 101, 102] (by decide +kernel) (by decide +kernel)
set_option maxRecDepth 20000 in
theorem gX9_walk_X9_countOf : GoodIn wsX9_walk (wsV RX9 190 RX9 yX9_countOf wsX9_countOf) := goodIn_app (goodIn_of _ (by decide +kernel)) ggX9_walk_X9_countOf
set_option maxRecDepth 20000 in
theorem ggX9_walk_X9_squareOf : GoodIn wsX9_walk wsX9_squareOf := goodIn_r _ [37] (by decide +kernel) (by decide +kernel)
set_option maxRecDepth 20000 in
theorem gX9_walk_X9_squareOf : GoodIn wsX9_walk (va_wsS RX9 144 yX9_squareOf wsX9_squareOf) := goodIn_app (goodIn_of _ (by decide +kernel)) ggX9_walk_X9_squareOf
set_option maxRecDepth 20000 in
theorem ggX9_walk_X9_next : GoodIn wsX9_walk wsX9_next := goodIn_r _ [56, 57, 58, 24, 34, 47, 48, 12, 49, 50, 51, 52, 20, 21, 22, 23, 25, 26, 27, 28, 29, 30, 31, 32, 33, 35, 36, 37, 62, 63, 64, 65, 66, 67, 68, 69, 70, 71, 72, 73, 74, 75, 76, 77, 78, 79, 80, 81, 82, 83, 84, 85, 86, 87, 88, 89, 90, 91, 92, 93, 94, 95, 96, 97, 98, 99, 100, 101, 102] (by decide +kernel) (by decide +kernel)
set_option maxRecDepth 20000 in
theorem gX9_walk_X9_next : GoodIn wsX9_walk (wsV RX9 175 RX9 yX9_next wsX9_next) := goodIn_app (goodIn_of _ (by decide +kernel)) ggX9_walk_X9_next
set_option maxRecDepth 20000 in
theorem ggX9_number_X9_refuse : GoodIn wsX9_number wsX9_refuse := goodIn_r _ [16, 2, 62, 63, 64, 65, 66, 67, 68, 69, 70, 71, 72, 73, 74, 75, 76, 77, 78, 79, 80, 81, 82, 83, 84, 85, 86, 87, 88, 89, 90, 91, 92, 93, 94, 95, 96, 97, 98, 99, 100, 101, 102] (by decide +kernel) (by decide +kernel)
set_option maxRecDepth 20000 in
theorem gX9_number_X9_refuse : GoodIn wsX9_number (wsV RX9 156 RX9 yX9_refuse wsX9_refuse) := goodIn_app (goodIn_of _ (by decide +kernel)) ggX9_number_X9_refuse
set_option maxRecDepth 20000 in
theorem ggX9_number_X9_areOpen : GoodIn wsX9_number wsX9_areOpen := goodIn_r _ [20, 4, 5, 9, 10, 21, 22, 23, 15, 24, 25, 26, 27, 28, 29, 30, 31, 32, 33, 34, 35, 36, 37, 38, 62, 63, 64, 65, 66, 67, 68, 69, 70, 71, 72, 73, 74, 75, 76, 77, 78, 79, 80, 81, 82, 83, 84, 85, 86, 87, 88, 89, 90, 91, 92, 93, 94, 95, 96, 97, 98, 99, 100, 101, 102] (by decide +kernel) (by decide +kernel)
set_option maxRecDepth 20000 in
theorem gX9_number_X9_areOpen : GoodIn wsX9_number (wsV RX9 186 RX9 yX9_areOpen wsX9_areOpen) := goodIn_app (goodIn_of _ (by decide +kernel)) ggX9_number_X9_areOpen
set_option maxRecDepth 20000 in
theorem ggX9_number_X9_countOf : GoodIn wsX9_number wsX9_countOf := goodIn_r _ [42, 8, 4, 5, 43, 44, 45, 15, 46, 9, 10, 7, 47, 48, 49, 50, 51, 52, 21, 22, 23, 24, 25, 26, 27, 28, 29, 30, 31, 32, 33, 34, 35, 36, 37, 38, 53, 54, 55, 56, 57, 58, 59, 60, 61, 11, 62, 63, 64, 65, 66, 67, 68, 69, 70, 71, 72, 73, 74, 75, 76, 77, 78, 79, 80, 81, 82, 83, 84, 85, 86, 87, 88, 89, 90, 91, 92, 93, 94, 95, 96, 97, 98, 99, 100, 101, 102] (by decide +kernel) (by decide +kernel)
set_option maxRecDepth 20000 in
theorem gX9_number_X9_countOf : GoodIn wsX9_number (wsV RX9 190 RX9 yX9_countOf wsX9_countOf) := goodIn_app (goodIn_of _ (by decide +kernel)) ggX9_number_X9_countOf
set_option maxRecDepth 20000 in
theorem ggX9_number_X9_squareOf : GoodIn wsX9_number wsX9_squareOf := goodIn_r _ [38] (by decide +kernel) (by decide +kernel)
set_option maxRecDepth 20000 in
theorem gX9_number_X9_squareOf : GoodIn wsX9_number (va_wsS RX9 144 yX9_squareOf wsX9_squareOf) := goodIn_app (goodIn_of _ (by decide +kernel)) ggX9_number_X9_squareOf
set_option maxRecDepth 20000 in
theorem ggX9_number_X9_next : GoodIn wsX9_number wsX9_next := goodIn_r _ [56, 57, 58, 25, 35, 47, 48, 15, 49, 50, 51, 52, 21, 22, 23, 24, 26, 27, 28, 29, 30, 31, 32, 33, 34, 36, 37, 38, 62, 63, 64, 65, 66, 67, 68, 69, 70, 71, 72, 73, 74, 75, 76, 77, 78, 79, 80, 81, 82, 83, 84, 85, 86, 87, 88, 89, 90, 91, 92, 93, 94, 95, 96, 97, 98, 99, 100, 101, 102] (by decide +kernel) (by decide +kernel)
set_option maxRecDepth 20000 in
theorem gX9_number_X9_next : GoodIn wsX9_number (wsV RX9 175 RX9 yX9_next wsX9_next) := goodIn_app (goodIn_of _ (by decide +kernel)) ggX9_number_X9_next
set_option maxRecDepth 20000 in
theorem ggX9_number_X9_plus : GoodIn wsX9_number wsX9_plus := goodIn_r _ [61, 11] (by decide +kernel) (by decide +kernel)
set_option maxRecDepth 20000 in
theorem gX9_number_X9_plus : GoodIn wsX9_number (va_wsS RX9 178 yX9_plus wsX9_plus) := goodIn_app (goodIn_of _ (by decide +kernel)) ggX9_number_X9_plus
set_option maxRecDepth 20000 in
theorem ggX9_draw_X9_refuse : GoodIn wsX9_draw wsX9_refuse := goodIn_r _ [12, 2, 70, 71, 72, 73, 74, 75, 76, 77, 78, 79, 80, 81, 82, 83, 84, 85, 86, 87, 88, 89, 90, 91, 92, 93, 94, 95, 96, 97, 98, 99, 100, 101, 102, 103, 104, 105, 106, 107, 108, 109, 110] (by decide +kernel) (by decide +kernel)
set_option maxRecDepth 20000 in
theorem gX9_draw_X9_refuse : GoodIn wsX9_draw (wsV RX9 156 RX9 yX9_refuse wsX9_refuse) := goodIn_app (goodIn_of _ (by decide +kernel)) ggX9_draw_X9_refuse
set_option maxRecDepth 20000 in
theorem ggX9_draw_X9_areOpen : GoodIn wsX9_draw wsX9_areOpen := goodIn_r _ [16, 17, 18, 19, 20, 21, 22, 23, 11, 24, 25, 26, 27, 28, 29, 30, 31, 32, 33, 34, 35, 36, 37, 38, 70, 71, 72, 73, 74, 75, 76, 77, 78, 79, 80, 81, 82, 83, 84, 85, 86, 87, 88, 89, 90, 91, 92, 93, 94, 95, 96, 97, 98, 99, 100, 101, 102, 103, 104, 105, 106, 107, 108, 109, 110] (by decide +kernel) (by decide +kernel)
set_option maxRecDepth 20000 in
theorem gX9_draw_X9_areOpen : GoodIn wsX9_draw (wsV RX9 186 RX9 yX9_areOpen wsX9_areOpen) := goodIn_app (goodIn_of _ (by decide +kernel)) ggX9_draw_X9_areOpen
set_option maxRecDepth 20000 in
theorem ggX9_draw_X9_countOf : GoodIn wsX9_draw wsX9_countOf := goodIn_r _ [42, 43, 17, 18, 44, 45, 46, 11, 47, 19, 20, 48, 49, 50, 51, 52, 53, 54, 21, 22, 23, 24, 25, 26, 27, 28, 29, 30, 31, 32, 33, 34, 35, 36, 37, 38, 55, 56, 57, 58, 59, 60, 61, 62, 63, 3, 70, 71, 72, 73, 74, 75, 76, 77, 78, 79, 80, 81, 82, 83, 84, 85, 86, 87, 88, 89, 90, 91, 92, 93, 94, 95, 96, 97, 98, 99, 100, 101, 102, 103, 104, 105, 106, 107, 108, 109, 110] (by decide +kernel) (by decide +kernel)
set_option maxRecDepth 20000 in
theorem gX9_draw_X9_countOf : GoodIn wsX9_draw (wsV RX9 190 RX9 yX9_countOf wsX9_countOf) := goodIn_app (goodIn_of _ (by decide +kernel)) ggX9_draw_X9_countOf
set_option maxRecDepth 20000 in
theorem ggX9_draw_X9_drawn : GoodIn wsX9_draw wsX9_drawn := goodIn_r _ [66, 67, 68, 69] (by decide +kernel) (by decide +kernel)
set_option maxRecDepth 20000 in
theorem gX9_draw_X9_drawn : GoodIn wsX9_draw (va_wsS RX9 243 yX9_drawn wsX9_drawn) := goodIn_app (goodIn_of _ (by decide +kernel)) ggX9_draw_X9_drawn
set_option maxRecDepth 20000 in
theorem ggX9_mirror_X9_refuse : GoodIn wsX9_mirror wsX9_refuse := goodIn_r _ [25, 2, 56, 57, 58, 59, 60, 61, 62, 63, 64, 65, 66, 67, 68, 69, 70, 71, 72, 73, 74, 75, 76, 77, 78, 79, 80, 81, 82, 83, 84, 85, 86, 87, 88, 89, 90, 91, 92, 93, 94, 95, 96] (by decide +kernel) (by decide +kernel)
set_option maxRecDepth 20000 in
theorem gX9_mirror_X9_refuse : GoodIn wsX9_mirror (wsV RX9 156 RX9 yX9_refuse wsX9_refuse) := goodIn_app (goodIn_of _ (by decide +kernel)) ggX9_mirror_X9_refuse
set_option maxRecDepth 20000 in
theorem ggX9_mirror_X9_isMirrored : GoodIn wsX9_mirror wsX9_isMirrored := goodIn_r _ [29, 17, 18, 19, 56, 57, 58, 59, 60, 61, 62, 63, 64, 65, 66, 67, 68, 69, 70, 71, 72, 73, 74, 75, 76, 77, 78, 79, 80, 81, 82, 83, 84, 85, 86, 87, 88, 89, 90, 91, 92, 93, 94, 95, 96] (by decide +kernel) (by decide +kernel)
set_option maxRecDepth 20000 in
theorem gX9_mirror_X9_isMirrored : GoodIn wsX9_mirror (wsV RX9 250 RX9 yX9_isMirrored wsX9_isMirrored) := goodIn_app (goodIn_of _ (by decide +kernel)) ggX9_mirror_X9_isMirrored
set_option maxRecDepth 20000 in
theorem ggX9_mirror_X9_areOpen : GoodIn wsX9_mirror wsX9_areOpen := goodIn_r _ [33, 8, 5, 20, 14, 34, 35, 36, 24, 37, 3, 4, 38, 39, 40, 41, 42, 43, 44, 45, 46, 47, 48, 49, 56, 57, 58, 59, 60, 61, 62, 63, 64, 65, 66, 67, 68, 69, 70, 71, 72, 73, 74, 75, 76, 77, 78, 79, 80, 81, 82, 83, 84, 85, 86, 87, 88, 89, 90, 91, 92, 93, 94, 95, 96] (by decide +kernel) (by decide +kernel)
set_option maxRecDepth 20000 in
theorem gX9_mirror_X9_areOpen : GoodIn wsX9_mirror (wsV RX9 186 RX9 yX9_areOpen wsX9_areOpen) := goodIn_app (goodIn_of _ (by decide +kernel)) ggX9_mirror_X9_areOpen
set_option maxRecDepth 20000 in
theorem ggX9_mirror_X9_squareOf : GoodIn wsX9_mirror wsX9_squareOf := goodIn_r _ [49] (by decide +kernel) (by decide +kernel)
set_option maxRecDepth 20000 in
theorem gX9_mirror_X9_squareOf : GoodIn wsX9_mirror (va_wsS RX9 144 yX9_squareOf wsX9_squareOf) := goodIn_app (goodIn_of _ (by decide +kernel)) ggX9_mirror_X9_squareOf
set_option maxRecDepth 20000 in
theorem ggX9_mirror_X9_xOf : GoodIn wsX9_mirror wsX9_xOf := goodIn_r _ [52] (by decide +kernel) (by decide +kernel)
set_option maxRecDepth 20000 in
theorem gX9_mirror_X9_xOf : GoodIn wsX9_mirror (va_wsS RX9 147 yX9_xOf wsX9_xOf) := goodIn_app (goodIn_of _ (by decide +kernel)) ggX9_mirror_X9_xOf
set_option maxRecDepth 20000 in
theorem ggX9_mirror_X9_yOf : GoodIn wsX9_mirror wsX9_yOf := goodIn_r _ [55] (by decide +kernel) (by decide +kernel)
set_option maxRecDepth 20000 in
theorem gX9_mirror_X9_yOf : GoodIn wsX9_mirror (va_wsS RX9 150 yX9_yOf wsX9_yOf) := goodIn_app (goodIn_of _ (by decide +kernel)) ggX9_mirror_X9_yOf
set_option maxRecDepth 20000 in
theorem ggX9_comings_X9_plus : GoodIn wsX9_comings wsX9_plus := goodIn_r _ [9, 10] (by decide +kernel) (by decide +kernel)
set_option maxRecDepth 20000 in
theorem gX9_comings_X9_plus : GoodIn wsX9_comings (va_wsS RX9 178 yX9_plus wsX9_plus) := goodIn_app (goodIn_of _ (by decide +kernel)) ggX9_comings_X9_plus
set_option maxRecDepth 20000 in
theorem ggX9_first_X9_falls : GoodIn wsX9_first wsX9_falls := goodIn_r _ [9, 10, 11, 12, 26, 27, 28, 29, 30, 31, 32, 33, 34, 35, 36, 37, 38, 39, 40, 41, 42, 43, 44, 45, 46, 47, 48, 49, 50, 51, 52, 53, 54, 55, 56, 57, 58, 59, 60, 61, 62, 63, 64, 65, 66] (by decide +kernel) (by decide +kernel)
set_option maxRecDepth 20000 in
theorem gX9_first_X9_falls : GoodIn wsX9_first (wsV RX9 262 RX9 yX9_falls wsX9_falls) := goodIn_app (goodIn_of _ (by decide +kernel)) ggX9_first_X9_falls
set_option maxRecDepth 20000 in
theorem ggX9_first_X9_comings : GoodIn wsX9_first wsX9_comings := goodIn_r _ [16, 17, 12, 18, 10, 11, 19, 20, 8, 21, 4, 26, 27, 28, 29, 30, 31, 32, 33, 34, 35, 36, 37, 38, 39, 40, 41, 42, 43, 44, 45, 46, 47, 48, 49, 50, 51, 52, 53, 54, 55, 56, 57, 58, 59, 60, 61, 62, 63, 64, 65, 66] (by decide +kernel) (by decide +kernel)
set_option maxRecDepth 20000 in
theorem gX9_first_X9_comings : GoodIn wsX9_first (wsV RX9 265 RX9 yX9_comings wsX9_comings) := goodIn_app (goodIn_of _ (by decide +kernel)) ggX9_first_X9_comings
set_option maxRecDepth 20000 in
theorem ggX9_first_X9_refuse : GoodIn wsX9_first wsX9_refuse := goodIn_r _ [25, 2, 26, 27, 28, 29, 30, 31, 32, 33, 34, 35, 36, 37, 38, 39, 40, 41, 42, 43, 44, 45, 46, 47, 48, 49, 50, 51, 52, 53, 54, 55, 56, 57, 58, 59, 60, 61, 62, 63, 64, 65, 66] (by decide +kernel) (by decide +kernel)
set_option maxRecDepth 20000 in
theorem gX9_first_X9_refuse : GoodIn wsX9_first (wsV RX9 156 RX9 yX9_refuse wsX9_refuse) := goodIn_app (goodIn_of _ (by decide +kernel)) ggX9_first_X9_refuse
set_option maxRecDepth 20000 in
theorem ggX9_turnings_X9_falls : GoodIn wsX9_turnings wsX9_falls := goodIn_r _ [9, 10, 11, 12, 26, 27, 28, 29, 30, 31, 32, 33, 34, 35, 36, 37, 38, 39, 40, 41, 42, 43, 44, 45, 46, 47, 48, 49, 50, 51, 52, 53, 54, 55, 56, 57, 58, 59, 60, 61, 62, 63, 64, 65, 66] (by decide +kernel) (by decide +kernel)
set_option maxRecDepth 20000 in
theorem gX9_turnings_X9_falls : GoodIn wsX9_turnings (wsV RX9 262 RX9 yX9_falls wsX9_falls) := goodIn_app (goodIn_of _ (by decide +kernel)) ggX9_turnings_X9_falls
set_option maxRecDepth 20000 in
theorem ggX9_turnings_X9_comings : GoodIn wsX9_turnings wsX9_comings := goodIn_r _ [16, 17, 12, 18, 10, 11, 19, 20, 8, 21, 4, 26, 27, 28, 29, 30, 31, 32, 33, 34, 35, 36, 37, 38, 39, 40, 41, 42, 43, 44, 45, 46, 47, 48, 49, 50, 51, 52, 53, 54, 55, 56, 57, 58, 59, 60, 61, 62, 63, 64, 65, 66] (by decide +kernel) (by decide +kernel)
set_option maxRecDepth 20000 in
theorem gX9_turnings_X9_comings : GoodIn wsX9_turnings (wsV RX9 265 RX9 yX9_comings wsX9_comings) := goodIn_app (goodIn_of _ (by decide +kernel)) ggX9_turnings_X9_comings
set_option maxRecDepth 20000 in
theorem ggX9_turnings_X9_refuse : GoodIn wsX9_turnings wsX9_refuse := goodIn_r _ [25, 2, 26, 27, 28, 29, 30, 31, 32, 33, 34, 35, 36, 37, 38, 39, 40, 41, 42, 43, 44, 45, 46, 47, 48, 49, 50, 51, 52, 53, 54, 55, 56, 57, 58, 59, 60, 61, 62, 63, 64, 65, 66] (by decide +kernel) (by decide +kernel)
set_option maxRecDepth 20000 in
theorem gX9_turnings_X9_refuse : GoodIn wsX9_turnings (wsV RX9 156 RX9 yX9_refuse wsX9_refuse) := goodIn_app (goodIn_of _ (by decide +kernel)) ggX9_turnings_X9_refuse
set_option maxRecDepth 20000 in
theorem ggX9_family_X9_no : GoodIn wsX9_family wsX9_no := goodIn_r _ [12, 2, 13, 14, 15, 16, 17, 18, 19, 20, 21, 22, 23, 24, 25, 26, 27, 28, 29, 30, 31, 32, 33, 34, 35, 36, 37, 38, 39, 40, 41, 42, 43, 44, 45, 46, 47, 48, 49, 50, 51, 52, 53] (by decide +kernel) (by decide +kernel)
set_option maxRecDepth 20000 in
theorem gX9_family_X9_no : GoodIn wsX9_family (wsV RX9 118 RX9 yX9_no wsX9_no) := goodIn_app (goodIn_of _ (by decide +kernel)) ggX9_family_X9_no
set_option maxRecDepth 20000 in
theorem ggX9_place_X9_isSquare : GoodIn wsX9_place wsX9_isSquare := goodIn_r _ [11] (by decide +kernel) (by decide +kernel)
set_option maxRecDepth 20000 in
theorem gX9_place_X9_isSquare : GoodIn wsX9_place (va_wsS RX9 133 yX9_isSquare wsX9_isSquare) := goodIn_app (goodIn_of _ (by decide +kernel)) ggX9_place_X9_isSquare
set_option maxRecDepth 20000 in
theorem ggX9_place_X9_no : GoodIn wsX9_place wsX9_no := goodIn_r _ [15, 2, 16, 17, 18, 19, 20, 21, 22, 23, 24, 25, 26, 27, 28, 29, 30, 31, 32, 33, 34, 35, 36, 37, 38, 39, 40, 41, 42, 43, 44, 45, 46, 47, 48, 49, 50, 51, 52, 53, 54, 55, 56] (by decide +kernel) (by decide +kernel)
set_option maxRecDepth 20000 in
theorem gX9_place_X9_no : GoodIn wsX9_place (wsV RX9 118 RX9 yX9_no wsX9_no) := goodIn_app (goodIn_of _ (by decide +kernel)) ggX9_place_X9_no
set_option maxRecDepth 20000 in
theorem ggX9_isShut_X9_squareOf : GoodIn wsX9_isShut wsX9_squareOf := goodIn_r _ [5] (by decide +kernel) (by decide +kernel)
set_option maxRecDepth 20000 in
theorem gX9_isShut_X9_squareOf : GoodIn wsX9_isShut (va_wsS RX9 144 yX9_squareOf wsX9_squareOf) := goodIn_app (goodIn_of _ (by decide +kernel)) ggX9_isShut_X9_squareOf
set_option maxRecDepth 20000 in
theorem ggX9_ways_X9_isShut : GoodIn wsX9_ways wsX9_isShut := goodIn_r _ [16, 17, 18, 19, 15, 20, 21, 22, 23, 24, 25, 26, 27, 28, 29, 30, 31, 32, 33, 34, 35, 36, 37, 38, 39, 40, 41, 42, 43, 44, 45, 46, 47, 48, 49, 50, 51, 52, 53, 54, 55, 56, 57, 58, 59, 60, 61] (by decide +kernel) (by decide +kernel)
set_option maxRecDepth 20000 in
theorem gX9_ways_X9_isShut : GoodIn wsX9_ways (wsV RX9 272 RX9 yX9_isShut wsX9_isShut) := goodIn_app (goodIn_of _ (by decide +kernel)) ggX9_ways_X9_isShut
set_option maxRecDepth 20000 in
theorem ggX9_table_X9_refuse : GoodIn wsX9_table wsX9_refuse := goodIn_r _ [12, 2, 32, 33, 34, 35, 36, 37, 38, 39, 40, 41, 42, 43, 44, 45, 46, 47, 48, 49, 50, 51, 52, 53, 54, 55, 56, 57, 58, 59, 60, 61, 62, 63, 64, 65, 66, 67, 68, 69, 70, 71, 72] (by decide +kernel) (by decide +kernel)
set_option maxRecDepth 20000 in
theorem gX9_table_X9_refuse : GoodIn wsX9_table (wsV RX9 156 RX9 yX9_refuse wsX9_refuse) := goodIn_app (goodIn_of _ (by decide +kernel)) ggX9_table_X9_refuse
set_option maxRecDepth 20000 in
theorem ggX9_table_X9_isShut : GoodIn wsX9_table wsX9_isShut := goodIn_r _ [16, 17, 18, 19, 11, 20, 32, 33, 34, 35, 36, 37, 38, 39, 40, 41, 42, 43, 44, 45, 46, 47, 48, 49, 50, 51, 52, 53, 54, 55, 56, 57, 58, 59, 60, 61, 62, 63, 64, 65, 66, 67, 68, 69, 70, 71, 72] (by decide +kernel) (by decide +kernel)
set_option maxRecDepth 20000 in
theorem gX9_table_X9_isShut : GoodIn wsX9_table (wsV RX9 272 RX9 yX9_isShut wsX9_isShut) := goodIn_app (goodIn_of _ (by decide +kernel)) ggX9_table_X9_isShut
set_option maxRecDepth 20000 in
theorem ggX9_table_X9_ways : GoodIn wsX9_table wsX9_ways := goodIn_r _ [24, 6, 4, 7, 5, 25, 26, 27, 28, 29, 30, 31, 13, 14, 15, 11, 16, 17, 18, 19, 20, 32, 33, 34, 35, 36, 37, 38, 39, 40, 41, 42, 43, 44, 45, 46, 47, 48, 49, 50, 51, 52, 53, 54, 55, 56, 57, 58, 59, 60, 61, 62, 63, 64, 65, 66, 67, 68, 69, 70, 71, 72] (by decide +kernel) (by decide +kernel)
set_option maxRecDepth 20000 in
theorem gX9_table_X9_ways : GoodIn wsX9_table (wsV RX9 281 RX9 yX9_ways wsX9_ways) := goodIn_app (goodIn_of _ (by decide +kernel)) ggX9_table_X9_ways
set_option maxRecDepth 20000 in
theorem ggX9_worth_X9_refuse : GoodIn wsX9_worth wsX9_refuse := goodIn_r _ [14, 2, 38, 39, 40, 41, 42, 43, 44, 45, 46, 47, 48, 49, 50, 51, 52, 53, 54, 55, 56, 57, 58, 59, 60, 61, 62, 63, 64, 65, 66, 67, 68, 69, 70, 71, 72, 73, 74, 75, 76, 77, 78] (by decide +kernel) (by decide +kernel)
set_option maxRecDepth 20000 in
theorem gX9_worth_X9_refuse : GoodIn wsX9_worth (wsV RX9 156 RX9 yX9_refuse wsX9_refuse) := goodIn_app (goodIn_of _ (by decide +kernel)) ggX9_worth_X9_refuse
set_option maxRecDepth 20000 in
theorem ggX9_worth_X9_isShut : GoodIn wsX9_worth wsX9_isShut := goodIn_r _ [18, 19, 20, 21, 13, 22, 38, 39, 40, 41, 42, 43, 44, 45, 46, 47, 48, 49, 50, 51, 52, 53, 54, 55, 56, 57, 58, 59, 60, 61, 62, 63, 64, 65, 66, 67, 68, 69, 70, 71, 72, 73, 74, 75, 76, 77, 78] (by decide +kernel) (by decide +kernel)
set_option maxRecDepth 20000 in
theorem gX9_worth_X9_isShut : GoodIn wsX9_worth (wsV RX9 272 RX9 yX9_isShut wsX9_isShut) := goodIn_app (goodIn_of _ (by decide +kernel)) ggX9_worth_X9_isShut
set_option maxRecDepth 20000 in
theorem ggX9_worth_X9_ways : GoodIn wsX9_worth wsX9_ways := goodIn_r _ [26, 6, 4, 7, 5, 27, 28, 29, 30, 31, 32, 33, 15, 16, 17, 13, 18, 19, 20, 21, 22, 38, 39, 40, 41, 42, 43, 44, 45, 46, 47, 48, 49, 50, 51, 52, 53, 54, 55, 56, 57, 58, 59, 60, 61, 62, 63, 64, 65, 66, 67, 68, 69, 70, 71, 72, 73, 74, 75, 76, 77, 78] (by decide +kernel) (by decide +kernel)
set_option maxRecDepth 20000 in
theorem gX9_worth_X9_ways : GoodIn wsX9_worth (wsV RX9 281 RX9 yX9_ways wsX9_ways) := goodIn_app (goodIn_of _ (by decide +kernel)) ggX9_worth_X9_ways
set_option maxRecDepth 20000 in
theorem ggX9_worth_X9_signs : GoodIn wsX9_worth wsX9_signs := goodIn_r _ [37, 3, 8, 38, 39, 40, 41, 42, 43, 44, 45, 46, 47, 48, 49, 50, 51, 52, 53, 54, 55, 56, 57, 58, 59, 60, 61, 62, 63, 64, 65, 66, 67, 68, 69, 70, 71, 72, 73, 74, 75, 76, 77, 78] (by decide +kernel) (by decide +kernel)
set_option maxRecDepth 20000 in
theorem gX9_worth_X9_signs : GoodIn wsX9_worth (wsV RX9 286 RX9 yX9_signs wsX9_signs) := goodIn_app (goodIn_of _ (by decide +kernel)) ggX9_worth_X9_signs
set_option maxRecDepth 20000 in
theorem ggX9_boxes_X9_refuse : GoodIn wsX9_boxes wsX9_refuse := goodIn_r _ [10, 2, 15, 16, 17, 18, 19, 20, 21, 22, 23, 24, 25, 26, 27, 28, 29, 30, 31, 32, 33, 34, 35, 36, 37, 38, 39, 40, 41, 42, 43, 44, 45, 46, 47, 48, 49, 50, 51, 52, 53, 54, 55] (by decide +kernel) (by decide +kernel)
set_option maxRecDepth 20000 in
theorem gX9_boxes_X9_refuse : GoodIn wsX9_boxes (wsV RX9 156 RX9 yX9_refuse wsX9_refuse) := goodIn_app (goodIn_of _ (by decide +kernel)) ggX9_boxes_X9_refuse
set_option maxRecDepth 20000 in
theorem ggX9_boxes_X9_isUnder : GoodIn wsX9_boxes wsX9_isUnder := goodIn_r _ [14, 3, 15, 16, 17, 18, 19, 20, 21, 22, 23, 24, 25, 26, 27, 28, 29, 30, 31, 32, 33, 34, 35, 36, 37, 38, 39, 40, 41, 42, 43, 44, 45, 46, 47, 48, 49, 50, 51, 52, 53, 54, 55] (by decide +kernel) (by decide +kernel)
set_option maxRecDepth 20000 in
theorem gX9_boxes_X9_isUnder : GoodIn wsX9_boxes (wsV RX9 290 RX9 yX9_isUnder wsX9_isUnder) := goodIn_app (goodIn_of _ (by decide +kernel)) ggX9_boxes_X9_isUnder
set_option maxRecDepth 20000 in
theorem ggX9_fillEnds_X9_endsOf : GoodIn wsX9_fillEnds wsX9_endsOf := goodIn_r _ [6, 1, 7, 8, 9, 10, 11, 12, 13, 14, 15, 16, 17, 18, 19, 20, 21, 22, 23, 24, 25, 26, 27, 28, 29, 30, 31, 32, 33, 34, 35, 36, 37, 38, 39, 40, 41, 42, 43, 44, 45, 46, 47] (by decide +kernel) (by decide +kernel)
set_option maxRecDepth 20000 in
theorem gX9_fillEnds_X9_endsOf : GoodIn wsX9_fillEnds (wsV RX9 293 RX9 yX9_endsOf wsX9_endsOf) := goodIn_app (goodIn_of _ (by decide +kernel)) ggX9_fillEnds_X9_endsOf
set_option maxRecDepth 20000 in
theorem ggX9_brackets_X9_refuse : GoodIn wsX9_brackets wsX9_refuse := goodIn_r _ [9, 2, 19, 20, 21, 22, 23, 24, 25, 26, 27, 28, 29, 30, 31, 32, 33, 34, 35, 36, 37, 38, 39, 40, 41, 42, 43, 44, 45, 46, 47, 48, 49, 50, 51, 52, 53, 54, 55, 56, 57, 58, 59] (by decide +kernel) (by decide +kernel)
set_option maxRecDepth 20000 in
theorem gX9_brackets_X9_refuse : GoodIn wsX9_brackets (wsV RX9 156 RX9 yX9_refuse wsX9_refuse) := goodIn_app (goodIn_of _ (by decide +kernel)) ggX9_brackets_X9_refuse
set_option maxRecDepth 20000 in
theorem ggX9_brackets_X9_fillEnds : GoodIn wsX9_brackets wsX9_fillEnds := goodIn_r _ [13, 14, 15, 16, 17, 8, 18, 19, 20, 21, 22, 23, 24, 25, 26, 27, 28, 29, 30, 31, 32, 33, 34, 35, 36, 37, 38, 39, 40, 41, 42, 43, 44, 45, 46, 47, 48, 49, 50, 51, 52, 53, 54, 55, 56, 57, 58, 59] (by decide +kernel) (by decide +kernel)
set_option maxRecDepth 20000 in
theorem gX9_brackets_X9_fillEnds : GoodIn wsX9_brackets (wsV RX9 296 RX9 yX9_fillEnds wsX9_fillEnds) := goodIn_app (goodIn_of _ (by decide +kernel)) ggX9_brackets_X9_fillEnds
set_option maxRecDepth 20000 in
theorem ggX9_brackets_X9_endsOf : GoodIn wsX9_brackets wsX9_endsOf := goodIn_r _ [18, 14, 19, 20, 21, 22, 23, 24, 25, 26, 27, 28, 29, 30, 31, 32, 33, 34, 35, 36, 37, 38, 39, 40, 41, 42, 43, 44, 45, 46, 47, 48, 49, 50, 51, 52, 53, 54, 55, 56, 57, 58, 59] (by decide +kernel) (by decide +kernel)
set_option maxRecDepth 20000 in
theorem gX9_brackets_X9_endsOf : GoodIn wsX9_brackets (wsV RX9 293 RX9 yX9_endsOf wsX9_endsOf) := goodIn_app (goodIn_of _ (by decide +kernel)) ggX9_brackets_X9_endsOf
set_option maxRecDepth 20000 in
theorem ggX9_order_X9_refuse : GoodIn wsX9_order wsX9_refuse := goodIn_r _ [9, 2, 19, 20, 21, 22, 23, 24, 25, 26, 27, 28, 29, 30, 31, 32, 33, 34, 35, 36, 37, 38, 39, 40, 41, 42, 43, 44, 45, 46, 47, 48, 49, 50, 51, 52, 53, 54, 55, 56, 57, 58, 59] (by decide +kernel) (by decide +kernel)
set_option maxRecDepth 20000 in
theorem gX9_order_X9_refuse : GoodIn wsX9_order (wsV RX9 156 RX9 yX9_refuse wsX9_refuse) := goodIn_app (goodIn_of _ (by decide +kernel)) ggX9_order_X9_refuse
set_option maxRecDepth 20000 in
theorem ggX9_order_X9_fillEnds : GoodIn wsX9_order wsX9_fillEnds := goodIn_r _ [13, 14, 15, 16, 17, 8, 18, 19, 20, 21, 22, 23, 24, 25, 26, 27, 28, 29, 30, 31, 32, 33, 34, 35, 36, 37, 38, 39, 40, 41, 42, 43, 44, 45, 46, 47, 48, 49, 50, 51, 52, 53, 54, 55, 56, 57, 58, 59] (by decide +kernel) (by decide +kernel)
set_option maxRecDepth 20000 in
theorem gX9_order_X9_fillEnds : GoodIn wsX9_order (wsV RX9 296 RX9 yX9_fillEnds wsX9_fillEnds) := goodIn_app (goodIn_of _ (by decide +kernel)) ggX9_order_X9_fillEnds
set_option maxRecDepth 20000 in
theorem ggX9_order_X9_endsOf : GoodIn wsX9_order wsX9_endsOf := goodIn_r _ [18, 14, 19, 20, 21, 22, 23, 24, 25, 26, 27, 28, 29, 30, 31, 32, 33, 34, 35, 36, 37, 38, 39, 40, 41, 42, 43, 44, 45, 46, 47, 48, 49, 50, 51, 52, 53, 54, 55, 56, 57, 58, 59] (by decide +kernel) (by decide +kernel)
set_option maxRecDepth 20000 in
theorem gX9_order_X9_endsOf : GoodIn wsX9_order (wsV RX9 293 RX9 yX9_endsOf wsX9_endsOf) := goodIn_app (goodIn_of _ (by decide +kernel)) ggX9_order_X9_endsOf
set_option maxRecDepth 20000 in
theorem ggX9_far_X9_refuse : GoodIn wsX9_far wsX9_refuse := goodIn_r _ [11, 2, 29, 30, 31, 32, 33, 34, 35, 36, 37, 38, 39, 40, 41, 42, 43, 44, 45, 46, 47, 48, 49, 50, 51, 52, 53, 54, 55, 56, 57, 58, 59, 60, 61, 62, 63, 64, 65, 66, 67, 68, 69] (by decide +kernel) (by decide +kernel)
set_option maxRecDepth 20000 in
theorem gX9_far_X9_refuse : GoodIn wsX9_far (wsV RX9 156 RX9 yX9_refuse wsX9_refuse) := goodIn_app (goodIn_of _ (by decide +kernel)) ggX9_far_X9_refuse
set_option maxRecDepth 20000 in
theorem ggX9_far_X9_isBetween : GoodIn wsX9_far wsX9_isBetween := goodIn_r _ [15, 5, 16, 6, 29, 30, 31, 32, 33, 34, 35, 36, 37, 38, 39, 40, 41, 42, 43, 44, 45, 46, 47, 48, 49, 50, 51, 52, 53, 54, 55, 56, 57, 58, 59, 60, 61, 62, 63, 64, 65, 66, 67, 68, 69] (by decide +kernel) (by decide +kernel)
set_option maxRecDepth 20000 in
theorem gX9_far_X9_isBetween : GoodIn wsX9_far (wsV RX9 302 RX9 yX9_isBetween wsX9_isBetween) := goodIn_app (goodIn_of _ (by decide +kernel)) ggX9_far_X9_isBetween
set_option maxRecDepth 20000 in
theorem ggX9_far_X9_fillLevels : GoodIn wsX9_far wsX9_fillLevels := goodIn_r _ [20, 4, 3, 16, 21, 22, 29, 30, 31, 32, 33, 34, 35, 36, 37, 38, 39, 40, 41, 42, 43, 44, 45, 46, 47, 48, 49, 50, 51, 52, 53, 54, 55, 56, 57, 58, 59, 60, 61, 62, 63, 64, 65, 66, 67, 68, 69] (by decide +kernel) (by decide +kernel)
set_option maxRecDepth 20000 in
theorem gX9_far_X9_fillLevels : GoodIn wsX9_far (wsV RX9 305 RX9 yX9_fillLevels wsX9_fillLevels) := goodIn_app (goodIn_of _ (by decide +kernel)) ggX9_far_X9_fillLevels
set_option maxRecDepth 20000 in
theorem ggX9_far_X9_multiply : GoodIn wsX9_far wsX9_multiply := goodIn_r _ [26, 16, 27, 28, 29, 30, 31, 32, 33, 34, 35, 36, 37, 38, 39, 40, 41, 42, 43, 44, 45, 46, 47, 48, 49, 50, 51, 52, 53, 54, 55, 56, 57, 58, 59, 60, 61, 62, 63, 64, 65, 66, 67, 68, 69] (by decide +kernel) (by decide +kernel)
set_option maxRecDepth 20000 in
theorem gX9_far_X9_multiply : GoodIn wsX9_far (wsV RX9 308 RX9 yX9_multiply wsX9_multiply) := goodIn_app (goodIn_of _ (by decide +kernel)) ggX9_far_X9_multiply
