set_option maxRecDepth 20000 in
theorem ggX8_waysKept_X6_init : GoodIn wsX8_waysKept wsX6_init := goodIn_r _ [8, 9, 10, 11, 12, 13, 14, 15, 16, 29, 30, 31, 32] (by decide +kernel) (by decide +kernel)
set_option maxRecDepth 20000 in
theorem gX8_waysKept_X6_init : GoodIn wsX8_waysKept (wsX6_init) := ggX8_waysKept_X6_init
set_option maxRecDepth 20000 in
theorem ggX8_waysFor_X8_waysKept : GoodIn wsX8_waysFor wsX8_waysKept := goodIn_r _ [5, 6, 7, 8, 9, 10, 11, 12, 13, 14, 15, 16, 17, 18, 19, 20, 21, 89, 90, 91, 92, 93, 94, 95, 96, 97, 98, 99, 100, 101, 102, 103, 104] (by decide +kernel) (by decide +kernel)
set_option maxRecDepth 20000 in
theorem gX8_waysFor_X8_waysKept : GoodIn wsX8_waysFor (wsV RX8 190 RX8 yX8_waysKept wsX8_waysKept) := goodIn_app (goodIn_of _ (by decide +kernel)) ggX8_waysFor_X8_waysKept
set_option maxRecDepth 20000 in
theorem ggX8_waysFor_X6_prepare : GoodIn wsX8_waysFor wsX6_prepare := goodIn_r _ [25, 26, 19, 21, 27, 28, 29, 30, 31, 32, 33, 34, 35, 36, 37, 38, 39, 40, 9, 41, 42, 43, 44, 45, 46, 47, 48, 49, 50, 51, 52, 53, 54, 55, 56, 57, 58, 59, 60, 61, 62, 63, 64, 65, 66, 67, 68, 69, 70, 71, 72, 73, 74, 75, 76, 77, 78, 79, 80, 81, 82, 83, 84, 85, 86, 87, 88, 101, 102, 103, 104, 105, 106, 107, 108, 109, 110, 111, 112, 113, 114, 115, 116, 117, 118, 119] (by decide +kernel) (by decide +kernel)
set_option maxRecDepth 20000 in
theorem gX8_waysFor_X6_prepare : GoodIn wsX8_waysFor (wsV RX8 345 RX6 yX6_prepare wsX6_prepare) := goodIn_app (goodIn_of _ (by decide +kernel)) ggX8_waysFor_X6_prepare
set_option maxRecDepth 20000 in
theorem ggX8_forgetWays_X6_forget : GoodIn wsX8_forgetWays wsX6_forget := goodIn_r _ [6, 7, 20, 21, 22, 23] (by decide +kernel) (by decide +kernel)
set_option maxRecDepth 20000 in
theorem gX8_forgetWays_X6_forget : GoodIn wsX8_forgetWays (wsV RX8 348 RX6 yX6_forget wsX6_forget) := goodIn_app (goodIn_of _ (by decide +kernel)) ggX8_forgetWays_X6_forget
set_option maxRecDepth 20000 in
theorem ggX8_weigherKept_X8_waysKept : GoodIn wsX8_weigherKept wsX8_waysKept := goodIn_r _ [10, 11, 12, 13, 14, 5, 15, 16, 17, 18, 19, 20, 21, 22, 23, 24, 25, 39, 40, 41, 42, 43, 44, 45, 46, 47, 48, 49, 50, 65, 66, 67, 68] (by decide +kernel) (by decide +kernel)
set_option maxRecDepth 20000 in
theorem gX8_weigherKept_X8_waysKept : GoodIn wsX8_weigherKept (wsV RX8 190 RX8 yX8_waysKept wsX8_waysKept) := goodIn_app (goodIn_of _ (by decide +kernel)) ggX8_weigherKept_X8_waysKept
set_option maxRecDepth 20000 in
theorem ggX8_weigherKept_X7_init : GoodIn wsX8_weigherKept wsX7_init := goodIn_r _ [28, 29, 19, 20, 30, 31, 32, 33, 34, 22, 35, 36, 37, 38, 51, 52, 53, 54, 55, 56, 57, 58, 59, 60, 61, 62, 63, 64] (by decide +kernel) (by decide +kernel)
set_option maxRecDepth 20000 in
theorem gX8_weigherKept_X7_init : GoodIn wsX8_weigherKept (wsX7_init) := ggX8_weigherKept_X7_init
set_option maxRecDepth 20000 in
theorem ggX8_isWalk_X4_cellA : GoodIn wsX8_isWalk wsX4_cellA := goodIn_r _ [7, 8, 9, 10, 11, 6, 12, 68, 69, 70, 71, 72, 73, 74, 75, 76, 77, 78, 79, 80, 81, 82] (by decide +kernel) (by decide +kernel)
set_option maxRecDepth 20000 in
theorem gX8_isWalk_X4_cellA : GoodIn wsX8_isWalk (wsV RX8 176 RX4 yX4_cellA wsX4_cellA) := goodIn_app (goodIn_of _ (by decide +kernel)) ggX8_isWalk_X4_cellA
set_option maxRecDepth 20000 in
theorem ggX8_isWalk_X5_at : GoodIn wsX8_isWalk wsX5_at := goodIn_r _ [17, 18, 19, 20, 21, 16, 22, 23, 24, 25, 26, 83, 84, 85] (by decide +kernel) (by decide +kernel)
set_option maxRecDepth 20000 in
theorem gX8_isWalk_X5_at : GoodIn wsX8_isWalk (wsV RX8 92 RX5 yX5_at wsX5_at) := goodIn_app (goodIn_of _ (by decide +kernel)) ggX8_isWalk_X5_at
set_option maxRecDepth 20000 in
theorem ggX8_isWalk_X4_hasStep : GoodIn wsX8_isWalk wsX4_hasStep := goodIn_r _ [30, 31, 68, 69, 70, 71, 72, 73, 74, 75, 76, 77, 78, 79, 80, 81, 82] (by decide +kernel) (by decide +kernel)
set_option maxRecDepth 20000 in
theorem gX8_isWalk_X4_hasStep : GoodIn wsX8_isWalk (wsV RX8 128 RX4 yX4_hasStep wsX4_hasStep) := goodIn_app (goodIn_of _ (by decide +kernel)) ggX8_isWalk_X4_hasStep
set_option maxRecDepth 20000 in
theorem ggX8_isWalk_X4_ahead : GoodIn wsX8_isWalk wsX4_ahead := goodIn_r _ [35, 36, 37, 38, 39, 40, 28, 29, 6, 30, 31, 41, 42, 43, 44, 45, 46, 47, 48, 49, 68, 69, 70, 71, 72, 73, 74, 75, 76, 77, 78, 79, 80, 81, 82] (by decide +kernel) (by decide +kernel)
set_option maxRecDepth 20000 in
theorem gX8_isWalk_X4_ahead : GoodIn wsX8_isWalk (wsV RX8 358 RX4 yX4_ahead wsX4_ahead) := goodIn_app (goodIn_of _ (by decide +kernel)) ggX8_isWalk_X4_ahead
set_option maxRecDepth 20000 in
theorem ggX8_isWalk_X4_cellB : GoodIn wsX8_isWalk wsX4_cellB := goodIn_r _ [53, 54, 55, 10, 11, 6, 12, 68, 69, 70, 71, 72, 73, 74, 75, 76, 77, 78, 79, 80, 81, 82] (by decide +kernel) (by decide +kernel)
set_option maxRecDepth 20000 in
theorem gX8_isWalk_X4_cellB : GoodIn wsX8_isWalk (wsV RX8 361 RX4 yX4_cellB wsX4_cellB) := goodIn_app (goodIn_of _ (by decide +kernel)) ggX8_isWalk_X4_cellB
set_option maxRecDepth 20000 in
theorem ggX8_walkNumber_X4_cellA : GoodIn wsX8_walkNumber wsX4_cellA := goodIn_r _ [7, 8, 9, 10, 11, 6, 12, 86, 87, 88, 89, 90, 91, 92, 93, 94, 95, 96, 97, 98, 99, 100] (by decide +kernel) (by decide +kernel)
set_option maxRecDepth 20000 in
theorem gX8_walkNumber_X4_cellA : GoodIn wsX8_walkNumber (wsV RX8 176 RX4 yX4_cellA wsX4_cellA) := goodIn_app (goodIn_of _ (by decide +kernel)) ggX8_walkNumber_X4_cellA
set_option maxRecDepth 20000 in
theorem ggX8_walkNumber_X5_at : GoodIn wsX8_walkNumber wsX5_at := goodIn_r _ [17, 18, 19, 20, 21, 16, 22, 23, 24, 25, 26, 101, 102, 103] (by decide +kernel) (by decide +kernel)
set_option maxRecDepth 20000 in
theorem gX8_walkNumber_X5_at : GoodIn wsX8_walkNumber (wsV RX8 92 RX5 yX5_at wsX5_at) := goodIn_app (goodIn_of _ (by decide +kernel)) ggX8_walkNumber_X5_at
set_option maxRecDepth 20000 in
theorem ggX8_walkNumber_X8_waysKept : GoodIn wsX8_walkNumber wsX8_waysKept := goodIn_r _ [31, 32, 33, 34, 35, 1, 36, 37, 38, 39, 40, 41, 42, 43, 44, 45, 46, 74, 75, 76, 77, 78, 79, 80, 81, 82, 83, 84, 85, 104, 105, 106, 107] (by decide +kernel) (by decide +kernel)
set_option maxRecDepth 20000 in
theorem gX8_walkNumber_X8_waysKept : GoodIn wsX8_walkNumber (wsV RX8 190 RX8 yX8_waysKept wsX8_waysKept) := goodIn_app (goodIn_of _ (by decide +kernel)) ggX8_walkNumber_X8_waysKept
set_option maxRecDepth 20000 in
theorem ggX8_walkNumber_X4_ahead : GoodIn wsX8_walkNumber wsX4_ahead := goodIn_r _ [50, 51, 52, 53, 54, 55, 56, 57, 6, 58, 59, 60, 61, 62, 63, 64, 65, 66, 67, 68, 86, 87, 88, 89, 90, 91, 92, 93, 94, 95, 96, 97, 98, 99, 100] (by decide +kernel) (by decide +kernel)
set_option maxRecDepth 20000 in
theorem gX8_walkNumber_X4_ahead : GoodIn wsX8_walkNumber (wsV RX8 358 RX4 yX4_ahead wsX4_ahead) := goodIn_app (goodIn_of _ (by decide +kernel)) ggX8_walkNumber_X4_ahead
set_option maxRecDepth 20000 in
theorem ggX8_walkNumber_X6_onward : GoodIn wsX8_walkNumber wsX6_onward := goodIn_r _ [72, 73, 44, 104, 105, 106, 107] (by decide +kernel) (by decide +kernel)
set_option maxRecDepth 20000 in
theorem gX8_walkNumber_X6_onward : GoodIn wsX8_walkNumber (wsV RX8 180 RX6 yX6_onward wsX6_onward) := goodIn_app (goodIn_of _ (by decide +kernel)) ggX8_walkNumber_X6_onward
set_option maxRecDepth 20000 in
theorem ggX8_showWalk_X4_cellA : GoodIn wsX8_showWalk wsX4_cellA := goodIn_r _ [9, 10, 11, 12, 13, 8, 14, 74, 75, 76, 77, 78, 79, 80, 81, 82, 83, 84, 85, 86, 87, 88] (by decide +kernel) (by decide +kernel)
set_option maxRecDepth 20000 in
theorem gX8_showWalk_X4_cellA : GoodIn wsX8_showWalk (wsV RX8 176 RX4 yX4_cellA wsX4_cellA) := goodIn_app (goodIn_of _ (by decide +kernel)) ggX8_showWalk_X4_cellA
set_option maxRecDepth 20000 in
theorem ggX8_showWalk_X8_waysKept : GoodIn wsX8_showWalk wsX8_waysKept := goodIn_r _ [19, 20, 21, 22, 23, 1, 24, 25, 26, 27, 28, 29, 30, 31, 32, 33, 34, 62, 63, 64, 65, 66, 67, 68, 69, 70, 71, 72, 73, 89, 90, 91, 92] (by decide +kernel) (by decide +kernel)
set_option maxRecDepth 20000 in
theorem gX8_showWalk_X8_waysKept : GoodIn wsX8_showWalk (wsV RX8 190 RX8 yX8_waysKept wsX8_waysKept) := goodIn_app (goodIn_of _ (by decide +kernel)) ggX8_showWalk_X8_waysKept
set_option maxRecDepth 20000 in
theorem ggX8_showWalk_X4_ahead : GoodIn wsX8_showWalk wsX4_ahead := goodIn_r _ [38, 39, 40, 41, 42, 43, 44, 45, 8, 46, 47, 48, 49, 50, 51, 52, 53, 54, 55, 56, 74, 75, 76, 77, 78, 79, 80, 81, 82, 83, 84, 85, 86, 87, 88] (by decide +kernel) (by decide +kernel)
set_option maxRecDepth 20000 in
theorem gX8_showWalk_X4_ahead : GoodIn wsX8_showWalk (wsV RX8 358 RX4 yX4_ahead wsX4_ahead) := goodIn_app (goodIn_of _ (by decide +kernel)) ggX8_showWalk_X4_ahead
set_option maxRecDepth 20000 in
theorem ggX8_showWalk_X6_onward : GoodIn wsX8_showWalk wsX6_onward := goodIn_r _ [60, 61, 32, 89, 90, 91, 92] (by decide +kernel) (by decide +kernel)
set_option maxRecDepth 20000 in
theorem gX8_showWalk_X6_onward : GoodIn wsX8_showWalk (wsV RX8 180 RX6 yX6_onward wsX6_onward) := goodIn_app (goodIn_of _ (by decide +kernel)) ggX8_showWalk_X6_onward
set_option maxRecDepth 20000 in
theorem ggX8_heaped_X8_leastDivisor : GoodIn wsX8_heaped wsX8_leastDivisor := goodIn_r _ [5] (by decide +kernel) (by decide +kernel)
set_option maxRecDepth 20000 in
theorem gX8_heaped_X8_leastDivisor : GoodIn wsX8_heaped (va_wsS RX8 377 yX8_leastDivisor wsX8_leastDivisor) := goodIn_app (goodIn_of _ (by decide +kernel)) ggX8_heaped_X8_leastDivisor
set_option maxRecDepth 20000 in
theorem ggX9_sheet_X9_no : GoodIn wsX9_sheet wsX9_no := goodIn_r _ [10, 2, 11, 12, 13, 14, 15, 16, 17, 18, 19, 20, 21, 22, 23, 24, 25, 26, 27, 28, 29, 30, 31, 32, 33, 34, 35, 36, 37, 38, 39, 40, 41, 42, 43, 44, 45, 46, 47, 48, 49, 50, 51] (by decide +kernel) (by decide +kernel)
set_option maxRecDepth 20000 in
theorem gX9_sheet_X9_no : GoodIn wsX9_sheet (wsV RX9 118 RX9 yX9_no wsX9_no) := goodIn_app (goodIn_of _ (by decide +kernel)) ggX9_sheet_X9_no
set_option maxRecDepth 20000 in
theorem ggX9_placed_X9_sheeted : GoodIn wsX9_placed wsX9_sheeted := goodIn_r _ [6, 1, 7, 8, 9, 10, 11, 12, 13, 14, 15, 16, 17, 18, 19, 20, 21, 22, 23, 24, 25, 26, 27, 28, 29, 30, 31, 32, 33, 34, 35, 36, 37, 38, 39, 40, 41, 42, 43, 44, 45, 46, 47] (by decide +kernel) (by decide +kernel)
set_option maxRecDepth 20000 in
theorem gX9_placed_X9_sheeted : GoodIn wsX9_placed (wsV RX9 122 RX9 yX9_sheeted wsX9_sheeted) := goodIn_app (goodIn_of _ (by decide +kernel)) ggX9_placed_X9_sheeted
set_option maxRecDepth 20000 in
theorem ggX9_write_X9_placed : GoodIn wsX9_write wsX9_placed := goodIn_r _ [9, 10, 11, 12, 13, 8, 14, 18, 19, 20, 21, 22, 23, 24, 25, 26, 27, 28, 29, 30, 31, 32, 33, 34, 35, 36, 37, 38, 39, 40, 41, 42, 43, 44, 45, 46, 47, 48, 49, 50, 51, 52, 53, 54, 55, 56, 57, 58] (by decide +kernel) (by decide +kernel)
set_option maxRecDepth 20000 in
theorem gX9_write_X9_placed : GoodIn wsX9_write (wsV RX9 126 RX9 yX9_placed wsX9_placed) := goodIn_app (goodIn_of _ (by decide +kernel)) ggX9_write_X9_placed
set_option maxRecDepth 20000 in
theorem ggX9_write_X9_cut : GoodIn wsX9_write wsX9_cut := goodIn_r _ [17] (by decide +kernel) (by decide +kernel)
set_option maxRecDepth 20000 in
theorem gX9_write_X9_cut : GoodIn wsX9_write (va_wsS RX9 130 yX9_cut wsX9_cut) := goodIn_app (goodIn_of _ (by decide +kernel)) ggX9_write_X9_cut
set_option maxRecDepth 20000 in
theorem ggX9_read_X9_placed : GoodIn wsX9_read wsX9_placed := goodIn_r _ [8, 9, 10, 11, 12, 7, 13, 14, 15, 16, 17, 18, 19, 20, 21, 22, 23, 24, 25, 26, 27, 28, 29, 30, 31, 32, 33, 34, 35, 36, 37, 38, 39, 40, 41, 42, 43, 44, 45, 46, 47, 48, 49, 50, 51, 52, 53, 54] (by decide +kernel) (by decide +kernel)
set_option maxRecDepth 20000 in
theorem gX9_read_X9_placed : GoodIn wsX9_read (wsV RX9 126 RX9 yX9_placed wsX9_placed) := goodIn_app (goodIn_of _ (by decide +kernel)) ggX9_read_X9_placed
set_option maxRecDepth 20000 in
theorem ggX9_pour_X9_no : GoodIn wsX9_pour wsX9_no := goodIn_r _ [10, 2, 11, 12, 13, 14, 15, 16, 17, 18, 19, 20, 21, 22, 23, 24, 25, 26, 27, 28, 29, 30, 31, 32, 33, 34, 35, 36, 37, 38, 39, 40, 41, 42, 43, 44, 45, 46, 47, 48, 49, 50, 51] (by decide +kernel) (by decide +kernel)
set_option maxRecDepth 20000 in
theorem gX9_pour_X9_no : GoodIn wsX9_pour (wsV RX9 118 RX9 yX9_no wsX9_no) := goodIn_app (goodIn_of _ (by decide +kernel)) ggX9_pour_X9_no
set_option maxRecDepth 20000 in
theorem ggX9_isOpen_X9_isSquare : GoodIn wsX9_isOpen wsX9_isSquare := goodIn_r _ [6] (by decide +kernel) (by decide +kernel)
set_option maxRecDepth 20000 in
theorem gX9_isOpen_X9_isSquare : GoodIn wsX9_isOpen (va_wsS RX9 133 yX9_isSquare wsX9_isSquare) := goodIn_app (goodIn_of _ (by decide +kernel)) ggX9_isOpen_X9_isSquare
set_option maxRecDepth 20000 in
theorem ggX9_isOpen_X9_isIn : GoodIn wsX9_isOpen wsX9_isIn := goodIn_r _ [10, 11, 12, 16, 17, 18, 19, 20, 21, 22, 23, 24, 25, 26, 27, 28, 29, 30, 31, 32, 33, 34, 35, 36, 37, 38, 39, 40, 41, 42, 43, 44, 45, 46, 47, 48, 49, 50, 51, 52, 53, 54, 55, 56] (by decide +kernel) (by decide +kernel)
set_option maxRecDepth 20000 in
theorem gX9_isOpen_X9_isIn : GoodIn wsX9_isOpen (wsV RX9 140 RX9 yX9_isIn wsX9_isIn) := goodIn_app (goodIn_of _ (by decide +kernel)) ggX9_isOpen_X9_isIn
set_option maxRecDepth 20000 in
theorem ggX9_isOpen_X9_squareOf : GoodIn wsX9_isOpen wsX9_squareOf := goodIn_r _ [15] (by decide +kernel) (by decide +kernel)
set_option maxRecDepth 20000 in
theorem gX9_isOpen_X9_squareOf : GoodIn wsX9_isOpen (va_wsS RX9 144 yX9_squareOf wsX9_squareOf) := goodIn_app (goodIn_of _ (by decide +kernel)) ggX9_isOpen_X9_squareOf
set_option maxRecDepth 20000 in
theorem ggX9_next_X9_xOf : GoodIn wsX9_next wsX9_xOf := goodIn_r _ [8] (by decide +kernel) (by decide +kernel)
set_option maxRecDepth 20000 in
theorem gX9_next_X9_xOf : GoodIn wsX9_next (va_wsS RX9 147 yX9_xOf wsX9_xOf) := goodIn_app (goodIn_of _ (by decide +kernel)) ggX9_next_X9_xOf
set_option maxRecDepth 20000 in
theorem ggX9_next_X9_yOf : GoodIn wsX9_next wsX9_yOf := goodIn_r _ [11] (by decide +kernel) (by decide +kernel)
set_option maxRecDepth 20000 in
theorem gX9_next_X9_yOf : GoodIn wsX9_next (va_wsS RX9 150 yX9_yOf wsX9_yOf) := goodIn_app (goodIn_of _ (by decide +kernel)) ggX9_next_X9_yOf
set_option maxRecDepth 20000 in
theorem ggX9_next_X9_isOpen : GoodIn wsX9_next wsX9_isOpen := goodIn_r _ [15, 3, 16, 17, 18, 7, 19, 20, 21, 22, 23, 24, 4, 25, 26, 27, 28, 29, 30, 31, 32, 33, 34, 35, 36, 37, 38, 39, 40, 41, 42, 43, 44, 45, 46, 47, 48, 49, 50, 51, 52, 53, 54, 55, 56, 57, 58, 59, 60, 61, 62, 63, 64, 65, 66, 67, 68] (by decide +kernel) (by decide +kernel)
set_option maxRecDepth 20000 in
theorem gX9_next_X9_isOpen : GoodIn wsX9_next (wsV RX9 153 RX9 yX9_isOpen wsX9_isOpen) := goodIn_app (goodIn_of _ (by decide +kernel)) ggX9_next_X9_isOpen
set_option maxRecDepth 20000 in
theorem ggX9_next_X9_squareOf : GoodIn wsX9_next wsX9_squareOf := goodIn_r _ [27] (by decide +kernel) (by decide +kernel)
set_option maxRecDepth 20000 in
theorem gX9_next_X9_squareOf : GoodIn wsX9_next (va_wsS RX9 144 yX9_squareOf wsX9_squareOf) := goodIn_app (goodIn_of _ (by decide +kernel)) ggX9_next_X9_squareOf
set_option maxRecDepth 20000 in
theorem ggX9_steps_X9_sheeted : GoodIn wsX9_steps wsX9_sheeted := goodIn_r _ [13, 3, 18, 19, 20, 21, 22, 23, 24, 25, 26, 27, 28, 29, 30, 31, 32, 33, 34, 35, 36, 37, 38, 39, 40, 41, 42, 43, 44, 45, 46, 47, 48, 49, 50, 51, 52, 53, 54, 55, 56, 57, 58] (by decide +kernel) (by decide +kernel)
set_option maxRecDepth 20000 in
theorem gX9_steps_X9_sheeted : GoodIn wsX9_steps (wsV RX9 122 RX9 yX9_sheeted wsX9_sheeted) := goodIn_app (goodIn_of _ (by decide +kernel)) ggX9_steps_X9_sheeted
set_option maxRecDepth 20000 in
theorem ggX9_steps_X9_no : GoodIn wsX9_steps wsX9_no := goodIn_r _ [17, 2, 18, 19, 20, 21, 22, 23, 24, 25, 26, 27, 28, 29, 30, 31, 32, 33, 34, 35, 36, 37, 38, 39, 40, 41, 42, 43, 44, 45, 46, 47, 48, 49, 50, 51, 52, 53, 54, 55, 56, 57, 58] (by decide +kernel) (by decide +kernel)
set_option maxRecDepth 20000 in
theorem gX9_steps_X9_no : GoodIn wsX9_steps (wsV RX9 118 RX9 yX9_no wsX9_no) := goodIn_app (goodIn_of _ (by decide +kernel)) ggX9_steps_X9_no
set_option maxRecDepth 20000 in
theorem ggX9_step_X9_refuse : GoodIn wsX9_step wsX9_refuse := goodIn_r _ [11, 2, 12, 13, 14, 15, 16, 17, 18, 19, 20, 21, 22, 23, 24, 25, 26, 27, 28, 29, 30, 31, 32, 33, 34, 35, 36, 37, 38, 39, 40, 41, 42, 43, 44, 45, 46, 47, 48, 49, 50, 51, 52] (by decide +kernel) (by decide +kernel)
set_option maxRecDepth 20000 in
theorem gX9_step_X9_refuse : GoodIn wsX9_step (wsV RX9 156 RX9 yX9_refuse wsX9_refuse) := goodIn_app (goodIn_of _ (by decide +kernel)) ggX9_step_X9_refuse
set_option maxRecDepth 20000 in
theorem ggX9_told_X9_no : GoodIn wsX9_told wsX9_no := goodIn_r _ [9, 2, 10, 11, 12, 13, 14, 15, 16, 17, 18, 19, 20, 21, 22, 23, 24, 25, 26, 27, 28, 29, 30, 31, 32, 33, 34, 35, 36, 37, 38, 39, 40, 41, 42, 43, 44, 45, 46, 47, 48, 49, 50] (by decide +kernel) (by decide +kernel)
set_option maxRecDepth 20000 in
theorem gX9_told_X9_no : GoodIn wsX9_told (wsV RX9 118 RX9 yX9_no wsX9_no) := goodIn_app (goodIn_of _ (by decide +kernel)) ggX9_told_X9_no
set_option maxRecDepth 20000 in
theorem ggX9_kind_X9_no : GoodIn wsX9_kind wsX9_no := goodIn_r _ [10, 2, 11, 12, 13, 14, 15, 16, 17, 18, 19, 20, 21, 22, 23, 24, 25, 26, 27, 28, 29, 30, 31, 32, 33, 34, 35, 36, 37, 38, 39, 40, 41, 42, 43, 44, 45, 46, 47, 48, 49, 50, 51] (by decide +kernel) (by decide +kernel)
set_option maxRecDepth 20000 in
theorem gX9_kind_X9_no : GoodIn wsX9_kind (wsV RX9 118 RX9 yX9_no wsX9_no) := goodIn_app (goodIn_of _ (by decide +kernel)) ggX9_kind_X9_no
set_option maxRecDepth 20000 in
theorem ggX9_bar_X9_isSquare : GoodIn wsX9_bar wsX9_isSquare := goodIn_r _ [7] (by decide +kernel) (by decide +kernel)
set_option maxRecDepth 20000 in
theorem gX9_bar_X9_isSquare : GoodIn wsX9_bar (va_wsS RX9 133 yX9_isSquare wsX9_isSquare) := goodIn_app (goodIn_of _ (by decide +kernel)) ggX9_bar_X9_isSquare
set_option maxRecDepth 20000 in
theorem ggX9_bar_X9_no : GoodIn wsX9_bar wsX9_no := goodIn_r _ [11, 2, 15, 16, 17, 18, 19, 20, 21, 22, 23, 24, 25, 26, 27, 28, 29, 30, 31, 32, 33, 34, 35, 36, 37, 38, 39, 40, 41, 42, 43, 44, 45, 46, 47, 48, 49, 50, 51, 52, 53, 54, 55] (by decide +kernel) (by decide +kernel)
set_option maxRecDepth 20000 in
theorem gX9_bar_X9_no : GoodIn wsX9_bar (wsV RX9 118 RX9 yX9_no wsX9_no) := goodIn_app (goodIn_of _ (by decide +kernel)) ggX9_bar_X9_no
set_option maxRecDepth 20000 in
theorem ggX9_bar_X9_squareOf : GoodIn wsX9_bar wsX9_squareOf := goodIn_r _ [14] (by decide +kernel) (by decide +kernel)
set_option maxRecDepth 20000 in
theorem gX9_bar_X9_squareOf : GoodIn wsX9_bar (va_wsS RX9 144 yX9_squareOf wsX9_squareOf) := goodIn_app (goodIn_of _ (by decide +kernel)) ggX9_bar_X9_squareOf
set_option maxRecDepth 20000 in
theorem ggX9_wall_X9_sheeted : GoodIn wsX9_wall wsX9_sheeted := goodIn_r _ [11, 4, 22, 23, 24, 25, 26, 27, 28, 29, 30, 31, 32, 33, 34, 35, 36, 37, 38, 39, 40, 41, 42, 43, 44, 45, 46, 47, 48, 49, 50, 51, 52, 53, 54, 55, 56, 57, 58, 59, 60, 61, 62] (by decide +kernel) (by decide +kernel)
set_option maxRecDepth 20000 in
theorem gX9_wall_X9_sheeted : GoodIn wsX9_wall (wsV RX9 122 RX9 yX9_sheeted wsX9_sheeted) := goodIn_app (goodIn_of _ (by decide +kernel)) ggX9_wall_X9_sheeted
set_option maxRecDepth 20000 in
theorem ggX9_wall_X9_refuse : GoodIn wsX9_wall wsX9_refuse := goodIn_r _ [15, 2, 22, 23, 24, 25, 26, 27, 28, 29, 30, 31, 32, 33, 34, 35, 36, 37, 38, 39, 40, 41, 42, 43, 44, 45, 46, 47, 48, 49, 50, 51, 52, 53, 54, 55, 56, 57, 58, 59, 60, 61, 62] (by decide +kernel) (by decide +kernel)
set_option maxRecDepth 20000 in
theorem gX9_wall_X9_refuse : GoodIn wsX9_wall (wsV RX9 156 RX9 yX9_refuse wsX9_refuse) := goodIn_app (goodIn_of _ (by decide +kernel)) ggX9_wall_X9_refuse
set_option maxRecDepth 20000 in
theorem ggX9_wall_X9_isSquare : GoodIn wsX9_wall wsX9_isSquare := goodIn_r _ [18] (by decide +kernel) (by decide +kernel)
set_option maxRecDepth 20000 in
theorem gX9_wall_X9_isSquare : GoodIn wsX9_wall (va_wsS RX9 133 yX9_isSquare wsX9_isSquare) := goodIn_app (goodIn_of _ (by decide +kernel)) ggX9_wall_X9_isSquare
set_option maxRecDepth 20000 in
theorem ggX9_wall_X9_squareOf : GoodIn wsX9_wall wsX9_squareOf := goodIn_r _ [21] (by decide +kernel) (by decide +kernel)
set_option maxRecDepth 20000 in
theorem gX9_wall_X9_squareOf : GoodIn wsX9_wall (va_wsS RX9 144 yX9_squareOf wsX9_squareOf) := goodIn_app (goodIn_of _ (by decide +kernel)) ggX9_wall_X9_squareOf
set_option maxRecDepth 20000 in
theorem ggX9_from_X9_isSquare : GoodIn wsX9_from wsX9_isSquare := goodIn_r _ [8] (by decide +kernel) (by decide +kernel)
set_option maxRecDepth 20000 in
theorem gX9_from_X9_isSquare : GoodIn wsX9_from (va_wsS RX9 133 yX9_isSquare wsX9_isSquare) := goodIn_app (goodIn_of _ (by decide +kernel)) ggX9_from_X9_isSquare
set_option maxRecDepth 20000 in
theorem ggX9_from_X9_no : GoodIn wsX9_from wsX9_no := goodIn_r _ [12, 2, 13, 14, 15, 16, 17, 18, 19, 20, 21, 22, 23, 24, 25, 26, 27, 28, 29, 30, 31, 32, 33, 34, 35, 36, 37, 38, 39, 40, 41, 42, 43, 44, 45, 46, 47, 48, 49, 50, 51, 52, 53] (by decide +kernel) (by decide +kernel)
set_option maxRecDepth 20000 in
theorem gX9_from_X9_no : GoodIn wsX9_from (wsV RX9 118 RX9 yX9_no wsX9_no) := goodIn_app (goodIn_of _ (by decide +kernel)) ggX9_from_X9_no
set_option maxRecDepth 20000 in
theorem ggX9_to_X9_isSquare : GoodIn wsX9_to wsX9_isSquare := goodIn_r _ [8] (by decide +kernel) (by decide +kernel)
set_option maxRecDepth 20000 in
theorem gX9_to_X9_isSquare : GoodIn wsX9_to (va_wsS RX9 133 yX9_isSquare wsX9_isSquare) := goodIn_app (goodIn_of _ (by decide +kernel)) ggX9_to_X9_isSquare
set_option maxRecDepth 20000 in
theorem ggX9_to_X9_no : GoodIn wsX9_to wsX9_no := goodIn_r _ [12, 2, 13, 14, 15, 16, 17, 18, 19, 20, 21, 22, 23, 24, 25, 26, 27, 28, 29, 30, 31, 32, 33, 34, 35, 36, 37, 38, 39, 40, 41, 42, 43, 44, 45, 46, 47, 48, 49, 50, 51, 52, 53] (by decide +kernel) (by decide +kernel)
set_option maxRecDepth 20000 in
theorem gX9_to_X9_no : GoodIn wsX9_to (wsV RX9 118 RX9 yX9_no wsX9_no) := goodIn_app (goodIn_of _ (by decide +kernel)) ggX9_to_X9_no
set_option maxRecDepth 20000 in
theorem ggX9_open_X9_isSquare : GoodIn wsX9_open wsX9_isSquare := goodIn_r _ [6] (by decide +kernel) (by decide +kernel)
set_option maxRecDepth 20000 in
theorem gX9_open_X9_isSquare : GoodIn wsX9_open (va_wsS RX9 133 yX9_isSquare wsX9_isSquare) := goodIn_app (goodIn_of _ (by decide +kernel)) ggX9_open_X9_isSquare
set_option maxRecDepth 20000 in
theorem ggX9_open_X9_refuse : GoodIn wsX9_open wsX9_refuse := goodIn_r _ [10, 2, 26, 27, 28, 29, 30, 31, 32, 33, 34, 35, 36, 37, 38, 39, 40, 41, 42, 43, 44, 45, 46, 47, 48, 49, 50, 51, 52, 53, 54, 55, 56, 57, 58, 59, 60, 61, 62, 63, 64, 65, 66] (by decide +kernel) (by decide +kernel)
set_option maxRecDepth 20000 in
theorem gX9_open_X9_refuse : GoodIn wsX9_open (wsV RX9 156 RX9 yX9_refuse wsX9_refuse) := goodIn_app (goodIn_of _ (by decide +kernel)) ggX9_open_X9_refuse
set_option maxRecDepth 20000 in
theorem ggX9_open_X9_isOpen : GoodIn wsX9_open wsX9_isOpen := goodIn_r _ [14, 15, 16, 3, 4, 5, 6, 17, 18, 19, 20, 21, 22, 23, 24, 25, 26, 27, 28, 29, 30, 31, 32, 33, 34, 35, 36, 37, 38, 39, 40, 41, 42, 43, 44, 45, 46, 47, 48, 49, 50, 51, 52, 53, 54, 55, 56, 57, 58, 59, 60, 61, 62, 63, 64, 65, 66] (by decide +kernel) (by decide +kernel)
set_option maxRecDepth 20000 in
theorem gX9_open_X9_isOpen : GoodIn wsX9_open (wsV RX9 153 RX9 yX9_isOpen wsX9_isOpen) := goodIn_app (goodIn_of _ (by decide +kernel)) ggX9_open_X9_isOpen
set_option maxRecDepth 20000 in
theorem ggX9_fill_X9_xOf : GoodIn wsX9_fill wsX9_xOf := goodIn_r _ [8] (by decide +kernel) (by decide +kernel)
set_option maxRecDepth 20000 in
theorem gX9_fill_X9_xOf : GoodIn wsX9_fill (va_wsS RX9 147 yX9_xOf wsX9_xOf) := goodIn_app (goodIn_of _ (by decide +kernel)) ggX9_fill_X9_xOf
set_option maxRecDepth 20000 in
theorem ggX9_fill_X9_yOf : GoodIn wsX9_fill wsX9_yOf := goodIn_r _ [11] (by decide +kernel) (by decide +kernel)
set_option maxRecDepth 20000 in
theorem gX9_fill_X9_yOf : GoodIn wsX9_fill (va_wsS RX9 150 yX9_yOf wsX9_yOf) := goodIn_app (goodIn_of _ (by decide +kernel)) ggX9_fill_X9_yOf
set_option maxRecDepth 20000 in
theorem ggX9_fill_X9_isOpen : GoodIn wsX9_fill wsX9_isOpen := goodIn_r _ [15, 16, 17, 18, 19, 7, 20, 21, 22, 23, 24, 25, 26, 27, 28, 29, 40, 41, 42, 43, 44, 45, 46, 47, 48, 49, 50, 51, 52, 53, 54, 55, 56, 57, 58, 59, 60, 61, 62, 63, 64, 65, 66, 67, 68, 69, 70, 71, 72, 73, 74, 75, 76, 77, 78, 79, 80] (by decide +kernel) (by decide +kernel)
set_option maxRecDepth 20000 in
theorem gX9_fill_X9_isOpen : GoodIn wsX9_fill (wsV RX9 153 RX9 yX9_isOpen wsX9_isOpen) := goodIn_app (goodIn_of _ (by decide +kernel)) ggX9_fill_X9_isOpen
set_option maxRecDepth 20000 in
theorem ggX9_fill_X9_squareOf : GoodIn wsX9_fill wsX9_squareOf := goodIn_r _ [29] (by decide +kernel) (by decide +kernel)
set_option maxRecDepth 20000 in
theorem gX9_fill_X9_squareOf : GoodIn wsX9_fill (va_wsS RX9 144 yX9_squareOf wsX9_squareOf) := goodIn_app (goodIn_of _ (by decide +kernel)) ggX9_fill_X9_squareOf
set_option maxRecDepth 20000 in
theorem ggX9_fill_X9_next : GoodIn wsX9_fill wsX9_next := goodIn_r _ [33, 34, 35, 16, 26, 5, 6, 7, 8, 9, 10, 11, 12, 13, 14, 15, 17, 18, 19, 20, 21, 22, 23, 24, 25, 27, 28, 29, 40, 41, 42, 43, 44, 45, 46, 47, 48, 49, 50, 51, 52, 53, 54, 55, 56, 57, 58, 59, 60, 61, 62, 63, 64, 65, 66, 67, 68, 69, 70, 71, 72, 73, 74, 75, 76, 77, 78, 79, 80] (by decide +kernel) (by decide +kernel)
set_option maxRecDepth 20000 in
theorem gX9_fill_X9_next : GoodIn wsX9_fill (wsV RX9 175 RX9 yX9_next wsX9_next) := goodIn_app (goodIn_of _ (by decide +kernel)) ggX9_fill_X9_next
set_option maxRecDepth 20000 in
theorem ggX9_fill_X9_plus : GoodIn wsX9_fill wsX9_plus := goodIn_r _ [38, 39] (by decide +kernel) (by decide +kernel)
set_option maxRecDepth 20000 in
theorem gX9_fill_X9_plus : GoodIn wsX9_fill (va_wsS RX9 178 yX9_plus wsX9_plus) := goodIn_app (goodIn_of _ (by decide +kernel)) ggX9_fill_X9_plus
set_option maxRecDepth 20000 in
theorem ggX9_areOpen_X9_isOpen : GoodIn wsX9_areOpen wsX9_isOpen := goodIn_r _ [9, 10, 11, 12, 13, 8, 14, 15, 16, 17, 18, 19, 20, 21, 22, 23, 24, 25, 26, 27, 28, 29, 30, 31, 32, 33, 34, 35, 36, 37, 38, 39, 40, 41, 42, 43, 44, 45, 46, 47, 48, 49, 50, 51, 52, 53, 54, 55, 56, 57, 58, 59, 60, 61, 62, 63, 64] (by decide +kernel) (by decide +kernel)
set_option maxRecDepth 20000 in
theorem gX9_areOpen_X9_isOpen : GoodIn wsX9_areOpen (wsV RX9 153 RX9 yX9_isOpen wsX9_isOpen) := goodIn_app (goodIn_of _ (by decide +kernel)) ggX9_areOpen_X9_isOpen
set_option maxRecDepth 20000 in
theorem ggX9_countOf_X9_fill : GoodIn wsX9_countOf wsX9_fill := goodIn_r _ [8, 1, 9, 10, 11, 12, 13, 7, 14, 15, 16, 17, 18, 19, 20, 21, 22, 23, 24, 25, 26, 27, 28, 29, 30, 31, 32, 33, 34, 35, 36, 37, 38, 39, 40, 41, 42, 43, 44, 45, 46, 47, 48, 49, 50, 51, 52, 53, 54, 55, 56, 57, 58, 59, 60, 61, 62, 63, 64, 65, 66, 67, 68, 69, 70, 71, 72, 73, 74, 75, 76, 77, 78, 79, 80, 81, 82, 83, 84, 85, 86] (by decide +kernel) (by decide +kernel)
set_option maxRecDepth 20000 in
theorem gX9_countOf_X9_fill : GoodIn wsX9_countOf (wsV RX9 182 RX9 yX9_fill wsX9_fill) := goodIn_app (goodIn_of _ (by decide +kernel)) ggX9_countOf_X9_fill
set_option maxRecDepth 20000 in
theorem ggX9_countOf_X9_squareOf : GoodIn wsX9_countOf wsX9_squareOf := goodIn_r _ [35] (by decide +kernel) (by decide +kernel)
set_option maxRecDepth 20000 in
theorem gX9_countOf_X9_squareOf : GoodIn wsX9_countOf (va_wsS RX9 144 yX9_squareOf wsX9_squareOf) := goodIn_app (goodIn_of _ (by decide +kernel)) ggX9_countOf_X9_squareOf
set_option maxRecDepth 20000 in
theorem ggX9_count_X9_refuse : GoodIn wsX9_count wsX9_refuse := goodIn_r _ [8, 2, 60, 61, 62, 63, 64, 65, 66, 67, 68, 69, 70, 71, 72, 73, 74, 75, 76, 77, 78, 79, 80, 81, 82, 83, 84, 85, 86, 87, 88, 89, 90, 91, 92, 93, 94, 95, 96, 97, 98, 99, 100] (by decide +kernel) (by decide +kernel)
set_option maxRecDepth 20000 in
theorem gX9_count_X9_refuse : GoodIn wsX9_count (wsV RX9 156 RX9 yX9_refuse wsX9_refuse) := goodIn_app (goodIn_of _ (by decide +kernel)) ggX9_count_X9_refuse
set_option maxRecDepth 20000 in
theorem ggX9_count_X9_areOpen : GoodIn wsX9_count wsX9_areOpen := goodIn_r _ [12, 13, 14, 15, 16, 17, 18, 19, 7, 20, 21, 22, 23, 24, 25, 26, 27, 28, 29, 30, 31, 32, 33, 34, 60, 61, 62, 63, 64, 65, 66, 67, 68, 69, 70, 71, 72, 73, 74, 75, 76, 77, 78, 79, 80, 81, 82, 83, 84, 85, 86, 87, 88, 89, 90, 91, 92, 93, 94, 95, 96, 97, 98, 99, 100] (by decide +kernel) (by decide +kernel)
set_option maxRecDepth 20000 in
theorem gX9_count_X9_areOpen : GoodIn wsX9_count (wsV RX9 186 RX9 yX9_areOpen wsX9_areOpen) := goodIn_app (goodIn_of _ (by decide +kernel)) ggX9_count_X9_areOpen
set_option maxRecDepth 20000 in
theorem ggX9_count_X9_countOf : GoodIn wsX9_count wsX9_countOf := goodIn_r _ [38, 39, 13, 14, 40, 41, 42, 7, 43, 15, 16, 44, 45, 46, 47, 48, 49, 50, 17, 18, 19, 20, 21, 22, 23, 24, 25, 26, 27, 28, 29, 30, 31, 32, 33, 34, 51, 52, 53, 54, 55, 56, 57, 58, 59, 3, 60, 61, 62, 63, 64, 65, 66, 67, 68, 69, 70, 71, 72, 73, 74, 75, 76, 77, 78, 79, 80, 81, 82, 83, 84, 85, 86, 87, 88, 89, 90, 91, 92, 93, 94, 95, 96, 97, 98, 99, 100] (by decide +kernel) (by decide +kernel)
set_option maxRecDepth 20000 in
theorem gX9_count_X9_countOf : GoodIn wsX9_count (wsV RX9 190 RX9 yX9_countOf wsX9_countOf) := goodIn_app (goodIn_of _ (by decide +kernel)) ggX9_count_X9_countOf
set_option maxRecDepth 20000 in
theorem ggX9_all_X9_refuse : GoodIn wsX9_all wsX9_refuse := goodIn_r _ [11, 2, 52, 53, 54, 55, 56, 57, 58, 59, 60, 61, 62, 63, 64, 65, 66, 67, 68, 69, 70, 71, 72, 73, 74, 75, 76, 77, 78, 79, 80, 81, 82, 83, 84, 85, 86, 87, 88, 89, 90, 91, 92] (by decide +kernel) (by decide +kernel)
set_option maxRecDepth 20000 in
theorem gX9_all_X9_refuse : GoodIn wsX9_all (wsV RX9 156 RX9 yX9_refuse wsX9_refuse) := goodIn_app (goodIn_of _ (by decide +kernel)) ggX9_all_X9_refuse
set_option maxRecDepth 20000 in
theorem ggX9_all_X9_isOpen : GoodIn wsX9_all wsX9_isOpen := goodIn_r _ [15, 16, 17, 18, 19, 10, 20, 21, 22, 23, 24, 25, 26, 27, 28, 29, 52, 53, 54, 55, 56, 57, 58, 59, 60, 61, 62, 63, 64, 65, 66, 67, 68, 69, 70, 71, 72, 73, 74, 75, 76, 77, 78, 79, 80, 81, 82, 83, 84, 85, 86, 87, 88, 89, 90, 91, 92] (by decide +kernel) (by decide +kernel)
set_option maxRecDepth 20000 in
theorem gX9_all_X9_isOpen : GoodIn wsX9_all (wsV RX9 153 RX9 yX9_isOpen wsX9_isOpen) := goodIn_app (goodIn_of _ (by decide +kernel)) ggX9_all_X9_isOpen
set_option maxRecDepth 20000 in
theorem ggX9_all_X9_fill : GoodIn wsX9_all wsX9_fill := goodIn_r _ [33, 5, 34, 35, 36, 37, 38, 10, 39, 40, 41, 42, 12, 13, 14, 15, 16, 17, 18, 19, 20, 21, 22, 23, 24, 25, 26, 27, 28, 29, 43, 44, 45, 46, 47, 48, 49, 50, 51, 6, 52, 53, 54, 55, 56, 57, 58, 59, 60, 61, 62, 63, 64, 65, 66, 67, 68, 69, 70, 71, 72, 73, 74, 75, 76, 77, 78, 79, 80, 81, 82, 83, 84, 85, 86, 87, 88, 89, 90, 91, 92] (by decide +kernel) (by decide +kernel)
set_option maxRecDepth 20000 in
theorem gX9_all_X9_fill : GoodIn wsX9_all (wsV RX9 182 RX9 yX9_fill wsX9_fill) := goodIn_app (goodIn_of _ (by decide +kernel)) ggX9_all_X9_fill
set_option maxRecDepth 20000 in
theorem ggX9_all_X9_squareOf : GoodIn wsX9_all wsX9_squareOf := goodIn_r _ [29] (by decide +kernel) (by decide +kernel)
set_option maxRecDepth 20000 in
theorem gX9_all_X9_squareOf : GoodIn wsX9_all (va_wsS RX9 144 yX9_squareOf wsX9_squareOf) := goodIn_app (goodIn_of _ (by decide +kernel)) ggX9_all_X9_squareOf
set_option maxRecDepth 20000 in
theorem ggX9_least_X9_areOpen : GoodIn wsX9_least wsX9_areOpen := goodIn_r _ [10, 4, 5, 11, 12, 13, 14, 15, 9, 16, 17, 18, 19, 20, 21, 22, 23, 24, 25, 26, 27, 28, 29, 30, 56, 57, 58, 59, 60, 61, 62, 63, 64, 65, 66, 67, 68, 69, 70, 71, 72, 73, 74, 75, 76, 77, 78, 79, 80, 81, 82, 83, 84, 85, 86, 87, 88, 89, 90, 91, 92, 93, 94, 95, 96] (by decide +kernel) (by decide +kernel)
set_option maxRecDepth 20000 in
theorem gX9_least_X9_areOpen : GoodIn wsX9_least (wsV RX9 186 RX9 yX9_areOpen wsX9_areOpen) := goodIn_app (goodIn_of _ (by decide +kernel)) ggX9_least_X9_areOpen
set_option maxRecDepth 20000 in
theorem ggX9_least_X9_refuse : GoodIn wsX9_least wsX9_refuse := goodIn_r _ [34, 2, 56, 57, 58, 59, 60, 61, 62, 63, 64, 65, 66, 67, 68, 69, 70, 71, 72, 73, 74, 75, 76, 77, 78, 79, 80, 81, 82, 83, 84, 85, 86, 87, 88, 89, 90, 91, 92, 93, 94, 95, 96] (by decide +kernel) (by decide +kernel)
set_option maxRecDepth 20000 in
theorem gX9_least_X9_refuse : GoodIn wsX9_least (wsV RX9 156 RX9 yX9_refuse wsX9_refuse) := goodIn_app (goodIn_of _ (by decide +kernel)) ggX9_least_X9_refuse
set_option maxRecDepth 20000 in
theorem ggX9_least_X9_fill : GoodIn wsX9_least wsX9_fill := goodIn_r _ [38, 3, 11, 12, 39, 40, 41, 9, 42, 43, 44, 45, 13, 14, 15, 16, 17, 18, 19, 20, 21, 22, 23, 24, 25, 26, 27, 28, 29, 30, 46, 47, 48, 49, 50, 51, 52, 53, 54, 55, 56, 57, 58, 59, 60, 61, 62, 63, 64, 65, 66, 67, 68, 69, 70, 71, 72, 73, 74, 75, 76, 77, 78, 79, 80, 81, 82, 83, 84, 85, 86, 87, 88, 89, 90, 91, 92, 93, 94, 95, 96] (by decide +kernel) (by decide +kernel)
set_option maxRecDepth 20000 in
theorem gX9_least_X9_fill : GoodIn wsX9_least (wsV RX9 182 RX9 yX9_fill wsX9_fill) := goodIn_app (goodIn_of _ (by decide +kernel)) ggX9_least_X9_fill
set_option maxRecDepth 20000 in
theorem ggX9_least_X9_squareOf : GoodIn wsX9_least wsX9_squareOf := goodIn_r _ [30] (by decide +kernel) (by decide +kernel)
set_option maxRecDepth 20000 in
theorem gX9_least_X9_squareOf : GoodIn wsX9_least (va_wsS RX9 144 yX9_squareOf wsX9_squareOf) := goodIn_app (goodIn_of _ (by decide +kernel)) ggX9_least_X9_squareOf
set_option maxRecDepth 20000 in
theorem ggX9_adds_X9_yOf : GoodIn wsX9_adds wsX9_yOf := goodIn_r _ [5] (by decide +kernel) (by decide +kernel)
set_option maxRecDepth 20000 in
theorem gX9_adds_X9_yOf : GoodIn wsX9_adds (va_wsS RX9 150 yX9_yOf wsX9_yOf) := goodIn_app (goodIn_of _ (by decide +kernel)) ggX9_adds_X9_yOf
set_option maxRecDepth 20000 in
theorem ggX9_weighed_X9_hasArea : GoodIn wsX9_weighed wsX9_hasArea := goodIn_r _ [5, 6, 32, 33, 34, 35, 36, 37, 38, 39, 40, 41, 42, 43, 44, 45, 46, 47, 48, 49, 50, 51, 52, 53, 54, 55, 56, 57, 58, 59, 60, 61, 62, 63, 64, 65, 66, 67, 68, 69, 70, 71, 72] (by decide +kernel) (by decide +kernel)
set_option maxRecDepth 20000 in
theorem gX9_weighed_X9_hasArea : GoodIn wsX9_weighed (wsV RX9 194 RX9 yX9_hasArea wsX9_hasArea) := goodIn_app (goodIn_of _ (by decide +kernel)) ggX9_weighed_X9_hasArea
