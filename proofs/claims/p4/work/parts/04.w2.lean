set_option maxRecDepth 20000 in
theorem ggX8_wall_X4_setBarred : GoodIn wsX8_wall wsX4_setBarred := goodIn_r _ [41, 42, 43, 44, 35, 36, 37, 45, 46, 47, 48, 49, 50, 51, 52, 53, 54, 55, 56, 57, 58, 59, 60, 61, 62, 63, 91, 92, 93, 94, 95, 96, 97, 98, 99, 100, 101, 102, 103, 104, 105] (by decide +kernel) (by decide +kernel)
set_option maxRecDepth 20000 in
theorem gX8_wall_X4_setBarred : GoodIn wsX8_wall (wsV RX8 147 RX4 yX4_setBarred wsX4_setBarred) := goodIn_app (goodIn_of _ (by decide +kernel)) ggX8_wall_X4_setBarred
set_option maxRecDepth 20000 in
theorem ggX8_wall_X8_forgetWays : GoodIn wsX8_wall wsX8_forgetWays := goodIn_r _ [67, 68, 69, 70, 71, 72, 73, 74, 79, 80, 81, 82, 83, 84, 85, 86, 87, 88, 89, 90, 109, 110, 111, 112] (by decide +kernel) (by decide +kernel)
set_option maxRecDepth 20000 in
theorem gX8_wall_X8_forgetWays : GoodIn wsX8_wall (wsV RX8 125 RX8 yX8_forgetWays wsX8_forgetWays) := goodIn_app (goodIn_of _ (by decide +kernel)) ggX8_wall_X8_forgetWays
set_option maxRecDepth 20000 in
theorem ggX8_wall_X8_given : GoodIn wsX8_wall wsX8_given := goodIn_r _ [78, 23, 79, 80, 81, 82, 83, 84, 85, 86, 87, 88, 89, 90] (by decide +kernel) (by decide +kernel)
set_option maxRecDepth 20000 in
theorem gX8_wall_X8_given : GoodIn wsX8_wall (wsV RX8 95 RX8 yX8_given wsX8_given) := goodIn_app (goodIn_of _ (by decide +kernel)) ggX8_wall_X8_given
set_option maxRecDepth 20000 in
theorem ggX8_from_X4_isSquare : GoodIn wsX8_from wsX4_isSquare := goodIn_r _ [7] (by decide +kernel) (by decide +kernel)
set_option maxRecDepth 20000 in
theorem gX8_from_X4_isSquare : GoodIn wsX8_from (va_wsS RX8 144 yX4_isSquare wsX4_isSquare) := goodIn_app (goodIn_of _ (by decide +kernel)) ggX8_from_X4_isSquare
set_option maxRecDepth 20000 in
theorem ggX8_from_X8_denied : GoodIn wsX8_from wsX8_denied := goodIn_r _ [12, 13, 18, 19, 20, 21, 22, 23, 24, 25, 26, 27, 28, 29] (by decide +kernel) (by decide +kernel)
set_option maxRecDepth 20000 in
theorem gX8_from_X8_denied : GoodIn wsX8_from (wsV RX8 70 RX8 yX8_denied wsX8_denied) := goodIn_app (goodIn_of _ (by decide +kernel)) ggX8_from_X8_denied
set_option maxRecDepth 20000 in
theorem ggX8_from_X8_granted : GoodIn wsX8_from wsX8_granted := goodIn_r _ [17, 13, 18, 19, 20, 21, 22, 23, 24, 25, 26, 27, 28, 29] (by decide +kernel) (by decide +kernel)
set_option maxRecDepth 20000 in
theorem gX8_from_X8_granted : GoodIn wsX8_from (wsV RX8 77 RX8 yX8_granted wsX8_granted) := goodIn_app (goodIn_of _ (by decide +kernel)) ggX8_from_X8_granted
set_option maxRecDepth 20000 in
theorem ggX8_to_X4_isSquare : GoodIn wsX8_to wsX4_isSquare := goodIn_r _ [7] (by decide +kernel) (by decide +kernel)
set_option maxRecDepth 20000 in
theorem gX8_to_X4_isSquare : GoodIn wsX8_to (va_wsS RX8 144 yX4_isSquare wsX4_isSquare) := goodIn_app (goodIn_of _ (by decide +kernel)) ggX8_to_X4_isSquare
set_option maxRecDepth 20000 in
theorem ggX8_to_X8_denied : GoodIn wsX8_to wsX8_denied := goodIn_r _ [12, 13, 29, 30, 31, 32, 33, 34, 35, 36, 37, 38, 39, 40] (by decide +kernel) (by decide +kernel)
set_option maxRecDepth 20000 in
theorem gX8_to_X8_denied : GoodIn wsX8_to (wsV RX8 70 RX8 yX8_denied wsX8_denied) := goodIn_app (goodIn_of _ (by decide +kernel)) ggX8_to_X8_denied
set_option maxRecDepth 20000 in
theorem ggX8_to_X8_forgetWays : GoodIn wsX8_to wsX8_forgetWays := goodIn_r _ [17, 18, 19, 20, 21, 22, 23, 24, 29, 30, 31, 32, 33, 34, 35, 36, 37, 38, 39, 40, 56, 57, 58, 59] (by decide +kernel) (by decide +kernel)
set_option maxRecDepth 20000 in
theorem gX8_to_X8_forgetWays : GoodIn wsX8_to (wsV RX8 125 RX8 yX8_forgetWays wsX8_forgetWays) := goodIn_app (goodIn_of _ (by decide +kernel)) ggX8_to_X8_forgetWays
set_option maxRecDepth 20000 in
theorem ggX8_to_X8_granted : GoodIn wsX8_to wsX8_granted := goodIn_r _ [28, 13, 29, 30, 31, 32, 33, 34, 35, 36, 37, 38, 39, 40] (by decide +kernel) (by decide +kernel)
set_option maxRecDepth 20000 in
theorem gX8_to_X8_granted : GoodIn wsX8_to (wsV RX8 77 RX8 yX8_granted wsX8_granted) := goodIn_app (goodIn_of _ (by decide +kernel)) ggX8_to_X8_granted
set_option maxRecDepth 20000 in
theorem ggX8_open_X4_isSquare : GoodIn wsX8_open wsX4_isSquare := goodIn_r _ [5] (by decide +kernel) (by decide +kernel)
set_option maxRecDepth 20000 in
theorem gX8_open_X4_isSquare : GoodIn wsX8_open (va_wsS RX8 144 yX4_isSquare wsX4_isSquare) := goodIn_app (goodIn_of _ (by decide +kernel)) ggX8_open_X4_isSquare
set_option maxRecDepth 20000 in
theorem ggX8_open_X8_refused : GoodIn wsX8_open wsX8_refused := goodIn_r _ [10, 11, 25, 26, 27, 28, 29, 30, 31, 32, 33, 34, 35, 36] (by decide +kernel) (by decide +kernel)
set_option maxRecDepth 20000 in
theorem gX8_open_X8_refused : GoodIn wsX8_open (wsV RX8 88 RX8 yX8_refused wsX8_refused) := goodIn_app (goodIn_of _ (by decide +kernel)) ggX8_open_X8_refused
set_option maxRecDepth 20000 in
theorem ggX8_open_X4_isOpen : GoodIn wsX8_open wsX4_isOpen := goodIn_r _ [15, 16, 17, 3, 4, 5, 18, 19, 20, 37, 38, 39, 40, 41, 42, 43, 44, 45, 46, 47, 48, 49, 50, 51] (by decide +kernel) (by decide +kernel)
set_option maxRecDepth 20000 in
theorem gX8_open_X4_isOpen : GoodIn wsX8_open (wsV RX8 166 RX4 yX4_isOpen wsX4_isOpen) := goodIn_app (goodIn_of _ (by decide +kernel)) ggX8_open_X4_isOpen
set_option maxRecDepth 20000 in
theorem ggX8_open_X8_given : GoodIn wsX8_open wsX8_given := goodIn_r _ [24, 11, 25, 26, 27, 28, 29, 30, 31, 32, 33, 34, 35, 36] (by decide +kernel) (by decide +kernel)
set_option maxRecDepth 20000 in
theorem gX8_open_X8_given : GoodIn wsX8_open (wsV RX8 95 RX8 yX8_given wsX8_given) := goodIn_app (goodIn_of _ (by decide +kernel)) ggX8_open_X8_given
set_option maxRecDepth 20000 in
theorem ggX8_count_X8_walkFault : GoodIn wsX8_count wsX8_walkFault := goodIn_r _ [6, 1, 7, 8, 5, 9, 10, 11, 12, 13, 14, 15, 16, 17, 18, 19, 20, 21, 22, 23, 24, 25, 26, 27, 28, 29, 135, 136, 137, 138, 139, 140, 141, 142, 143, 144, 145, 146, 147, 148, 149, 150, 151, 152, 153, 154, 155, 156, 157, 158, 159, 160, 161] (by decide +kernel) (by decide +kernel)
set_option maxRecDepth 20000 in
theorem gX8_count_X8_walkFault : GoodIn wsX8_count (wsV RX8 169 RX8 yX8_walkFault wsX8_walkFault) := goodIn_app (goodIn_of _ (by decide +kernel)) ggX8_count_X8_walkFault
set_option maxRecDepth 20000 in
theorem ggX8_count_X8_refused : GoodIn wsX8_count wsX8_refused := goodIn_r _ [33, 34, 135, 136, 137, 138, 139, 140, 141, 142, 143, 144, 145, 146] (by decide +kernel) (by decide +kernel)
set_option maxRecDepth 20000 in
theorem gX8_count_X8_refused : GoodIn wsX8_count (wsV RX8 88 RX8 yX8_refused wsX8_refused) := goodIn_app (goodIn_of _ (by decide +kernel)) ggX8_count_X8_refused
set_option maxRecDepth 20000 in
theorem ggX8_count_X8_waysFor : GoodIn wsX8_count wsX8_waysFor := goodIn_r _ [38, 39, 40, 41, 5, 42, 43, 44, 45, 46, 1, 47, 48, 49, 50, 51, 52, 53, 54, 55, 56, 57, 58, 59, 60, 61, 62, 63, 64, 65, 66, 13, 67, 17, 18, 27, 28, 29, 68, 69, 70, 71, 72, 73, 74, 75, 23, 76, 77, 78, 79, 80, 81, 82, 83, 84, 85, 86, 87, 88, 89, 90, 91, 92, 93, 94, 95, 96, 97, 98, 99, 100, 101, 102, 103, 104, 105, 106, 107, 108, 109, 110, 111, 112, 113, 114, 115, 116, 117, 135, 136, 137, 138, 139, 140, 141, 142, 143, 144, 145, 146, 162, 163, 164, 165, 147, 148, 149, 150, 151, 152, 153, 154, 155, 156, 157, 158, 159, 160, 161] (by decide +kernel) (by decide +kernel)
set_option maxRecDepth 20000 in
theorem gX8_count_X8_waysFor : GoodIn wsX8_count (wsV RX8 172 RX8 yX8_waysFor wsX8_waysFor) := goodIn_app (goodIn_of _ (by decide +kernel)) ggX8_count_X8_waysFor
set_option maxRecDepth 20000 in
theorem ggX8_count_X4_cellA : GoodIn wsX8_count wsX4_cellA := goodIn_r _ [121, 15, 16, 27, 28, 13, 29, 147, 148, 149, 150, 151, 152, 153, 154, 155, 156, 157, 158, 159, 160, 161] (by decide +kernel) (by decide +kernel)
set_option maxRecDepth 20000 in
theorem gX8_count_X4_cellA : GoodIn wsX8_count (wsV RX8 176 RX4 yX4_cellA wsX4_cellA) := goodIn_app (goodIn_of _ (by decide +kernel)) ggX8_count_X4_cellA
set_option maxRecDepth 20000 in
theorem ggX8_count_X6_onward : GoodIn wsX8_count wsX6_onward := goodIn_r _ [125, 62, 55, 162, 163, 164, 165] (by decide +kernel) (by decide +kernel)
set_option maxRecDepth 20000 in
theorem gX8_count_X6_onward : GoodIn wsX8_count (wsV RX8 180 RX6 yX6_onward wsX6_onward) := goodIn_app (goodIn_of _ (by decide +kernel)) ggX8_count_X6_onward
set_option maxRecDepth 20000 in
theorem ggX8_count_X8_givenUnlessGreat : GoodIn wsX8_count wsX8_givenUnlessGreat := goodIn_r _ [129, 130, 30, 31, 32, 5, 33, 34, 131, 132, 133, 134, 135, 136, 137, 138, 139, 140, 141, 142, 143, 144, 145, 146] (by decide +kernel) (by decide +kernel)
set_option maxRecDepth 20000 in
theorem gX8_count_X8_givenUnlessGreat : GoodIn wsX8_count (wsV RX8 186 RX8 yX8_givenUnlessGreat wsX8_givenUnlessGreat) := goodIn_app (goodIn_of _ (by decide +kernel)) ggX8_count_X8_givenUnlessGreat
set_option maxRecDepth 20000 in
theorem ggX8_all_X8_within : GoodIn wsX8_all wsX8_within := goodIn_r _ [7] (by decide +kernel) (by decide +kernel)
set_option maxRecDepth 20000 in
theorem gX8_all_X8_within : GoodIn wsX8_all (va_wsS RX8 66 yX8_within wsX8_within) := goodIn_app (goodIn_of _ (by decide +kernel)) ggX8_all_X8_within
set_option maxRecDepth 20000 in
theorem ggX8_all_X8_refused : GoodIn wsX8_all wsX8_refused := goodIn_r _ [11, 12, 114, 115, 116, 117, 118, 119, 120, 121, 122, 123, 124, 125] (by decide +kernel) (by decide +kernel)
set_option maxRecDepth 20000 in
theorem gX8_all_X8_refused : GoodIn wsX8_all (wsV RX8 88 RX8 yX8_refused wsX8_refused) := goodIn_app (goodIn_of _ (by decide +kernel)) ggX8_all_X8_refused
set_option maxRecDepth 20000 in
theorem ggX8_all_X4_isOpen : GoodIn wsX8_all wsX4_isOpen := goodIn_r _ [17, 18, 19, 20, 16, 21, 22, 23, 24, 126, 127, 128, 129, 130, 131, 132, 133, 134, 135, 136, 137, 138, 139, 140] (by decide +kernel) (by decide +kernel)
set_option maxRecDepth 20000 in
theorem gX8_all_X4_isOpen : GoodIn wsX8_all (wsV RX8 166 RX4 yX4_isOpen wsX4_isOpen) := goodIn_app (goodIn_of _ (by decide +kernel)) ggX8_all_X4_isOpen
set_option maxRecDepth 20000 in
theorem ggX8_all_X8_waysKept : GoodIn wsX8_all wsX8_waysKept := goodIn_r _ [28, 29, 30, 31, 32, 1, 33, 34, 35, 36, 37, 38, 39, 40, 41, 42, 43, 114, 115, 116, 117, 118, 119, 120, 121, 122, 123, 124, 125, 141, 142, 143, 144] (by decide +kernel) (by decide +kernel)
set_option maxRecDepth 20000 in
theorem gX8_all_X8_waysKept : GoodIn wsX8_all (wsV RX8 190 RX8 yX8_waysKept wsX8_waysKept) := goodIn_app (goodIn_of _ (by decide +kernel)) ggX8_all_X8_waysKept
set_option maxRecDepth 20000 in
theorem ggX8_all_X6_anywhere : GoodIn wsX8_all wsX6_anywhere := goodIn_r _ [47, 42, 43, 48, 49, 50, 51, 32, 52, 53, 54, 55, 16, 56, 18, 57, 58, 59, 60, 61, 62, 63, 23, 24, 64, 65, 66, 67, 68, 69, 70, 71, 72, 73, 74, 75, 76, 77, 78, 79, 80, 81, 82, 83, 84, 85, 86, 87, 88, 89, 90, 91, 92, 93, 94, 95, 96, 97, 98, 99, 100, 101, 102, 103, 104, 22, 141, 142, 143, 144, 126, 127, 128, 129, 130, 131, 132, 133, 134, 135, 136, 137, 138, 139, 140] (by decide +kernel) (by decide +kernel)
set_option maxRecDepth 20000 in
theorem gX8_all_X6_anywhere : GoodIn wsX8_all (wsV RX8 194 RX6 yX6_anywhere wsX6_anywhere) := goodIn_app (goodIn_of _ (by decide +kernel)) ggX8_all_X6_anywhere
set_option maxRecDepth 20000 in
theorem ggX8_all_X8_givenUnlessGreat : GoodIn wsX8_all wsX8_givenUnlessGreat := goodIn_r _ [108, 109, 8, 9, 10, 6, 11, 12, 110, 111, 112, 113, 114, 115, 116, 117, 118, 119, 120, 121, 122, 123, 124, 125] (by decide +kernel) (by decide +kernel)
set_option maxRecDepth 20000 in
theorem gX8_all_X8_givenUnlessGreat : GoodIn wsX8_all (wsV RX8 186 RX8 yX8_givenUnlessGreat wsX8_givenUnlessGreat) := goodIn_app (goodIn_of _ (by decide +kernel)) ggX8_all_X8_givenUnlessGreat
set_option maxRecDepth 20000 in
theorem ggX8_least_X4_endsOpen : GoodIn wsX8_least wsX4_endsOpen := goodIn_r _ [6, 7, 8, 9, 10, 11, 12, 13, 5, 14, 15, 16, 17, 18, 19, 20, 21, 135, 136, 137, 138, 139, 140, 141, 142, 143, 144, 145, 146, 147, 148, 149] (by decide +kernel) (by decide +kernel)
set_option maxRecDepth 20000 in
theorem gX8_least_X4_endsOpen : GoodIn wsX8_least (wsV RX8 198 RX4 yX4_endsOpen wsX4_endsOpen) := goodIn_app (goodIn_of _ (by decide +kernel)) ggX8_least_X4_endsOpen
set_option maxRecDepth 20000 in
theorem ggX8_least_X8_refused : GoodIn wsX8_least wsX8_refused := goodIn_r _ [26, 27, 123, 124, 125, 126, 127, 128, 129, 130, 131, 132, 133, 134] (by decide +kernel) (by decide +kernel)
set_option maxRecDepth 20000 in
theorem gX8_least_X8_refused : GoodIn wsX8_least (wsV RX8 88 RX8 yX8_refused wsX8_refused) := goodIn_app (goodIn_of _ (by decide +kernel)) ggX8_least_X8_refused
set_option maxRecDepth 20000 in
theorem ggX8_least_X8_waysFor : GoodIn wsX8_least wsX8_waysFor := goodIn_r _ [31, 32, 33, 34, 25, 35, 36, 37, 38, 39, 1, 40, 41, 42, 43, 44, 45, 46, 47, 48, 49, 50, 51, 52, 53, 54, 55, 56, 57, 58, 59, 5, 60, 9, 10, 19, 20, 21, 61, 62, 63, 64, 65, 66, 67, 68, 15, 69, 70, 71, 72, 73, 74, 75, 76, 77, 78, 79, 80, 81, 82, 83, 84, 85, 86, 87, 88, 89, 90, 91, 92, 93, 94, 95, 96, 97, 98, 99, 100, 101, 102, 103, 104, 105, 106, 107, 108, 109, 110, 123, 124, 125, 126, 127, 128, 129, 130, 131, 132, 133, 134, 150, 151, 152, 153, 135, 136, 137, 138, 139, 140, 141, 142, 143, 144, 145, 146, 147, 148, 149] (by decide +kernel) (by decide +kernel)
set_option maxRecDepth 20000 in
theorem gX8_least_X8_waysFor : GoodIn wsX8_least (wsV RX8 172 RX8 yX8_waysFor wsX8_waysFor) := goodIn_app (goodIn_of _ (by decide +kernel)) ggX8_least_X8_waysFor
set_option maxRecDepth 20000 in
theorem ggX8_least_X4_cellA : GoodIn wsX8_least wsX4_cellA := goodIn_r _ [114, 7, 8, 19, 20, 5, 21, 135, 136, 137, 138, 139, 140, 141, 142, 143, 144, 145, 146, 147, 148, 149] (by decide +kernel) (by decide +kernel)
set_option maxRecDepth 20000 in
theorem gX8_least_X4_cellA : GoodIn wsX8_least (wsV RX8 176 RX4 yX4_cellA wsX4_cellA) := goodIn_app (goodIn_of _ (by decide +kernel)) ggX8_least_X4_cellA
set_option maxRecDepth 20000 in
theorem ggX8_least_X6_onward : GoodIn wsX8_least wsX6_onward := goodIn_r _ [118, 55, 48, 150, 151, 152, 153] (by decide +kernel) (by decide +kernel)
set_option maxRecDepth 20000 in
theorem gX8_least_X6_onward : GoodIn wsX8_least (wsV RX8 180 RX6 yX6_onward wsX6_onward) := goodIn_app (goodIn_of _ (by decide +kernel)) ggX8_least_X6_onward
set_option maxRecDepth 20000 in
theorem ggX8_least_X8_given : GoodIn wsX8_least wsX8_given := goodIn_r _ [122, 27, 123, 124, 125, 126, 127, 128, 129, 130, 131, 132, 133, 134] (by decide +kernel) (by decide +kernel)
set_option maxRecDepth 20000 in
theorem gX8_least_X8_given : GoodIn wsX8_least (wsV RX8 95 RX8 yX8_given wsX8_given) := goodIn_app (goodIn_of _ (by decide +kernel)) ggX8_least_X8_given
set_option maxRecDepth 20000 in
theorem ggX8_sum_X8_within : GoodIn wsX8_sum wsX8_within := goodIn_r _ [5] (by decide +kernel) (by decide +kernel)
set_option maxRecDepth 20000 in
theorem gX8_sum_X8_within : GoodIn wsX8_sum (va_wsS RX8 66 yX8_within wsX8_within) := goodIn_app (goodIn_of _ (by decide +kernel)) ggX8_sum_X8_within
set_option maxRecDepth 20000 in
theorem ggX8_sum_X8_refused : GoodIn wsX8_sum wsX8_refused := goodIn_r _ [9, 10, 222, 223, 224, 225, 226, 227, 228, 229, 230, 231, 232, 233] (by decide +kernel) (by decide +kernel)
set_option maxRecDepth 20000 in
theorem gX8_sum_X8_refused : GoodIn wsX8_sum (wsV RX8 88 RX8 yX8_refused wsX8_refused) := goodIn_app (goodIn_of _ (by decide +kernel)) ggX8_sum_X8_refused
set_option maxRecDepth 20000 in
theorem ggX8_sum_X8_weighFault : GoodIn wsX8_sum wsX8_weighFault := goodIn_r _ [14, 1, 15, 2, 3, 4, 5, 16, 17, 18, 19, 20, 21, 22, 23, 24, 25, 26, 27, 28, 29, 30, 31, 32, 33, 34, 35, 222, 223, 224, 225, 226, 227, 228, 229, 230, 231, 232, 233, 234, 235, 236, 237, 238, 239, 240, 241, 242, 243, 244, 245, 246, 247, 248] (by decide +kernel) (by decide +kernel)
set_option maxRecDepth 20000 in
theorem gX8_sum_X8_weighFault : GoodIn wsX8_sum (wsV RX8 201 RX8 yX8_weighFault wsX8_weighFault) := goodIn_app (goodIn_of _ (by decide +kernel)) ggX8_sum_X8_weighFault
set_option maxRecDepth 20000 in
theorem ggX8_sum_X8_waysFor : GoodIn wsX8_sum wsX8_waysFor := goodIn_r _ [39, 40, 41, 42, 4, 43, 44, 45, 46, 47, 1, 48, 49, 50, 51, 52, 53, 54, 55, 56, 57, 58, 59, 60, 61, 62, 63, 64, 65, 66, 67, 19, 68, 23, 24, 33, 34, 35, 69, 70, 71, 72, 73, 74, 75, 76, 29, 77, 78, 79, 80, 81, 82, 83, 84, 85, 86, 87, 88, 89, 90, 91, 92, 93, 94, 95, 96, 97, 98, 99, 100, 101, 102, 103, 104, 105, 106, 107, 108, 109, 110, 111, 112, 113, 114, 115, 116, 117, 118, 222, 223, 224, 225, 226, 227, 228, 229, 230, 231, 232, 233, 249, 250, 251, 252, 234, 235, 236, 237, 238, 239, 240, 241, 242, 243, 244, 245, 246, 247, 248] (by decide +kernel) (by decide +kernel)
set_option maxRecDepth 20000 in
theorem gX8_sum_X8_waysFor : GoodIn wsX8_sum (wsV RX8 172 RX8 yX8_waysFor wsX8_waysFor) := goodIn_app (goodIn_of _ (by decide +kernel)) ggX8_sum_X8_waysFor
set_option maxRecDepth 20000 in
theorem ggX8_sum_X4_cellA : GoodIn wsX8_sum wsX4_cellA := goodIn_r _ [122, 21, 22, 33, 34, 19, 35, 234, 235, 236, 237, 238, 239, 240, 241, 242, 243, 244, 245, 246, 247, 248] (by decide +kernel) (by decide +kernel)
set_option maxRecDepth 20000 in
theorem gX8_sum_X4_cellA : GoodIn wsX8_sum (wsV RX8 176 RX4 yX4_cellA wsX4_cellA) := goodIn_app (goodIn_of _ (by decide +kernel)) ggX8_sum_X4_cellA
set_option maxRecDepth 20000 in
theorem ggX8_sum_X6_onward : GoodIn wsX8_sum wsX6_onward := goodIn_r _ [126, 63, 56, 249, 250, 251, 252] (by decide +kernel) (by decide +kernel)
set_option maxRecDepth 20000 in
theorem gX8_sum_X6_onward : GoodIn wsX8_sum (wsV RX8 180 RX6 yX6_onward wsX6_onward) := goodIn_app (goodIn_of _ (by decide +kernel)) ggX8_sum_X6_onward
set_option maxRecDepth 20000 in
theorem ggX8_sum_X8_givenLong : GoodIn wsX8_sum wsX8_givenLong := goodIn_r _ [130, 10, 222, 223, 224, 225, 226, 227, 228, 229, 230, 231, 232, 233] (by decide +kernel) (by decide +kernel)
set_option maxRecDepth 20000 in
theorem gX8_sum_X8_givenLong : GoodIn wsX8_sum (wsV RX8 204 RX8 yX8_givenLong wsX8_givenLong) := goodIn_app (goodIn_of _ (by decide +kernel)) ggX8_sum_X8_givenLong
set_option maxRecDepth 20000 in
theorem ggX8_sum_X8_weigherKept : GoodIn wsX8_sum wsX8_weigherKept := goodIn_r _ [134, 135, 136, 137, 138, 1, 40, 41, 42, 4, 43, 44, 45, 46, 47, 48, 49, 50, 51, 52, 53, 54, 55, 56, 57, 58, 139, 140, 141, 142, 143, 144, 145, 146, 147, 148, 149, 150, 151, 222, 223, 224, 225, 226, 227, 228, 229, 230, 231, 232, 233, 253, 254, 255, 256, 257, 258, 259, 260, 261, 262, 263, 264, 265, 266, 249, 250, 251, 252] (by decide +kernel) (by decide +kernel)
set_option maxRecDepth 20000 in
theorem gX8_sum_X8_weigherKept : GoodIn wsX8_sum (wsV RX8 207 RX8 yX8_weigherKept wsX8_weigherKept) := goodIn_app (goodIn_of _ (by decide +kernel)) ggX8_sum_X8_weigherKept
set_option maxRecDepth 20000 in
theorem ggX8_sum_X7_tallied : GoodIn wsX8_sum wsX7_tallied := goodIn_r _ [155, 156, 157, 158, 148, 159, 160, 161, 138, 162, 145, 150, 163, 164, 165, 120, 121, 19, 122, 21, 22, 33, 34, 35, 166, 167, 168, 169, 170, 171, 151, 144, 146, 172, 107, 96, 108, 173, 174, 175, 176, 177, 178, 179, 180, 181, 182, 183, 184, 92, 185, 85, 86, 87, 186, 74, 75, 76, 29, 187, 124, 125, 47, 126, 63, 56, 188, 189, 190, 191, 149, 192, 193, 194, 195, 196, 197, 198, 199, 200, 201, 202, 203, 204, 205, 206, 207, 208, 209, 210, 211, 212, 213, 214, 215, 216, 217, 218, 219, 220, 221, 253, 254, 255, 256, 257, 258, 259, 260, 261, 262, 263, 264, 265, 266, 234, 235, 236, 237, 238, 239, 240, 241, 242, 243, 244, 245, 246, 247, 248, 249, 250, 251, 252] (by decide +kernel) (by decide +kernel)
set_option maxRecDepth 20000 in
theorem gX8_sum_X7_tallied : GoodIn wsX8_sum (wsV RX8 211 RX7 yX7_tallied wsX7_tallied) := goodIn_app (goodIn_of _ (by decide +kernel)) ggX8_sum_X7_tallied
set_option maxRecDepth 20000 in
theorem ggX8_best_X8_weighFault : GoodIn wsX8_best wsX8_weighFault := goodIn_r _ [6, 1, 7, 8, 9, 5, 10, 11, 12, 13, 14, 15, 16, 17, 18, 19, 20, 21, 22, 23, 24, 25, 26, 27, 28, 29, 30, 222, 223, 224, 225, 226, 227, 228, 229, 230, 231, 232, 233, 234, 235, 236, 237, 238, 239, 240, 241, 242, 243, 244, 245, 246, 247, 248] (by decide +kernel) (by decide +kernel)
set_option maxRecDepth 20000 in
theorem gX8_best_X8_weighFault : GoodIn wsX8_best (wsV RX8 201 RX8 yX8_weighFault wsX8_weighFault) := goodIn_app (goodIn_of _ (by decide +kernel)) ggX8_best_X8_weighFault
set_option maxRecDepth 20000 in
theorem ggX8_best_X8_refused : GoodIn wsX8_best wsX8_refused := goodIn_r _ [34, 35, 222, 223, 224, 225, 226, 227, 228, 229, 230, 231, 232, 233] (by decide +kernel) (by decide +kernel)
set_option maxRecDepth 20000 in
theorem gX8_best_X8_refused : GoodIn wsX8_best (wsV RX8 88 RX8 yX8_refused wsX8_refused) := goodIn_app (goodIn_of _ (by decide +kernel)) ggX8_best_X8_refused
set_option maxRecDepth 20000 in
theorem ggX8_best_X8_waysFor : GoodIn wsX8_best wsX8_waysFor := goodIn_r _ [39, 40, 41, 42, 5, 43, 44, 45, 46, 47, 1, 48, 49, 50, 51, 52, 53, 54, 55, 56, 57, 58, 59, 60, 61, 62, 63, 64, 65, 66, 67, 14, 68, 18, 19, 28, 29, 30, 69, 70, 71, 72, 73, 74, 75, 76, 24, 77, 78, 79, 80, 81, 82, 83, 84, 85, 86, 87, 88, 89, 90, 91, 92, 93, 94, 95, 96, 97, 98, 99, 100, 101, 102, 103, 104, 105, 106, 107, 108, 109, 110, 111, 112, 113, 114, 115, 116, 117, 118, 222, 223, 224, 225, 226, 227, 228, 229, 230, 231, 232, 233, 249, 250, 251, 252, 234, 235, 236, 237, 238, 239, 240, 241, 242, 243, 244, 245, 246, 247, 248] (by decide +kernel) (by decide +kernel)
set_option maxRecDepth 20000 in
theorem gX8_best_X8_waysFor : GoodIn wsX8_best (wsV RX8 172 RX8 yX8_waysFor wsX8_waysFor) := goodIn_app (goodIn_of _ (by decide +kernel)) ggX8_best_X8_waysFor
set_option maxRecDepth 20000 in
theorem ggX8_best_X4_cellA : GoodIn wsX8_best wsX4_cellA := goodIn_r _ [122, 16, 17, 28, 29, 14, 30, 234, 235, 236, 237, 238, 239, 240, 241, 242, 243, 244, 245, 246, 247, 248] (by decide +kernel) (by decide +kernel)
set_option maxRecDepth 20000 in
theorem gX8_best_X4_cellA : GoodIn wsX8_best (wsV RX8 176 RX4 yX4_cellA wsX4_cellA) := goodIn_app (goodIn_of _ (by decide +kernel)) ggX8_best_X4_cellA
set_option maxRecDepth 20000 in
theorem ggX8_best_X6_onward : GoodIn wsX8_best wsX6_onward := goodIn_r _ [126, 63, 56, 249, 250, 251, 252] (by decide +kernel) (by decide +kernel)
set_option maxRecDepth 20000 in
theorem gX8_best_X6_onward : GoodIn wsX8_best (wsV RX8 180 RX6 yX6_onward wsX6_onward) := goodIn_app (goodIn_of _ (by decide +kernel)) ggX8_best_X6_onward
set_option maxRecDepth 20000 in
theorem ggX8_best_X8_weigherKept : GoodIn wsX8_best wsX8_weigherKept := goodIn_r _ [130, 131, 132, 133, 134, 1, 40, 41, 42, 5, 43, 44, 45, 46, 47, 48, 49, 50, 51, 52, 53, 54, 55, 56, 57, 58, 135, 136, 137, 138, 139, 140, 141, 142, 143, 144, 145, 146, 147, 222, 223, 224, 225, 226, 227, 228, 229, 230, 231, 232, 233, 253, 254, 255, 256, 257, 258, 259, 260, 261, 262, 263, 264, 265, 266, 249, 250, 251, 252] (by decide +kernel) (by decide +kernel)
set_option maxRecDepth 20000 in
theorem gX8_best_X8_weigherKept : GoodIn wsX8_best (wsV RX8 207 RX8 yX8_weigherKept wsX8_weigherKept) := goodIn_app (goodIn_of _ (by decide +kernel)) ggX8_best_X8_weigherKept
set_option maxRecDepth 20000 in
theorem ggX8_best_X7_extreme : GoodIn wsX8_best wsX7_extreme := goodIn_r _ [151, 152, 153, 154, 144, 155, 156, 157, 134, 158, 141, 146, 159, 160, 161, 120, 121, 14, 122, 16, 17, 28, 29, 30, 162, 163, 164, 165, 166, 167, 147, 140, 142, 168, 169, 107, 96, 108, 170, 171, 172, 173, 174, 175, 176, 177, 178, 179, 180, 181, 92, 182, 85, 86, 87, 183, 74, 75, 76, 24, 184, 124, 125, 47, 126, 63, 56, 185, 186, 187, 188, 145, 189, 190, 191, 192, 193, 194, 195, 196, 197, 198, 199, 200, 201, 202, 203, 204, 205, 206, 207, 208, 209, 210, 211, 212, 213, 214, 215, 216, 217, 253, 254, 255, 256, 257, 258, 259, 260, 261, 262, 263, 264, 265, 266, 234, 235, 236, 237, 238, 239, 240, 241, 242, 243, 244, 245, 246, 247, 248, 249, 250, 251, 252] (by decide +kernel) (by decide +kernel)
set_option maxRecDepth 20000 in
theorem gX8_best_X7_extreme : GoodIn wsX8_best (wsV RX8 217 RX7 yX7_extreme wsX7_extreme) := goodIn_app (goodIn_of _ (by decide +kernel)) ggX8_best_X7_extreme
set_option maxRecDepth 20000 in
theorem ggX8_best_X8_given : GoodIn wsX8_best wsX8_given := goodIn_r _ [221, 35, 222, 223, 224, 225, 226, 227, 228, 229, 230, 231, 232, 233] (by decide +kernel) (by decide +kernel)
set_option maxRecDepth 20000 in
theorem gX8_best_X8_given : GoodIn wsX8_best (wsV RX8 95 RX8 yX8_given wsX8_given) := goodIn_app (goodIn_of _ (by decide +kernel)) ggX8_best_X8_given
set_option maxRecDepth 20000 in
theorem ggX8_walk_X8_walkFault : GoodIn wsX8_walk wsX8_walkFault := goodIn_r _ [7, 1, 8, 9, 6, 10, 11, 12, 13, 14, 15, 16, 17, 18, 19, 20, 21, 22, 23, 24, 25, 26, 27, 28, 29, 30, 152, 153, 154, 155, 156, 157, 158, 159, 160, 161, 162, 163, 164, 165, 166, 167, 168, 169, 170, 171, 172, 173, 174, 175, 176, 177, 178] (by decide +kernel) (by decide +kernel)
set_option maxRecDepth 20000 in
theorem gX8_walk_X8_walkFault : GoodIn wsX8_walk (wsV RX8 169 RX8 yX8_walkFault wsX8_walkFault) := goodIn_app (goodIn_of _ (by decide +kernel)) ggX8_walk_X8_walkFault
set_option maxRecDepth 20000 in
theorem ggX8_walk_X8_refused : GoodIn wsX8_walk wsX8_refused := goodIn_r _ [34, 35, 152, 153, 154, 155, 156, 157, 158, 159, 160, 161, 162, 163] (by decide +kernel) (by decide +kernel)
set_option maxRecDepth 20000 in
theorem gX8_walk_X8_refused : GoodIn wsX8_walk (wsV RX8 88 RX8 yX8_refused wsX8_refused) := goodIn_app (goodIn_of _ (by decide +kernel)) ggX8_walk_X8_refused
set_option maxRecDepth 20000 in
theorem ggX8_walk_X8_waysFor : GoodIn wsX8_walk wsX8_waysFor := goodIn_r _ [39, 40, 41, 42, 6, 43, 44, 45, 46, 47, 1, 48, 49, 50, 51, 52, 53, 54, 55, 56, 57, 58, 59, 60, 61, 62, 63, 64, 65, 66, 67, 14, 68, 18, 19, 28, 29, 30, 69, 70, 71, 72, 73, 74, 75, 76, 24, 77, 78, 79, 80, 81, 82, 83, 84, 85, 86, 87, 88, 89, 90, 91, 92, 93, 94, 95, 96, 97, 98, 99, 100, 101, 102, 103, 104, 105, 106, 107, 108, 109, 110, 111, 112, 113, 114, 115, 116, 117, 118, 152, 153, 154, 155, 156, 157, 158, 159, 160, 161, 162, 163, 179, 180, 181, 182, 164, 165, 166, 167, 168, 169, 170, 171, 172, 173, 174, 175, 176, 177, 178] (by decide +kernel) (by decide +kernel)
set_option maxRecDepth 20000 in
theorem gX8_walk_X8_waysFor : GoodIn wsX8_walk (wsV RX8 172 RX8 yX8_waysFor wsX8_waysFor) := goodIn_app (goodIn_of _ (by decide +kernel)) ggX8_walk_X8_waysFor
set_option maxRecDepth 20000 in
theorem ggX8_walk_X4_cellA : GoodIn wsX8_walk wsX4_cellA := goodIn_r _ [122, 16, 17, 28, 29, 14, 30, 164, 165, 166, 167, 168, 169, 170, 171, 172, 173, 174, 175, 176, 177, 178] (by decide +kernel) (by decide +kernel)
set_option maxRecDepth 20000 in
theorem gX8_walk_X4_cellA : GoodIn wsX8_walk (wsV RX8 176 RX4 yX4_cellA wsX4_cellA) := goodIn_app (goodIn_of _ (by decide +kernel)) ggX8_walk_X4_cellA
set_option maxRecDepth 20000 in
theorem ggX8_walk_X6_onward : GoodIn wsX8_walk wsX6_onward := goodIn_r _ [126, 63, 56, 179, 180, 181, 182] (by decide +kernel) (by decide +kernel)
set_option maxRecDepth 20000 in
theorem gX8_walk_X6_onward : GoodIn wsX8_walk (wsV RX8 180 RX6 yX6_onward wsX6_onward) := goodIn_app (goodIn_of _ (by decide +kernel)) ggX8_walk_X6_onward
set_option maxRecDepth 20000 in
theorem ggX8_walk_X8_showWalk : GoodIn wsX8_walk wsX8_showWalk := goodIn_r _ [130, 1, 131, 132, 133, 119, 120, 121, 14, 122, 16, 17, 28, 29, 30, 40, 41, 42, 6, 43, 44, 45, 46, 47, 48, 49, 50, 51, 52, 53, 54, 55, 56, 57, 58, 134, 135, 136, 137, 138, 139, 140, 141, 142, 143, 144, 145, 92, 146, 85, 86, 87, 147, 74, 75, 76, 24, 123, 124, 125, 126, 63, 152, 153, 154, 155, 156, 157, 158, 159, 160, 161, 162, 163, 164, 165, 166, 167, 168, 169, 170, 171, 172, 173, 174, 175, 176, 177, 178, 179, 180, 181, 182] (by decide +kernel) (by decide +kernel)
set_option maxRecDepth 20000 in
theorem gX8_walk_X8_showWalk : GoodIn wsX8_walk (wsV RX8 223 RX8 yX8_showWalk wsX8_showWalk) := goodIn_app (goodIn_of _ (by decide +kernel)) ggX8_walk_X8_showWalk
set_option maxRecDepth 20000 in
theorem ggX8_walk_X8_given : GoodIn wsX8_walk wsX8_given := goodIn_r _ [151, 35, 152, 153, 154, 155, 156, 157, 158, 159, 160, 161, 162, 163] (by decide +kernel) (by decide +kernel)
set_option maxRecDepth 20000 in
theorem gX8_walk_X8_given : GoodIn wsX8_walk (wsV RX8 95 RX8 yX8_given wsX8_given) := goodIn_app (goodIn_of _ (by decide +kernel)) ggX8_walk_X8_given
set_option maxRecDepth 20000 in
theorem ggX8_number_X8_rowFault : GoodIn wsX8_number wsX8_rowFault := goodIn_r _ [7, 8, 9, 10, 11, 12, 13, 14, 6, 15, 16, 17, 18, 19, 20, 21, 22, 23, 24, 25, 176, 177, 178, 179, 180, 181, 182, 183, 184, 185, 186, 187, 188, 189, 190] (by decide +kernel) (by decide +kernel)
set_option maxRecDepth 20000 in
theorem gX8_number_X8_rowFault : GoodIn wsX8_number (wsV RX8 227 RX8 yX8_rowFault wsX8_rowFault) := goodIn_app (goodIn_of _ (by decide +kernel)) ggX8_number_X8_rowFault
set_option maxRecDepth 20000 in
theorem ggX8_number_X8_refused : GoodIn wsX8_number wsX8_refused := goodIn_r _ [29, 30, 176, 177, 178, 179, 180, 181, 182, 183, 184, 185, 186, 187] (by decide +kernel) (by decide +kernel)
set_option maxRecDepth 20000 in
theorem gX8_number_X8_refused : GoodIn wsX8_number (wsV RX8 88 RX8 yX8_refused wsX8_refused) := goodIn_app (goodIn_of _ (by decide +kernel)) ggX8_number_X8_refused
set_option maxRecDepth 20000 in
theorem ggX8_number_X4_endsOpen : GoodIn wsX8_number wsX4_endsOpen := goodIn_r _ [35, 36, 37, 38, 39, 40, 41, 42, 34, 43, 44, 45, 46, 47, 48, 49, 50, 191, 192, 193, 194, 195, 196, 197, 198, 199, 200, 201, 202, 203, 204, 205] (by decide +kernel) (by decide +kernel)
set_option maxRecDepth 20000 in
theorem gX8_number_X4_endsOpen : GoodIn wsX8_number (wsV RX8 198 RX4 yX4_endsOpen wsX4_endsOpen) := goodIn_app (goodIn_of _ (by decide +kernel)) ggX8_number_X4_endsOpen
set_option maxRecDepth 20000 in
theorem ggX8_number_X8_isWalk : GoodIn wsX8_number wsX8_isWalk := goodIn_r _ [54, 1, 8, 55, 56, 57, 34, 58, 36, 37, 48, 49, 50, 59, 60, 61, 11, 62, 63, 64, 23, 24, 25, 20, 21, 10, 12, 65, 66, 67, 68, 69, 70, 71, 72, 73, 74, 75, 76, 77, 78, 79, 80, 81, 82, 83, 84, 85, 86, 44, 87, 88, 89, 90, 38, 39, 176, 177, 178, 179, 180, 181, 182, 183, 184, 185, 186, 187, 191, 192, 193, 194, 195, 196, 197, 198, 199, 200, 201, 202, 203, 204, 205, 188, 189, 190] (by decide +kernel) (by decide +kernel)
set_option maxRecDepth 20000 in
theorem gX8_number_X8_isWalk : GoodIn wsX8_number (wsV RX8 231 RX8 yX8_isWalk wsX8_isWalk) := goodIn_app (goodIn_of _ (by decide +kernel)) ggX8_number_X8_isWalk
set_option maxRecDepth 20000 in
theorem ggX8_number_X8_waysFor : GoodIn wsX8_number wsX8_waysFor := goodIn_r _ [94, 95, 96, 97, 6, 98, 99, 100, 101, 102, 1, 103, 104, 105, 106, 107, 108, 109, 110, 111, 112, 113, 114, 115, 116, 117, 118, 119, 120, 88, 89, 34, 90, 38, 39, 48, 49, 50, 121, 122, 123, 124, 125, 84, 85, 86, 44, 126, 127, 128, 129, 130, 131, 132, 133, 80, 81, 82, 134, 135, 136, 137, 69, 138, 139, 140, 141, 142, 143, 144, 145, 146, 147, 148, 149, 150, 151, 152, 153, 154, 155, 156, 157, 158, 159, 160, 161, 162, 163, 176, 177, 178, 179, 180, 181, 182, 183, 184, 185, 186, 187, 206, 207, 208, 209, 191, 192, 193, 194, 195, 196, 197, 198, 199, 200, 201, 202, 203, 204, 205] (by decide +kernel) (by decide +kernel)
set_option maxRecDepth 20000 in
theorem gX8_number_X8_waysFor : GoodIn wsX8_number (wsV RX8 172 RX8 yX8_waysFor wsX8_waysFor) := goodIn_app (goodIn_of _ (by decide +kernel)) ggX8_number_X8_waysFor
set_option maxRecDepth 20000 in
theorem ggX8_number_X4_cellA : GoodIn wsX8_number wsX4_cellA := goodIn_r _ [58, 36, 37, 48, 49, 34, 50, 191, 192, 193, 194, 195, 196, 197, 198, 199, 200, 201, 202, 203, 204, 205] (by decide +kernel) (by decide +kernel)
set_option maxRecDepth 20000 in
theorem gX8_number_X4_cellA : GoodIn wsX8_number (wsV RX8 176 RX4 yX4_cellA wsX4_cellA) := goodIn_app (goodIn_of _ (by decide +kernel)) ggX8_number_X4_cellA
set_option maxRecDepth 20000 in
theorem ggX8_number_X6_onward : GoodIn wsX8_number wsX6_onward := goodIn_r _ [167, 118, 111, 206, 207, 208, 209] (by decide +kernel) (by decide +kernel)
set_option maxRecDepth 20000 in
theorem gX8_number_X6_onward : GoodIn wsX8_number (wsV RX8 180 RX6 yX6_onward wsX6_onward) := goodIn_app (goodIn_of _ (by decide +kernel)) ggX8_number_X6_onward
set_option maxRecDepth 20000 in
theorem ggX8_number_X8_walkNumber : GoodIn wsX8_number wsX8_walkNumber := goodIn_r _ [171, 1, 8, 55, 56, 57, 34, 58, 36, 37, 48, 49, 50, 59, 60, 61, 11, 62, 63, 64, 23, 24, 25, 20, 21, 10, 12, 95, 96, 97, 6, 98, 99, 100, 101, 102, 103, 104, 105, 106, 107, 108, 109, 110, 111, 112, 113, 70, 71, 72, 73, 74, 75, 76, 77, 78, 66, 67, 68, 69, 79, 80, 81, 82, 83, 84, 85, 86, 44, 164, 165, 166, 167, 118, 176, 177, 178, 179, 180, 181, 182, 183, 184, 185, 186, 187, 191, 192, 193, 194, 195, 196, 197, 198, 199, 200, 201, 202, 203, 204, 205, 188, 189, 190, 206, 207, 208, 209] (by decide +kernel) (by decide +kernel)
set_option maxRecDepth 20000 in
theorem gX8_number_X8_walkNumber : GoodIn wsX8_number (wsV RX8 234 RX8 yX8_walkNumber wsX8_walkNumber) := goodIn_app (goodIn_of _ (by decide +kernel)) ggX8_number_X8_walkNumber
set_option maxRecDepth 20000 in
theorem ggX8_number_X8_givenLong : GoodIn wsX8_number wsX8_givenLong := goodIn_r _ [175, 30, 176, 177, 178, 179, 180, 181, 182, 183, 184, 185, 186, 187] (by decide +kernel) (by decide +kernel)
set_option maxRecDepth 20000 in
theorem gX8_number_X8_givenLong : GoodIn wsX8_number (wsV RX8 204 RX8 yX8_givenLong wsX8_givenLong) := goodIn_app (goodIn_of _ (by decide +kernel)) ggX8_number_X8_givenLong
set_option maxRecDepth 20000 in
theorem ggX8_draw_X8_refused : GoodIn wsX8_draw wsX8_refused := goodIn_r _ [7, 8, 139, 140, 141, 142, 143, 144, 145, 146, 147, 148, 149, 150] (by decide +kernel) (by decide +kernel)
set_option maxRecDepth 20000 in
theorem gX8_draw_X8_refused : GoodIn wsX8_draw (wsV RX8 88 RX8 yX8_refused wsX8_refused) := goodIn_app (goodIn_of _ (by decide +kernel)) ggX8_draw_X8_refused
set_option maxRecDepth 20000 in
theorem ggX8_draw_X8_walkFault : GoodIn wsX8_draw wsX8_walkFault := goodIn_r _ [12, 1, 13, 14, 6, 15, 16, 17, 18, 19, 20, 21, 22, 23, 24, 25, 26, 27, 28, 29, 30, 31, 32, 33, 34, 35, 139, 140, 141, 142, 143, 144, 145, 146, 147, 148, 149, 150, 151, 152, 153, 154, 155, 156, 157, 158, 159, 160, 161, 162, 163, 164, 165] (by decide +kernel) (by decide +kernel)
set_option maxRecDepth 20000 in
theorem gX8_draw_X8_walkFault : GoodIn wsX8_draw (wsV RX8 169 RX8 yX8_walkFault wsX8_walkFault) := goodIn_app (goodIn_of _ (by decide +kernel)) ggX8_draw_X8_walkFault
set_option maxRecDepth 20000 in
theorem ggX8_draw_X8_waysFor : GoodIn wsX8_draw wsX8_waysFor := goodIn_r _ [39, 40, 41, 42, 6, 43, 44, 45, 46, 47, 1, 48, 49, 50, 51, 52, 53, 54, 55, 56, 57, 58, 59, 60, 61, 62, 63, 64, 65, 66, 67, 19, 68, 23, 24, 33, 34, 35, 69, 70, 71, 72, 73, 74, 75, 76, 29, 77, 78, 79, 80, 81, 82, 83, 84, 85, 86, 87, 88, 89, 90, 91, 92, 93, 94, 95, 96, 97, 98, 99, 100, 101, 102, 103, 104, 105, 106, 107, 108, 109, 110, 111, 112, 113, 114, 115, 116, 117, 118, 139, 140, 141, 142, 143, 144, 145, 146, 147, 148, 149, 150, 166, 167, 168, 169, 151, 152, 153, 154, 155, 156, 157, 158, 159, 160, 161, 162, 163, 164, 165] (by decide +kernel) (by decide +kernel)
set_option maxRecDepth 20000 in
theorem gX8_draw_X8_waysFor : GoodIn wsX8_draw (wsV RX8 172 RX8 yX8_waysFor wsX8_waysFor) := goodIn_app (goodIn_of _ (by decide +kernel)) ggX8_draw_X8_waysFor
set_option maxRecDepth 20000 in
theorem ggX8_draw_X4_cellA : GoodIn wsX8_draw wsX4_cellA := goodIn_r _ [122, 21, 22, 33, 34, 19, 35, 151, 152, 153, 154, 155, 156, 157, 158, 159, 160, 161, 162, 163, 164, 165] (by decide +kernel) (by decide +kernel)
set_option maxRecDepth 20000 in
theorem gX8_draw_X4_cellA : GoodIn wsX8_draw (wsV RX8 176 RX4 yX4_cellA wsX4_cellA) := goodIn_app (goodIn_of _ (by decide +kernel)) ggX8_draw_X4_cellA
set_option maxRecDepth 20000 in
theorem ggX8_draw_X6_onward : GoodIn wsX8_draw wsX6_onward := goodIn_r _ [126, 63, 56, 166, 167, 168, 169] (by decide +kernel) (by decide +kernel)
set_option maxRecDepth 20000 in
theorem gX8_draw_X6_onward : GoodIn wsX8_draw (wsV RX8 180 RX6 yX6_onward wsX6_onward) := goodIn_app (goodIn_of _ (by decide +kernel)) ggX8_draw_X6_onward
set_option maxRecDepth 20000 in
theorem ggX8_draw_X8_drawn : GoodIn wsX8_draw wsX8_drawn := goodIn_r _ [129, 130, 131, 132, 133, 134] (by decide +kernel) (by decide +kernel)
set_option maxRecDepth 20000 in
theorem gX8_draw_X8_drawn : GoodIn wsX8_draw (va_wsS RX8 237 yX8_drawn wsX8_drawn) := goodIn_app (goodIn_of _ (by decide +kernel)) ggX8_draw_X8_drawn
set_option maxRecDepth 20000 in
theorem ggX8_draw_X8_givenLong : GoodIn wsX8_draw wsX8_givenLong := goodIn_r _ [138, 8, 139, 140, 141, 142, 143, 144, 145, 146, 147, 148, 149, 150] (by decide +kernel) (by decide +kernel)
set_option maxRecDepth 20000 in
theorem gX8_draw_X8_givenLong : GoodIn wsX8_draw (wsV RX8 204 RX8 yX8_givenLong wsX8_givenLong) := goodIn_app (goodIn_of _ (by decide +kernel)) ggX8_draw_X8_givenLong
set_option maxRecDepth 20000 in
theorem ggX8_mirror_X8_within : GoodIn wsX8_mirror wsX8_within := goodIn_r _ [18] (by decide +kernel) (by decide +kernel)
set_option maxRecDepth 20000 in
theorem gX8_mirror_X8_within : GoodIn wsX8_mirror (va_wsS RX8 66 yX8_within wsX8_within) := goodIn_app (goodIn_of _ (by decide +kernel)) ggX8_mirror_X8_within
set_option maxRecDepth 20000 in
theorem ggX8_mirror_X8_refused : GoodIn wsX8_mirror wsX8_refused := goodIn_r _ [22, 23, 89, 90, 91, 92, 93, 94, 95, 96, 97, 98, 99, 100] (by decide +kernel) (by decide +kernel)
set_option maxRecDepth 20000 in
theorem gX8_mirror_X8_refused : GoodIn wsX8_mirror (wsV RX8 88 RX8 yX8_refused wsX8_refused) := goodIn_app (goodIn_of _ (by decide +kernel)) ggX8_mirror_X8_refused
set_option maxRecDepth 20000 in
theorem ggX8_mirror_X4_stepsMirrored : GoodIn wsX8_mirror wsX4_stepsMirrored := goodIn_r _ [28, 29, 30, 31, 32, 33, 34, 27, 35, 101, 102, 103, 104, 105, 106, 107, 108, 109, 110, 111, 112, 113, 114, 115] (by decide +kernel) (by decide +kernel)
set_option maxRecDepth 20000 in
theorem gX8_mirror_X4_stepsMirrored : GoodIn wsX8_mirror (wsV RX8 244 RX4 yX4_stepsMirrored wsX4_stepsMirrored) := goodIn_app (goodIn_of _ (by decide +kernel)) ggX8_mirror_X4_stepsMirrored
