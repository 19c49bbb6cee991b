set_option maxRecDepth 20000 in
theorem ggX6_closeRing_J9_floorMod_7cf53 : GoodIn wsX6_closeRing wsJ9_floorMod_7cf53 := goodIn_r _ [11] (by decide +kernel) (by decide +kernel)
set_option maxRecDepth 20000 in
theorem gX6_closeRing_J9_floorMod_7cf53 : GoodIn wsX6_closeRing (va_wsS RX6 95 yJ9_floorMod_7cf53 wsJ9_floorMod_7cf53) := goodIn_app (goodIn_of _ (by decide +kernel)) ggX6_closeRing_J9_floorMod_7cf53
set_option maxRecDepth 20000 in
theorem ggX7_tallied_X7_travel : GoodIn wsX7_tallied wsX7_travel := goodIn_r _ [9, 10, 11, 12, 13, 4, 14, 15, 16, 17, 18, 19, 20, 21, 22, 23, 24, 25, 26, 8, 27, 28, 29, 30, 31, 32, 2, 33, 34, 35, 36, 37, 38, 39, 40, 41, 42, 43, 44, 45, 46, 47, 48, 49, 50, 51, 52, 53, 54, 55, 56, 57, 58, 59, 60, 61, 62, 63, 64, 65, 66, 67, 68, 69, 70, 71, 72, 73, 74, 1, 3, 75, 76, 77, 78, 79, 80, 81, 82, 83, 84, 85, 86, 87, 88, 89, 90, 91, 92, 93, 94, 95, 96, 97, 98, 99, 100, 101, 102, 103, 104, 105, 106, 107, 108, 109, 110, 111, 112, 113, 114, 115, 116, 117, 118, 119, 120, 121, 122, 123, 124, 125, 126, 127, 128, 129, 130, 131, 132, 133] (by decide +kernel) (by decide +kernel)
set_option maxRecDepth 20000 in
theorem gX7_tallied_X7_travel : GoodIn wsX7_tallied (wsV RX7 48 RX7 yX7_travel wsX7_travel) := goodIn_app (goodIn_of _ (by decide +kernel)) ggX7_tallied_X7_travel
set_option maxRecDepth 20000 in
theorem ggX7_extreme_X7_travel : GoodIn wsX7_extreme wsX7_travel := goodIn_r _ [9, 10, 11, 12, 13, 4, 14, 15, 16, 17, 18, 19, 20, 21, 22, 23, 24, 25, 26, 8, 27, 28, 29, 30, 31, 32, 33, 34, 35, 36, 37, 38, 39, 40, 41, 42, 43, 44, 45, 46, 47, 48, 49, 50, 51, 52, 53, 54, 55, 56, 57, 58, 59, 60, 61, 62, 63, 64, 65, 66, 67, 68, 69, 70, 71, 72, 73, 74, 75, 1, 3, 76, 77, 78, 79, 80, 81, 82, 83, 84, 85, 86, 87, 2, 88, 89, 90, 91, 92, 93, 94, 95, 96, 97, 98, 99, 100, 101, 102, 103, 104, 105, 106, 107, 108, 109, 110, 111, 112, 113, 114, 115, 116, 117, 118, 119, 120, 121, 122, 123, 124, 125, 126, 127, 128, 129, 130, 131, 132, 133] (by decide +kernel) (by decide +kernel)
set_option maxRecDepth 20000 in
theorem gX7_extreme_X7_travel : GoodIn wsX7_extreme (wsV RX7 48 RX7 yX7_travel wsX7_travel) := goodIn_app (goodIn_of _ (by decide +kernel)) ggX7_extreme_X7_travel
set_option maxRecDepth 20000 in
theorem ggX7_extreme_X7_better : GoodIn wsX7_extreme wsX7_better := goodIn_r _ [87, 2, 101, 102, 103, 104, 105, 106, 107, 108, 109, 110, 111, 112, 113, 114] (by decide +kernel) (by decide +kernel)
set_option maxRecDepth 20000 in
theorem gX7_extreme_X7_better : GoodIn wsX7_extreme (wsV RX7 55 RX7 yX7_better wsX7_better) := goodIn_app (goodIn_of _ (by decide +kernel)) ggX7_extreme_X7_better
set_option maxRecDepth 20000 in
theorem ggX7_travel_X4_cellA : GoodIn wsX7_travel wsX4_cellA := goodIn_r _ [10, 11, 12, 13, 14, 9, 15, 111, 112, 113, 114, 115, 116, 117, 118, 119, 120, 121, 122, 123, 124, 125] (by decide +kernel) (by decide +kernel)
set_option maxRecDepth 20000 in
theorem gX7_travel_X4_cellA : GoodIn wsX7_travel (wsV RX7 59 RX4 yX4_cellA wsX4_cellA) := goodIn_app (goodIn_of _ (by decide +kernel)) ggX7_travel_X4_cellA
set_option maxRecDepth 20000 in
theorem ggX7_travel_X7_advance : GoodIn wsX7_travel wsX7_advance := goodIn_r _ [20, 21, 3, 2, 22, 1, 23, 24, 25, 26, 4, 27, 28, 29, 30, 31, 32, 33, 9, 34, 35, 36, 37, 38, 39, 40, 41, 42, 43, 44, 45, 46, 47, 48, 49, 50, 51, 52, 53, 54, 55, 56, 57, 58, 59, 60, 61, 62, 19, 63, 64, 65, 66, 67, 68, 69, 70, 71, 72, 73, 74, 5, 75, 76, 77, 78, 79, 80, 81, 82, 83, 84, 85, 86, 87, 88, 89, 90, 91, 92, 93, 94, 95, 96, 97, 98, 99, 100, 101, 102, 103, 104, 105, 106, 107, 108, 109, 110, 111, 112, 113, 114, 115, 116, 117, 118, 119, 120, 121, 122, 123, 124, 125, 126, 127, 128, 129] (by decide +kernel) (by decide +kernel)
set_option maxRecDepth 20000 in
theorem gX7_travel_X7_advance : GoodIn wsX7_travel (wsV RX7 71 RX7 yX7_advance wsX7_advance) := goodIn_app (goodIn_of _ (by decide +kernel)) ggX7_travel_X7_advance
set_option maxRecDepth 20000 in
theorem ggX7_advance_X4_ahead : GoodIn wsX7_advance wsX4_ahead := goodIn_r _ [19, 20, 21, 22, 23, 24, 25, 26, 18, 27, 28, 29, 30, 31, 32, 33, 34, 35, 36, 37, 98, 99, 100, 101, 102, 103, 104, 105, 106, 107, 108, 109, 110, 111, 112] (by decide +kernel) (by decide +kernel)
set_option maxRecDepth 20000 in
theorem gX7_advance_X4_ahead : GoodIn wsX7_advance (wsV RX7 81 RX4 yX4_ahead wsX4_ahead) := goodIn_app (goodIn_of _ (by decide +kernel)) ggX7_advance_X4_ahead
set_option maxRecDepth 20000 in
theorem ggX7_advance_X6_onward : GoodIn wsX7_advance wsX6_onward := goodIn_r _ [42, 43, 44, 113, 114, 115, 116] (by decide +kernel) (by decide +kernel)
set_option maxRecDepth 20000 in
theorem gX7_advance_X6_onward : GoodIn wsX7_advance (wsV RX7 85 RX6 yX6_onward wsX6_onward) := goodIn_app (goodIn_of _ (by decide +kernel)) ggX7_advance_X6_onward
set_option maxRecDepth 20000 in
theorem ggX7_advance_X7_slotFor : GoodIn wsX7_advance wsX7_slotFor := goodIn_r _ [49, 7, 1, 8, 50, 84, 85, 86, 87, 88, 89, 90, 91, 92, 93, 94, 95, 96, 97] (by decide +kernel) (by decide +kernel)
set_option maxRecDepth 20000 in
theorem gX7_advance_X7_slotFor : GoodIn wsX7_advance (wsV RX7 91 RX7 yX7_slotFor wsX7_slotFor) := goodIn_app (goodIn_of _ (by decide +kernel)) ggX7_advance_X7_slotFor
set_option maxRecDepth 20000 in
theorem ggX7_advance_X7_carry : GoodIn wsX7_advance wsX7_carry := goodIn_r _ [54, 55, 3, 4, 56, 10, 9, 11, 12, 13, 14, 57, 58, 59, 48, 60, 50, 61, 62, 63, 64, 65, 66, 67, 68, 69, 70, 71, 72, 73, 74, 75, 84, 85, 86, 87, 88, 89, 90, 91, 92, 93, 94, 95, 96, 97, 98, 99, 100, 101, 102, 103, 104, 105, 106, 107, 108, 109, 110, 111, 112] (by decide +kernel) (by decide +kernel)
set_option maxRecDepth 20000 in
theorem gX7_advance_X7_carry : GoodIn wsX7_advance (wsV RX7 95 RX7 yX7_carry wsX7_carry) := goodIn_app (goodIn_of _ (by decide +kernel)) ggX7_advance_X7_carry
set_option maxRecDepth 20000 in
theorem ggX7_advance_X7_swapLayers : GoodIn wsX7_advance wsX7_swapLayers := goodIn_r _ [79, 5, 8, 61, 50, 1, 2, 84, 85, 86, 87, 88, 89, 90, 91, 92, 93, 94, 95, 96, 97] (by decide +kernel) (by decide +kernel)
set_option maxRecDepth 20000 in
theorem gX7_advance_X7_swapLayers : GoodIn wsX7_advance (wsV RX7 99 RX7 yX7_swapLayers wsX7_swapLayers) := goodIn_app (goodIn_of _ (by decide +kernel)) ggX7_advance_X7_swapLayers
set_option maxRecDepth 20000 in
theorem ggX7_advance_X7_mostGain : GoodIn wsX7_advance wsX7_mostGain := goodIn_r _ [83, 55, 84, 85, 86, 87, 88, 89, 90, 91, 92, 93, 94, 95, 96, 97] (by decide +kernel) (by decide +kernel)
set_option maxRecDepth 20000 in
theorem gX7_advance_X7_mostGain : GoodIn wsX7_advance (wsV RX7 102 RX7 yX7_mostGain wsX7_mostGain) := goodIn_app (goodIn_of _ (by decide +kernel)) ggX7_advance_X7_mostGain
set_option maxRecDepth 20000 in
theorem ggX7_carry_X7_shift : GoodIn wsX7_carry wsX7_shift := goodIn_r _ [15, 16, 17, 32, 33, 34, 35, 36, 37, 38, 39, 40, 41, 42, 43, 44, 45] (by decide +kernel) (by decide +kernel)
set_option maxRecDepth 20000 in
theorem gX7_carry_X7_shift : GoodIn wsX7_carry (wsV RX7 110 RX7 yX7_shift wsX7_shift) := goodIn_app (goodIn_of _ (by decide +kernel)) ggX7_carry_X7_shift
set_option maxRecDepth 20000 in
theorem ggX7_carry_X7_improve : GoodIn wsX7_carry wsX7_improve := goodIn_r _ [21, 17, 16, 22, 23, 24, 14, 25, 26, 32, 33, 34, 35, 36, 37, 38, 39, 40, 41, 42, 43, 44, 45] (by decide +kernel) (by decide +kernel)
set_option maxRecDepth 20000 in
theorem gX7_carry_X7_improve : GoodIn wsX7_carry (wsV RX7 114 RX7 yX7_improve wsX7_improve) := goodIn_app (goodIn_of _ (by decide +kernel)) ggX7_carry_X7_improve
set_option maxRecDepth 20000 in
theorem ggX7_carry_X7_gainOf : GoodIn wsX7_carry wsX7_gainOf := goodIn_r _ [30, 1, 2, 31, 32, 33, 34, 35, 36, 37, 38, 39, 40, 41, 42, 43, 44, 45, 46, 47, 48, 49, 50, 51, 52, 53, 54, 55, 56, 57, 58, 59, 60] (by decide +kernel) (by decide +kernel)
set_option maxRecDepth 20000 in
theorem gX7_carry_X7_gainOf : GoodIn wsX7_carry (wsV RX7 118 RX7 yX7_gainOf wsX7_gainOf) := goodIn_app (goodIn_of _ (by decide +kernel)) ggX7_carry_X7_gainOf
set_option maxRecDepth 20000 in
theorem ggX7_improve_X7_better : GoodIn wsX7_improve wsX7_better := goodIn_r _ [7, 8, 9, 10, 11, 12, 13, 14, 15, 16, 17, 18, 19, 20, 21, 22] (by decide +kernel) (by decide +kernel)
set_option maxRecDepth 20000 in
theorem gX7_improve_X7_better : GoodIn wsX7_improve (wsV RX7 55 RX7 yX7_better wsX7_better) := goodIn_app (goodIn_of _ (by decide +kernel)) ggX7_improve_X7_better
set_option maxRecDepth 20000 in
theorem ggX8_init_X5_init : GoodIn wsX8_init wsX5_init := goodIn_r _ [33, 34, 2, 3, 28, 35, 36, 37, 98, 99, 100] (by decide +kernel) (by decide +kernel)
set_option maxRecDepth 20000 in
theorem gX8_init_X5_init : GoodIn wsX8_init (wsX5_init) := ggX8_init_X5_init
set_option maxRecDepth 20000 in
theorem ggX8_init_X4_init : GoodIn wsX8_init wsX4_init := goodIn_r _ [40, 41, 2, 3, 28, 42, 43, 44, 45, 46, 47, 48, 49, 50, 51, 52, 53, 54, 10, 55, 56, 57, 58, 59, 60, 61, 62, 63, 64, 65, 66, 67, 113, 114, 115, 116, 117, 118, 119, 120, 121, 122, 123, 124, 125, 126, 127] (by decide +kernel) (by decide +kernel)
set_option maxRecDepth 20000 in
theorem gX8_init_X4_init : GoodIn wsX8_init (wsX4_init) := ggX8_init_X4_init
set_option maxRecDepth 20000 in
theorem ggX8_init_X1_init : GoodIn wsX8_init wsX1_init := goodIn_r _ [69, 70, 2, 3, 28, 71, 72, 73, 74, 75, 128, 129, 130, 131, 132] (by decide +kernel) (by decide +kernel)
set_option maxRecDepth 20000 in
theorem gX8_init_X1_init_n25 : GoodIn wsX8_init (wsX1_init) := ggX8_init_X1_init
set_option maxRecDepth 20000 in
theorem ggX8_init_X2_init : GoodIn wsX8_init wsX2_init := goodIn_r _ [77, 78, 2, 3, 74, 79, 80, 133, 134] (by decide +kernel) (by decide +kernel)
set_option maxRecDepth 20000 in
theorem gX8_init_X2_init_n32 : GoodIn wsX8_init (wsX2_init) := ggX8_init_X2_init
set_option maxRecDepth 20000 in
theorem ggX8_init_X3_init : GoodIn wsX8_init wsX3_init := goodIn_r _ [82, 83, 2, 3, 74, 84, 85, 86, 87, 88, 89, 90, 91, 92, 28, 93, 135, 136, 137, 138, 139, 140, 141, 142, 143, 144, 145, 146] (by decide +kernel) (by decide +kernel)
set_option maxRecDepth 20000 in
theorem gX8_init_X3_init_n39 : GoodIn wsX8_init (wsX3_init) := ggX8_init_X3_init
set_option maxRecDepth 20000 in
theorem ggX8_init_X0_init : GoodIn wsX8_init wsX0_init := goodIn_r _ [95, 96, 2, 3, 74, 97, 147, 148] (by decide +kernel) (by decide +kernel)
set_option maxRecDepth 20000 in
theorem gX8_init_X0_init_n46 : GoodIn wsX8_init (wsX0_init) := ggX8_init_X0_init
set_option maxRecDepth 20000 in
theorem ggX8_sheet_X5_known : GoodIn wsX8_sheet wsX5_known := goodIn_r _ [5] (by decide +kernel) (by decide +kernel)
set_option maxRecDepth 20000 in
theorem gX8_sheet_X5_known : GoodIn wsX8_sheet (va_wsS RX8 62 yX5_known wsX5_known) := goodIn_app (goodIn_of _ (by decide +kernel)) ggX8_sheet_X5_known
set_option maxRecDepth 20000 in
theorem ggX8_sheet_X8_within : GoodIn wsX8_sheet wsX8_within := goodIn_r _ [9] (by decide +kernel) (by decide +kernel)
set_option maxRecDepth 20000 in
theorem gX8_sheet_X8_within : GoodIn wsX8_sheet (va_wsS RX8 66 yX8_within wsX8_within) := goodIn_app (goodIn_of _ (by decide +kernel)) ggX8_sheet_X8_within
set_option maxRecDepth 20000 in
theorem ggX8_sheet_X8_denied : GoodIn wsX8_sheet wsX8_denied := goodIn_r _ [13, 14, 27, 28, 29, 30, 31, 32, 33, 34, 35, 36, 37, 38] (by decide +kernel) (by decide +kernel)
set_option maxRecDepth 20000 in
theorem gX8_sheet_X8_denied : GoodIn wsX8_sheet (wsV RX8 70 RX8 yX8_denied wsX8_denied) := goodIn_app (goodIn_of _ (by decide +kernel)) ggX8_sheet_X8_denied
set_option maxRecDepth 20000 in
theorem ggX8_sheet_X5_lay : GoodIn wsX8_sheet wsX5_lay := goodIn_r _ [18, 19, 20, 21, 22, 3, 4, 5, 39, 40, 41] (by decide +kernel) (by decide +kernel)
set_option maxRecDepth 20000 in
theorem gX8_sheet_X5_lay : GoodIn wsX8_sheet (wsV RX8 73 RX5 yX5_lay wsX5_lay) := goodIn_app (goodIn_of _ (by decide +kernel)) ggX8_sheet_X5_lay
set_option maxRecDepth 20000 in
theorem ggX8_sheet_X8_granted : GoodIn wsX8_sheet wsX8_granted := goodIn_r _ [26, 14, 27, 28, 29, 30, 31, 32, 33, 34, 35, 36, 37, 38] (by decide +kernel) (by decide +kernel)
set_option maxRecDepth 20000 in
theorem gX8_sheet_X8_granted : GoodIn wsX8_sheet (wsV RX8 77 RX8 yX8_granted wsX8_granted) := goodIn_app (goodIn_of _ (by decide +kernel)) ggX8_sheet_X8_granted
set_option maxRecDepth 20000 in
theorem ggX8_write_X8_placeFault : GoodIn wsX8_write wsX8_placeFault := goodIn_r _ [6, 1, 7, 8, 9, 5, 10, 11, 12, 13, 14, 15, 16, 17, 18, 19, 20, 21, 22, 23, 24, 41, 42, 43, 44, 45, 46, 47, 48, 49, 50, 51, 52, 53, 54, 55] (by decide +kernel) (by decide +kernel)
set_option maxRecDepth 20000 in
theorem gX8_write_X8_placeFault : GoodIn wsX8_write (wsV RX8 81 RX8 yX8_placeFault wsX8_placeFault) := goodIn_app (goodIn_of _ (by decide +kernel)) ggX8_write_X8_placeFault
set_option maxRecDepth 20000 in
theorem ggX8_write_X8_denied : GoodIn wsX8_write wsX8_denied := goodIn_r _ [28, 29, 41, 42, 43, 44, 45, 46, 47, 48, 49, 50, 51, 52] (by decide +kernel) (by decide +kernel)
set_option maxRecDepth 20000 in
theorem gX8_write_X8_denied : GoodIn wsX8_write (wsV RX8 70 RX8 yX8_denied wsX8_denied) := goodIn_app (goodIn_of _ (by decide +kernel)) ggX8_write_X8_denied
set_option maxRecDepth 20000 in
theorem ggX8_write_X5_put : GoodIn wsX8_write wsX5_put := goodIn_r _ [33, 34, 35, 36, 22, 23, 13, 24, 19, 20, 12, 14, 53, 54, 55] (by decide +kernel) (by decide +kernel)
set_option maxRecDepth 20000 in
theorem gX8_write_X5_put : GoodIn wsX8_write (wsV RX8 85 RX5 yX5_put wsX5_put) := goodIn_app (goodIn_of _ (by decide +kernel)) ggX8_write_X5_put
set_option maxRecDepth 20000 in
theorem ggX8_write_X8_granted : GoodIn wsX8_write wsX8_granted := goodIn_r _ [40, 29, 41, 42, 43, 44, 45, 46, 47, 48, 49, 50, 51, 52] (by decide +kernel) (by decide +kernel)
set_option maxRecDepth 20000 in
theorem gX8_write_X8_granted : GoodIn wsX8_write (wsV RX8 77 RX8 yX8_granted wsX8_granted) := goodIn_app (goodIn_of _ (by decide +kernel)) ggX8_write_X8_granted
set_option maxRecDepth 20000 in
theorem ggX8_read_X8_placeFault : GoodIn wsX8_read wsX8_placeFault := goodIn_r _ [6, 1, 7, 8, 9, 5, 10, 11, 12, 13, 14, 15, 16, 17, 18, 19, 20, 21, 22, 23, 24, 40, 41, 42, 43, 44, 45, 46, 47, 48, 49, 50, 51, 52, 53, 54] (by decide +kernel) (by decide +kernel)
set_option maxRecDepth 20000 in
theorem gX8_read_X8_placeFault : GoodIn wsX8_read (wsV RX8 81 RX8 yX8_placeFault wsX8_placeFault) := goodIn_app (goodIn_of _ (by decide +kernel)) ggX8_read_X8_placeFault
set_option maxRecDepth 20000 in
theorem ggX8_read_X8_refused : GoodIn wsX8_read wsX8_refused := goodIn_r _ [28, 29, 40, 41, 42, 43, 44, 45, 46, 47, 48, 49, 50, 51] (by decide +kernel) (by decide +kernel)
set_option maxRecDepth 20000 in
theorem gX8_read_X8_refused : GoodIn wsX8_read (wsV RX8 88 RX8 yX8_refused wsX8_refused) := goodIn_app (goodIn_of _ (by decide +kernel)) ggX8_read_X8_refused
set_option maxRecDepth 20000 in
theorem ggX8_read_X5_at : GoodIn wsX8_read wsX5_at := goodIn_r _ [33, 34, 35, 22, 23, 13, 24, 19, 20, 12, 14, 52, 53, 54] (by decide +kernel) (by decide +kernel)
set_option maxRecDepth 20000 in
theorem gX8_read_X5_at : GoodIn wsX8_read (wsV RX8 92 RX5 yX5_at wsX5_at) := goodIn_app (goodIn_of _ (by decide +kernel)) ggX8_read_X5_at
set_option maxRecDepth 20000 in
theorem ggX8_read_X8_given : GoodIn wsX8_read wsX8_given := goodIn_r _ [39, 29, 40, 41, 42, 43, 44, 45, 46, 47, 48, 49, 50, 51] (by decide +kernel) (by decide +kernel)
set_option maxRecDepth 20000 in
theorem gX8_read_X8_given : GoodIn wsX8_read (wsV RX8 95 RX8 yX8_given wsX8_given) := goodIn_app (goodIn_of _ (by decide +kernel)) ggX8_read_X8_given
set_option maxRecDepth 20000 in
theorem ggX8_pour_X5_known : GoodIn wsX8_pour wsX5_known := goodIn_r _ [5] (by decide +kernel) (by decide +kernel)
set_option maxRecDepth 20000 in
theorem gX8_pour_X5_known : GoodIn wsX8_pour (va_wsS RX8 62 yX5_known wsX5_known) := goodIn_app (goodIn_of _ (by decide +kernel)) ggX8_pour_X5_known
set_option maxRecDepth 20000 in
theorem ggX8_pour_X8_denied : GoodIn wsX8_pour wsX8_denied := goodIn_r _ [10, 11, 41, 42, 43, 44, 45, 46, 47, 48, 49, 50, 51, 52] (by decide +kernel) (by decide +kernel)
set_option maxRecDepth 20000 in
theorem gX8_pour_X8_denied : GoodIn wsX8_pour (wsV RX8 70 RX8 yX8_denied wsX8_denied) := goodIn_app (goodIn_of _ (by decide +kernel)) ggX8_pour_X8_denied
set_option maxRecDepth 20000 in
theorem ggX8_pour_X5_missing : GoodIn wsX8_pour wsX5_missing := goodIn_r _ [15, 16, 17, 3, 4, 5, 53, 54, 55] (by decide +kernel) (by decide +kernel)
set_option maxRecDepth 20000 in
theorem gX8_pour_X5_missing : GoodIn wsX8_pour (wsV RX8 98 RX5 yX5_missing wsX5_missing) := goodIn_app (goodIn_of _ (by decide +kernel)) ggX8_pour_X5_missing
set_option maxRecDepth 20000 in
theorem ggX8_pour_X5_sortOf : GoodIn wsX8_pour wsX5_sortOf := goodIn_r _ [21, 22, 17, 3, 4, 5, 53, 54, 55] (by decide +kernel) (by decide +kernel)
set_option maxRecDepth 20000 in
theorem gX8_pour_X5_sortOf : GoodIn wsX8_pour (wsV RX8 101 RX5 yX5_sortOf wsX5_sortOf) := goodIn_app (goodIn_of _ (by decide +kernel)) ggX8_pour_X5_sortOf
set_option maxRecDepth 20000 in
theorem ggX8_pour_X5_holds : GoodIn wsX8_pour wsX5_holds := goodIn_r _ [26, 16, 17, 3, 4, 5, 53, 54, 55] (by decide +kernel) (by decide +kernel)
set_option maxRecDepth 20000 in
theorem gX8_pour_X5_holds : GoodIn wsX8_pour (wsV RX8 104 RX5 yX5_holds wsX5_holds) := goodIn_app (goodIn_of _ (by decide +kernel)) ggX8_pour_X5_holds
set_option maxRecDepth 20000 in
theorem ggX8_pour_X5_move : GoodIn wsX8_pour wsX5_move := goodIn_r _ [30, 31, 32, 33, 34, 35, 36, 24, 25, 4, 26, 16, 17, 3, 5, 53, 54, 55] (by decide +kernel) (by decide +kernel)
set_option maxRecDepth 20000 in
theorem gX8_pour_X5_move : GoodIn wsX8_pour (wsV RX8 107 RX5 yX5_move wsX5_move) := goodIn_app (goodIn_of _ (by decide +kernel)) ggX8_pour_X5_move
set_option maxRecDepth 20000 in
theorem ggX8_pour_X8_granted : GoodIn wsX8_pour wsX8_granted := goodIn_r _ [40, 11, 41, 42, 43, 44, 45, 46, 47, 48, 49, 50, 51, 52] (by decide +kernel) (by decide +kernel)
set_option maxRecDepth 20000 in
theorem gX8_pour_X8_granted : GoodIn wsX8_pour (wsV RX8 77 RX8 yX8_granted wsX8_granted) := goodIn_app (goodIn_of _ (by decide +kernel)) ggX8_pour_X8_granted
set_option maxRecDepth 20000 in
theorem ggX8_steps_X8_sheetFault : GoodIn wsX8_steps wsX8_sheetFault := goodIn_r _ [7, 1, 8, 9, 10, 11, 12, 13, 14, 15, 16, 17, 73, 74, 75, 76, 77, 78, 79, 80, 81, 82, 83, 84, 85, 86, 87] (by decide +kernel) (by decide +kernel)
set_option maxRecDepth 20000 in
theorem gX8_steps_X8_sheetFault : GoodIn wsX8_steps (wsV RX8 111 RX8 yX8_sheetFault wsX8_sheetFault) := goodIn_app (goodIn_of _ (by decide +kernel)) ggX8_steps_X8_sheetFault
set_option maxRecDepth 20000 in
theorem ggX8_steps_X8_denied : GoodIn wsX8_steps wsX8_denied := goodIn_r _ [21, 22, 73, 74, 75, 76, 77, 78, 79, 80, 81, 82, 83, 84] (by decide +kernel) (by decide +kernel)
set_option maxRecDepth 20000 in
theorem gX8_steps_X8_denied : GoodIn wsX8_steps (wsV RX8 70 RX8 yX8_denied wsX8_denied) := goodIn_app (goodIn_of _ (by decide +kernel)) ggX8_steps_X8_denied
set_option maxRecDepth 20000 in
theorem ggX8_steps_X8_within : GoodIn wsX8_steps wsX8_within := goodIn_r _ [25] (by decide +kernel) (by decide +kernel)
set_option maxRecDepth 20000 in
theorem gX8_steps_X8_within : GoodIn wsX8_steps (va_wsS RX8 66 yX8_within wsX8_within) := goodIn_app (goodIn_of _ (by decide +kernel)) ggX8_steps_X8_within
set_option maxRecDepth 20000 in
theorem ggX8_steps_X5_holds : GoodIn wsX8_steps wsX5_holds := goodIn_r _ [29, 16, 17, 9, 10, 11, 85, 86, 87] (by decide +kernel) (by decide +kernel)
set_option maxRecDepth 20000 in
theorem gX8_steps_X5_holds : GoodIn wsX8_steps (wsV RX8 104 RX5 yX5_holds wsX5_holds) := goodIn_app (goodIn_of _ (by decide +kernel)) ggX8_steps_X5_holds
set_option maxRecDepth 20000 in
theorem ggX8_steps_X8_areSteps : GoodIn wsX8_steps wsX8_areSteps := goodIn_r _ [33, 1, 34, 35, 36, 10, 37, 38, 39, 27, 28, 29, 16, 17, 9, 11, 23, 24, 6, 25, 73, 74, 75, 76, 77, 78, 79, 80, 81, 82, 83, 84, 85, 86, 87] (by decide +kernel) (by decide +kernel)
set_option maxRecDepth 20000 in
theorem gX8_steps_X8_areSteps : GoodIn wsX8_steps (wsV RX8 114 RX8 yX8_areSteps wsX8_areSteps) := goodIn_app (goodIn_of _ (by decide +kernel)) ggX8_steps_X8_areSteps
set_option maxRecDepth 20000 in
theorem ggX8_steps_X5_at : GoodIn wsX8_steps wsX5_at := goodIn_r _ [37, 38, 39, 27, 28, 10, 29, 16, 17, 9, 11, 85, 86, 87] (by decide +kernel) (by decide +kernel)
set_option maxRecDepth 20000 in
theorem gX8_steps_X5_at : GoodIn wsX8_steps (wsV RX8 92 RX5 yX5_at wsX5_at) := goodIn_app (goodIn_of _ (by decide +kernel)) ggX8_steps_X5_at
set_option maxRecDepth 20000 in
theorem ggX8_steps_X4_setStep : GoodIn wsX8_steps wsX4_setStep := goodIn_r _ [44, 45, 46, 47, 48, 88, 89, 90, 91, 92, 93, 94, 95, 96, 97, 98, 99, 100, 101, 102] (by decide +kernel) (by decide +kernel)
set_option maxRecDepth 20000 in
theorem gX8_steps_X4_setStep : GoodIn wsX8_steps (wsV RX8 118 RX4 yX4_setStep wsX4_setStep) := goodIn_app (goodIn_of _ (by decide +kernel)) ggX8_steps_X4_setStep
set_option maxRecDepth 20000 in
theorem ggX8_steps_X4_setStepCount : GoodIn wsX8_steps wsX4_setStepCount := goodIn_r _ [52, 53, 54, 55, 56, 57, 88, 89, 90, 91, 92, 93, 94, 95, 96, 97, 98, 99, 100, 101, 102] (by decide +kernel) (by decide +kernel)
set_option maxRecDepth 20000 in
theorem gX8_steps_X4_setStepCount : GoodIn wsX8_steps (wsV RX8 121 RX4 yX4_setStepCount wsX4_setStepCount) := goodIn_app (goodIn_of _ (by decide +kernel)) ggX8_steps_X4_setStepCount
set_option maxRecDepth 20000 in
theorem ggX8_steps_X8_forgetWays : GoodIn wsX8_steps wsX8_forgetWays := goodIn_r _ [61, 62, 63, 64, 65, 66, 67, 68, 73, 74, 75, 76, 77, 78, 79, 80, 81, 82, 83, 84, 103, 104, 105, 106] (by decide +kernel) (by decide +kernel)
set_option maxRecDepth 20000 in
theorem gX8_steps_X8_forgetWays : GoodIn wsX8_steps (wsV RX8 125 RX8 yX8_forgetWays wsX8_forgetWays) := goodIn_app (goodIn_of _ (by decide +kernel)) ggX8_steps_X8_forgetWays
set_option maxRecDepth 20000 in
theorem ggX8_steps_X8_granted : GoodIn wsX8_steps wsX8_granted := goodIn_r _ [72, 22, 73, 74, 75, 76, 77, 78, 79, 80, 81, 82, 83, 84] (by decide +kernel) (by decide +kernel)
set_option maxRecDepth 20000 in
theorem gX8_steps_X8_granted : GoodIn wsX8_steps (wsV RX8 77 RX8 yX8_granted wsX8_granted) := goodIn_app (goodIn_of _ (by decide +kernel)) ggX8_steps_X8_granted
set_option maxRecDepth 20000 in
theorem ggX8_step_X8_within : GoodIn wsX8_step wsX8_within := goodIn_r _ [8] (by decide +kernel) (by decide +kernel)
set_option maxRecDepth 20000 in
theorem gX8_step_X8_within : GoodIn wsX8_step (va_wsS RX8 66 yX8_within wsX8_within) := goodIn_app (goodIn_of _ (by decide +kernel)) ggX8_step_X8_within
set_option maxRecDepth 20000 in
theorem ggX8_step_X8_refused : GoodIn wsX8_step wsX8_refused := goodIn_r _ [12, 13, 24, 25, 26, 27, 28, 29, 30, 31, 32, 33, 34, 35] (by decide +kernel) (by decide +kernel)
set_option maxRecDepth 20000 in
theorem gX8_step_X8_refused : GoodIn wsX8_step (wsV RX8 88 RX8 yX8_refused wsX8_refused) := goodIn_app (goodIn_of _ (by decide +kernel)) ggX8_step_X8_refused
set_option maxRecDepth 20000 in
theorem ggX8_step_X4_hasStep : GoodIn wsX8_step wsX4_hasStep := goodIn_r _ [18, 19, 36, 37, 38, 39, 40, 41, 42, 43, 44, 45, 46, 47, 48, 49, 50] (by decide +kernel) (by decide +kernel)
set_option maxRecDepth 20000 in
theorem gX8_step_X4_hasStep : GoodIn wsX8_step (wsV RX8 128 RX4 yX4_hasStep wsX4_hasStep) := goodIn_app (goodIn_of _ (by decide +kernel)) ggX8_step_X4_hasStep
set_option maxRecDepth 20000 in
theorem ggX8_step_X8_given : GoodIn wsX8_step wsX8_given := goodIn_r _ [23, 13, 24, 25, 26, 27, 28, 29, 30, 31, 32, 33, 34, 35] (by decide +kernel) (by decide +kernel)
set_option maxRecDepth 20000 in
theorem gX8_step_X8_given : GoodIn wsX8_step (wsV RX8 95 RX8 yX8_given wsX8_given) := goodIn_app (goodIn_of _ (by decide +kernel)) ggX8_step_X8_given
set_option maxRecDepth 20000 in
theorem ggX8_told_X4_hasStep : GoodIn wsX8_told wsX4_hasStep := goodIn_r _ [7, 8, 34, 35, 36, 37, 38, 39, 40, 41, 42, 43, 44, 45, 46, 47, 48] (by decide +kernel) (by decide +kernel)
set_option maxRecDepth 20000 in
theorem gX8_told_X4_hasStep : GoodIn wsX8_told (wsV RX8 128 RX4 yX4_hasStep wsX4_hasStep) := goodIn_app (goodIn_of _ (by decide +kernel)) ggX8_told_X4_hasStep
set_option maxRecDepth 20000 in
theorem ggX8_told_X8_denied : GoodIn wsX8_told wsX8_denied := goodIn_r _ [13, 14, 22, 23, 24, 25, 26, 27, 28, 29, 30, 31, 32, 33] (by decide +kernel) (by decide +kernel)
set_option maxRecDepth 20000 in
theorem gX8_told_X8_denied : GoodIn wsX8_told (wsV RX8 70 RX8 yX8_denied wsX8_denied) := goodIn_app (goodIn_of _ (by decide +kernel)) ggX8_told_X8_denied
set_option maxRecDepth 20000 in
theorem ggX8_told_X8_within : GoodIn wsX8_told wsX8_within := goodIn_r _ [17] (by decide +kernel) (by decide +kernel)
set_option maxRecDepth 20000 in
theorem gX8_told_X8_within : GoodIn wsX8_told (va_wsS RX8 66 yX8_within wsX8_within) := goodIn_app (goodIn_of _ (by decide +kernel)) ggX8_told_X8_within
set_option maxRecDepth 20000 in
theorem ggX8_told_X8_granted : GoodIn wsX8_told wsX8_granted := goodIn_r _ [21, 14, 22, 23, 24, 25, 26, 27, 28, 29, 30, 31, 32, 33] (by decide +kernel) (by decide +kernel)
set_option maxRecDepth 20000 in
theorem gX8_told_X8_granted : GoodIn wsX8_told (wsV RX8 77 RX8 yX8_granted wsX8_granted) := goodIn_app (goodIn_of _ (by decide +kernel)) ggX8_told_X8_granted
set_option maxRecDepth 20000 in
theorem ggX8_kind_X8_within : GoodIn wsX8_kind wsX8_within := goodIn_r _ [5] (by decide +kernel) (by decide +kernel)
set_option maxRecDepth 20000 in
theorem gX8_kind_X8_within : GoodIn wsX8_kind (va_wsS RX8 66 yX8_within wsX8_within) := goodIn_app (goodIn_of _ (by decide +kernel)) ggX8_kind_X8_within
set_option maxRecDepth 20000 in
theorem ggX8_kind_X8_denied : GoodIn wsX8_kind wsX8_denied := goodIn_r _ [9, 10, 51, 52, 53, 54, 55, 56, 57, 58, 59, 60, 61, 62] (by decide +kernel) (by decide +kernel)
set_option maxRecDepth 20000 in
theorem gX8_kind_X8_denied : GoodIn wsX8_kind (wsV RX8 70 RX8 yX8_denied wsX8_denied) := goodIn_app (goodIn_of _ (by decide +kernel)) ggX8_kind_X8_denied
set_option maxRecDepth 20000 in
theorem ggX8_kind_X4_setKind : GoodIn wsX8_kind wsX4_setKind := goodIn_r _ [15, 16, 17, 18, 19, 20, 21, 14, 22, 23, 24, 25, 26, 27, 28, 29, 30, 31, 32, 33, 34, 35, 63, 64, 65, 66, 67, 68, 69, 70, 71, 72, 73, 74, 75, 76, 77] (by decide +kernel) (by decide +kernel)
set_option maxRecDepth 20000 in
theorem gX8_kind_X4_setKind : GoodIn wsX8_kind (wsV RX8 140 RX4 yX4_setKind wsX4_setKind) := goodIn_app (goodIn_of _ (by decide +kernel)) ggX8_kind_X4_setKind
set_option maxRecDepth 20000 in
theorem ggX8_kind_X8_forgetWays : GoodIn wsX8_kind wsX8_forgetWays := goodIn_r _ [39, 40, 41, 42, 43, 44, 45, 46, 51, 52, 53, 54, 55, 56, 57, 58, 59, 60, 61, 62, 78, 79, 80, 81] (by decide +kernel) (by decide +kernel)
set_option maxRecDepth 20000 in
theorem gX8_kind_X8_forgetWays : GoodIn wsX8_kind (wsV RX8 125 RX8 yX8_forgetWays wsX8_forgetWays) := goodIn_app (goodIn_of _ (by decide +kernel)) ggX8_kind_X8_forgetWays
set_option maxRecDepth 20000 in
theorem ggX8_kind_X8_granted : GoodIn wsX8_kind wsX8_granted := goodIn_r _ [50, 10, 51, 52, 53, 54, 55, 56, 57, 58, 59, 60, 61, 62] (by decide +kernel) (by decide +kernel)
set_option maxRecDepth 20000 in
theorem gX8_kind_X8_granted : GoodIn wsX8_kind (wsV RX8 77 RX8 yX8_granted wsX8_granted) := goodIn_app (goodIn_of _ (by decide +kernel)) ggX8_kind_X8_granted
set_option maxRecDepth 20000 in
theorem ggX8_bar_X4_isSquare : GoodIn wsX8_bar wsX4_isSquare := goodIn_r _ [5] (by decide +kernel) (by decide +kernel)
set_option maxRecDepth 20000 in
theorem gX8_bar_X4_isSquare : GoodIn wsX8_bar (va_wsS RX8 144 yX4_isSquare wsX4_isSquare) := goodIn_app (goodIn_of _ (by decide +kernel)) ggX8_bar_X4_isSquare
set_option maxRecDepth 20000 in
theorem ggX8_bar_X8_denied : GoodIn wsX8_bar wsX8_denied := goodIn_r _ [10, 11, 53, 54, 55, 56, 57, 58, 59, 60, 61, 62, 63, 64] (by decide +kernel) (by decide +kernel)
set_option maxRecDepth 20000 in
theorem gX8_bar_X8_denied : GoodIn wsX8_bar (wsV RX8 70 RX8 yX8_denied wsX8_denied) := goodIn_app (goodIn_of _ (by decide +kernel)) ggX8_bar_X8_denied
set_option maxRecDepth 20000 in
theorem ggX8_bar_X4_setBarred : GoodIn wsX8_bar wsX4_setBarred := goodIn_r _ [15, 16, 17, 18, 3, 4, 5, 19, 20, 21, 22, 23, 24, 25, 26, 27, 28, 29, 30, 31, 32, 33, 34, 35, 36, 37, 65, 66, 67, 68, 69, 70, 71, 72, 73, 74, 75, 76, 77, 78, 79] (by decide +kernel) (by decide +kernel)
set_option maxRecDepth 20000 in
theorem gX8_bar_X4_setBarred : GoodIn wsX8_bar (wsV RX8 147 RX4 yX4_setBarred wsX4_setBarred) := goodIn_app (goodIn_of _ (by decide +kernel)) ggX8_bar_X4_setBarred
set_option maxRecDepth 20000 in
theorem ggX8_bar_X8_forgetWays : GoodIn wsX8_bar wsX8_forgetWays := goodIn_r _ [41, 42, 43, 44, 45, 46, 47, 48, 53, 54, 55, 56, 57, 58, 59, 60, 61, 62, 63, 64, 80, 81, 82, 83] (by decide +kernel) (by decide +kernel)
set_option maxRecDepth 20000 in
theorem gX8_bar_X8_forgetWays : GoodIn wsX8_bar (wsV RX8 125 RX8 yX8_forgetWays wsX8_forgetWays) := goodIn_app (goodIn_of _ (by decide +kernel)) ggX8_bar_X8_forgetWays
set_option maxRecDepth 20000 in
theorem ggX8_bar_X8_granted : GoodIn wsX8_bar wsX8_granted := goodIn_r _ [52, 11, 53, 54, 55, 56, 57, 58, 59, 60, 61, 62, 63, 64] (by decide +kernel) (by decide +kernel)
set_option maxRecDepth 20000 in
theorem gX8_bar_X8_granted : GoodIn wsX8_bar (wsV RX8 77 RX8 yX8_granted wsX8_granted) := goodIn_app (goodIn_of _ (by decide +kernel)) ggX8_bar_X8_granted
set_option maxRecDepth 20000 in
theorem ggX8_wall_X8_sheetFault : GoodIn wsX8_wall wsX8_sheetFault := goodIn_r _ [8, 1, 9, 10, 11, 12, 13, 14, 15, 16, 17, 18, 79, 80, 81, 82, 83, 84, 85, 86, 87, 88, 89, 90, 106, 107, 108] (by decide +kernel) (by decide +kernel)
set_option maxRecDepth 20000 in
theorem gX8_wall_X8_sheetFault : GoodIn wsX8_wall (wsV RX8 111 RX8 yX8_sheetFault wsX8_sheetFault) := goodIn_app (goodIn_of _ (by decide +kernel)) ggX8_wall_X8_sheetFault
set_option maxRecDepth 20000 in
theorem ggX8_wall_X8_refused : GoodIn wsX8_wall wsX8_refused := goodIn_r _ [22, 23, 79, 80, 81, 82, 83, 84, 85, 86, 87, 88, 89, 90] (by decide +kernel) (by decide +kernel)
set_option maxRecDepth 20000 in
theorem gX8_wall_X8_refused : GoodIn wsX8_wall (wsV RX8 88 RX8 yX8_refused wsX8_refused) := goodIn_app (goodIn_of _ (by decide +kernel)) ggX8_wall_X8_refused
set_option maxRecDepth 20000 in
theorem ggX8_wall_X5_holds : GoodIn wsX8_wall wsX5_holds := goodIn_r _ [27, 17, 18, 10, 11, 12, 106, 107, 108] (by decide +kernel) (by decide +kernel)
set_option maxRecDepth 20000 in
theorem gX8_wall_X5_holds : GoodIn wsX8_wall (wsV RX8 104 RX5 yX5_holds wsX5_holds) := goodIn_app (goodIn_of _ (by decide +kernel)) ggX8_wall_X5_holds
set_option maxRecDepth 20000 in
theorem ggX8_wall_X5_at : GoodIn wsX8_wall wsX5_at := goodIn_r _ [31, 32, 33, 25, 26, 11, 27, 17, 18, 10, 12, 106, 107, 108] (by decide +kernel) (by decide +kernel)
set_option maxRecDepth 20000 in
theorem gX8_wall_X5_at : GoodIn wsX8_wall (wsV RX8 92 RX5 yX5_at wsX5_at) := goodIn_app (goodIn_of _ (by decide +kernel)) ggX8_wall_X5_at
set_option maxRecDepth 20000 in
theorem ggX8_wall_X4_isSquare : GoodIn wsX8_wall wsX4_isSquare := goodIn_r _ [37] (by decide +kernel) (by decide +kernel)
set_option maxRecDepth 20000 in
theorem gX8_wall_X4_isSquare : GoodIn wsX8_wall (va_wsS RX8 144 yX4_isSquare wsX4_isSquare) := goodIn_app (goodIn_of _ (by decide +kernel)) ggX8_wall_X4_isSquare
