set_option maxRecDepth 20000 in
theorem ggX8_mirror_X4_endsOpen : GoodIn wsX8_mirror wsX4_endsOpen := goodIn_r _ [39, 40, 41, 42, 43, 44, 45, 46, 27, 47, 48, 49, 50, 51, 52, 53, 54, 101, 102, 103, 104, 105, 106, 107, 108, 109, 110, 111, 112, 113, 114, 115] (by decide +kernel) (by decide +kernel)
set_option maxRecDepth 20000 in
theorem gX8_mirror_X4_endsOpen : GoodIn wsX8_mirror (wsV RX8 198 RX4 yX4_endsOpen wsX4_endsOpen) := goodIn_app (goodIn_of _ (by decide +kernel)) ggX8_mirror_X4_endsOpen
set_option maxRecDepth 20000 in
theorem ggX8_mirror_X2_mirrored : GoodIn wsX8_mirror wsX2_mirrored := goodIn_r _ [59, 60, 61, 62, 63, 9, 10, 11, 64, 65, 66, 67, 68, 69, 70, 58, 71, 72, 73, 74, 75, 76, 77, 78, 79, 80, 81, 82, 83, 84, 101, 102, 103, 104, 105, 106, 107, 108, 109, 110, 111, 112, 113, 114, 115, 116, 117] (by decide +kernel) (by decide +kernel)
set_option maxRecDepth 20000 in
theorem gX8_mirror_X2_mirrored : GoodIn wsX8_mirror (wsV RX8 258 RX2 yX2_mirrored wsX2_mirrored) := goodIn_app (goodIn_of _ (by decide +kernel)) ggX8_mirror_X2_mirrored
set_option maxRecDepth 20000 in
theorem ggX8_mirror_X8_givenLong : GoodIn wsX8_mirror wsX8_givenLong := goodIn_r _ [88, 23, 89, 90, 91, 92, 93, 94, 95, 96, 97, 98, 99, 100] (by decide +kernel) (by decide +kernel)
set_option maxRecDepth 20000 in
theorem gX8_mirror_X8_givenLong : GoodIn wsX8_mirror (wsV RX8 204 RX8 yX8_givenLong wsX8_givenLong) := goodIn_app (goodIn_of _ (by decide +kernel)) ggX8_mirror_X8_givenLong
set_option maxRecDepth 20000 in
theorem ggX8_first_X8_comingFault : GoodIn wsX8_first wsX8_comingFault := goodIn_r _ [7, 2, 8, 9, 10, 6, 11, 12, 13, 14, 15, 16, 17, 18, 59, 60, 61, 62, 63, 64, 65, 66, 67, 68, 69, 70, 71, 72, 73, 74, 75, 76, 77, 78, 79, 80, 81, 82, 83, 84, 85] (by decide +kernel) (by decide +kernel)
set_option maxRecDepth 20000 in
theorem gX8_first_X8_comingFault : GoodIn wsX8_first (wsV RX8 262 RX8 yX8_comingFault wsX8_comingFault) := goodIn_app (goodIn_of _ (by decide +kernel)) ggX8_first_X8_comingFault
set_option maxRecDepth 20000 in
theorem ggX8_first_X8_refused : GoodIn wsX8_first wsX8_refused := goodIn_r _ [22, 23, 59, 60, 61, 62, 63, 64, 65, 66, 67, 68, 69, 70] (by decide +kernel) (by decide +kernel)
set_option maxRecDepth 20000 in
theorem gX8_first_X8_refused : GoodIn wsX8_first (wsV RX8 88 RX8 yX8_refused wsX8_refused) := goodIn_app (goodIn_of _ (by decide +kernel)) ggX8_first_X8_refused
set_option maxRecDepth 20000 in
theorem ggX8_first_X2_comings : GoodIn wsX8_first wsX2_comings := goodIn_r _ [28, 29, 30, 31, 32, 33, 34, 35, 27, 36, 37, 38, 39, 40, 41, 42, 43, 44, 45, 46, 47, 48, 49, 71, 72, 73, 74, 75, 76, 77, 78, 79, 80, 81, 82, 83, 84, 85, 86, 87] (by decide +kernel) (by decide +kernel)
set_option maxRecDepth 20000 in
theorem gX8_first_X2_comings : GoodIn wsX8_first (wsV RX8 265 RX2 yX2_comings wsX2_comings) := goodIn_app (goodIn_of _ (by decide +kernel)) ggX8_first_X2_comings
set_option maxRecDepth 20000 in
theorem ggX8_first_X8_givenUnlessGreat : GoodIn wsX8_first wsX8_givenUnlessGreat := goodIn_r _ [53, 54, 19, 20, 21, 6, 22, 23, 55, 56, 57, 58, 59, 60, 61, 62, 63, 64, 65, 66, 67, 68, 69, 70] (by decide +kernel) (by decide +kernel)
set_option maxRecDepth 20000 in
theorem gX8_first_X8_givenUnlessGreat : GoodIn wsX8_first (wsV RX8 186 RX8 yX8_givenUnlessGreat wsX8_givenUnlessGreat) := goodIn_app (goodIn_of _ (by decide +kernel)) ggX8_first_X8_givenUnlessGreat
set_option maxRecDepth 20000 in
theorem ggX8_turnings_X8_comingFault : GoodIn wsX8_turnings wsX8_comingFault := goodIn_r _ [7, 2, 8, 9, 10, 6, 11, 12, 13, 14, 15, 16, 17, 18, 59, 60, 61, 62, 63, 64, 65, 66, 67, 68, 69, 70, 71, 72, 73, 74, 75, 76, 77, 78, 79, 80, 81, 82, 83, 84, 85] (by decide +kernel) (by decide +kernel)
set_option maxRecDepth 20000 in
theorem gX8_turnings_X8_comingFault : GoodIn wsX8_turnings (wsV RX8 262 RX8 yX8_comingFault wsX8_comingFault) := goodIn_app (goodIn_of _ (by decide +kernel)) ggX8_turnings_X8_comingFault
set_option maxRecDepth 20000 in
theorem ggX8_turnings_X8_refused : GoodIn wsX8_turnings wsX8_refused := goodIn_r _ [22, 23, 59, 60, 61, 62, 63, 64, 65, 66, 67, 68, 69, 70] (by decide +kernel) (by decide +kernel)
set_option maxRecDepth 20000 in
theorem gX8_turnings_X8_refused : GoodIn wsX8_turnings (wsV RX8 88 RX8 yX8_refused wsX8_refused) := goodIn_app (goodIn_of _ (by decide +kernel)) ggX8_turnings_X8_refused
set_option maxRecDepth 20000 in
theorem ggX8_turnings_X2_comings : GoodIn wsX8_turnings wsX2_comings := goodIn_r _ [28, 29, 30, 31, 32, 33, 34, 35, 27, 36, 37, 38, 39, 40, 41, 42, 43, 44, 45, 46, 47, 48, 49, 71, 72, 73, 74, 75, 76, 77, 78, 79, 80, 81, 82, 83, 84, 85, 86, 87] (by decide +kernel) (by decide +kernel)
set_option maxRecDepth 20000 in
theorem gX8_turnings_X2_comings : GoodIn wsX8_turnings (wsV RX8 265 RX2 yX2_comings wsX2_comings) := goodIn_app (goodIn_of _ (by decide +kernel)) ggX8_turnings_X2_comings
set_option maxRecDepth 20000 in
theorem ggX8_turnings_X8_givenUnlessGreat : GoodIn wsX8_turnings wsX8_givenUnlessGreat := goodIn_r _ [53, 54, 19, 20, 21, 6, 22, 23, 55, 56, 57, 58, 59, 60, 61, 62, 63, 64, 65, 66, 67, 68, 69, 70] (by decide +kernel) (by decide +kernel)
set_option maxRecDepth 20000 in
theorem gX8_turnings_X8_givenUnlessGreat : GoodIn wsX8_turnings (wsV RX8 186 RX8 yX8_givenUnlessGreat wsX8_givenUnlessGreat) := goodIn_app (goodIn_of _ (by decide +kernel)) ggX8_turnings_X8_givenUnlessGreat
set_option maxRecDepth 20000 in
theorem ggX8_family_X8_within : GoodIn wsX8_family wsX8_within := goodIn_r _ [5] (by decide +kernel) (by decide +kernel)
set_option maxRecDepth 20000 in
theorem gX8_family_X8_within : GoodIn wsX8_family (va_wsS RX8 66 yX8_within wsX8_within) := goodIn_app (goodIn_of _ (by decide +kernel)) ggX8_family_X8_within
set_option maxRecDepth 20000 in
theorem ggX8_family_X8_denied : GoodIn wsX8_family wsX8_denied := goodIn_r _ [9, 10, 23, 24, 25, 26, 27, 28, 29, 30, 31, 32, 33, 34] (by decide +kernel) (by decide +kernel)
set_option maxRecDepth 20000 in
theorem gX8_family_X8_denied : GoodIn wsX8_family (wsV RX8 70 RX8 yX8_denied wsX8_denied) := goodIn_app (goodIn_of _ (by decide +kernel)) ggX8_family_X8_denied
set_option maxRecDepth 20000 in
theorem ggX8_family_X1_begin : GoodIn wsX8_family wsX1_begin := goodIn_r _ [15, 16, 17, 18, 35, 36, 37, 38, 39] (by decide +kernel) (by decide +kernel)
set_option maxRecDepth 20000 in
theorem gX8_family_X1_begin : GoodIn wsX8_family (wsV RX8 269 RX1 yX1_begin wsX1_begin) := goodIn_app (goodIn_of _ (by decide +kernel)) ggX8_family_X1_begin
set_option maxRecDepth 20000 in
theorem ggX8_family_X8_granted : GoodIn wsX8_family wsX8_granted := goodIn_r _ [22, 10, 23, 24, 25, 26, 27, 28, 29, 30, 31, 32, 33, 34] (by decide +kernel) (by decide +kernel)
set_option maxRecDepth 20000 in
theorem gX8_family_X8_granted : GoodIn wsX8_family (wsV RX8 77 RX8 yX8_granted wsX8_granted) := goodIn_app (goodIn_of _ (by decide +kernel)) ggX8_family_X8_granted
set_option maxRecDepth 20000 in
theorem ggX8_place_X4_isSquare : GoodIn wsX8_place wsX4_isSquare := goodIn_r _ [5] (by decide +kernel) (by decide +kernel)
set_option maxRecDepth 20000 in
theorem gX8_place_X4_isSquare : GoodIn wsX8_place (va_wsS RX8 144 yX4_isSquare wsX4_isSquare) := goodIn_app (goodIn_of _ (by decide +kernel)) ggX8_place_X4_isSquare
set_option maxRecDepth 20000 in
theorem ggX8_place_X8_denied : GoodIn wsX8_place wsX8_denied := goodIn_r _ [10, 11, 29, 30, 31, 32, 33, 34, 35, 36, 37, 38, 39, 40] (by decide +kernel) (by decide +kernel)
set_option maxRecDepth 20000 in
theorem gX8_place_X8_denied : GoodIn wsX8_place (wsV RX8 70 RX8 yX8_denied wsX8_denied) := goodIn_app (goodIn_of _ (by decide +kernel)) ggX8_place_X8_denied
set_option maxRecDepth 20000 in
theorem ggX8_place_X1_has : GoodIn wsX8_place wsX1_has := goodIn_r _ [16, 17, 41, 42, 43, 44, 45] (by decide +kernel) (by decide +kernel)
set_option maxRecDepth 20000 in
theorem gX8_place_X1_has : GoodIn wsX8_place (wsV RX8 272 RX1 yX1_has wsX1_has) := goodIn_app (goodIn_of _ (by decide +kernel)) ggX8_place_X1_has
set_option maxRecDepth 20000 in
theorem ggX8_place_X1_setPlace : GoodIn wsX8_place wsX1_setPlace := goodIn_r _ [21, 22, 23, 24, 13, 14, 15, 16, 17, 41, 42, 43, 44, 45] (by decide +kernel) (by decide +kernel)
set_option maxRecDepth 20000 in
theorem gX8_place_X1_setPlace : GoodIn wsX8_place (wsV RX8 275 RX1 yX1_setPlace wsX1_setPlace) := goodIn_app (goodIn_of _ (by decide +kernel)) ggX8_place_X1_setPlace
set_option maxRecDepth 20000 in
theorem ggX8_place_X8_granted : GoodIn wsX8_place wsX8_granted := goodIn_r _ [28, 11, 29, 30, 31, 32, 33, 34, 35, 36, 37, 38, 39, 40] (by decide +kernel) (by decide +kernel)
set_option maxRecDepth 20000 in
theorem gX8_place_X8_granted : GoodIn wsX8_place (wsV RX8 77 RX8 yX8_granted wsX8_granted) := goodIn_app (goodIn_of _ (by decide +kernel)) ggX8_place_X8_granted
set_option maxRecDepth 20000 in
theorem ggX8_table_X1_has : GoodIn wsX8_table wsX1_has := goodIn_r _ [7, 8, 59, 60, 61, 62, 63] (by decide +kernel) (by decide +kernel)
set_option maxRecDepth 20000 in
theorem gX8_table_X1_has : GoodIn wsX8_table (wsV RX8 272 RX1 yX1_has wsX1_has) := goodIn_app (goodIn_of _ (by decide +kernel)) ggX8_table_X1_has
set_option maxRecDepth 20000 in
theorem ggX8_table_X8_refused : GoodIn wsX8_table wsX8_refused := goodIn_r _ [13, 14, 47, 48, 49, 50, 51, 52, 53, 54, 55, 56, 57, 58] (by decide +kernel) (by decide +kernel)
set_option maxRecDepth 20000 in
theorem gX8_table_X8_refused : GoodIn wsX8_table (wsV RX8 88 RX8 yX8_refused wsX8_refused) := goodIn_app (goodIn_of _ (by decide +kernel)) ggX8_table_X8_refused
set_option maxRecDepth 20000 in
theorem ggX8_table_X1_barredAt : GoodIn wsX8_table wsX1_barredAt := goodIn_r _ [18, 19, 20, 21, 4, 5, 6, 7, 8, 22, 23, 24, 25, 26, 27, 28, 29, 30, 31, 32, 33, 59, 60, 61, 62, 63, 64, 65, 66, 67, 68, 69, 70, 71, 72, 73, 74, 75, 76, 77, 78] (by decide +kernel) (by decide +kernel)
set_option maxRecDepth 20000 in
theorem gX8_table_X1_barredAt : GoodIn wsX8_table (wsV RX8 279 RX1 yX1_barredAt wsX1_barredAt) := goodIn_app (goodIn_of _ (by decide +kernel)) ggX8_table_X1_barredAt
set_option maxRecDepth 20000 in
theorem ggX8_table_X1_entry : GoodIn wsX8_table wsX1_entry := goodIn_r _ [37, 19, 38, 20, 39, 40, 41, 42, 21, 4, 5, 6, 7, 8, 22, 23, 24, 25, 26, 27, 28, 29, 30, 31, 32, 33, 59, 60, 61, 62, 63, 64, 65, 66, 67, 68, 69, 70, 71, 72, 73, 74, 75, 76, 77, 78] (by decide +kernel) (by decide +kernel)
set_option maxRecDepth 20000 in
theorem gX8_table_X1_entry : GoodIn wsX8_table (wsV RX8 283 RX1 yX1_entry wsX1_entry) := goodIn_app (goodIn_of _ (by decide +kernel)) ggX8_table_X1_entry
set_option maxRecDepth 20000 in
theorem ggX8_table_X8_given : GoodIn wsX8_table wsX8_given := goodIn_r _ [46, 14, 47, 48, 49, 50, 51, 52, 53, 54, 55, 56, 57, 58] (by decide +kernel) (by decide +kernel)
set_option maxRecDepth 20000 in
theorem gX8_table_X8_given : GoodIn wsX8_table (wsV RX8 95 RX8 yX8_given wsX8_given) := goodIn_app (goodIn_of _ (by decide +kernel)) ggX8_table_X8_given
set_option maxRecDepth 20000 in
theorem ggX8_worth_X1_has : GoodIn wsX8_worth wsX1_has := goodIn_r _ [7, 8, 76, 77, 78, 79, 80] (by decide +kernel) (by decide +kernel)
set_option maxRecDepth 20000 in
theorem gX8_worth_X1_has : GoodIn wsX8_worth (wsV RX8 272 RX1 yX1_has wsX1_has) := goodIn_app (goodIn_of _ (by decide +kernel)) ggX8_worth_X1_has
set_option maxRecDepth 20000 in
theorem ggX8_worth_X8_refused : GoodIn wsX8_worth wsX8_refused := goodIn_r _ [13, 14, 64, 65, 66, 67, 68, 69, 70, 71, 72, 73, 74, 75] (by decide +kernel) (by decide +kernel)
set_option maxRecDepth 20000 in
theorem gX8_worth_X8_refused : GoodIn wsX8_worth (wsV RX8 88 RX8 yX8_refused wsX8_refused) := goodIn_app (goodIn_of _ (by decide +kernel)) ggX8_worth_X8_refused
set_option maxRecDepth 20000 in
theorem ggX8_worth_X1_anyBarred : GoodIn wsX8_worth wsX1_anyBarred := goodIn_r _ [18, 8, 19, 20, 21, 6, 22, 23, 24, 25, 4, 5, 7, 26, 27, 28, 29, 30, 31, 32, 33, 34, 35, 36, 37, 76, 77, 78, 79, 80, 81, 82, 83, 84, 85, 86, 87, 88, 89, 90, 91, 92, 93, 94, 95] (by decide +kernel) (by decide +kernel)
set_option maxRecDepth 20000 in
theorem gX8_worth_X1_anyBarred : GoodIn wsX8_worth (wsV RX8 287 RX1 yX1_anyBarred wsX1_anyBarred) := goodIn_app (goodIn_of _ (by decide +kernel)) ggX8_worth_X1_anyBarred
set_option maxRecDepth 20000 in
theorem ggX8_worth_X1_fillTable : GoodIn wsX8_worth wsX1_fillTable := goodIn_r _ [41, 42, 25, 4, 5, 6, 7, 8, 43, 44, 45, 46, 23, 47, 24, 48, 49, 50, 51, 26, 27, 28, 29, 30, 31, 32, 33, 34, 35, 36, 37, 76, 77, 78, 79, 80, 81, 82, 83, 84, 85, 86, 87, 88, 89, 90, 91, 92, 93, 94, 95] (by decide +kernel) (by decide +kernel)
set_option maxRecDepth 20000 in
theorem gX8_worth_X1_fillTable : GoodIn wsX8_worth (wsV RX8 291 RX1 yX1_fillTable wsX1_fillTable) := goodIn_app (goodIn_of _ (by decide +kernel)) ggX8_worth_X1_fillTable
set_option maxRecDepth 20000 in
theorem ggX8_worth_X1_determinant : GoodIn wsX8_worth wsX1_determinant := goodIn_r _ [55, 56, 57, 58, 6, 59, 42, 76, 77, 78, 79, 80] (by decide +kernel) (by decide +kernel)
set_option maxRecDepth 20000 in
theorem gX8_worth_X1_determinant : GoodIn wsX8_worth (wsV RX8 294 RX1 yX1_determinant wsX1_determinant) := goodIn_app (goodIn_of _ (by decide +kernel)) ggX8_worth_X1_determinant
set_option maxRecDepth 20000 in
theorem ggX8_worth_X8_givenLong : GoodIn wsX8_worth wsX8_givenLong := goodIn_r _ [63, 14, 64, 65, 66, 67, 68, 69, 70, 71, 72, 73, 74, 75] (by decide +kernel) (by decide +kernel)
set_option maxRecDepth 20000 in
theorem gX8_worth_X8_givenLong : GoodIn wsX8_worth (wsV RX8 204 RX8 yX8_givenLong wsX8_givenLong) := goodIn_app (goodIn_of _ (by decide +kernel)) ggX8_worth_X8_givenLong
set_option maxRecDepth 20000 in
theorem ggX8_boxes_X8_within : GoodIn wsX8_boxes wsX8_within := goodIn_r _ [4] (by decide +kernel) (by decide +kernel)
set_option maxRecDepth 20000 in
theorem gX8_boxes_X8_within : GoodIn wsX8_boxes (va_wsS RX8 66 yX8_within wsX8_within) := goodIn_app (goodIn_of _ (by decide +kernel)) ggX8_boxes_X8_within
set_option maxRecDepth 20000 in
theorem ggX8_boxes_X8_refused : GoodIn wsX8_boxes wsX8_refused := goodIn_r _ [8, 9, 22, 23, 24, 25, 26, 27, 28, 29, 30, 31, 32, 33] (by decide +kernel) (by decide +kernel)
set_option maxRecDepth 20000 in
theorem gX8_boxes_X8_refused : GoodIn wsX8_boxes (wsV RX8 88 RX8 yX8_refused wsX8_refused) := goodIn_app (goodIn_of _ (by decide +kernel)) ggX8_boxes_X8_refused
set_option maxRecDepth 20000 in
theorem ggX8_boxes_X8_heaped : GoodIn wsX8_boxes wsX8_heaped := goodIn_r _ [13, 14, 15, 16, 3, 17, 22, 23, 24, 25, 26, 27, 28, 29, 30, 31, 32, 33] (by decide +kernel) (by decide +kernel)
set_option maxRecDepth 20000 in
theorem gX8_boxes_X8_heaped : GoodIn wsX8_boxes (wsV RX8 298 RX8 yX8_heaped wsX8_heaped) := goodIn_app (goodIn_of _ (by decide +kernel)) ggX8_boxes_X8_heaped
set_option maxRecDepth 20000 in
theorem ggX8_boxes_X8_givenLong : GoodIn wsX8_boxes wsX8_givenLong := goodIn_r _ [21, 9, 22, 23, 24, 25, 26, 27, 28, 29, 30, 31, 32, 33] (by decide +kernel) (by decide +kernel)
set_option maxRecDepth 20000 in
theorem gX8_boxes_X8_givenLong : GoodIn wsX8_boxes (wsV RX8 204 RX8 yX8_givenLong wsX8_givenLong) := goodIn_app (goodIn_of _ (by decide +kernel)) ggX8_boxes_X8_givenLong
set_option maxRecDepth 20000 in
theorem ggX8_brackets_X8_within : GoodIn wsX8_brackets wsX8_within := goodIn_r _ [7] (by decide +kernel) (by decide +kernel)
set_option maxRecDepth 20000 in
theorem gX8_brackets_X8_within : GoodIn wsX8_brackets (va_wsS RX8 66 yX8_within wsX8_within) := goodIn_app (goodIn_of _ (by decide +kernel)) ggX8_brackets_X8_within
set_option maxRecDepth 20000 in
theorem ggX8_brackets_X8_refused : GoodIn wsX8_brackets wsX8_refused := goodIn_r _ [11, 12, 33, 34, 35, 36, 37, 38, 39, 40, 41, 42, 43, 44] (by decide +kernel) (by decide +kernel)
set_option maxRecDepth 20000 in
theorem gX8_brackets_X8_refused : GoodIn wsX8_brackets (wsV RX8 88 RX8 yX8_refused wsX8_refused) := goodIn_app (goodIn_of _ (by decide +kernel)) ggX8_brackets_X8_refused
set_option maxRecDepth 20000 in
theorem ggX8_brackets_X0_endings : GoodIn wsX8_brackets wsX0_endings := goodIn_r _ [17, 18, 19, 20, 21, 16, 22, 23, 45, 46] (by decide +kernel) (by decide +kernel)
set_option maxRecDepth 20000 in
theorem gX8_brackets_X0_endings : GoodIn wsX8_brackets (wsV RX8 301 RX0 yX0_endings wsX0_endings) := goodIn_app (goodIn_of _ (by decide +kernel)) ggX8_brackets_X0_endings
set_option maxRecDepth 20000 in
theorem ggX8_brackets_X0_spell : GoodIn wsX8_brackets wsX0_spell := goodIn_r _ [27, 28, 14, 15, 16, 17, 18, 19, 20, 21, 22, 23, 45, 46] (by decide +kernel) (by decide +kernel)
set_option maxRecDepth 20000 in
theorem gX8_brackets_X0_spell : GoodIn wsX8_brackets (wsV RX8 304 RX0 yX0_spell wsX0_spell) := goodIn_app (goodIn_of _ (by decide +kernel)) ggX8_brackets_X0_spell
set_option maxRecDepth 20000 in
theorem ggX8_brackets_X8_given : GoodIn wsX8_brackets wsX8_given := goodIn_r _ [32, 12, 33, 34, 35, 36, 37, 38, 39, 40, 41, 42, 43, 44] (by decide +kernel) (by decide +kernel)
set_option maxRecDepth 20000 in
theorem gX8_brackets_X8_given : GoodIn wsX8_brackets (wsV RX8 95 RX8 yX8_given wsX8_given) := goodIn_app (goodIn_of _ (by decide +kernel)) ggX8_brackets_X8_given
set_option maxRecDepth 20000 in
theorem ggX8_order_X5_known : GoodIn wsX8_order wsX5_known := goodIn_r _ [6] (by decide +kernel) (by decide +kernel)
set_option maxRecDepth 20000 in
theorem gX8_order_X5_known : GoodIn wsX8_order (va_wsS RX8 62 yX5_known wsX5_known) := goodIn_app (goodIn_of _ (by decide +kernel)) ggX8_order_X5_known
set_option maxRecDepth 20000 in
theorem ggX8_order_X8_refused : GoodIn wsX8_order wsX8_refused := goodIn_r _ [11, 12, 56, 57, 58, 59, 60, 61, 62, 63, 64, 65, 66, 67] (by decide +kernel) (by decide +kernel)
set_option maxRecDepth 20000 in
theorem gX8_order_X8_refused : GoodIn wsX8_order (wsV RX8 88 RX8 yX8_refused wsX8_refused) := goodIn_app (goodIn_of _ (by decide +kernel)) ggX8_order_X8_refused
set_option maxRecDepth 20000 in
theorem ggX8_order_X8_rowFault : GoodIn wsX8_order wsX8_rowFault := goodIn_r _ [16, 2, 3, 4, 5, 6, 17, 18, 10, 19, 20, 21, 22, 23, 24, 25, 26, 27, 28, 29, 56, 57, 58, 59, 60, 61, 62, 63, 64, 65, 66, 67, 68, 69, 70] (by decide +kernel) (by decide +kernel)
set_option maxRecDepth 20000 in
theorem gX8_order_X8_rowFault : GoodIn wsX8_order (wsV RX8 227 RX8 yX8_rowFault wsX8_rowFault) := goodIn_app (goodIn_of _ (by decide +kernel)) ggX8_order_X8_rowFault
set_option maxRecDepth 20000 in
theorem ggX8_order_X0_numberOf : GoodIn wsX8_order wsX0_numberOf := goodIn_r _ [34, 35, 36, 37, 38, 5, 39, 40, 41, 27, 28, 29, 24, 25, 4, 6, 42, 43, 44, 33, 45, 46, 47, 48, 49, 50, 51, 68, 69, 70, 71, 72] (by decide +kernel) (by decide +kernel)
set_option maxRecDepth 20000 in
theorem gX8_order_X0_numberOf : GoodIn wsX8_order (wsV RX8 311 RX0 yX0_numberOf wsX0_numberOf) := goodIn_app (goodIn_of _ (by decide +kernel)) ggX8_order_X0_numberOf
set_option maxRecDepth 20000 in
theorem ggX8_order_X8_givenLong : GoodIn wsX8_order wsX8_givenLong := goodIn_r _ [55, 12, 56, 57, 58, 59, 60, 61, 62, 63, 64, 65, 66, 67] (by decide +kernel) (by decide +kernel)
set_option maxRecDepth 20000 in
theorem gX8_order_X8_givenLong : GoodIn wsX8_order (wsV RX8 204 RX8 yX8_givenLong wsX8_givenLong) := goodIn_app (goodIn_of _ (by decide +kernel)) ggX8_order_X8_givenLong
set_option maxRecDepth 20000 in
theorem ggX8_far_X8_refused : GoodIn wsX8_far wsX8_refused := goodIn_r _ [7, 8, 87, 88, 89, 90, 91, 92, 93, 94, 95, 96, 97, 98] (by decide +kernel) (by decide +kernel)
set_option maxRecDepth 20000 in
theorem gX8_far_X8_refused : GoodIn wsX8_far (wsV RX8 88 RX8 yX8_refused wsX8_refused) := goodIn_app (goodIn_of _ (by decide +kernel)) ggX8_far_X8_refused
set_option maxRecDepth 20000 in
theorem ggX8_far_X4_endsBetweenLines : GoodIn wsX8_far wsX4_endsBetweenLines := goodIn_r _ [13, 14, 15, 16, 99, 100, 101, 102, 103, 104, 105, 106, 107, 108, 109, 110, 111, 112, 113] (by decide +kernel) (by decide +kernel)
set_option maxRecDepth 20000 in
theorem gX8_far_X4_endsBetweenLines : GoodIn wsX8_far (wsV RX8 315 RX4 yX4_endsBetweenLines wsX4_endsBetweenLines) := goodIn_app (goodIn_of _ (by decide +kernel)) ggX8_far_X4_endsBetweenLines
set_option maxRecDepth 20000 in
theorem ggX8_far_X3_after : GoodIn wsX8_far wsX3_after := goodIn_r _ [21, 22, 23, 24, 25, 26, 20, 27, 28, 29, 30, 31, 32, 33, 34, 35, 36, 37, 38, 39, 40, 41, 42, 43, 44, 45, 46, 47, 48, 49, 50, 51, 52, 53, 54, 55, 56, 57, 58, 59, 60, 61, 62, 63, 64, 65, 66, 67, 68, 69, 70, 71, 72, 73, 74, 75, 76, 77, 78, 79, 80, 81, 82, 114, 115, 116, 117, 118, 119, 120, 121, 122, 123, 124, 125, 99, 100, 101, 102, 103, 104, 105, 106, 107, 108, 109, 110, 111, 112, 113] (by decide +kernel) (by decide +kernel)
set_option maxRecDepth 20000 in
theorem gX8_far_X3_after : GoodIn wsX8_far (wsV RX8 318 RX3 yX3_after wsX3_after) := goodIn_app (goodIn_of _ (by decide +kernel)) ggX8_far_X3_after
set_option maxRecDepth 20000 in
theorem ggX8_far_X8_given : GoodIn wsX8_far wsX8_given := goodIn_r _ [86, 8, 87, 88, 89, 90, 91, 92, 93, 94, 95, 96, 97, 98] (by decide +kernel) (by decide +kernel)
set_option maxRecDepth 20000 in
theorem gX8_far_X8_given : GoodIn wsX8_far (wsV RX8 95 RX8 yX8_given wsX8_given) := goodIn_app (goodIn_of _ (by decide +kernel)) ggX8_far_X8_given
set_option maxRecDepth 20000 in
theorem ggX8_rule_X4_endsBetweenLines : GoodIn wsX8_rule wsX4_endsBetweenLines := goodIn_r _ [7, 8, 9, 10, 82, 83, 84, 85, 86, 87, 88, 89, 90, 91, 92, 93, 94, 95, 96] (by decide +kernel) (by decide +kernel)
set_option maxRecDepth 20000 in
theorem gX8_rule_X4_endsBetweenLines : GoodIn wsX8_rule (wsV RX8 315 RX4 yX4_endsBetweenLines wsX4_endsBetweenLines) := goodIn_app (goodIn_of _ (by decide +kernel)) ggX8_rule_X4_endsBetweenLines
set_option maxRecDepth 20000 in
theorem ggX8_rule_X8_refused : GoodIn wsX8_rule wsX8_refused := goodIn_r _ [15, 16, 70, 71, 72, 73, 74, 75, 76, 77, 78, 79, 80, 81] (by decide +kernel) (by decide +kernel)
set_option maxRecDepth 20000 in
theorem gX8_rule_X8_refused : GoodIn wsX8_rule (wsV RX8 88 RX8 yX8_refused wsX8_refused) := goodIn_app (goodIn_of _ (by decide +kernel)) ggX8_rule_X8_refused
set_option maxRecDepth 20000 in
theorem ggX8_rule_X3_keepRule : GoodIn wsX8_rule wsX3_keepRule := goodIn_r _ [21, 22, 23, 24, 25, 26, 27, 28, 20, 29, 30, 31, 32, 33, 34, 35, 36, 37, 38, 39, 40, 41, 42, 43, 44, 45, 46, 47, 48, 49, 50, 51, 52, 53, 54, 55, 56, 57, 58, 59, 60, 61, 62, 63, 64, 65, 97, 98, 99, 100, 101, 102, 103, 104, 105, 106, 107, 108, 82, 83, 84, 85, 86, 87, 88, 89, 90, 91, 92, 93, 94, 95, 96] (by decide +kernel) (by decide +kernel)
set_option maxRecDepth 20000 in
theorem gX8_rule_X3_keepRule : GoodIn wsX8_rule (wsV RX8 322 RX3 yX3_keepRule wsX3_keepRule) := goodIn_app (goodIn_of _ (by decide +kernel)) ggX8_rule_X3_keepRule
set_option maxRecDepth 20000 in
theorem ggX8_rule_X8_given : GoodIn wsX8_rule wsX8_given := goodIn_r _ [69, 16, 70, 71, 72, 73, 74, 75, 76, 77, 78, 79, 80, 81] (by decide +kernel) (by decide +kernel)
set_option maxRecDepth 20000 in
theorem gX8_rule_X8_given : GoodIn wsX8_rule (wsV RX8 95 RX8 yX8_given wsX8_given) := goodIn_app (goodIn_of _ (by decide +kernel)) ggX8_rule_X8_given
set_option maxRecDepth 20000 in
theorem ggX8_part_X3_keeps : GoodIn wsX8_part wsX3_keeps := goodIn_r _ [6, 7, 36, 37, 38, 39, 40, 41, 42, 43, 44, 45, 46, 47] (by decide +kernel) (by decide +kernel)
set_option maxRecDepth 20000 in
theorem gX8_part_X3_keeps : GoodIn wsX8_part (wsV RX8 326 RX3 yX3_keeps wsX3_keeps) := goodIn_app (goodIn_of _ (by decide +kernel)) ggX8_part_X3_keeps
set_option maxRecDepth 20000 in
theorem ggX8_part_X8_refused : GoodIn wsX8_part wsX8_refused := goodIn_r _ [12, 13, 24, 25, 26, 27, 28, 29, 30, 31, 32, 33, 34, 35] (by decide +kernel) (by decide +kernel)
set_option maxRecDepth 20000 in
theorem gX8_part_X8_refused : GoodIn wsX8_part (wsV RX8 88 RX8 yX8_refused wsX8_refused) := goodIn_app (goodIn_of _ (by decide +kernel)) ggX8_part_X8_refused
set_option maxRecDepth 20000 in
theorem ggX8_part_X3_kept : GoodIn wsX8_part wsX3_kept := goodIn_r _ [17, 18, 19, 3, 4, 5, 6, 7, 36, 37, 38, 39, 40, 41, 42, 43, 44, 45, 46, 47] (by decide +kernel) (by decide +kernel)
set_option maxRecDepth 20000 in
theorem gX8_part_X3_kept : GoodIn wsX8_part (wsV RX8 329 RX3 yX3_kept wsX3_kept) := goodIn_app (goodIn_of _ (by decide +kernel)) ggX8_part_X3_kept
set_option maxRecDepth 20000 in
theorem ggX8_part_X8_given : GoodIn wsX8_part wsX8_given := goodIn_r _ [23, 13, 24, 25, 26, 27, 28, 29, 30, 31, 32, 33, 34, 35] (by decide +kernel) (by decide +kernel)
set_option maxRecDepth 20000 in
theorem gX8_part_X8_given : GoodIn wsX8_part (wsV RX8 95 RX8 yX8_given wsX8_given) := goodIn_app (goodIn_of _ (by decide +kernel)) ggX8_part_X8_given
set_option maxRecDepth 20000 in
theorem ggX8_givenUnlessGreat_X8_refused : GoodIn wsX8_givenUnlessGreat wsX8_refused := goodIn_r _ [6, 7, 12, 13, 14, 15, 16, 17, 18, 19, 20, 21, 22, 23] (by decide +kernel) (by decide +kernel)
set_option maxRecDepth 20000 in
theorem gX8_givenUnlessGreat_X8_refused : GoodIn wsX8_givenUnlessGreat (wsV RX8 88 RX8 yX8_refused wsX8_refused) := goodIn_app (goodIn_of _ (by decide +kernel)) ggX8_givenUnlessGreat_X8_refused
set_option maxRecDepth 20000 in
theorem ggX8_givenUnlessGreat_X8_givenLong : GoodIn wsX8_givenUnlessGreat wsX8_givenLong := goodIn_r _ [11, 7, 12, 13, 14, 15, 16, 17, 18, 19, 20, 21, 22, 23] (by decide +kernel) (by decide +kernel)
set_option maxRecDepth 20000 in
theorem gX8_givenUnlessGreat_X8_givenLong : GoodIn wsX8_givenUnlessGreat (wsV RX8 204 RX8 yX8_givenLong wsX8_givenLong) := goodIn_app (goodIn_of _ (by decide +kernel)) ggX8_givenUnlessGreat_X8_givenLong
set_option maxRecDepth 20000 in
theorem ggX8_sheetFault_X5_known : GoodIn wsX8_sheetFault wsX5_known := goodIn_r _ [5] (by decide +kernel) (by decide +kernel)
set_option maxRecDepth 20000 in
theorem gX8_sheetFault_X5_known : GoodIn wsX8_sheetFault (va_wsS RX8 62 yX5_known wsX5_known) := goodIn_app (goodIn_of _ (by decide +kernel)) ggX8_sheetFault_X5_known
set_option maxRecDepth 20000 in
theorem ggX8_sheetFault_X5_missing : GoodIn wsX8_sheetFault wsX5_missing := goodIn_r _ [9, 10, 11, 3, 4, 5, 24, 25, 26] (by decide +kernel) (by decide +kernel)
set_option maxRecDepth 20000 in
theorem gX8_sheetFault_X5_missing : GoodIn wsX8_sheetFault (wsV RX8 98 RX5 yX5_missing wsX5_missing) := goodIn_app (goodIn_of _ (by decide +kernel)) ggX8_sheetFault_X5_missing
set_option maxRecDepth 20000 in
theorem ggX8_placeFault_X8_sheetFault : GoodIn wsX8_placeFault wsX8_sheetFault := goodIn_r _ [6, 1, 7, 8, 9, 10, 11, 12, 13, 14, 15, 16, 21, 22, 23, 24, 25, 26, 27, 28, 29, 30, 31, 32, 33, 34, 35] (by decide +kernel) (by decide +kernel)
set_option maxRecDepth 20000 in
theorem gX8_placeFault_X8_sheetFault : GoodIn wsX8_placeFault (wsV RX8 111 RX8 yX8_sheetFault wsX8_sheetFault) := goodIn_app (goodIn_of _ (by decide +kernel)) ggX8_placeFault_X8_sheetFault
set_option maxRecDepth 20000 in
theorem ggX8_placeFault_X5_holds : GoodIn wsX8_placeFault wsX5_holds := goodIn_r _ [20, 15, 16, 8, 9, 10, 33, 34, 35] (by decide +kernel) (by decide +kernel)
set_option maxRecDepth 20000 in
theorem gX8_placeFault_X5_holds : GoodIn wsX8_placeFault (wsV RX8 104 RX5 yX5_holds wsX5_holds) := goodIn_app (goodIn_of _ (by decide +kernel)) ggX8_placeFault_X5_holds
set_option maxRecDepth 20000 in
theorem ggX8_rowFault_X5_known : GoodIn wsX8_rowFault wsX5_known := goodIn_r _ [5] (by decide +kernel) (by decide +kernel)
set_option maxRecDepth 20000 in
theorem gX8_rowFault_X5_known : GoodIn wsX8_rowFault (va_wsS RX8 62 yX5_known wsX5_known) := goodIn_app (goodIn_of _ (by decide +kernel)) ggX8_rowFault_X5_known
set_option maxRecDepth 20000 in
theorem ggX8_rowFault_X8_within : GoodIn wsX8_rowFault wsX8_within := goodIn_r _ [9] (by decide +kernel) (by decide +kernel)
set_option maxRecDepth 20000 in
theorem gX8_rowFault_X8_within : GoodIn wsX8_rowFault (va_wsS RX8 66 yX8_within wsX8_within) := goodIn_app (goodIn_of _ (by decide +kernel)) ggX8_rowFault_X8_within
set_option maxRecDepth 20000 in
theorem ggX8_rowFault_X5_missing : GoodIn wsX8_rowFault wsX5_missing := goodIn_r _ [13, 14, 15, 3, 4, 5, 32, 33, 34] (by decide +kernel) (by decide +kernel)
set_option maxRecDepth 20000 in
theorem gX8_rowFault_X5_missing : GoodIn wsX8_rowFault (wsV RX8 98 RX5 yX5_missing wsX5_missing) := goodIn_app (goodIn_of _ (by decide +kernel)) ggX8_rowFault_X5_missing
set_option maxRecDepth 20000 in
theorem ggX8_rowFault_X5_holds : GoodIn wsX8_rowFault wsX5_holds := goodIn_r _ [19, 14, 15, 3, 4, 5, 32, 33, 34] (by decide +kernel) (by decide +kernel)
set_option maxRecDepth 20000 in
theorem gX8_rowFault_X5_holds : GoodIn wsX8_rowFault (wsV RX8 104 RX5 yX5_holds wsX5_holds) := goodIn_app (goodIn_of _ (by decide +kernel)) ggX8_rowFault_X5_holds
set_option maxRecDepth 20000 in
theorem ggX8_walkFault_X8_within : GoodIn wsX8_walkFault wsX8_within := goodIn_r _ [5] (by decide +kernel) (by decide +kernel)
set_option maxRecDepth 20000 in
theorem gX8_walkFault_X8_within : GoodIn wsX8_walkFault (va_wsS RX8 66 yX8_within wsX8_within) := goodIn_app (goodIn_of _ (by decide +kernel)) ggX8_walkFault_X8_within
set_option maxRecDepth 20000 in
theorem ggX8_walkFault_X4_endsOpen : GoodIn wsX8_walkFault wsX4_endsOpen := goodIn_r _ [10, 11, 12, 13, 14, 15, 16, 17, 9, 18, 19, 20, 21, 22, 23, 24, 25, 38, 39, 40, 41, 42, 43, 44, 45, 46, 47, 48, 49, 50, 51, 52] (by decide +kernel) (by decide +kernel)
set_option maxRecDepth 20000 in
theorem gX8_walkFault_X4_endsOpen : GoodIn wsX8_walkFault (wsV RX8 198 RX4 yX4_endsOpen wsX4_endsOpen) := goodIn_app (goodIn_of _ (by decide +kernel)) ggX8_walkFault_X4_endsOpen
set_option maxRecDepth 20000 in
theorem ggX8_weighFault_X8_within : GoodIn wsX8_weighFault wsX8_within := goodIn_r _ [6] (by decide +kernel) (by decide +kernel)
set_option maxRecDepth 20000 in
theorem gX8_weighFault_X8_within : GoodIn wsX8_weighFault (va_wsS RX8 66 yX8_within wsX8_within) := goodIn_app (goodIn_of _ (by decide +kernel)) ggX8_weighFault_X8_within
set_option maxRecDepth 20000 in
theorem ggX8_weighFault_X4_endsOpen : GoodIn wsX8_weighFault wsX4_endsOpen := goodIn_r _ [11, 12, 13, 14, 15, 16, 17, 18, 10, 19, 20, 21, 22, 23, 24, 25, 26, 39, 40, 41, 42, 43, 44, 45, 46, 47, 48, 49, 50, 51, 52, 53] (by decide +kernel) (by decide +kernel)
set_option maxRecDepth 20000 in
theorem gX8_weighFault_X4_endsOpen : GoodIn wsX8_weighFault (wsV RX8 198 RX4 yX4_endsOpen wsX4_endsOpen) := goodIn_app (goodIn_of _ (by decide +kernel)) ggX8_weighFault_X4_endsOpen
set_option maxRecDepth 20000 in
theorem ggX8_comingFault_X8_within : GoodIn wsX8_comingFault wsX8_within := goodIn_r _ [6] (by decide +kernel) (by decide +kernel)
set_option maxRecDepth 20000 in
theorem gX8_comingFault_X8_within : GoodIn wsX8_comingFault (va_wsS RX8 66 yX8_within wsX8_within) := goodIn_app (goodIn_of _ (by decide +kernel)) ggX8_comingFault_X8_within
set_option maxRecDepth 20000 in
theorem ggX8_comingFault_X4_stepsFallDeep : GoodIn wsX8_comingFault wsX4_stepsFallDeep := goodIn_r _ [11, 12, 13, 26, 27, 28, 29, 30, 31, 32, 33, 34, 35, 36, 37, 38, 39, 40] (by decide +kernel) (by decide +kernel)
set_option maxRecDepth 20000 in
theorem gX8_comingFault_X4_stepsFallDeep : GoodIn wsX8_comingFault (wsV RX8 335 RX4 yX4_stepsFallDeep wsX4_stepsFallDeep) := goodIn_app (goodIn_of _ (by decide +kernel)) ggX8_comingFault_X4_stepsFallDeep
set_option maxRecDepth 20000 in
theorem ggX8_areSteps_X5_at : GoodIn wsX8_areSteps wsX5_at := goodIn_r _ [6, 7, 8, 9, 10, 5, 11, 12, 13, 14, 15, 32, 33, 34] (by decide +kernel) (by decide +kernel)
set_option maxRecDepth 20000 in
theorem gX8_areSteps_X5_at : GoodIn wsX8_areSteps (wsV RX8 92 RX5 yX5_at wsX5_at) := goodIn_app (goodIn_of _ (by decide +kernel)) ggX8_areSteps_X5_at
set_option maxRecDepth 20000 in
theorem ggX8_areSteps_X8_within : GoodIn wsX8_areSteps wsX8_within := goodIn_r _ [19] (by decide +kernel) (by decide +kernel)
set_option maxRecDepth 20000 in
theorem gX8_areSteps_X8_within : GoodIn wsX8_areSteps (va_wsS RX8 66 yX8_within wsX8_within) := goodIn_app (goodIn_of _ (by decide +kernel)) ggX8_areSteps_X8_within
