set_option maxRecDepth 20000 in
theorem ggX0_endings_X0_fill : GoodIn wsX0_endings wsX0_fill := goodIn_r _ [6, 7, 1, 8, 9] (by decide +kernel) (by decide +kernel)
set_option maxRecDepth 20000 in
theorem gX0_endings_X0_fill : GoodIn wsX0_endings (wsV RX0 15 RX0 yX0_fill wsX0_fill) := goodIn_app (goodIn_of _ (by decide +kernel)) ggX0_endings_X0_fill
set_option maxRecDepth 20000 in
theorem ggX0_spell_X0_endings : GoodIn wsX0_spell wsX0_endings := goodIn_r _ [5, 6, 7, 8, 9, 4, 10, 11, 12, 13] (by decide +kernel) (by decide +kernel)
set_option maxRecDepth 20000 in
theorem gX0_spell_X0_endings : GoodIn wsX0_spell (wsV RX0 22 RX0 yX0_endings wsX0_endings) := goodIn_app (goodIn_of _ (by decide +kernel)) ggX0_spell_X0_endings
set_option maxRecDepth 20000 in
theorem ggX0_numberOf_X5_at : GoodIn wsX0_numberOf wsX5_at := goodIn_r _ [6, 7, 8, 9, 10, 5, 11, 12, 13, 14, 15, 27, 28, 29] (by decide +kernel) (by decide +kernel)
set_option maxRecDepth 20000 in
theorem gX0_numberOf_X5_at : GoodIn wsX0_numberOf (wsV RX0 26 RX5 yX5_at wsX5_at) := goodIn_app (goodIn_of _ (by decide +kernel)) ggX0_numberOf_X5_at
set_option maxRecDepth 20000 in
theorem ggX0_numberOf_X0_endings : GoodIn wsX0_numberOf wsX0_endings := goodIn_r _ [20, 21, 22, 23, 24, 19, 25, 26, 30, 31] (by decide +kernel) (by decide +kernel)
set_option maxRecDepth 20000 in
theorem gX0_numberOf_X0_endings : GoodIn wsX0_numberOf (wsV RX0 22 RX0 yX0_endings wsX0_endings) := goodIn_app (goodIn_of _ (by decide +kernel)) ggX0_numberOf_X0_endings
set_option maxRecDepth 20000 in
theorem ggX1_setPlace_X1_has : GoodIn wsX1_setPlace wsX1_has := goodIn_r _ [7, 8, 9, 10, 11, 12, 13] (by decide +kernel) (by decide +kernel)
set_option maxRecDepth 20000 in
theorem gX1_setPlace_X1_has : GoodIn wsX1_setPlace (wsV RX1 29 RX1 yX1_has wsX1_has) := goodIn_app (goodIn_of _ (by decide +kernel)) ggX1_setPlace_X1_has
set_option maxRecDepth 20000 in
theorem ggX1_barredAt_X1_has : GoodIn wsX1_barredAt wsX1_has := goodIn_r _ [7, 8, 21, 22, 23, 24, 25] (by decide +kernel) (by decide +kernel)
set_option maxRecDepth 20000 in
theorem gX1_barredAt_X1_has : GoodIn wsX1_barredAt (wsV RX1 29 RX1 yX1_has wsX1_has) := goodIn_app (goodIn_of _ (by decide +kernel)) ggX1_barredAt_X1_has
set_option maxRecDepth 20000 in
theorem ggX1_barredAt_X4_isBarred : GoodIn wsX1_barredAt wsX4_isBarred := goodIn_r _ [13, 14, 15, 16, 12, 17, 18, 19, 20, 26, 27, 28, 29, 30, 31, 32, 33, 34, 35, 36, 37, 38, 39, 40] (by decide +kernel) (by decide +kernel)
set_option maxRecDepth 20000 in
theorem gX1_barredAt_X4_isBarred : GoodIn wsX1_barredAt (wsV RX1 33 RX4 yX4_isBarred wsX4_isBarred) := goodIn_app (goodIn_of _ (by decide +kernel)) ggX1_barredAt_X4_isBarred
set_option maxRecDepth 20000 in
theorem ggX1_anyBarred_X1_barredAt : GoodIn wsX1_anyBarred wsX1_barredAt := goodIn_r _ [6, 7, 8, 9, 10, 11, 5, 12, 1, 13, 14, 15, 16, 17, 18, 19, 20, 21, 22, 23, 24, 25, 26, 27, 28, 29, 30, 31, 32, 33, 34, 35, 36, 37, 38, 39, 40, 41, 42, 43, 44] (by decide +kernel) (by decide +kernel)
set_option maxRecDepth 20000 in
theorem gX1_anyBarred_X1_barredAt : GoodIn wsX1_anyBarred (wsV RX1 39 RX1 yX1_barredAt wsX1_barredAt) := goodIn_app (goodIn_of _ (by decide +kernel)) ggX1_anyBarred_X1_barredAt
set_option maxRecDepth 20000 in
theorem ggX1_entry_X1_has : GoodIn wsX1_entry wsX1_has := goodIn_r _ [12, 13, 26, 27, 28, 29, 30] (by decide +kernel) (by decide +kernel)
set_option maxRecDepth 20000 in
theorem gX1_entry_X1_has : GoodIn wsX1_entry (wsV RX1 29 RX1 yX1_has wsX1_has) := goodIn_app (goodIn_of _ (by decide +kernel)) ggX1_entry_X1_has
set_option maxRecDepth 20000 in
theorem ggX1_entry_X4_isBarred : GoodIn wsX1_entry wsX4_isBarred := goodIn_r _ [18, 19, 20, 21, 17, 22, 23, 24, 25, 31, 32, 33, 34, 35, 36, 37, 38, 39, 40, 41, 42, 43, 44, 45] (by decide +kernel) (by decide +kernel)
set_option maxRecDepth 20000 in
theorem gX1_entry_X4_isBarred : GoodIn wsX1_entry (wsV RX1 33 RX4 yX4_isBarred wsX4_isBarred) := goodIn_app (goodIn_of _ (by decide +kernel)) ggX1_entry_X4_isBarred
set_option maxRecDepth 20000 in
theorem ggX1_fillTable_X1_has : GoodIn wsX1_fillTable wsX1_has := goodIn_r _ [6, 7, 31, 32, 33, 34, 35] (by decide +kernel) (by decide +kernel)
set_option maxRecDepth 20000 in
theorem gX1_fillTable_X1_has : GoodIn wsX1_fillTable (wsV RX1 29 RX1 yX1_has wsX1_has) := goodIn_app (goodIn_of _ (by decide +kernel)) ggX1_fillTable_X1_has
set_option maxRecDepth 20000 in
theorem ggX1_fillTable_X1_entry : GoodIn wsX1_fillTable wsX1_entry := goodIn_r _ [11, 12, 13, 14, 15, 16, 17, 18, 2, 3, 4, 5, 6, 7, 19, 20, 21, 22, 23, 24, 25, 26, 27, 28, 29, 30, 31, 32, 33, 34, 35, 36, 37, 38, 39, 40, 41, 42, 43, 44, 45, 46, 47, 48, 49, 50] (by decide +kernel) (by decide +kernel)
set_option maxRecDepth 20000 in
theorem gX1_fillTable_X1_entry : GoodIn wsX1_fillTable (wsV RX1 49 RX1 yX1_entry wsX1_entry) := goodIn_app (goodIn_of _ (by decide +kernel)) ggX1_fillTable_X1_entry
set_option maxRecDepth 20000 in
theorem ggX1_determinant_X1_pair : GoodIn wsX1_determinant wsX1_pair := goodIn_r _ [5, 6, 7, 8, 9, 10, 11] (by decide +kernel) (by decide +kernel)
set_option maxRecDepth 20000 in
theorem gX1_determinant_X1_pair : GoodIn wsX1_determinant (wsV RX1 53 RX1 yX1_pair wsX1_pair) := goodIn_app (goodIn_of _ (by decide +kernel)) ggX1_determinant_X1_pair
set_option maxRecDepth 20000 in
theorem ggX2_comings_X2_beginAt : GoodIn wsX2_comings wsX2_beginAt := goodIn_r _ [9, 4, 10, 38, 39] (by decide +kernel) (by decide +kernel)
set_option maxRecDepth 20000 in
theorem gX2_comings_X2_beginAt : GoodIn wsX2_comings (wsV RX2 24 RX2 yX2_beginAt wsX2_beginAt) := goodIn_app (goodIn_of _ (by decide +kernel)) ggX2_comings_X2_beginAt
set_option maxRecDepth 20000 in
theorem ggX2_comings_X2_push : GoodIn wsX2_comings wsX2_push := goodIn_r _ [14, 4, 10, 15, 16, 8, 17, 18, 38, 39] (by decide +kernel) (by decide +kernel)
set_option maxRecDepth 20000 in
theorem gX2_comings_X2_push : GoodIn wsX2_comings (wsV RX2 35 RX2 yX2_push wsX2_push) := goodIn_app (goodIn_of _ (by decide +kernel)) ggX2_comings_X2_push
set_option maxRecDepth 20000 in
theorem ggX2_comings_X2_swapRows : GoodIn wsX2_comings wsX2_swapRows := goodIn_r _ [22, 4, 10, 38, 39] (by decide +kernel) (by decide +kernel)
set_option maxRecDepth 20000 in
theorem gX2_comings_X2_swapRows : GoodIn wsX2_comings (wsV RX2 39 RX2 yX2_swapRows wsX2_swapRows) := goodIn_app (goodIn_of _ (by decide +kernel)) ggX2_comings_X2_swapRows
set_option maxRecDepth 20000 in
theorem ggX2_mirrored_X2_beginAt : GoodIn wsX2_mirrored wsX2_beginAt := goodIn_r _ [16, 11, 17, 45, 46] (by decide +kernel) (by decide +kernel)
set_option maxRecDepth 20000 in
theorem gX2_mirrored_X2_beginAt : GoodIn wsX2_mirrored (wsV RX2 24 RX2 yX2_beginAt wsX2_beginAt) := goodIn_app (goodIn_of _ (by decide +kernel)) ggX2_mirrored_X2_beginAt
set_option maxRecDepth 20000 in
theorem ggX2_mirrored_X2_push : GoodIn wsX2_mirrored wsX2_push := goodIn_r _ [21, 11, 17, 22, 23, 15, 24, 25, 45, 46] (by decide +kernel) (by decide +kernel)
set_option maxRecDepth 20000 in
theorem gX2_mirrored_X2_push : GoodIn wsX2_mirrored (wsV RX2 35 RX2 yX2_push wsX2_push) := goodIn_app (goodIn_of _ (by decide +kernel)) ggX2_mirrored_X2_push
set_option maxRecDepth 20000 in
theorem ggX2_mirrored_X2_swapRows : GoodIn wsX2_mirrored wsX2_swapRows := goodIn_r _ [29, 11, 17, 45, 46] (by decide +kernel) (by decide +kernel)
set_option maxRecDepth 20000 in
theorem gX2_mirrored_X2_swapRows : GoodIn wsX2_mirrored (wsV RX2 39 RX2 yX2_swapRows wsX2_swapRows) := goodIn_app (goodIn_of _ (by decide +kernel)) ggX2_mirrored_X2_swapRows
set_option maxRecDepth 20000 in
theorem ggX2_push_X2_added : GoodIn wsX2_push wsX2_added := goodIn_r _ [6, 7] (by decide +kernel) (by decide +kernel)
set_option maxRecDepth 20000 in
theorem gX2_push_X2_added : GoodIn wsX2_push (va_wsS RX2 57 yX2_added wsX2_added) := goodIn_app (goodIn_of _ (by decide +kernel)) ggX2_push_X2_added
set_option maxRecDepth 20000 in
theorem ggX3_after_X3_findRule : GoodIn wsX3_after wsX3_findRule := goodIn_r _ [7, 8, 9, 10, 11, 12, 13, 14, 15, 16, 17, 18, 19, 20, 6, 21, 22, 23, 2, 24, 25, 26, 27, 28, 29, 30, 31, 32, 33, 34, 35, 36, 37, 38, 39, 40, 41, 42, 43, 44, 63, 64, 65, 66, 67, 68, 69, 70, 71, 72, 73, 74, 75, 76, 77, 78, 79, 80, 81, 82, 83, 84, 85, 86, 87, 88, 89] (by decide +kernel) (by decide +kernel)
set_option maxRecDepth 20000 in
theorem gX3_after_X3_findRule : GoodIn wsX3_after (wsV RX3 43 RX3 yX3_findRule wsX3_findRule) := goodIn_app (goodIn_of _ (by decide +kernel)) ggX3_after_X3_findRule
set_option maxRecDepth 20000 in
theorem ggX3_after_X3_distant : GoodIn wsX3_after wsX3_distant := goodIn_r _ [48, 10, 49, 2, 17, 50, 51, 52, 6, 53, 54, 55, 56, 57, 58, 16, 59, 60, 61, 62, 63, 64, 65, 66, 67, 68, 69, 70, 71, 72, 73, 74] (by decide +kernel) (by decide +kernel)
set_option maxRecDepth 20000 in
theorem gX3_after_X3_distant : GoodIn wsX3_after (wsV RX3 49 RX3 yX3_distant wsX3_distant) := goodIn_app (goodIn_of _ (by decide +kernel)) ggX3_after_X3_distant
set_option maxRecDepth 20000 in
theorem ggX3_keepRule_X3_findRule : GoodIn wsX3_keepRule wsX3_findRule := goodIn_r _ [9, 10, 11, 1, 12, 13, 14, 15, 16, 4, 17, 18, 19, 20, 8, 21, 22, 23, 24, 25, 26, 27, 28, 29, 30, 31, 32, 33, 34, 35, 36, 37, 38, 39, 40, 41, 42, 43, 44, 45, 46, 47, 48, 49, 50, 51, 52, 53, 54, 55, 56, 57, 58, 59, 60, 61, 62, 63, 64, 65, 66, 67, 68, 69, 70, 71, 72] (by decide +kernel) (by decide +kernel)
set_option maxRecDepth 20000 in
theorem gX3_keepRule_X3_findRule : GoodIn wsX3_keepRule (wsV RX3 43 RX3 yX3_findRule wsX3_findRule) := goodIn_app (goodIn_of _ (by decide +kernel)) ggX3_keepRule_X3_findRule
set_option maxRecDepth 20000 in
theorem ggX3_kept_X3_keeps : GoodIn wsX3_kept wsX3_keeps := goodIn_r _ [6, 7, 8, 9, 10, 11, 12, 13, 14, 15, 16, 17, 18, 19] (by decide +kernel) (by decide +kernel)
set_option maxRecDepth 20000 in
theorem gX3_kept_X3_keeps : GoodIn wsX3_kept (wsV RX3 60 RX3 yX3_keeps wsX3_keeps) := goodIn_app (goodIn_of _ (by decide +kernel)) ggX3_kept_X3_keeps
set_option maxRecDepth 20000 in
theorem ggX3_findTerms_X3_climb : GoodIn wsX3_findTerms wsX3_climb := goodIn_r _ [9, 10, 11, 12, 13, 1, 14, 15, 16, 17, 18, 19, 20, 21, 22, 23, 24, 25, 26, 27, 28, 29, 30, 31, 32, 33, 34, 35, 36, 37, 38, 39, 40, 41] (by decide +kernel) (by decide +kernel)
set_option maxRecDepth 20000 in
theorem gX3_findTerms_X3_climb : GoodIn wsX3_findTerms (wsV RX3 72 RX3 yX3_climb wsX3_climb) := goodIn_app (goodIn_of _ (by decide +kernel)) ggX3_findTerms_X3_climb
set_option maxRecDepth 20000 in
theorem ggX3_findRule_X3_findTerms : GoodIn wsX3_findRule wsX3_findTerms := goodIn_r _ [15, 16, 17, 18, 19, 20, 21, 22, 14, 23, 24, 25, 26, 27, 10, 40, 41, 42, 43, 44, 45, 46, 47, 48, 49, 50, 51, 52, 53, 54, 55, 56, 57, 58, 59, 60, 61, 62, 63, 64, 65, 66] (by decide +kernel) (by decide +kernel)
set_option maxRecDepth 20000 in
theorem gX3_findRule_X3_findTerms : GoodIn wsX3_findRule (wsV RX3 86 RX3 yX3_findTerms wsX3_findTerms) := goodIn_app (goodIn_of _ (by decide +kernel)) ggX3_findRule_X3_findTerms
set_option maxRecDepth 20000 in
theorem ggX3_findRule_X3_missAt : GoodIn wsX3_findRule wsX3_missAt := goodIn_r _ [31, 3, 1, 18, 10, 40, 41, 42, 43, 44, 45, 46, 47, 48, 49, 50, 51] (by decide +kernel) (by decide +kernel)
set_option maxRecDepth 20000 in
theorem gX3_findRule_X3_missAt : GoodIn wsX3_findRule (wsV RX3 89 RX3 yX3_missAt wsX3_missAt) := goodIn_app (goodIn_of _ (by decide +kernel)) ggX3_findRule_X3_missAt
set_option maxRecDepth 20000 in
theorem ggX3_findRule_X3_mend : GoodIn wsX3_findRule wsX3_mend := goodIn_r _ [35, 10, 1, 2, 36, 37, 14, 38, 39, 40, 41, 42, 43, 44, 45, 46, 47, 48, 49, 50, 51] (by decide +kernel) (by decide +kernel)
set_option maxRecDepth 20000 in
theorem gX3_findRule_X3_mend : GoodIn wsX3_findRule (wsV RX3 99 RX3 yX3_mend wsX3_mend) := goodIn_app (goodIn_of _ (by decide +kernel)) ggX3_findRule_X3_mend
set_option maxRecDepth 20000 in
theorem ggX3_mend_X3_inverse : GoodIn wsX3_mend wsX3_inverse := goodIn_r _ [7, 1, 8] (by decide +kernel) (by decide +kernel)
set_option maxRecDepth 20000 in
theorem gX3_mend_X3_inverse : GoodIn wsX3_mend (va_wsS RX3 103 yX3_inverse wsX3_inverse) := goodIn_app (goodIn_of _ (by decide +kernel)) ggX3_mend_X3_inverse
set_option maxRecDepth 20000 in
theorem ggX3_distant_X3_square : GoodIn wsX3_distant wsX3_square := goodIn_r _ [9, 10, 1, 2, 4, 11, 12, 13, 8, 14, 15, 20, 21, 22, 23, 24, 25, 26, 27, 28, 29, 30, 31] (by decide +kernel) (by decide +kernel)
set_option maxRecDepth 20000 in
theorem gX3_distant_X3_square : GoodIn wsX3_distant (wsV RX3 108 RX3 yX3_square wsX3_square) := goodIn_app (goodIn_of _ (by decide +kernel)) ggX3_distant_X3_square
set_option maxRecDepth 20000 in
theorem ggX3_distant_X3_raise : GoodIn wsX3_distant wsX3_raise := goodIn_r _ [19, 10, 1, 2, 11, 12, 13, 8, 14, 15, 4, 20, 21, 22, 23, 24, 25, 26, 27, 28, 29, 30, 31] (by decide +kernel) (by decide +kernel)
set_option maxRecDepth 20000 in
theorem gX3_distant_X3_raise : GoodIn wsX3_distant (wsV RX3 111 RX3 yX3_raise wsX3_raise) := goodIn_app (goodIn_of _ (by decide +kernel)) ggX3_distant_X3_raise
set_option maxRecDepth 20000 in
theorem ggX3_square_X3_reduce : GoodIn wsX3_square wsX3_reduce := goodIn_r _ [9, 2, 1, 10, 4, 3, 11, 12, 13, 14, 15, 16, 17, 18, 19, 20, 21, 22] (by decide +kernel) (by decide +kernel)
set_option maxRecDepth 20000 in
theorem gX3_square_X3_reduce : GoodIn wsX3_square (wsV RX3 114 RX3 yX3_reduce wsX3_reduce) := goodIn_app (goodIn_of _ (by decide +kernel)) ggX3_square_X3_reduce
set_option maxRecDepth 20000 in
theorem ggX3_raise_X3_reduce : GoodIn wsX3_raise wsX3_reduce := goodIn_r _ [8, 2, 1, 9, 10, 3, 11, 12, 13, 14, 15, 16, 17, 18, 19, 20, 21, 22] (by decide +kernel) (by decide +kernel)
set_option maxRecDepth 20000 in
theorem gX3_raise_X3_reduce : GoodIn wsX3_raise (wsV RX3 114 RX3 yX3_reduce wsX3_reduce) := goodIn_app (goodIn_of _ (by decide +kernel)) ggX3_raise_X3_reduce
set_option maxRecDepth 20000 in
theorem ggX4_init_X4_renew : GoodIn wsX4_init wsX4_renew := goodIn_r _ [19, 20, 21, 22, 18, 23, 14, 13, 24, 25, 26, 27, 28, 29, 30, 31, 10, 11, 32, 33, 34, 35, 36, 37, 38, 39, 40, 41, 42, 43, 44, 45, 46] (by decide +kernel) (by decide +kernel)
set_option maxRecDepth 20000 in
theorem gX4_init_X4_renew : GoodIn wsX4_init (wsV RX4 41 RX4 yX4_renew wsX4_renew) := goodIn_app (goodIn_of _ (by decide +kernel)) ggX4_init_X4_renew
set_option maxRecDepth 20000 in
theorem ggX4_cellA_X4_cellOf : GoodIn wsX4_cellA wsX4_cellOf := goodIn_r _ [6] (by decide +kernel) (by decide +kernel)
set_option maxRecDepth 20000 in
theorem gX4_cellA_X4_cellOf : GoodIn wsX4_cellA (va_wsS RX4 50 yX4_cellOf wsX4_cellOf) := goodIn_app (goodIn_of _ (by decide +kernel)) ggX4_cellA_X4_cellOf
set_option maxRecDepth 20000 in
theorem ggX4_cellB_X4_cellOf : GoodIn wsX4_cellB wsX4_cellOf := goodIn_r _ [6] (by decide +kernel) (by decide +kernel)
set_option maxRecDepth 20000 in
theorem gX4_cellB_X4_cellOf : GoodIn wsX4_cellB (va_wsS RX4 50 yX4_cellOf wsX4_cellOf) := goodIn_app (goodIn_of _ (by decide +kernel)) ggX4_cellB_X4_cellOf
set_option maxRecDepth 20000 in
theorem ggX4_setKind_X4_renew : GoodIn wsX4_setKind wsX4_renew := goodIn_r _ [8, 9, 10, 11, 7, 12, 13, 14, 15, 16, 17, 18, 19, 20, 21, 1, 2, 3, 22, 23, 24, 25, 26, 27, 28, 29, 30, 31, 32, 33, 34, 35, 36] (by decide +kernel) (by decide +kernel)
set_option maxRecDepth 20000 in
theorem gX4_setKind_X4_renew : GoodIn wsX4_setKind (wsV RX4 41 RX4 yX4_renew wsX4_renew) := goodIn_app (goodIn_of _ (by decide +kernel)) ggX4_setKind_X4_renew
set_option maxRecDepth 20000 in
theorem ggX4_renew_X4_renewSquare : GoodIn wsX4_renew wsX4_renewSquare := goodIn_r _ [5, 6, 7, 8, 9, 4, 10, 11, 12, 13, 14, 15, 16, 17, 18, 19, 20, 21, 22, 23, 24, 25, 26, 27, 28, 29, 30, 31, 32] (by decide +kernel) (by decide +kernel)
set_option maxRecDepth 20000 in
theorem gX4_renew_X4_renewSquare : GoodIn wsX4_renew (wsV RX4 68 RX4 yX4_renewSquare wsX4_renewSquare) := goodIn_app (goodIn_of _ (by decide +kernel)) ggX4_renew_X4_renewSquare
set_option maxRecDepth 20000 in
theorem ggX4_renewSquare_X4_cellOf : GoodIn wsX4_renewSquare wsX4_cellOf := goodIn_r _ [6] (by decide +kernel) (by decide +kernel)
set_option maxRecDepth 20000 in
theorem gX4_renewSquare_X4_cellOf : GoodIn wsX4_renewSquare (va_wsS RX4 50 yX4_cellOf wsX4_cellOf) := goodIn_app (goodIn_of _ (by decide +kernel)) ggX4_renewSquare_X4_cellOf
set_option maxRecDepth 20000 in
theorem ggX4_renewSquare_X4_inKind : GoodIn wsX4_renewSquare wsX4_inKind := goodIn_r _ [10, 11, 12, 13, 14, 15, 16, 17, 18, 19, 20, 21, 22, 23, 24, 25, 26, 27, 28] (by decide +kernel) (by decide +kernel)
set_option maxRecDepth 20000 in
theorem gX4_renewSquare_X4_inKind : GoodIn wsX4_renewSquare (wsV RX4 72 RX4 yX4_inKind wsX4_inKind) := goodIn_app (goodIn_of _ (by decide +kernel)) ggX4_renewSquare_X4_inKind
set_option maxRecDepth 20000 in
theorem ggX4_setBarred_X4_isSquare : GoodIn wsX4_setBarred wsX4_isSquare := goodIn_r _ [6] (by decide +kernel) (by decide +kernel)
set_option maxRecDepth 20000 in
theorem gX4_setBarred_X4_isSquare : GoodIn wsX4_setBarred (va_wsS RX4 76 yX4_isSquare wsX4_isSquare) := goodIn_app (goodIn_of _ (by decide +kernel)) ggX4_setBarred_X4_isSquare
set_option maxRecDepth 20000 in
theorem ggX4_setBarred_X4_isBarred : GoodIn wsX4_setBarred wsX4_isBarred := goodIn_r _ [10, 1, 3, 4, 5, 6, 11, 12, 13, 26, 27, 28, 29, 30, 31, 32, 33, 34, 35, 36, 37, 38, 39, 40] (by decide +kernel) (by decide +kernel)
set_option maxRecDepth 20000 in
theorem gX4_setBarred_X4_isBarred : GoodIn wsX4_setBarred (wsV RX4 79 RX4 yX4_isBarred wsX4_isBarred) := goodIn_app (goodIn_of _ (by decide +kernel)) ggX4_setBarred_X4_isBarred
set_option maxRecDepth 20000 in
theorem ggX4_setBarred_X4_cellOf : GoodIn wsX4_setBarred wsX4_cellOf := goodIn_r _ [13] (by decide +kernel) (by decide +kernel)
set_option maxRecDepth 20000 in
theorem gX4_setBarred_X4_cellOf : GoodIn wsX4_setBarred (va_wsS RX4 50 yX4_cellOf wsX4_cellOf) := goodIn_app (goodIn_of _ (by decide +kernel)) ggX4_setBarred_X4_cellOf
set_option maxRecDepth 20000 in
theorem ggX4_setBarred_X4_renewSquare : GoodIn wsX4_setBarred wsX4_renewSquare := goodIn_r _ [17, 18, 1, 11, 12, 5, 13, 19, 20, 21, 22, 23, 24, 25, 26, 27, 28, 29, 30, 31, 32, 33, 34, 35, 36, 37, 38, 39, 40] (by decide +kernel) (by decide +kernel)
set_option maxRecDepth 20000 in
theorem gX4_setBarred_X4_renewSquare : GoodIn wsX4_setBarred (wsV RX4 68 RX4 yX4_renewSquare wsX4_renewSquare) := goodIn_app (goodIn_of _ (by decide +kernel)) ggX4_setBarred_X4_renewSquare
set_option maxRecDepth 20000 in
theorem ggX4_isBarred_X4_isSquare : GoodIn wsX4_isBarred wsX4_isSquare := goodIn_r _ [5] (by decide +kernel) (by decide +kernel)
set_option maxRecDepth 20000 in
theorem gX4_isBarred_X4_isSquare : GoodIn wsX4_isBarred (va_wsS RX4 76 yX4_isSquare wsX4_isSquare) := goodIn_app (goodIn_of _ (by decide +kernel)) ggX4_isBarred_X4_isSquare
set_option maxRecDepth 20000 in
theorem ggX4_isBarred_X4_cellOf : GoodIn wsX4_isBarred wsX4_cellOf := goodIn_r _ [8] (by decide +kernel) (by decide +kernel)
set_option maxRecDepth 20000 in
theorem gX4_isBarred_X4_cellOf : GoodIn wsX4_isBarred (va_wsS RX4 50 yX4_cellOf wsX4_cellOf) := goodIn_app (goodIn_of _ (by decide +kernel)) ggX4_isBarred_X4_cellOf
set_option maxRecDepth 20000 in
theorem ggX4_isOpen_X4_isSquare : GoodIn wsX4_isOpen wsX4_isSquare := goodIn_r _ [5] (by decide +kernel) (by decide +kernel)
set_option maxRecDepth 20000 in
theorem gX4_isOpen_X4_isSquare : GoodIn wsX4_isOpen (va_wsS RX4 76 yX4_isSquare wsX4_isSquare) := goodIn_app (goodIn_of _ (by decide +kernel)) ggX4_isOpen_X4_isSquare
set_option maxRecDepth 20000 in
theorem ggX4_isOpen_X4_cellOf : GoodIn wsX4_isOpen wsX4_cellOf := goodIn_r _ [8] (by decide +kernel) (by decide +kernel)
set_option maxRecDepth 20000 in
theorem gX4_isOpen_X4_cellOf : GoodIn wsX4_isOpen (va_wsS RX4 50 yX4_cellOf wsX4_cellOf) := goodIn_app (goodIn_of _ (by decide +kernel)) ggX4_isOpen_X4_cellOf
set_option maxRecDepth 20000 in
theorem ggX4_endsOpen_X4_isOpen : GoodIn wsX4_endsOpen wsX4_isOpen := goodIn_r _ [9, 10, 11, 12, 8, 13, 14, 15, 16, 17, 18, 19, 20, 21, 22, 23, 24, 25, 26, 27, 28, 29, 30, 31] (by decide +kernel) (by decide +kernel)
set_option maxRecDepth 20000 in
theorem gX4_endsOpen_X4_isOpen : GoodIn wsX4_endsOpen (wsV RX4 85 RX4 yX4_isOpen wsX4_isOpen) := goodIn_app (goodIn_of _ (by decide +kernel)) ggX4_endsOpen_X4_isOpen
set_option maxRecDepth 20000 in
theorem ggX4_ahead_X4_hasStep : GoodIn wsX4_ahead wsX4_hasStep := goodIn_r _ [9, 10, 20, 21, 22, 23, 24, 25, 26, 27, 28, 29, 30, 31, 32, 33, 34] (by decide +kernel) (by decide +kernel)
set_option maxRecDepth 20000 in
theorem gX4_ahead_X4_hasStep : GoodIn wsX4_ahead (wsV RX4 88 RX4 yX4_hasStep wsX4_hasStep) := goodIn_app (goodIn_of _ (by decide +kernel)) ggX4_ahead_X4_hasStep
set_option maxRecDepth 20000 in
theorem ggX4_ahead_J9_floorMod_7cf53 : GoodIn wsX4_ahead wsJ9_floorMod_7cf53 := goodIn_r _ [14] (by decide +kernel) (by decide +kernel)
set_option maxRecDepth 20000 in
theorem gX4_ahead_J9_floorMod_7cf53 : GoodIn wsX4_ahead (va_wsS RX4 92 yJ9_floorMod_7cf53 wsJ9_floorMod_7cf53) := goodIn_app (goodIn_of _ (by decide +kernel)) ggX4_ahead_J9_floorMod_7cf53
set_option maxRecDepth 20000 in
theorem ggX4_ahead_X4_isPassable : GoodIn wsX4_ahead wsX4_isPassable := goodIn_r _ [18, 19, 20, 21, 22, 23, 24, 25, 26, 27, 28, 29, 30, 31, 32, 33, 34] (by decide +kernel) (by decide +kernel)
set_option maxRecDepth 20000 in
theorem gX4_ahead_X4_isPassable : GoodIn wsX4_ahead (wsV RX4 95 RX4 yX4_isPassable wsX4_isPassable) := goodIn_app (goodIn_of _ (by decide +kernel)) ggX4_ahead_X4_isPassable
set_option maxRecDepth 20000 in
theorem ggX4_stepsMirrored_X4_hasStepOf : GoodIn wsX4_stepsMirrored wsX4_hasStepOf := goodIn_r _ [8, 1, 3, 2, 9, 10, 11, 12, 13, 14, 15, 16, 17, 18, 19, 20, 21, 22, 23] (by decide +kernel) (by decide +kernel)
set_option maxRecDepth 20000 in
theorem gX4_stepsMirrored_X4_hasStepOf : GoodIn wsX4_stepsMirrored (wsV RX4 105 RX4 yX4_hasStepOf wsX4_hasStepOf) := goodIn_app (goodIn_of _ (by decide +kernel)) ggX4_stepsMirrored_X4_hasStepOf
set_option maxRecDepth 20000 in
theorem ggX5_missing_X5_known : GoodIn wsX5_missing wsX5_known := goodIn_r _ [5] (by decide +kernel) (by decide +kernel)
set_option maxRecDepth 20000 in
theorem gX5_missing_X5_known : GoodIn wsX5_missing (va_wsS RX5 21 yX5_known wsX5_known) := goodIn_app (goodIn_of _ (by decide +kernel)) ggX5_missing_X5_known
set_option maxRecDepth 20000 in
theorem ggX5_sortOf_X5_known : GoodIn wsX5_sortOf wsX5_known := goodIn_r _ [5] (by decide +kernel) (by decide +kernel)
set_option maxRecDepth 20000 in
theorem gX5_sortOf_X5_known : GoodIn wsX5_sortOf (va_wsS RX5 21 yX5_known wsX5_known) := goodIn_app (goodIn_of _ (by decide +kernel)) ggX5_sortOf_X5_known
set_option maxRecDepth 20000 in
theorem ggX5_holds_X5_known : GoodIn wsX5_holds wsX5_known := goodIn_r _ [5] (by decide +kernel) (by decide +kernel)
set_option maxRecDepth 20000 in
theorem gX5_holds_X5_known : GoodIn wsX5_holds (va_wsS RX5 21 yX5_known wsX5_known) := goodIn_app (goodIn_of _ (by decide +kernel)) ggX5_holds_X5_known
set_option maxRecDepth 20000 in
theorem ggX5_lay_X5_known : GoodIn wsX5_lay wsX5_known := goodIn_r _ [7] (by decide +kernel) (by decide +kernel)
set_option maxRecDepth 20000 in
theorem gX5_lay_X5_known : GoodIn wsX5_lay (va_wsS RX5 21 yX5_known wsX5_known) := goodIn_app (goodIn_of _ (by decide +kernel)) ggX5_lay_X5_known
set_option maxRecDepth 20000 in
theorem ggX5_put_X5_holds : GoodIn wsX5_put wsX5_holds := goodIn_r _ [7, 8, 9, 10, 6, 11, 12, 13, 14] (by decide +kernel) (by decide +kernel)
set_option maxRecDepth 20000 in
theorem gX5_put_X5_holds : GoodIn wsX5_put (wsV RX5 25 RX5 yX5_holds wsX5_holds) := goodIn_app (goodIn_of _ (by decide +kernel)) ggX5_put_X5_holds
set_option maxRecDepth 20000 in
theorem ggX5_at_X5_holds : GoodIn wsX5_at wsX5_holds := goodIn_r _ [6, 7, 8, 9, 5, 10, 11, 12, 13] (by decide +kernel) (by decide +kernel)
set_option maxRecDepth 20000 in
theorem gX5_at_X5_holds : GoodIn wsX5_at (wsV RX5 25 RX5 yX5_holds wsX5_holds) := goodIn_app (goodIn_of _ (by decide +kernel)) ggX5_at_X5_holds
set_option maxRecDepth 20000 in
theorem ggX5_move_X5_holds : GoodIn wsX5_move wsX5_holds := goodIn_r _ [10, 11, 12, 13, 9, 14, 15, 16, 17] (by decide +kernel) (by decide +kernel)
set_option maxRecDepth 20000 in
theorem gX5_move_X5_holds : GoodIn wsX5_move (wsV RX5 25 RX5 yX5_holds wsX5_holds) := goodIn_app (goodIn_of _ (by decide +kernel)) ggX5_move_X5_holds
set_option maxRecDepth 20000 in
theorem ggX6_prepare_X4_cellB : GoodIn wsX6_prepare wsX4_cellB := goodIn_r _ [9, 10, 11, 12, 13, 8, 14, 71, 72, 73, 74, 75, 76, 77, 78, 79, 80, 81, 82, 83, 84, 85] (by decide +kernel) (by decide +kernel)
set_option maxRecDepth 20000 in
theorem gX6_prepare_X4_cellB : GoodIn wsX6_prepare (wsV RX6 27 RX4 yX4_cellB wsX4_cellB) := goodIn_app (goodIn_of _ (by decide +kernel)) ggX6_prepare_X4_cellB
set_option maxRecDepth 20000 in
theorem ggX6_prepare_X6_begin : GoodIn wsX6_prepare wsX6_begin := goodIn_r _ [19, 3, 20, 21, 22, 8, 23, 24, 25, 26, 27, 18, 28, 29, 30, 31, 13, 14, 32, 33, 34, 35, 67, 68, 69, 70, 71, 72, 73, 74, 75, 76, 77, 78, 79, 80, 81, 82, 83, 84, 85] (by decide +kernel) (by decide +kernel)
set_option maxRecDepth 20000 in
theorem gX6_prepare_X6_begin : GoodIn wsX6_prepare (wsV RX6 33 RX6 yX6_begin wsX6_begin) := goodIn_app (goodIn_of _ (by decide +kernel)) ggX6_prepare_X6_begin
set_option maxRecDepth 20000 in
theorem ggX6_prepare_X4_tallestStep : GoodIn wsX6_prepare wsX4_tallestStep := goodIn_r _ [39, 40, 41, 42, 43, 44, 45, 46, 47, 48, 71, 72, 73, 74, 75, 76, 77, 78, 79, 80, 81, 82, 83, 84, 85] (by decide +kernel) (by decide +kernel)
set_option maxRecDepth 20000 in
theorem gX6_prepare_X4_tallestStep : GoodIn wsX6_prepare (wsV RX6 37 RX4 yX4_tallestStep wsX4_tallestStep) := goodIn_app (goodIn_of _ (by decide +kernel)) ggX6_prepare_X4_tallestStep
set_option maxRecDepth 20000 in
theorem ggX6_prepare_X6_spread : GoodIn wsX6_prepare wsX6_spread := goodIn_r _ [52, 53, 47, 44, 48, 54, 55, 56, 3, 31, 13, 8, 14, 20, 21, 22, 23, 24, 57, 58, 59, 18, 60, 61, 62, 63, 64, 65, 66, 25, 26, 27, 28, 29, 30, 32, 33, 34, 35, 67, 68, 69, 70, 71, 72, 73, 74, 75, 76, 77, 78, 79, 80, 81, 82, 83, 84, 85] (by decide +kernel) (by decide +kernel)
set_option maxRecDepth 20000 in
theorem gX6_prepare_X6_spread : GoodIn wsX6_prepare (wsV RX6 43 RX6 yX6_spread wsX6_spread) := goodIn_app (goodIn_of _ (by decide +kernel)) ggX6_prepare_X6_spread
set_option maxRecDepth 20000 in
theorem ggX6_anywhere_X6_begin : GoodIn wsX6_anywhere wsX6_begin := goodIn_r _ [8, 2, 9, 10, 11, 12, 13, 14, 15, 16, 17, 7, 18, 19, 20, 21, 22, 23, 24, 25, 26, 27, 66, 67, 68, 69, 70, 71, 72, 73, 74, 75, 76, 77, 78, 79, 80, 81, 82, 83, 84] (by decide +kernel) (by decide +kernel)
set_option maxRecDepth 20000 in
theorem gX6_anywhere_X6_begin : GoodIn wsX6_anywhere (wsV RX6 33 RX6 yX6_begin wsX6_begin) := goodIn_app (goodIn_of _ (by decide +kernel)) ggX6_anywhere_X6_begin
set_option maxRecDepth 20000 in
theorem ggX6_anywhere_X4_tallestStep : GoodIn wsX6_anywhere wsX4_tallestStep := goodIn_r _ [31, 32, 33, 34, 35, 36, 37, 38, 39, 40, 70, 71, 72, 73, 74, 75, 76, 77, 78, 79, 80, 81, 82, 83, 84] (by decide +kernel) (by decide +kernel)
set_option maxRecDepth 20000 in
theorem gX6_anywhere_X4_tallestStep : GoodIn wsX6_anywhere (wsV RX6 37 RX4 yX4_tallestStep wsX4_tallestStep) := goodIn_app (goodIn_of _ (by decide +kernel)) ggX6_anywhere_X4_tallestStep
set_option maxRecDepth 20000 in
theorem ggX6_anywhere_X6_spread : GoodIn wsX6_anywhere wsX6_spread := goodIn_r _ [44, 45, 39, 36, 40, 46, 47, 48, 2, 21, 22, 12, 23, 9, 10, 11, 13, 14, 49, 50, 51, 7, 52, 53, 54, 55, 56, 57, 58, 15, 16, 17, 18, 19, 20, 24, 25, 26, 27, 66, 67, 68, 69, 70, 71, 72, 73, 74, 75, 76, 77, 78, 79, 80, 81, 82, 83, 84] (by decide +kernel) (by decide +kernel)
set_option maxRecDepth 20000 in
theorem gX6_anywhere_X6_spread : GoodIn wsX6_anywhere (wsV RX6 43 RX6 yX6_spread wsX6_spread) := goodIn_app (goodIn_of _ (by decide +kernel)) ggX6_anywhere_X6_spread
set_option maxRecDepth 20000 in
theorem ggX6_anywhere_X4_cellA : GoodIn wsX6_anywhere wsX4_cellA := goodIn_r _ [62, 63, 64, 65, 22, 12, 23, 70, 71, 72, 73, 74, 75, 76, 77, 78, 79, 80, 81, 82, 83, 84] (by decide +kernel) (by decide +kernel)
set_option maxRecDepth 20000 in
theorem gX6_anywhere_X4_cellA : GoodIn wsX6_anywhere (wsV RX6 50 RX4 yX4_cellA wsX4_cellA) := goodIn_app (goodIn_of _ (by decide +kernel)) ggX6_anywhere_X4_cellA
set_option maxRecDepth 20000 in
theorem ggX6_begin_X4_isPassable : GoodIn wsX6_begin wsX4_isPassable := goodIn_r _ [6, 7, 26, 27, 28, 29, 30, 31, 32, 33, 34, 35, 36, 37, 38, 39, 40] (by decide +kernel) (by decide +kernel)
set_option maxRecDepth 20000 in
theorem gX6_begin_X4_isPassable : GoodIn wsX6_begin (wsV RX6 53 RX4 yX4_isPassable wsX4_isPassable) := goodIn_app (goodIn_of _ (by decide +kernel)) ggX6_begin_X4_isPassable
set_option maxRecDepth 20000 in
theorem ggX6_begin_X6_closeRing : GoodIn wsX6_begin wsX6_closeRing := goodIn_r _ [12, 1, 13, 14, 15, 16, 5, 17, 18, 19, 20, 21, 22, 23, 24, 25, 26, 27, 28, 29, 30, 31, 32, 33, 34, 35, 36, 37, 38, 39, 40] (by decide +kernel) (by decide +kernel)
set_option maxRecDepth 20000 in
theorem gX6_begin_X6_closeRing : GoodIn wsX6_begin (wsV RX6 57 RX6 yX6_closeRing wsX6_closeRing) := goodIn_app (goodIn_of _ (by decide +kernel)) ggX6_begin_X6_closeRing
set_option maxRecDepth 20000 in
theorem ggX6_spread_X4_cellOf : GoodIn wsX6_spread wsX4_cellOf := goodIn_r _ [12] (by decide +kernel) (by decide +kernel)
set_option maxRecDepth 20000 in
theorem gX6_spread_X4_cellOf : GoodIn wsX6_spread (va_wsS RX6 67 yX4_cellOf wsX4_cellOf) := goodIn_app (goodIn_of _ (by decide +kernel)) ggX6_spread_X4_cellOf
set_option maxRecDepth 20000 in
theorem ggX6_spread_X4_isPassable : GoodIn wsX6_spread wsX4_isPassable := goodIn_r _ [16, 17, 43, 44, 45, 46, 47, 48, 49, 50, 51, 52, 53, 54, 55, 56, 57] (by decide +kernel) (by decide +kernel)
set_option maxRecDepth 20000 in
theorem gX6_spread_X4_isPassable : GoodIn wsX6_spread (wsV RX6 53 RX4 yX4_isPassable wsX4_isPassable) := goodIn_app (goodIn_of _ (by decide +kernel)) ggX6_spread_X4_isPassable
set_option maxRecDepth 20000 in
theorem ggX6_spread_X6_sumAhead : GoodIn wsX6_spread wsX6_sumAhead := goodIn_r _ [22, 8, 23, 24, 25, 26, 27, 3, 28, 39, 40, 41, 42, 43, 44, 45, 46, 47, 48, 49, 50, 51, 52, 53, 54, 55, 56, 57] (by decide +kernel) (by decide +kernel)
set_option maxRecDepth 20000 in
theorem gX6_spread_X6_sumAhead : GoodIn wsX6_spread (wsV RX6 73 RX6 yX6_sumAhead wsX6_sumAhead) := goodIn_app (goodIn_of _ (by decide +kernel)) ggX6_spread_X6_sumAhead
set_option maxRecDepth 20000 in
theorem ggX6_spread_X6_closeRing : GoodIn wsX6_spread wsX6_closeRing := goodIn_r _ [32, 8, 33, 34, 9, 10, 11, 12, 35, 36, 37, 38, 39, 40, 41, 42, 43, 44, 45, 46, 47, 48, 49, 50, 51, 52, 53, 54, 55, 56, 57] (by decide +kernel) (by decide +kernel)
set_option maxRecDepth 20000 in
theorem gX6_spread_X6_closeRing : GoodIn wsX6_spread (wsV RX6 57 RX6 yX6_closeRing wsX6_closeRing) := goodIn_app (goodIn_of _ (by decide +kernel)) ggX6_spread_X6_closeRing
set_option maxRecDepth 20000 in
theorem ggX6_closeRing_X4_cellOf : GoodIn wsX6_closeRing wsX4_cellOf := goodIn_r _ [7] (by decide +kernel) (by decide +kernel)
set_option maxRecDepth 20000 in
theorem gX6_closeRing_X4_cellOf : GoodIn wsX6_closeRing (va_wsS RX6 67 yX4_cellOf wsX4_cellOf) := goodIn_app (goodIn_of _ (by decide +kernel)) ggX6_closeRing_X4_cellOf
