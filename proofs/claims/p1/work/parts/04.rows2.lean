theorem dX9_isSquare_0 : decode cX9_isSquare 0 = .ok (.iload_n 0, 1) := by decide +kernel
theorem dX9_isSquare_1 : decode cX9_isSquare 1 = .ok (.bipush (-30), 2) := by decide +kernel
theorem dX9_isSquare_3 : decode cX9_isSquare 3 = .ok (.if_icmp .lt 25, 3) := by decide +kernel
theorem dX9_isSquare_28 : decode cX9_isSquare 28 = .ok (.iconst 0, 1) := by decide +kernel
theorem dX9_isSquare_29 : decode cX9_isSquare 29 = .ok (.ireturn, 1) := by decide +kernel
theorem dX9_isSquare_6 : decode cX9_isSquare 6 = .ok (.iload_n 0, 1) := by decide +kernel
theorem dX9_isSquare_7 : decode cX9_isSquare 7 = .ok (.bipush 30, 2) := by decide +kernel
theorem dX9_isSquare_9 : decode cX9_isSquare 9 = .ok (.if_icmp .gt 19, 3) := by decide +kernel
theorem dX9_isSquare_12 : decode cX9_isSquare 12 = .ok (.iload_n 1, 1) := by decide +kernel
theorem dX9_isSquare_13 : decode cX9_isSquare 13 = .ok (.bipush (-30), 2) := by decide +kernel
theorem dX9_isSquare_15 : decode cX9_isSquare 15 = .ok (.if_icmp .lt 13, 3) := by decide +kernel
theorem dX9_isSquare_18 : decode cX9_isSquare 18 = .ok (.iload_n 1, 1) := by decide +kernel
theorem dX9_isSquare_19 : decode cX9_isSquare 19 = .ok (.bipush 30, 2) := by decide +kernel
theorem dX9_isSquare_21 : decode cX9_isSquare 21 = .ok (.if_icmp .gt 7, 3) := by decide +kernel
theorem dX9_isSquare_24 : decode cX9_isSquare 24 = .ok (.iconst 1, 1) := by decide +kernel
theorem dX9_isSquare_25 : decode cX9_isSquare 25 = .ok (.goto 4, 3) := by decide +kernel
theorem dX9_squareOf_0 : decode cX9_squareOf 0 = .ok (.bipush 61, 2) := by decide +kernel
theorem dX9_squareOf_2 : decode cX9_squareOf 2 = .ok (.iload_n 0, 1) := by decide +kernel
theorem dX9_squareOf_3 : decode cX9_squareOf 3 = .ok (.bipush 30, 2) := by decide +kernel
theorem dX9_squareOf_5 : decode cX9_squareOf 5 = .ok (.iadd, 1) := by decide +kernel
theorem dX9_squareOf_6 : decode cX9_squareOf 6 = .ok (.imul, 1) := by decide +kernel
theorem dX9_squareOf_7 : decode cX9_squareOf 7 = .ok (.iload_n 1, 1) := by decide +kernel
theorem dX9_squareOf_8 : decode cX9_squareOf 8 = .ok (.iadd, 1) := by decide +kernel
theorem dX9_squareOf_9 : decode cX9_squareOf 9 = .ok (.bipush 30, 2) := by decide +kernel
theorem dX9_squareOf_11 : decode cX9_squareOf 11 = .ok (.iadd, 1) := by decide +kernel
theorem dX9_squareOf_12 : decode cX9_squareOf 12 = .ok (.ireturn, 1) := by decide +kernel
theorem dX9_xOf_0 : decode cX9_xOf 0 = .ok (.iload_n 0, 1) := by decide +kernel
theorem dX9_xOf_1 : decode cX9_xOf 1 = .ok (.bipush 61, 2) := by decide +kernel
theorem dX9_xOf_3 : decode cX9_xOf 3 = .ok (.idiv, 1) := by decide +kernel
theorem dX9_xOf_4 : decode cX9_xOf 4 = .ok (.bipush 30, 2) := by decide +kernel
theorem dX9_xOf_6 : decode cX9_xOf 6 = .ok (.isub, 1) := by decide +kernel
theorem dX9_xOf_7 : decode cX9_xOf 7 = .ok (.ireturn, 1) := by decide +kernel
theorem dX9_yOf_0 : decode cX9_yOf 0 = .ok (.iload_n 0, 1) := by decide +kernel
theorem dX9_yOf_1 : decode cX9_yOf 1 = .ok (.bipush 61, 2) := by decide +kernel
theorem dX9_yOf_3 : decode cX9_yOf 3 = .ok (.irem, 1) := by decide +kernel
theorem dX9_yOf_4 : decode cX9_yOf 4 = .ok (.bipush 30, 2) := by decide +kernel
theorem dX9_yOf_6 : decode cX9_yOf 6 = .ok (.isub, 1) := by decide +kernel
theorem dX9_yOf_7 : decode cX9_yOf 7 = .ok (.ireturn, 1) := by decide +kernel
theorem dX9_refuse_0 : decode cX9_refuse 0 = .ok (.aload_n 0, 1) := by decide +kernel
theorem dX9_refuse_1 : decode cX9_refuse 1 = .ok (.iload_n 1, 1) := by decide +kernel
theorem dX9_refuse_2 : decode cX9_refuse 2 = .ok (.putfield 115, 3) := by decide +kernel
theorem dX9_refuse_5 : decode cX9_refuse 5 = .ok (.iconst (-1), 1) := by decide +kernel
theorem dX9_refuse_6 : decode cX9_refuse 6 = .ok (.ireturn, 1) := by decide +kernel
theorem dX9_no_0 : decode cX9_no 0 = .ok (.aload_n 0, 1) := by decide +kernel
theorem dX9_no_1 : decode cX9_no 1 = .ok (.iload_n 1, 1) := by decide +kernel
theorem dX9_no_2 : decode cX9_no 2 = .ok (.putfield 115, 3) := by decide +kernel
theorem dX9_no_5 : decode cX9_no 5 = .ok (.iconst 0, 1) := by decide +kernel
theorem dX9_no_6 : decode cX9_no 6 = .ok (.ireturn, 1) := by decide +kernel
theorem dX9_sheeted_0 : decode cX9_sheeted 0 = .ok (.iload_n 1, 1) := by decide +kernel
theorem dX9_sheeted_1 : decode cX9_sheeted 1 = .ok (.ifCond .lt 8, 3) := by decide +kernel
theorem dX9_sheeted_9 : decode cX9_sheeted 9 = .ok (.iconst 1, 1) := by decide +kernel
theorem dX9_sheeted_10 : decode cX9_sheeted 10 = .ok (.goto 17, 3) := by decide +kernel
theorem dX9_sheeted_27 : decode cX9_sheeted 27 = .ok (.ireturn, 1) := by decide +kernel
theorem dX9_sheeted_4 : decode cX9_sheeted 4 = .ok (.iload_n 1, 1) := by decide +kernel
theorem dX9_sheeted_5 : decode cX9_sheeted 5 = .ok (.iconst 4, 1) := by decide +kernel
theorem dX9_sheeted_6 : decode cX9_sheeted 6 = .ok (.if_icmp .lt 7, 3) := by decide +kernel
theorem dX9_sheeted_13 : decode cX9_sheeted 13 = .ok (.aload_n 0, 1) := by decide +kernel
theorem dX9_sheeted_14 : decode cX9_sheeted 14 = .ok (.getfield 13, 3) := by decide +kernel
theorem dX9_sheeted_17 : decode cX9_sheeted 17 = .ok (.iload_n 1, 1) := by decide +kernel
theorem dX9_sheeted_18 : decode cX9_sheeted 18 = .ok (.iaload, 1) := by decide +kernel
theorem dX9_sheeted_19 : decode cX9_sheeted 19 = .ok (.ifCond .ge 7, 3) := by decide +kernel
theorem dX9_sheeted_22 : decode cX9_sheeted 22 = .ok (.iconst 3, 1) := by decide +kernel
theorem dX9_sheeted_23 : decode cX9_sheeted 23 = .ok (.goto 4, 3) := by decide +kernel
theorem dX9_placed_0 : decode cX9_placed 0 = .ok (.aload_n 0, 1) := by decide +kernel
theorem dX9_placed_1 : decode cX9_placed 1 = .ok (.iload_n 1, 1) := by decide +kernel
theorem dX9_placed_2 : decode cX9_placed 2 = .ok (.invokevirtual 122, 3) := by decide +kernel
set_option maxRecDepth 20000 in
theorem ggX9_placed_X9_sheeted : GoodIn wsX9_placed wsX9_sheeted := goodIn_r _ [6, 1, 7, 8, 9, 10, 11, 12, 13, 14, 15, 16, 17, 18, 19, 20, 21, 22, 23, 24, 25, 26, 27, 28, 29, 30, 31, 32, 33, 34, 35, 36, 37, 38, 39, 40, 41, 42, 43, 44, 45, 46, 47] (by decide +kernel) (by decide +kernel)
set_option maxRecDepth 20000 in
theorem gX9_placed_X9_sheeted : GoodIn wsX9_placed (wsV RX9 122 RX9 yX9_sheeted wsX9_sheeted) := goodIn_app (goodIn_of _ (by decide +kernel)) ggX9_placed_X9_sheeted
theorem dX9_placed_5 : decode cX9_placed 5 = .ok (.istore_n 3, 1) := by decide +kernel
theorem dX9_placed_6 : decode cX9_placed 6 = .ok (.iload_n 3, 1) := by decide +kernel
theorem dX9_placed_7 : decode cX9_placed 7 = .ok (.ifCond .le 7, 3) := by decide +kernel
theorem dX9_placed_10 : decode cX9_placed 10 = .ok (.iload_n 3, 1) := by decide +kernel
theorem dX9_placed_11 : decode cX9_placed 11 = .ok (.goto 22, 3) := by decide +kernel
theorem dX9_placed_33 : decode cX9_placed 33 = .ok (.ireturn, 1) := by decide +kernel
theorem dX9_isShut_0 : decode cX9_isShut 0 = .ok (.aload_n 0, 1) := by decide +kernel
theorem dX9_isShut_1 : decode cX9_isShut 1 = .ok (.getfield 38, 3) := by decide +kernel
theorem dX9_isShut_4 : decode cX9_isShut 4 = .ok (.iload_n 1, 1) := by decide +kernel
theorem dX9_isShut_5 : decode cX9_isShut 5 = .ok (.iload_n 2, 1) := by decide +kernel
theorem dX9_isShut_6 : decode cX9_isShut 6 = .ok (.invokestatic 144, 3) := by decide +kernel
set_option maxRecDepth 20000 in
theorem ggX9_isShut_X9_squareOf : GoodIn wsX9_isShut wsX9_squareOf := goodIn_r _ [5] (by decide +kernel) (by decide +kernel)
set_option maxRecDepth 20000 in
theorem gX9_isShut_X9_squareOf : GoodIn wsX9_isShut (va_wsS RX9 144 yX9_squareOf wsX9_squareOf) := goodIn_app (goodIn_of _ (by decide +kernel)) ggX9_isShut_X9_squareOf
theorem dX9_isShut_9 : decode cX9_isShut 9 = .ok (.baload, 1) := by decide +kernel
theorem dX9_isShut_10 : decode cX9_isShut 10 = .ok (.ireturn, 1) := by decide +kernel
theorem dX9_isIn_0 : decode cX9_isIn 0 = .ok (.iload_n 1, 1) := by decide +kernel
theorem dX9_isIn_1 : decode cX9_isIn 1 = .ok (.tableswitch 91 1 4 #[31, 41, 59, 73], 31) := by decide +kernel
theorem dX9_isIn_92 : decode cX9_isIn 92 = .ok (.iconst 1, 1) := by decide +kernel
theorem dX9_isIn_93 : decode cX9_isIn 93 = .ok (.ireturn, 1) := by decide +kernel
theorem dX9_isIn_32 : decode cX9_isIn 32 = .ok (.iload_n 3, 1) := by decide +kernel
theorem dX9_isIn_33 : decode cX9_isIn 33 = .ok (.ifCond .lt 7, 3) := by decide +kernel
theorem dX9_isIn_40 : decode cX9_isIn 40 = .ok (.iconst 0, 1) := by decide +kernel
theorem dX9_isIn_41 : decode cX9_isIn 41 = .ok (.ireturn, 1) := by decide +kernel
theorem dX9_isIn_36 : decode cX9_isIn 36 = .ok (.iconst 1, 1) := by decide +kernel
theorem dX9_isIn_37 : decode cX9_isIn 37 = .ok (.goto 4, 3) := by decide +kernel
theorem dX9_isIn_42 : decode cX9_isIn 42 = .ok (.iload_n 3, 1) := by decide +kernel
theorem dX9_isIn_43 : decode cX9_isIn 43 = .ok (.ifCond .lt 15, 3) := by decide +kernel
theorem dX9_isIn_58 : decode cX9_isIn 58 = .ok (.iconst 0, 1) := by decide +kernel
theorem dX9_isIn_59 : decode cX9_isIn 59 = .ok (.ireturn, 1) := by decide +kernel
theorem dX9_isIn_46 : decode cX9_isIn 46 = .ok (.iload_n 3, 1) := by decide +kernel
theorem dX9_isIn_47 : decode cX9_isIn 47 = .ok (.aload_n 0, 1) := by decide +kernel
theorem dX9_isIn_48 : decode cX9_isIn 48 = .ok (.getfield 23, 3) := by decide +kernel
theorem dX9_isIn_51 : decode cX9_isIn 51 = .ok (.if_icmp .gt 7, 3) := by decide +kernel
theorem dX9_isIn_54 : decode cX9_isIn 54 = .ok (.iconst 1, 1) := by decide +kernel
theorem dX9_isIn_55 : decode cX9_isIn 55 = .ok (.goto 4, 3) := by decide +kernel
theorem dX9_isIn_60 : decode cX9_isIn 60 = .ok (.iload_n 2, 1) := by decide +kernel
theorem dX9_isIn_61 : decode cX9_isIn 61 = .ok (.ifCond .lt 11, 3) := by decide +kernel
theorem dX9_isIn_72 : decode cX9_isIn 72 = .ok (.iconst 0, 1) := by decide +kernel
theorem dX9_isIn_73 : decode cX9_isIn 73 = .ok (.ireturn, 1) := by decide +kernel
theorem dX9_isIn_64 : decode cX9_isIn 64 = .ok (.iload_n 3, 1) := by decide +kernel
theorem dX9_isIn_65 : decode cX9_isIn 65 = .ok (.ifCond .lt 7, 3) := by decide +kernel
theorem dX9_isIn_68 : decode cX9_isIn 68 = .ok (.iconst 1, 1) := by decide +kernel
theorem dX9_isIn_69 : decode cX9_isIn 69 = .ok (.goto 4, 3) := by decide +kernel
theorem dX9_isIn_74 : decode cX9_isIn 74 = .ok (.iload_n 2, 1) := by decide +kernel
theorem dX9_isIn_75 : decode cX9_isIn 75 = .ok (.ifCond .lt 15, 3) := by decide +kernel
theorem dX9_isIn_90 : decode cX9_isIn 90 = .ok (.iconst 0, 1) := by decide +kernel
theorem dX9_isIn_91 : decode cX9_isIn 91 = .ok (.ireturn, 1) := by decide +kernel
theorem dX9_isIn_78 : decode cX9_isIn 78 = .ok (.iload_n 2, 1) := by decide +kernel
theorem dX9_isIn_79 : decode cX9_isIn 79 = .ok (.aload_n 0, 1) := by decide +kernel
theorem dX9_isIn_80 : decode cX9_isIn 80 = .ok (.getfield 26, 3) := by decide +kernel
theorem dX9_isIn_83 : decode cX9_isIn 83 = .ok (.if_icmp .ge 7, 3) := by decide +kernel
theorem dX9_isIn_86 : decode cX9_isIn 86 = .ok (.iconst 1, 1) := by decide +kernel
theorem dX9_isIn_87 : decode cX9_isIn 87 = .ok (.goto 4, 3) := by decide +kernel
theorem dX9_isOpen_0 : decode cX9_isOpen 0 = .ok (.iload_n 1, 1) := by decide +kernel
theorem dX9_isOpen_1 : decode cX9_isOpen 1 = .ok (.iload_n 2, 1) := by decide +kernel
theorem dX9_isOpen_2 : decode cX9_isOpen 2 = .ok (.invokestatic 133, 3) := by decide +kernel
set_option maxRecDepth 20000 in
theorem ggX9_isOpen_X9_isSquare : GoodIn wsX9_isOpen wsX9_isSquare := goodIn_r _ [6] (by decide +kernel) (by decide +kernel)
set_option maxRecDepth 20000 in
theorem gX9_isOpen_X9_isSquare : GoodIn wsX9_isOpen (va_wsS RX9 133 yX9_isSquare wsX9_isSquare) := goodIn_app (goodIn_of _ (by decide +kernel)) ggX9_isOpen_X9_isSquare
theorem dX9_isOpen_5 : decode cX9_isOpen 5 = .ok (.ifCond .eq 33, 3) := by decide +kernel
theorem dX9_isOpen_38 : decode cX9_isOpen 38 = .ok (.iconst 0, 1) := by decide +kernel
theorem dX9_isOpen_39 : decode cX9_isOpen 39 = .ok (.ireturn, 1) := by decide +kernel
theorem dX9_isOpen_8 : decode cX9_isOpen 8 = .ok (.aload_n 0, 1) := by decide +kernel
theorem dX9_isOpen_9 : decode cX9_isOpen 9 = .ok (.aload_n 0, 1) := by decide +kernel
theorem dX9_isOpen_10 : decode cX9_isOpen 10 = .ok (.getfield 137, 3) := by decide +kernel
theorem dX9_isOpen_13 : decode cX9_isOpen 13 = .ok (.iload_n 1, 1) := by decide +kernel
theorem dX9_isOpen_14 : decode cX9_isOpen 14 = .ok (.iload_n 2, 1) := by decide +kernel
theorem dX9_isOpen_15 : decode cX9_isOpen 15 = .ok (.invokevirtual 140, 3) := by decide +kernel
set_option maxRecDepth 20000 in
theorem ggX9_isOpen_X9_isIn : GoodIn wsX9_isOpen wsX9_isIn := goodIn_r _ [10, 11, 12, 16, 17, 18, 19, 20, 21, 22, 23, 24, 25, 26, 27, 28, 29, 30, 31, 32, 33, 34, 35, 36, 37, 38, 39, 40, 41, 42, 43, 44, 45, 46, 47, 48, 49, 50, 51, 52, 53, 54, 55, 56] (by decide +kernel) (by decide +kernel)
set_option maxRecDepth 20000 in
theorem gX9_isOpen_X9_isIn : GoodIn wsX9_isOpen (wsV RX9 140 RX9 yX9_isIn wsX9_isIn) := goodIn_app (goodIn_of _ (by decide +kernel)) ggX9_isOpen_X9_isIn
theorem dX9_isOpen_18 : decode cX9_isOpen 18 = .ok (.ifCond .eq 20, 3) := by decide +kernel
theorem dX9_isOpen_21 : decode cX9_isOpen 21 = .ok (.aload_n 0, 1) := by decide +kernel
theorem dX9_isOpen_22 : decode cX9_isOpen 22 = .ok (.getfield 38, 3) := by decide +kernel
theorem dX9_isOpen_25 : decode cX9_isOpen 25 = .ok (.iload_n 1, 1) := by decide +kernel
theorem dX9_isOpen_26 : decode cX9_isOpen 26 = .ok (.iload_n 2, 1) := by decide +kernel
theorem dX9_isOpen_27 : decode cX9_isOpen 27 = .ok (.invokestatic 144, 3) := by decide +kernel
set_option maxRecDepth 20000 in
theorem ggX9_isOpen_X9_squareOf : GoodIn wsX9_isOpen wsX9_squareOf := goodIn_r _ [15] (by decide +kernel) (by decide +kernel)
set_option maxRecDepth 20000 in
theorem gX9_isOpen_X9_squareOf : GoodIn wsX9_isOpen (va_wsS RX9 144 yX9_squareOf wsX9_squareOf) := goodIn_app (goodIn_of _ (by decide +kernel)) ggX9_isOpen_X9_squareOf
theorem dX9_isOpen_30 : decode cX9_isOpen 30 = .ok (.baload, 1) := by decide +kernel
theorem dX9_isOpen_31 : decode cX9_isOpen 31 = .ok (.ifCond .ne 7, 3) := by decide +kernel
theorem dX9_isOpen_34 : decode cX9_isOpen 34 = .ok (.iconst 1, 1) := by decide +kernel
theorem dX9_isOpen_35 : decode cX9_isOpen 35 = .ok (.goto 4, 3) := by decide +kernel
theorem dX9_sheet_0 : decode cX9_sheet 0 = .ok (.aload_n 0, 1) := by decide +kernel
theorem dX9_sheet_1 : decode cX9_sheet 1 = .ok (.iconst 0, 1) := by decide +kernel
theorem dX9_sheet_2 : decode cX9_sheet 2 = .ok (.putfield 112, 3) := by decide +kernel
theorem dX9_sheet_5 : decode cX9_sheet 5 = .ok (.aload_n 0, 1) := by decide +kernel
theorem dX9_sheet_6 : decode cX9_sheet 6 = .ok (.iconst 0, 1) := by decide +kernel
theorem dX9_sheet_7 : decode cX9_sheet 7 = .ok (.putfield 115, 3) := by decide +kernel
theorem dX9_sheet_10 : decode cX9_sheet 10 = .ok (.iload_n 1, 1) := by decide +kernel
theorem dX9_sheet_11 : decode cX9_sheet 11 = .ok (.ifCond .lt 17, 3) := by decide +kernel
theorem dX9_sheet_28 : decode cX9_sheet 28 = .ok (.aload_n 0, 1) := by decide +kernel
theorem dX9_sheet_29 : decode cX9_sheet 29 = .ok (.iconst 1, 1) := by decide +kernel
theorem dX9_sheet_30 : decode cX9_sheet 30 = .ok (.invokevirtual 118, 3) := by decide +kernel
set_option maxRecDepth 20000 in
theorem ggX9_sheet_X9_no : GoodIn wsX9_sheet wsX9_no := goodIn_r _ [10, 2, 11, 12, 13, 14, 15, 16, 17, 18, 19, 20, 21, 22, 23, 24, 25, 26, 27, 28, 29, 30, 31, 32, 33, 34, 35, 36, 37, 38, 39, 40, 41, 42, 43, 44, 45, 46, 47, 48, 49, 50, 51] (by decide +kernel) (by decide +kernel)
set_option maxRecDepth 20000 in
theorem gX9_sheet_X9_no : GoodIn wsX9_sheet (wsV RX9 118 RX9 yX9_no wsX9_no) := goodIn_app (goodIn_of _ (by decide +kernel)) ggX9_sheet_X9_no
theorem dX9_sheet_33 : decode cX9_sheet 33 = .ok (.ireturn, 1) := by decide +kernel
theorem dX9_sheet_14 : decode cX9_sheet 14 = .ok (.iload_n 1, 1) := by decide +kernel
theorem dX9_sheet_15 : decode cX9_sheet 15 = .ok (.iconst 4, 1) := by decide +kernel
theorem dX9_sheet_16 : decode cX9_sheet 16 = .ok (.if_icmp .ge 12, 3) := by decide +kernel
theorem dX9_sheet_19 : decode cX9_sheet 19 = .ok (.iload_n 2, 1) := by decide +kernel
theorem dX9_sheet_20 : decode cX9_sheet 20 = .ok (.ifCond .lt 8, 3) := by decide +kernel
theorem dX9_sheet_23 : decode cX9_sheet 23 = .ok (.iload_n 2, 1) := by decide +kernel
theorem dX9_sheet_24 : decode cX9_sheet 24 = .ok (.iconst 2, 1) := by decide +kernel
theorem dX9_sheet_25 : decode cX9_sheet 25 = .ok (.if_icmp .le 9, 3) := by decide +kernel
theorem dX9_sheet_34 : decode cX9_sheet 34 = .ok (.iload_n 3, 1) := by decide +kernel
theorem dX9_sheet_35 : decode cX9_sheet 35 = .ok (.bipush 64, 2) := by decide +kernel
theorem dX9_sheet_37 : decode cX9_sheet 37 = .ok (.if_icmp .le 9, 3) := by decide +kernel
theorem dX9_sheet_46 : decode cX9_sheet 46 = .ok (.iload_n 3, 1) := by decide +kernel
theorem dX9_sheet_47 : decode cX9_sheet 47 = .ok (.ifCond .ge 10, 3) := by decide +kernel
theorem dX9_sheet_57 : decode cX9_sheet 57 = .ok (.aload_n 0, 1) := by decide +kernel
theorem dX9_sheet_58 : decode cX9_sheet 58 = .ok (.getfield 7, 3) := by decide +kernel
theorem dX9_sheet_61 : decode cX9_sheet 61 = .ok (.iload_n 1, 1) := by decide +kernel
theorem dX9_sheet_62 : decode cX9_sheet 62 = .ok (.iload_n 2, 1) := by decide +kernel
theorem dX9_sheet_63 : decode cX9_sheet 63 = .ok (.iastore, 1) := by decide +kernel
theorem dX9_sheet_64 : decode cX9_sheet 64 = .ok (.aload_n 0, 1) := by decide +kernel
theorem dX9_sheet_65 : decode cX9_sheet 65 = .ok (.getfield 13, 3) := by decide +kernel
theorem dX9_sheet_68 : decode cX9_sheet 68 = .ok (.iload_n 1, 1) := by decide +kernel
theorem dX9_sheet_69 : decode cX9_sheet 69 = .ok (.iload_n 3, 1) := by decide +kernel
theorem dX9_sheet_70 : decode cX9_sheet 70 = .ok (.iastore, 1) := by decide +kernel
theorem dX9_sheet_71 : decode cX9_sheet 71 = .ok (.iconst 0, 1) := by decide +kernel
theorem dX9_sheet_72 : decode cX9_sheet 72 = .ok (.istore 4, 2) := by decide +kernel
theorem dX9_sheet_74 : decode cX9_sheet 74 = .ok (.iload 4, 2) := by decide +kernel
theorem dX9_sheet_76 : decode cX9_sheet 76 = .ok (.iload_n 3, 1) := by decide +kernel
theorem dX9_sheet_77 : decode cX9_sheet 77 = .ok (.if_icmp .ge 22, 3) := by decide +kernel
theorem dX9_sheet_99 : decode cX9_sheet 99 = .ok (.iconst 1, 1) := by decide +kernel
theorem dX9_sheet_100 : decode cX9_sheet 100 = .ok (.ireturn, 1) := by decide +kernel
theorem dX9_sheet_80 : decode cX9_sheet 80 = .ok (.aload_n 0, 1) := by decide +kernel
theorem dX9_sheet_81 : decode cX9_sheet 81 = .ok (.getfield 16, 3) := by decide +kernel
theorem dX9_sheet_84 : decode cX9_sheet 84 = .ok (.bipush 64, 2) := by decide +kernel
theorem dX9_sheet_86 : decode cX9_sheet 86 = .ok (.iload_n 1, 1) := by decide +kernel
theorem dX9_sheet_87 : decode cX9_sheet 87 = .ok (.imul, 1) := by decide +kernel
theorem dX9_sheet_88 : decode cX9_sheet 88 = .ok (.iload 4, 2) := by decide +kernel
theorem dX9_sheet_90 : decode cX9_sheet 90 = .ok (.iadd, 1) := by decide +kernel
theorem dX9_sheet_91 : decode cX9_sheet 91 = .ok (.iconst 0, 1) := by decide +kernel
theorem dX9_sheet_92 : decode cX9_sheet 92 = .ok (.iastore, 1) := by decide +kernel
theorem dX9_sheet_93 : decode cX9_sheet 93 = .ok (.iinc 4 1, 3) := by decide +kernel
theorem dX9_sheet_96 : decode cX9_sheet 96 = .ok (.goto (-22), 3) := by decide +kernel
theorem dX9_sheet_50 : decode cX9_sheet 50 = .ok (.aload_n 0, 1) := by decide +kernel
theorem dX9_sheet_51 : decode cX9_sheet 51 = .ok (.bipush 6, 2) := by decide +kernel
theorem dX9_sheet_53 : decode cX9_sheet 53 = .ok (.invokevirtual 118, 3) := by decide +kernel
theorem dX9_sheet_56 : decode cX9_sheet 56 = .ok (.ireturn, 1) := by decide +kernel
theorem dX9_sheet_40 : decode cX9_sheet 40 = .ok (.aload_n 0, 1) := by decide +kernel
theorem dX9_sheet_41 : decode cX9_sheet 41 = .ok (.iconst 2, 1) := by decide +kernel
theorem dX9_sheet_42 : decode cX9_sheet 42 = .ok (.invokevirtual 118, 3) := by decide +kernel
theorem dX9_sheet_45 : decode cX9_sheet 45 = .ok (.ireturn, 1) := by decide +kernel
theorem dX9_write_0 : decode cX9_write 0 = .ok (.aload_n 0, 1) := by decide +kernel
theorem dX9_write_1 : decode cX9_write 1 = .ok (.iconst 0, 1) := by decide +kernel
theorem dX9_write_2 : decode cX9_write 2 = .ok (.putfield 112, 3) := by decide +kernel
theorem dX9_write_5 : decode cX9_write 5 = .ok (.aload_n 0, 1) := by decide +kernel
theorem dX9_write_6 : decode cX9_write 6 = .ok (.aload_n 0, 1) := by decide +kernel
theorem dX9_write_7 : decode cX9_write 7 = .ok (.iload_n 1, 1) := by decide +kernel
theorem dX9_write_8 : decode cX9_write 8 = .ok (.iload_n 2, 1) := by decide +kernel
theorem dX9_write_9 : decode cX9_write 9 = .ok (.invokevirtual 126, 3) := by decide +kernel
set_option maxRecDepth 20000 in
theorem ggX9_write_X9_placed : GoodIn wsX9_write wsX9_placed := goodIn_r _ [9, 10, 11, 12, 13, 8, 14, 18, 19, 20, 21, 22, 23, 24, 25, 26, 27, 28, 29, 30, 31, 32, 33, 34, 35, 36, 37, 38, 39, 40, 41, 42, 43, 44, 45, 46, 47, 48, 49, 50, 51, 52, 53, 54, 55, 56, 57, 58] (by decide +kernel) (by decide +kernel)
set_option maxRecDepth 20000 in
theorem gX9_write_X9_placed : GoodIn wsX9_write (wsV RX9 126 RX9 yX9_placed wsX9_placed) := goodIn_app (goodIn_of _ (by decide +kernel)) ggX9_write_X9_placed
theorem dX9_write_12 : decode cX9_write 12 = .ok (.putfield 115, 3) := by decide +kernel
theorem dX9_write_15 : decode cX9_write 15 = .ok (.aload_n 0, 1) := by decide +kernel
theorem dX9_write_16 : decode cX9_write 16 = .ok (.getfield 115, 3) := by decide +kernel
theorem dX9_write_19 : decode cX9_write 19 = .ok (.ifCond .le 5, 3) := by decide +kernel
theorem dX9_write_22 : decode cX9_write 22 = .ok (.iconst 0, 1) := by decide +kernel
theorem dX9_write_23 : decode cX9_write 23 = .ok (.ireturn, 1) := by decide +kernel
theorem dX9_read_0 : decode cX9_read 0 = .ok (.aload_n 0, 1) := by decide +kernel
theorem dX9_read_1 : decode cX9_read 1 = .ok (.iconst 0, 1) := by decide +kernel
theorem dX9_read_2 : decode cX9_read 2 = .ok (.putfield 112, 3) := by decide +kernel
theorem dX9_read_5 : decode cX9_read 5 = .ok (.aload_n 0, 1) := by decide +kernel
theorem dX9_read_6 : decode cX9_read 6 = .ok (.aload_n 0, 1) := by decide +kernel
theorem dX9_read_7 : decode cX9_read 7 = .ok (.iload_n 1, 1) := by decide +kernel
theorem dX9_read_8 : decode cX9_read 8 = .ok (.iload_n 2, 1) := by decide +kernel
theorem dX9_read_9 : decode cX9_read 9 = .ok (.invokevirtual 126, 3) := by decide +kernel
set_option maxRecDepth 20000 in
theorem ggX9_read_X9_placed : GoodIn wsX9_read wsX9_placed := goodIn_r _ [8, 9, 10, 11, 12, 7, 13, 14, 15, 16, 17, 18, 19, 20, 21, 22, 23, 24, 25, 26, 27, 28, 29, 30, 31, 32, 33, 34, 35, 36, 37, 38, 39, 40, 41, 42, 43, 44, 45, 46, 47, 48, 49, 50, 51, 52, 53, 54] (by decide +kernel) (by decide +kernel)
set_option maxRecDepth 20000 in
theorem gX9_read_X9_placed : GoodIn wsX9_read (wsV RX9 126 RX9 yX9_placed wsX9_placed) := goodIn_app (goodIn_of _ (by decide +kernel)) ggX9_read_X9_placed
theorem dX9_read_12 : decode cX9_read 12 = .ok (.putfield 115, 3) := by decide +kernel
theorem dX9_read_15 : decode cX9_read 15 = .ok (.aload_n 0, 1) := by decide +kernel
theorem dX9_read_16 : decode cX9_read 16 = .ok (.getfield 115, 3) := by decide +kernel
theorem dX9_read_19 : decode cX9_read 19 = .ok (.ifCond .le 7, 3) := by decide +kernel
theorem dX9_read_22 : decode cX9_read 22 = .ok (.iconst (-1), 1) := by decide +kernel
theorem dX9_read_23 : decode cX9_read 23 = .ok (.goto 14, 3) := by decide +kernel
theorem dX9_read_37 : decode cX9_read 37 = .ok (.ireturn, 1) := by decide +kernel
theorem dX9_pour_0 : decode cX9_pour 0 = .ok (.aload_n 0, 1) := by decide +kernel
theorem dX9_pour_1 : decode cX9_pour 1 = .ok (.iconst 0, 1) := by decide +kernel
theorem dX9_pour_2 : decode cX9_pour 2 = .ok (.putfield 112, 3) := by decide +kernel
theorem dX9_pour_5 : decode cX9_pour 5 = .ok (.aload_n 0, 1) := by decide +kernel
theorem dX9_pour_6 : decode cX9_pour 6 = .ok (.iconst 0, 1) := by decide +kernel
theorem dX9_pour_7 : decode cX9_pour 7 = .ok (.putfield 115, 3) := by decide +kernel
theorem dX9_pour_10 : decode cX9_pour 10 = .ok (.iload_n 1, 1) := by decide +kernel
theorem dX9_pour_11 : decode cX9_pour 11 = .ok (.ifCond .lt 17, 3) := by decide +kernel
theorem dX9_pour_28 : decode cX9_pour 28 = .ok (.aload_n 0, 1) := by decide +kernel
theorem dX9_pour_29 : decode cX9_pour 29 = .ok (.iconst 1, 1) := by decide +kernel
theorem dX9_pour_30 : decode cX9_pour 30 = .ok (.invokevirtual 118, 3) := by decide +kernel
set_option maxRecDepth 20000 in
theorem ggX9_pour_X9_no : GoodIn wsX9_pour wsX9_no := goodIn_r _ [10, 2, 11, 12, 13, 14, 15, 16, 17, 18, 19, 20, 21, 22, 23, 24, 25, 26, 27, 28, 29, 30, 31, 32, 33, 34, 35, 36, 37, 38, 39, 40, 41, 42, 43, 44, 45, 46, 47, 48, 49, 50, 51] (by decide +kernel) (by decide +kernel)
set_option maxRecDepth 20000 in
theorem gX9_pour_X9_no : GoodIn wsX9_pour (wsV RX9 118 RX9 yX9_no wsX9_no) := goodIn_app (goodIn_of _ (by decide +kernel)) ggX9_pour_X9_no
theorem dX9_pour_33 : decode cX9_pour 33 = .ok (.ireturn, 1) := by decide +kernel
theorem dX9_pour_14 : decode cX9_pour 14 = .ok (.iload_n 1, 1) := by decide +kernel
theorem dX9_pour_15 : decode cX9_pour 15 = .ok (.iconst 4, 1) := by decide +kernel
theorem dX9_pour_16 : decode cX9_pour 16 = .ok (.if_icmp .ge 12, 3) := by decide +kernel
theorem dX9_pour_19 : decode cX9_pour 19 = .ok (.iload_n 3, 1) := by decide +kernel
theorem dX9_pour_20 : decode cX9_pour 20 = .ok (.ifCond .lt 8, 3) := by decide +kernel
theorem dX9_pour_23 : decode cX9_pour 23 = .ok (.iload_n 3, 1) := by decide +kernel
theorem dX9_pour_24 : decode cX9_pour 24 = .ok (.iconst 4, 1) := by decide +kernel
theorem dX9_pour_25 : decode cX9_pour 25 = .ok (.if_icmp .lt 9, 3) := by decide +kernel
theorem dX9_pour_34 : decode cX9_pour 34 = .ok (.aload_n 0, 1) := by decide +kernel
theorem dX9_pour_35 : decode cX9_pour 35 = .ok (.getfield 13, 3) := by decide +kernel
theorem dX9_pour_38 : decode cX9_pour 38 = .ok (.iload_n 1, 1) := by decide +kernel
theorem dX9_pour_39 : decode cX9_pour 39 = .ok (.iaload, 1) := by decide +kernel
theorem dX9_pour_40 : decode cX9_pour 40 = .ok (.ifCond .lt 12, 3) := by decide +kernel
theorem dX9_pour_52 : decode cX9_pour 52 = .ok (.aload_n 0, 1) := by decide +kernel
theorem dX9_pour_53 : decode cX9_pour 53 = .ok (.iconst 3, 1) := by decide +kernel
theorem dX9_pour_54 : decode cX9_pour 54 = .ok (.invokevirtual 118, 3) := by decide +kernel
theorem dX9_pour_57 : decode cX9_pour 57 = .ok (.ireturn, 1) := by decide +kernel
theorem dX9_steps_0 : decode cX9_steps 0 = .ok (.aload_n 0, 1) := by decide +kernel
theorem dX9_steps_1 : decode cX9_steps 1 = .ok (.iconst 0, 1) := by decide +kernel
theorem dX9_steps_2 : decode cX9_steps 2 = .ok (.putfield 112, 3) := by decide +kernel
theorem dX9_steps_5 : decode cX9_steps 5 = .ok (.aload_n 0, 1) := by decide +kernel
theorem dX9_steps_6 : decode cX9_steps 6 = .ok (.aload_n 0, 1) := by decide +kernel
theorem dX9_steps_7 : decode cX9_steps 7 = .ok (.iload_n 1, 1) := by decide +kernel
theorem dX9_steps_8 : decode cX9_steps 8 = .ok (.invokevirtual 122, 3) := by decide +kernel
set_option maxRecDepth 20000 in
theorem ggX9_steps_X9_sheeted : GoodIn wsX9_steps wsX9_sheeted := goodIn_r _ [13, 3, 18, 19, 20, 21, 22, 23, 24, 25, 26, 27, 28, 29, 30, 31, 32, 33, 34, 35, 36, 37, 38, 39, 40, 41, 42, 43, 44, 45, 46, 47, 48, 49, 50, 51, 52, 53, 54, 55, 56, 57, 58] (by decide +kernel) (by decide +kernel)
set_option maxRecDepth 20000 in
theorem gX9_steps_X9_sheeted : GoodIn wsX9_steps (wsV RX9 122 RX9 yX9_sheeted wsX9_sheeted) := goodIn_app (goodIn_of _ (by decide +kernel)) ggX9_steps_X9_sheeted
theorem dX9_steps_11 : decode cX9_steps 11 = .ok (.putfield 115, 3) := by decide +kernel
theorem dX9_steps_14 : decode cX9_steps 14 = .ok (.aload_n 0, 1) := by decide +kernel
theorem dX9_steps_15 : decode cX9_steps 15 = .ok (.getfield 115, 3) := by decide +kernel
theorem dX9_steps_18 : decode cX9_steps 18 = .ok (.ifCond .le 5, 3) := by decide +kernel
theorem dX9_steps_21 : decode cX9_steps 21 = .ok (.iconst 0, 1) := by decide +kernel
theorem dX9_steps_22 : decode cX9_steps 22 = .ok (.ireturn, 1) := by decide +kernel
theorem dX9_wall_0 : decode cX9_wall 0 = .ok (.aload_n 0, 1) := by decide +kernel
theorem dX9_wall_1 : decode cX9_wall 1 = .ok (.iconst 0, 1) := by decide +kernel
theorem dX9_wall_2 : decode cX9_wall 2 = .ok (.putfield 112, 3) := by decide +kernel
theorem dX9_wall_5 : decode cX9_wall 5 = .ok (.aload_n 0, 1) := by decide +kernel
theorem dX9_wall_6 : decode cX9_wall 6 = .ok (.aload_n 0, 1) := by decide +kernel
theorem dX9_wall_7 : decode cX9_wall 7 = .ok (.iload_n 1, 1) := by decide +kernel
theorem dX9_wall_8 : decode cX9_wall 8 = .ok (.invokevirtual 122, 3) := by decide +kernel
set_option maxRecDepth 20000 in
theorem ggX9_wall_X9_sheeted : GoodIn wsX9_wall wsX9_sheeted := goodIn_r _ [11, 4, 22, 23, 24, 25, 26, 27, 28, 29, 30, 31, 32, 33, 34, 35, 36, 37, 38, 39, 40, 41, 42, 43, 44, 45, 46, 47, 48, 49, 50, 51, 52, 53, 54, 55, 56, 57, 58, 59, 60, 61, 62] (by decide +kernel) (by decide +kernel)
set_option maxRecDepth 20000 in
theorem gX9_wall_X9_sheeted : GoodIn wsX9_wall (wsV RX9 122 RX9 yX9_sheeted wsX9_sheeted) := goodIn_app (goodIn_of _ (by decide +kernel)) ggX9_wall_X9_sheeted
theorem dX9_wall_11 : decode cX9_wall 11 = .ok (.putfield 115, 3) := by decide +kernel
theorem dX9_wall_14 : decode cX9_wall 14 = .ok (.aload_n 0, 1) := by decide +kernel
theorem dX9_wall_15 : decode cX9_wall 15 = .ok (.getfield 115, 3) := by decide +kernel
theorem dX9_wall_18 : decode cX9_wall 18 = .ok (.ifCond .le 5, 3) := by decide +kernel
theorem dX9_wall_21 : decode cX9_wall 21 = .ok (.iconst (-1), 1) := by decide +kernel
theorem dX9_wall_22 : decode cX9_wall 22 = .ok (.ireturn, 1) := by decide +kernel
theorem dX9_number_0 : decode cX9_number 0 = .ok (.aload_n 0, 1) := by decide +kernel
theorem dX9_number_1 : decode cX9_number 1 = .ok (.iconst 0, 1) := by decide +kernel
theorem dX9_number_2 : decode cX9_number 2 = .ok (.putfield 112, 3) := by decide +kernel
theorem dX9_number_5 : decode cX9_number 5 = .ok (.aload_n 0, 1) := by decide +kernel
theorem dX9_number_6 : decode cX9_number 6 = .ok (.iconst 0, 1) := by decide +kernel
theorem dX9_number_7 : decode cX9_number 7 = .ok (.putfield 115, 3) := by decide +kernel
theorem dX9_number_10 : decode cX9_number 10 = .ok (.iload_n 1, 1) := by decide +kernel
theorem dX9_number_11 : decode cX9_number 11 = .ok (.ifCond .lt 8, 3) := by decide +kernel
theorem dX9_number_19 : decode cX9_number 19 = .ok (.aload_n 0, 1) := by decide +kernel
theorem dX9_number_20 : decode cX9_number 20 = .ok (.iconst 1, 1) := by decide +kernel
theorem dX9_number_21 : decode cX9_number 21 = .ok (.invokevirtual 156, 3) := by decide +kernel
set_option maxRecDepth 20000 in
theorem ggX9_number_X9_refuse : GoodIn wsX9_number wsX9_refuse := goodIn_r _ [16, 2, 62, 63, 64, 65, 66, 67, 68, 69, 70, 71, 72, 73, 74, 75, 76, 77, 78, 79, 80, 81, 82, 83, 84, 85, 86, 87, 88, 89, 90, 91, 92, 93, 94, 95, 96, 97, 98, 99, 100, 101, 102] (by decide +kernel) (by decide +kernel)
set_option maxRecDepth 20000 in
theorem gX9_number_X9_refuse : GoodIn wsX9_number (wsV RX9 156 RX9 yX9_refuse wsX9_refuse) := goodIn_app (goodIn_of _ (by decide +kernel)) ggX9_number_X9_refuse
theorem dX9_number_24 : decode cX9_number 24 = .ok (.i2l, 1) := by decide +kernel
theorem dX9_number_25 : decode cX9_number 25 = .ok (.lreturn, 1) := by decide +kernel
theorem dX9_number_14 : decode cX9_number 14 = .ok (.iload_n 1, 1) := by decide +kernel
theorem dX9_number_15 : decode cX9_number 15 = .ok (.iconst 4, 1) := by decide +kernel
theorem dX9_number_16 : decode cX9_number 16 = .ok (.if_icmp .lt 10, 3) := by decide +kernel
theorem dX9_number_26 : decode cX9_number 26 = .ok (.iload_n 2, 1) := by decide +kernel
theorem dX9_number_27 : decode cX9_number 27 = .ok (.ifCond .lt 9, 3) := by decide +kernel
theorem dX9_number_36 : decode cX9_number 36 = .ok (.aload_n 0, 1) := by decide +kernel
theorem dX9_number_37 : decode cX9_number 37 = .ok (.iconst 2, 1) := by decide +kernel
theorem dX9_number_38 : decode cX9_number 38 = .ok (.invokevirtual 156, 3) := by decide +kernel
theorem dX9_number_41 : decode cX9_number 41 = .ok (.i2l, 1) := by decide +kernel
theorem dX9_number_42 : decode cX9_number 42 = .ok (.lreturn, 1) := by decide +kernel
theorem dX9_number_30 : decode cX9_number 30 = .ok (.iload_n 2, 1) := by decide +kernel
theorem dX9_number_31 : decode cX9_number 31 = .ok (.bipush 60, 2) := by decide +kernel
theorem dX9_number_33 : decode cX9_number 33 = .ok (.if_icmp .le 10, 3) := by decide +kernel
theorem dX9_number_43 : decode cX9_number 43 = .ok (.aload_n 0, 1) := by decide +kernel
theorem dX9_number_44 : decode cX9_number 44 = .ok (.getfield 13, 3) := by decide +kernel
theorem dX9_number_47 : decode cX9_number 47 = .ok (.iload_n 1, 1) := by decide +kernel
theorem dX9_number_48 : decode cX9_number 48 = .ok (.iaload, 1) := by decide +kernel
theorem dX9_number_49 : decode cX9_number 49 = .ok (.ifCond .ge 10, 3) := by decide +kernel
theorem dX9_number_52 : decode cX9_number 52 = .ok (.aload_n 0, 1) := by decide +kernel
theorem dX9_number_53 : decode cX9_number 53 = .ok (.iconst 3, 1) := by decide +kernel
theorem dX9_number_54 : decode cX9_number 54 = .ok (.invokevirtual 156, 3) := by decide +kernel
theorem dX9_number_57 : decode cX9_number 57 = .ok (.i2l, 1) := by decide +kernel
theorem dX9_number_58 : decode cX9_number 58 = .ok (.lreturn, 1) := by decide +kernel
theorem dX9_order_0 : decode cX9_order 0 = .ok (.aload_n 0, 1) := by decide +kernel
theorem dX9_order_1 : decode cX9_order 1 = .ok (.iconst 0, 1) := by decide +kernel
theorem dX9_order_2 : decode cX9_order 2 = .ok (.putfield 112, 3) := by decide +kernel
theorem dX9_order_5 : decode cX9_order 5 = .ok (.aload_n 0, 1) := by decide +kernel
theorem dX9_order_6 : decode cX9_order 6 = .ok (.iconst 0, 1) := by decide +kernel
theorem dX9_order_7 : decode cX9_order 7 = .ok (.putfield 115, 3) := by decide +kernel
theorem dX9_order_10 : decode cX9_order 10 = .ok (.iload_n 1, 1) := by decide +kernel
theorem dX9_order_11 : decode cX9_order 11 = .ok (.ifCond .lt 8, 3) := by decide +kernel
theorem dX9_order_19 : decode cX9_order 19 = .ok (.aload_n 0, 1) := by decide +kernel
theorem dX9_order_20 : decode cX9_order 20 = .ok (.iconst 1, 1) := by decide +kernel
theorem dX9_order_21 : decode cX9_order 21 = .ok (.invokevirtual 156, 3) := by decide +kernel
set_option maxRecDepth 20000 in
theorem ggX9_order_X9_refuse : GoodIn wsX9_order wsX9_refuse := goodIn_r _ [9, 2, 19, 20, 21, 22, 23, 24, 25, 26, 27, 28, 29, 30, 31, 32, 33, 34, 35, 36, 37, 38, 39, 40, 41, 42, 43, 44, 45, 46, 47, 48, 49, 50, 51, 52, 53, 54, 55, 56, 57, 58, 59] (by decide +kernel) (by decide +kernel)
set_option maxRecDepth 20000 in
theorem gX9_order_X9_refuse : GoodIn wsX9_order (wsV RX9 156 RX9 yX9_refuse wsX9_refuse) := goodIn_app (goodIn_of _ (by decide +kernel)) ggX9_order_X9_refuse
theorem dX9_order_24 : decode cX9_order 24 = .ok (.i2l, 1) := by decide +kernel
theorem dX9_order_25 : decode cX9_order 25 = .ok (.lreturn, 1) := by decide +kernel
theorem dX9_order_14 : decode cX9_order 14 = .ok (.iload_n 1, 1) := by decide +kernel
theorem dX9_order_15 : decode cX9_order 15 = .ok (.iconst 4, 1) := by decide +kernel
theorem dX9_order_16 : decode cX9_order 16 = .ok (.if_icmp .lt 10, 3) := by decide +kernel
theorem dX9_order_26 : decode cX9_order 26 = .ok (.iload_n 2, 1) := by decide +kernel
theorem dX9_order_27 : decode cX9_order 27 = .ok (.ifCond .lt 15, 3) := by decide +kernel
theorem dX9_order_42 : decode cX9_order 42 = .ok (.aload_n 0, 1) := by decide +kernel
theorem dX9_order_43 : decode cX9_order 43 = .ok (.iconst 2, 1) := by decide +kernel
theorem dX9_order_44 : decode cX9_order 44 = .ok (.invokevirtual 156, 3) := by decide +kernel
theorem dX9_order_47 : decode cX9_order 47 = .ok (.i2l, 1) := by decide +kernel
theorem dX9_order_48 : decode cX9_order 48 = .ok (.lreturn, 1) := by decide +kernel
theorem dX9_order_30 : decode cX9_order 30 = .ok (.iload_n 2, 1) := by decide +kernel
theorem dX9_order_31 : decode cX9_order 31 = .ok (.bipush 60, 2) := by decide +kernel
theorem dX9_order_33 : decode cX9_order 33 = .ok (.if_icmp .gt 9, 3) := by decide +kernel
theorem dX9_order_36 : decode cX9_order 36 = .ok (.iload_n 2, 1) := by decide +kernel
theorem dX9_order_37 : decode cX9_order 37 = .ok (.iconst 2, 1) := by decide +kernel
theorem dX9_order_38 : decode cX9_order 38 = .ok (.irem, 1) := by decide +kernel
theorem dX9_order_39 : decode cX9_order 39 = .ok (.ifCond .eq 10, 3) := by decide +kernel
theorem dX9_order_49 : decode cX9_order 49 = .ok (.aload_n 0, 1) := by decide +kernel
theorem dX9_order_50 : decode cX9_order 50 = .ok (.getfield 13, 3) := by decide +kernel
theorem dX9_order_53 : decode cX9_order 53 = .ok (.iload_n 1, 1) := by decide +kernel
theorem dX9_order_54 : decode cX9_order 54 = .ok (.iaload, 1) := by decide +kernel
theorem dX9_order_55 : decode cX9_order 55 = .ok (.ifCond .ge 10, 3) := by decide +kernel
theorem dX9_order_58 : decode cX9_order 58 = .ok (.aload_n 0, 1) := by decide +kernel
theorem dX9_order_59 : decode cX9_order 59 = .ok (.iconst 3, 1) := by decide +kernel
theorem dX9_order_60 : decode cX9_order 60 = .ok (.invokevirtual 156, 3) := by decide +kernel
theorem dX9_order_63 : decode cX9_order 63 = .ok (.i2l, 1) := by decide +kernel
theorem dX9_order_64 : decode cX9_order 64 = .ok (.lreturn, 1) := by decide +kernel
theorem dX9_told_0 : decode cX9_told 0 = .ok (.aload_n 0, 1) := by decide +kernel
theorem dX9_told_1 : decode cX9_told 1 = .ok (.iconst 0, 1) := by decide +kernel
theorem dX9_told_2 : decode cX9_told 2 = .ok (.putfield 112, 3) := by decide +kernel
theorem dX9_told_5 : decode cX9_told 5 = .ok (.aload_n 0, 1) := by decide +kernel
theorem dX9_told_6 : decode cX9_told 6 = .ok (.iconst 0, 1) := by decide +kernel
theorem dX9_told_7 : decode cX9_told 7 = .ok (.putfield 115, 3) := by decide +kernel
theorem dX9_told_10 : decode cX9_told 10 = .ok (.iload_n 1, 1) := by decide +kernel
theorem dX9_told_11 : decode cX9_told 11 = .ok (.ifCond .lt 11, 3) := by decide +kernel
theorem dX9_told_22 : decode cX9_told 22 = .ok (.aload_n 0, 1) := by decide +kernel
theorem dX9_told_23 : decode cX9_told 23 = .ok (.bipush 8, 2) := by decide +kernel
theorem dX9_told_25 : decode cX9_told 25 = .ok (.invokevirtual 118, 3) := by decide +kernel
set_option maxRecDepth 20000 in
theorem ggX9_told_X9_no : GoodIn wsX9_told wsX9_no := goodIn_r _ [9, 2, 10, 11, 12, 13, 14, 15, 16, 17, 18, 19, 20, 21, 22, 23, 24, 25, 26, 27, 28, 29, 30, 31, 32, 33, 34, 35, 36, 37, 38, 39, 40, 41, 42, 43, 44, 45, 46, 47, 48, 49, 50] (by decide +kernel) (by decide +kernel)
set_option maxRecDepth 20000 in
theorem gX9_told_X9_no : GoodIn wsX9_told (wsV RX9 118 RX9 yX9_no wsX9_no) := goodIn_app (goodIn_of _ (by decide +kernel)) ggX9_told_X9_no
theorem dX9_told_28 : decode cX9_told 28 = .ok (.ireturn, 1) := by decide +kernel
theorem dX9_told_14 : decode cX9_told 14 = .ok (.iload_n 1, 1) := by decide +kernel
theorem dX9_told_15 : decode cX9_told 15 = .ok (.aload_n 0, 1) := by decide +kernel
theorem dX9_told_16 : decode cX9_told 16 = .ok (.getfield 19, 3) := by decide +kernel
theorem dX9_told_19 : decode cX9_told 19 = .ok (.if_icmp .lt 10, 3) := by decide +kernel
theorem dX9_told_29 : decode cX9_told 29 = .ok (.iload_n 2, 1) := by decide +kernel
theorem dX9_told_30 : decode cX9_told 30 = .ok (.ifCond .lt 9, 3) := by decide +kernel
theorem dX9_told_39 : decode cX9_told 39 = .ok (.aload_n 0, 1) := by decide +kernel
theorem dX9_told_40 : decode cX9_told 40 = .ok (.iconst 2, 1) := by decide +kernel
theorem dX9_told_41 : decode cX9_told 41 = .ok (.invokevirtual 118, 3) := by decide +kernel
theorem dX9_told_44 : decode cX9_told 44 = .ok (.ireturn, 1) := by decide +kernel
theorem dX9_told_33 : decode cX9_told 33 = .ok (.iload_n 2, 1) := by decide +kernel
theorem dX9_told_34 : decode cX9_told 34 = .ok (.bipush 9, 2) := by decide +kernel
theorem dX9_told_36 : decode cX9_told 36 = .ok (.if_icmp .le 9, 3) := by decide +kernel
theorem dX9_told_45 : decode cX9_told 45 = .ok (.aload_n 0, 1) := by decide +kernel
theorem dX9_told_46 : decode cX9_told 46 = .ok (.getfield 35, 3) := by decide +kernel
theorem dX9_told_49 : decode cX9_told 49 = .ok (.iload_n 1, 1) := by decide +kernel
theorem dX9_told_50 : decode cX9_told 50 = .ok (.iload_n 2, 1) := by decide +kernel
theorem dX9_told_51 : decode cX9_told 51 = .ok (.iastore, 1) := by decide +kernel
theorem dX9_told_52 : decode cX9_told 52 = .ok (.iconst 1, 1) := by decide +kernel
theorem dX9_told_53 : decode cX9_told 53 = .ok (.ireturn, 1) := by decide +kernel
theorem dX9_step_0 : decode cX9_step 0 = .ok (.aload_n 0, 1) := by decide +kernel
theorem dX9_step_1 : decode cX9_step 1 = .ok (.iconst 0, 1) := by decide +kernel
theorem dX9_step_2 : decode cX9_step 2 = .ok (.putfield 112, 3) := by decide +kernel
theorem dX9_step_5 : decode cX9_step 5 = .ok (.aload_n 0, 1) := by decide +kernel
theorem dX9_step_6 : decode cX9_step 6 = .ok (.iconst 0, 1) := by decide +kernel
theorem dX9_step_7 : decode cX9_step 7 = .ok (.putfield 115, 3) := by decide +kernel
theorem dX9_step_10 : decode cX9_step 10 = .ok (.iload_n 2, 1) := by decide +kernel
theorem dX9_step_11 : decode cX9_step 11 = .ok (.ifCond .lt 8, 3) := by decide +kernel
theorem dX9_step_19 : decode cX9_step 19 = .ok (.aload_n 0, 1) := by decide +kernel
theorem dX9_step_20 : decode cX9_step 20 = .ok (.iconst 2, 1) := by decide +kernel
theorem dX9_step_21 : decode cX9_step 21 = .ok (.invokevirtual 156, 3) := by decide +kernel
set_option maxRecDepth 20000 in
theorem ggX9_step_X9_refuse : GoodIn wsX9_step wsX9_refuse := goodIn_r _ [11, 2, 12, 13, 14, 15, 16, 17, 18, 19, 20, 21, 22, 23, 24, 25, 26, 27, 28, 29, 30, 31, 32, 33, 34, 35, 36, 37, 38, 39, 40, 41, 42, 43, 44, 45, 46, 47, 48, 49, 50, 51, 52] (by decide +kernel) (by decide +kernel)
set_option maxRecDepth 20000 in
theorem gX9_step_X9_refuse : GoodIn wsX9_step (wsV RX9 156 RX9 yX9_refuse wsX9_refuse) := goodIn_app (goodIn_of _ (by decide +kernel)) ggX9_step_X9_refuse
theorem dX9_step_24 : decode cX9_step 24 = .ok (.ireturn, 1) := by decide +kernel
theorem dX9_step_14 : decode cX9_step 14 = .ok (.iload_n 2, 1) := by decide +kernel
theorem dX9_step_15 : decode cX9_step 15 = .ok (.iconst 2, 1) := by decide +kernel
theorem dX9_step_16 : decode cX9_step 16 = .ok (.if_icmp .le 9, 3) := by decide +kernel
theorem dX9_step_25 : decode cX9_step 25 = .ok (.iload_n 1, 1) := by decide +kernel
theorem dX9_step_26 : decode cX9_step 26 = .ok (.ifCond .lt 11, 3) := by decide +kernel
theorem dX9_step_37 : decode cX9_step 37 = .ok (.aload_n 0, 1) := by decide +kernel
theorem dX9_step_38 : decode cX9_step 38 = .ok (.bipush 8, 2) := by decide +kernel
theorem dX9_step_40 : decode cX9_step 40 = .ok (.invokevirtual 156, 3) := by decide +kernel
theorem dX9_step_43 : decode cX9_step 43 = .ok (.ireturn, 1) := by decide +kernel
theorem dX9_step_29 : decode cX9_step 29 = .ok (.iload_n 1, 1) := by decide +kernel
theorem dX9_step_30 : decode cX9_step 30 = .ok (.aload_n 0, 1) := by decide +kernel
theorem dX9_step_31 : decode cX9_step 31 = .ok (.getfield 19, 3) := by decide +kernel
theorem dX9_step_34 : decode cX9_step 34 = .ok (.if_icmp .lt 10, 3) := by decide +kernel
theorem dX9_step_44 : decode cX9_step 44 = .ok (.iload_n 2, 1) := by decide +kernel
theorem dX9_step_45 : decode cX9_step 45 = .ok (.ifCond .ne 12, 3) := by decide +kernel
theorem dX9_step_57 : decode cX9_step 57 = .ok (.iload_n 2, 1) := by decide +kernel
theorem dX9_step_58 : decode cX9_step 58 = .ok (.iconst 1, 1) := by decide +kernel
theorem dX9_step_59 : decode cX9_step 59 = .ok (.if_icmp .ne 12, 3) := by decide +kernel
theorem dX9_step_71 : decode cX9_step 71 = .ok (.aload_n 0, 1) := by decide +kernel
theorem dX9_step_72 : decode cX9_step 72 = .ok (.getfield 35, 3) := by decide +kernel
theorem dX9_step_75 : decode cX9_step 75 = .ok (.iload_n 1, 1) := by decide +kernel
theorem dX9_step_76 : decode cX9_step 76 = .ok (.iaload, 1) := by decide +kernel
theorem dX9_step_77 : decode cX9_step 77 = .ok (.ireturn, 1) := by decide +kernel
theorem dX9_step_62 : decode cX9_step 62 = .ok (.aload_n 0, 1) := by decide +kernel
theorem dX9_step_63 : decode cX9_step 63 = .ok (.getfield 32, 3) := by decide +kernel
theorem dX9_step_66 : decode cX9_step 66 = .ok (.iload_n 1, 1) := by decide +kernel
theorem dX9_step_67 : decode cX9_step 67 = .ok (.iaload, 1) := by decide +kernel
theorem dX9_step_68 : decode cX9_step 68 = .ok (.goto 9, 3) := by decide +kernel
theorem dX9_step_48 : decode cX9_step 48 = .ok (.aload_n 0, 1) := by decide +kernel
theorem dX9_step_49 : decode cX9_step 49 = .ok (.getfield 29, 3) := by decide +kernel
theorem dX9_step_52 : decode cX9_step 52 = .ok (.iload_n 1, 1) := by decide +kernel
theorem dX9_step_53 : decode cX9_step 53 = .ok (.iaload, 1) := by decide +kernel
theorem dX9_step_54 : decode cX9_step 54 = .ok (.goto 23, 3) := by decide +kernel
theorem dX9_kind_0 : decode cX9_kind 0 = .ok (.aload_n 0, 1) := by decide +kernel
theorem dX9_kind_1 : decode cX9_kind 1 = .ok (.iconst 0, 1) := by decide +kernel
theorem dX9_kind_2 : decode cX9_kind 2 = .ok (.putfield 112, 3) := by decide +kernel
theorem dX9_kind_5 : decode cX9_kind 5 = .ok (.aload_n 0, 1) := by decide +kernel
theorem dX9_kind_6 : decode cX9_kind 6 = .ok (.iconst 0, 1) := by decide +kernel
theorem dX9_kind_7 : decode cX9_kind 7 = .ok (.putfield 115, 3) := by decide +kernel
theorem dX9_kind_10 : decode cX9_kind 10 = .ok (.iload_n 1, 1) := by decide +kernel
theorem dX9_kind_11 : decode cX9_kind 11 = .ok (.iconst 2, 1) := by decide +kernel
theorem dX9_kind_12 : decode cX9_kind 12 = .ok (.if_icmp .ne 21, 3) := by decide +kernel
theorem dX9_kind_33 : decode cX9_kind 33 = .ok (.iload_n 1, 1) := by decide +kernel
theorem dX9_kind_34 : decode cX9_kind 34 = .ok (.iconst 4, 1) := by decide +kernel
theorem dX9_kind_35 : decode cX9_kind 35 = .ok (.if_icmp .ne 22, 3) := by decide +kernel
theorem dX9_kind_57 : decode cX9_kind 57 = .ok (.iload_n 1, 1) := by decide +kernel
theorem dX9_kind_58 : decode cX9_kind 58 = .ok (.ifCond .lt 16, 3) := by decide +kernel
theorem dX9_kind_74 : decode cX9_kind 74 = .ok (.iconst 0, 1) := by decide +kernel
theorem dX9_kind_75 : decode cX9_kind 75 = .ok (.istore_n 3, 1) := by decide +kernel
theorem dX9_kind_76 : decode cX9_kind 76 = .ok (.iload_n 3, 1) := by decide +kernel
theorem dX9_kind_77 : decode cX9_kind 77 = .ok (.ifCond .ne 9, 3) := by decide +kernel
theorem dX9_kind_80 : decode cX9_kind 80 = .ok (.aload_n 0, 1) := by decide +kernel
theorem dX9_kind_81 : decode cX9_kind 81 = .ok (.iconst 2, 1) := by decide +kernel
theorem dX9_kind_82 : decode cX9_kind 82 = .ok (.invokevirtual 118, 3) := by decide +kernel
set_option maxRecDepth 20000 in
theorem ggX9_kind_X9_no : GoodIn wsX9_kind wsX9_no := goodIn_r _ [10, 2, 11, 12, 13, 14, 15, 16, 17, 18, 19, 20, 21, 22, 23, 24, 25, 26, 27, 28, 29, 30, 31, 32, 33, 34, 35, 36, 37, 38, 39, 40, 41, 42, 43, 44, 45, 46, 47, 48, 49, 50, 51] (by decide +kernel) (by decide +kernel)
set_option maxRecDepth 20000 in
theorem gX9_kind_X9_no : GoodIn wsX9_kind (wsV RX9 118 RX9 yX9_no wsX9_no) := goodIn_app (goodIn_of _ (by decide +kernel)) ggX9_kind_X9_no
theorem dX9_kind_85 : decode cX9_kind 85 = .ok (.ireturn, 1) := by decide +kernel
theorem dX9_kind_61 : decode cX9_kind 61 = .ok (.iload_n 1, 1) := by decide +kernel
theorem dX9_kind_62 : decode cX9_kind 62 = .ok (.iconst 4, 1) := by decide +kernel
theorem dX9_kind_63 : decode cX9_kind 63 = .ok (.if_icmp .ge 11, 3) := by decide +kernel
theorem dX9_kind_66 : decode cX9_kind 66 = .ok (.iload_n 2, 1) := by decide +kernel
theorem dX9_kind_67 : decode cX9_kind 67 = .ok (.ifCond .ne 7, 3) := by decide +kernel
theorem dX9_kind_70 : decode cX9_kind 70 = .ok (.iconst 1, 1) := by decide +kernel
theorem dX9_kind_71 : decode cX9_kind 71 = .ok (.goto 4, 3) := by decide +kernel
theorem dX9_kind_86 : decode cX9_kind 86 = .ok (.aload_n 0, 1) := by decide +kernel
theorem dX9_kind_87 : decode cX9_kind 87 = .ok (.iload_n 1, 1) := by decide +kernel
theorem dX9_kind_88 : decode cX9_kind 88 = .ok (.putfield 137, 3) := by decide +kernel
theorem dX9_kind_91 : decode cX9_kind 91 = .ok (.iload_n 1, 1) := by decide +kernel
theorem dX9_kind_92 : decode cX9_kind 92 = .ok (.iconst 2, 1) := by decide +kernel
theorem dX9_kind_93 : decode cX9_kind 93 = .ok (.if_icmp .ne 8, 3) := by decide +kernel
theorem dX9_kind_101 : decode cX9_kind 101 = .ok (.iload_n 1, 1) := by decide +kernel
theorem dX9_kind_102 : decode cX9_kind 102 = .ok (.iconst 4, 1) := by decide +kernel
theorem dX9_kind_103 : decode cX9_kind 103 = .ok (.if_icmp .ne 8, 3) := by decide +kernel
theorem dX9_kind_111 : decode cX9_kind 111 = .ok (.iconst 1, 1) := by decide +kernel
theorem dX9_kind_112 : decode cX9_kind 112 = .ok (.ireturn, 1) := by decide +kernel
theorem dX9_kind_38 : decode cX9_kind 38 = .ok (.iload_n 2, 1) := by decide +kernel
theorem dX9_kind_39 : decode cX9_kind 39 = .ok (.iconst 1, 1) := by decide +kernel
theorem dX9_kind_40 : decode cX9_kind 40 = .ok (.if_icmp .lt 13, 3) := by decide +kernel
theorem dX9_kind_53 : decode cX9_kind 53 = .ok (.iconst 0, 1) := by decide +kernel
theorem dX9_kind_54 : decode cX9_kind 54 = .ok (.goto 21, 3) := by decide +kernel
theorem dX9_kind_43 : decode cX9_kind 43 = .ok (.iload_n 2, 1) := by decide +kernel
theorem dX9_kind_44 : decode cX9_kind 44 = .ok (.bipush 30, 2) := by decide +kernel
theorem dX9_kind_46 : decode cX9_kind 46 = .ok (.if_icmp .gt 7, 3) := by decide +kernel
theorem dX9_kind_49 : decode cX9_kind 49 = .ok (.iconst 1, 1) := by decide +kernel
theorem dX9_kind_50 : decode cX9_kind 50 = .ok (.goto 25, 3) := by decide +kernel
theorem dX9_kind_106 : decode cX9_kind 106 = .ok (.aload_n 0, 1) := by decide +kernel
theorem dX9_kind_107 : decode cX9_kind 107 = .ok (.iload_n 2, 1) := by decide +kernel
theorem dX9_kind_108 : decode cX9_kind 108 = .ok (.putfield 26, 3) := by decide +kernel
theorem dX9_kind_15 : decode cX9_kind 15 = .ok (.iload_n 2, 1) := by decide +kernel
theorem dX9_kind_16 : decode cX9_kind 16 = .ok (.ifCond .lt 13, 3) := by decide +kernel
theorem dX9_kind_29 : decode cX9_kind 29 = .ok (.iconst 0, 1) := by decide +kernel
theorem dX9_kind_30 : decode cX9_kind 30 = .ok (.goto 45, 3) := by decide +kernel
theorem dX9_kind_19 : decode cX9_kind 19 = .ok (.iload_n 2, 1) := by decide +kernel
theorem dX9_kind_20 : decode cX9_kind 20 = .ok (.bipush 30, 2) := by decide +kernel
theorem dX9_kind_22 : decode cX9_kind 22 = .ok (.if_icmp .gt 7, 3) := by decide +kernel
theorem dX9_kind_25 : decode cX9_kind 25 = .ok (.iconst 1, 1) := by decide +kernel
theorem dX9_kind_26 : decode cX9_kind 26 = .ok (.goto 49, 3) := by decide +kernel
theorem dX9_kind_96 : decode cX9_kind 96 = .ok (.aload_n 0, 1) := by decide +kernel
theorem dX9_kind_97 : decode cX9_kind 97 = .ok (.iload_n 2, 1) := by decide +kernel
theorem dX9_kind_98 : decode cX9_kind 98 = .ok (.putfield 23, 3) := by decide +kernel
theorem dX9_bar_0 : decode cX9_bar 0 = .ok (.aload_n 0, 1) := by decide +kernel
theorem dX9_bar_1 : decode cX9_bar 1 = .ok (.iconst 0, 1) := by decide +kernel
theorem dX9_bar_2 : decode cX9_bar 2 = .ok (.putfield 112, 3) := by decide +kernel
theorem dX9_bar_5 : decode cX9_bar 5 = .ok (.aload_n 0, 1) := by decide +kernel
theorem dX9_bar_6 : decode cX9_bar 6 = .ok (.iconst 0, 1) := by decide +kernel
theorem dX9_bar_7 : decode cX9_bar 7 = .ok (.putfield 115, 3) := by decide +kernel
theorem dX9_bar_10 : decode cX9_bar 10 = .ok (.iload_n 1, 1) := by decide +kernel
theorem dX9_bar_11 : decode cX9_bar 11 = .ok (.iload_n 2, 1) := by decide +kernel
theorem dX9_bar_12 : decode cX9_bar 12 = .ok (.invokestatic 133, 3) := by decide +kernel
set_option maxRecDepth 20000 in
theorem ggX9_bar_X9_isSquare : GoodIn wsX9_bar wsX9_isSquare := goodIn_r _ [7] (by decide +kernel) (by decide +kernel)
set_option maxRecDepth 20000 in
theorem gX9_bar_X9_isSquare : GoodIn wsX9_bar (va_wsS RX9 133 yX9_isSquare wsX9_isSquare) := goodIn_app (goodIn_of _ (by decide +kernel)) ggX9_bar_X9_isSquare
theorem dX9_bar_15 : decode cX9_bar 15 = .ok (.ifCond .ne 9, 3) := by decide +kernel
theorem dX9_bar_24 : decode cX9_bar 24 = .ok (.aload_n 0, 1) := by decide +kernel
theorem dX9_bar_25 : decode cX9_bar 25 = .ok (.getfield 38, 3) := by decide +kernel
theorem dX9_bar_28 : decode cX9_bar 28 = .ok (.iload_n 1, 1) := by decide +kernel
theorem dX9_bar_29 : decode cX9_bar 29 = .ok (.iload_n 2, 1) := by decide +kernel
theorem dX9_bar_30 : decode cX9_bar 30 = .ok (.invokestatic 144, 3) := by decide +kernel
set_option maxRecDepth 20000 in
theorem ggX9_bar_X9_squareOf : GoodIn wsX9_bar wsX9_squareOf := goodIn_r _ [14] (by decide +kernel) (by decide +kernel)
set_option maxRecDepth 20000 in
theorem gX9_bar_X9_squareOf : GoodIn wsX9_bar (va_wsS RX9 144 yX9_squareOf wsX9_squareOf) := goodIn_app (goodIn_of _ (by decide +kernel)) ggX9_bar_X9_squareOf
theorem dX9_bar_33 : decode cX9_bar 33 = .ok (.iload_n 3, 1) := by decide +kernel
theorem dX9_bar_34 : decode cX9_bar 34 = .ok (.bastore, 1) := by decide +kernel
theorem dX9_bar_35 : decode cX9_bar 35 = .ok (.iconst 1, 1) := by decide +kernel
theorem dX9_bar_36 : decode cX9_bar 36 = .ok (.ireturn, 1) := by decide +kernel
theorem dX9_bar_18 : decode cX9_bar 18 = .ok (.aload_n 0, 1) := by decide +kernel
theorem dX9_bar_19 : decode cX9_bar 19 = .ok (.iconst 2, 1) := by decide +kernel
theorem dX9_bar_20 : decode cX9_bar 20 = .ok (.invokevirtual 118, 3) := by decide +kernel
set_option maxRecDepth 20000 in
theorem ggX9_bar_X9_no : GoodIn wsX9_bar wsX9_no := goodIn_r _ [11, 2, 15, 16, 17, 18, 19, 20, 21, 22, 23, 24, 25, 26, 27, 28, 29, 30, 31, 32, 33, 34, 35, 36, 37, 38, 39, 40, 41, 42, 43, 44, 45, 46, 47, 48, 49, 50, 51, 52, 53, 54, 55] (by decide +kernel) (by decide +kernel)
set_option maxRecDepth 20000 in
theorem gX9_bar_X9_no : GoodIn wsX9_bar (wsV RX9 118 RX9 yX9_no wsX9_no) := goodIn_app (goodIn_of _ (by decide +kernel)) ggX9_bar_X9_no
theorem dX9_bar_23 : decode cX9_bar 23 = .ok (.ireturn, 1) := by decide +kernel
theorem dX9_from_0 : decode cX9_from 0 = .ok (.aload_n 0, 1) := by decide +kernel
theorem dX9_from_1 : decode cX9_from 1 = .ok (.iconst 0, 1) := by decide +kernel
theorem dX9_from_2 : decode cX9_from 2 = .ok (.putfield 112, 3) := by decide +kernel
theorem dX9_from_5 : decode cX9_from 5 = .ok (.aload_n 0, 1) := by decide +kernel
theorem dX9_from_6 : decode cX9_from 6 = .ok (.iconst 0, 1) := by decide +kernel
theorem dX9_from_7 : decode cX9_from 7 = .ok (.putfield 115, 3) := by decide +kernel
theorem dX9_from_10 : decode cX9_from 10 = .ok (.iload_n 1, 1) := by decide +kernel
theorem dX9_from_11 : decode cX9_from 11 = .ok (.iload_n 2, 1) := by decide +kernel
theorem dX9_from_12 : decode cX9_from 12 = .ok (.invokestatic 133, 3) := by decide +kernel
set_option maxRecDepth 20000 in
theorem ggX9_from_X9_isSquare : GoodIn wsX9_from wsX9_isSquare := goodIn_r _ [8] (by decide +kernel) (by decide +kernel)
set_option maxRecDepth 20000 in
theorem gX9_from_X9_isSquare : GoodIn wsX9_from (va_wsS RX9 133 yX9_isSquare wsX9_isSquare) := goodIn_app (goodIn_of _ (by decide +kernel)) ggX9_from_X9_isSquare
theorem dX9_from_15 : decode cX9_from 15 = .ok (.ifCond .ne 9, 3) := by decide +kernel
theorem dX9_from_24 : decode cX9_from 24 = .ok (.aload_n 0, 1) := by decide +kernel
theorem dX9_from_25 : decode cX9_from 25 = .ok (.iload_n 1, 1) := by decide +kernel
theorem dX9_from_26 : decode cX9_from 26 = .ok (.putfield 161, 3) := by decide +kernel
theorem dX9_from_29 : decode cX9_from 29 = .ok (.aload_n 0, 1) := by decide +kernel
theorem dX9_from_30 : decode cX9_from 30 = .ok (.iload_n 2, 1) := by decide +kernel
theorem dX9_from_31 : decode cX9_from 31 = .ok (.putfield 164, 3) := by decide +kernel
theorem dX9_from_34 : decode cX9_from 34 = .ok (.iconst 1, 1) := by decide +kernel
theorem dX9_from_35 : decode cX9_from 35 = .ok (.ireturn, 1) := by decide +kernel
theorem dX9_from_18 : decode cX9_from 18 = .ok (.aload_n 0, 1) := by decide +kernel
theorem dX9_from_19 : decode cX9_from 19 = .ok (.iconst 2, 1) := by decide +kernel
theorem dX9_from_20 : decode cX9_from 20 = .ok (.invokevirtual 118, 3) := by decide +kernel
set_option maxRecDepth 20000 in
theorem ggX9_from_X9_no : GoodIn wsX9_from wsX9_no := goodIn_r _ [12, 2, 13, 14, 15, 16, 17, 18, 19, 20, 21, 22, 23, 24, 25, 26, 27, 28, 29, 30, 31, 32, 33, 34, 35, 36, 37, 38, 39, 40, 41, 42, 43, 44, 45, 46, 47, 48, 49, 50, 51, 52, 53] (by decide +kernel) (by decide +kernel)
set_option maxRecDepth 20000 in
theorem gX9_from_X9_no : GoodIn wsX9_from (wsV RX9 118 RX9 yX9_no wsX9_no) := goodIn_app (goodIn_of _ (by decide +kernel)) ggX9_from_X9_no
theorem dX9_from_23 : decode cX9_from 23 = .ok (.ireturn, 1) := by decide +kernel
theorem dX9_to_0 : decode cX9_to 0 = .ok (.aload_n 0, 1) := by decide +kernel
theorem dX9_to_1 : decode cX9_to 1 = .ok (.iconst 0, 1) := by decide +kernel
theorem dX9_to_2 : decode cX9_to 2 = .ok (.putfield 112, 3) := by decide +kernel
theorem dX9_to_5 : decode cX9_to 5 = .ok (.aload_n 0, 1) := by decide +kernel
theorem dX9_to_6 : decode cX9_to 6 = .ok (.iconst 0, 1) := by decide +kernel
theorem dX9_to_7 : decode cX9_to 7 = .ok (.putfield 115, 3) := by decide +kernel
theorem dX9_to_10 : decode cX9_to 10 = .ok (.iload_n 1, 1) := by decide +kernel
theorem dX9_to_11 : decode cX9_to 11 = .ok (.iload_n 2, 1) := by decide +kernel
theorem dX9_to_12 : decode cX9_to 12 = .ok (.invokestatic 133, 3) := by decide +kernel
set_option maxRecDepth 20000 in
theorem ggX9_to_X9_isSquare : GoodIn wsX9_to wsX9_isSquare := goodIn_r _ [8] (by decide +kernel) (by decide +kernel)
set_option maxRecDepth 20000 in
theorem gX9_to_X9_isSquare : GoodIn wsX9_to (va_wsS RX9 133 yX9_isSquare wsX9_isSquare) := goodIn_app (goodIn_of _ (by decide +kernel)) ggX9_to_X9_isSquare
theorem dX9_to_15 : decode cX9_to 15 = .ok (.ifCond .ne 9, 3) := by decide +kernel
theorem dX9_to_24 : decode cX9_to 24 = .ok (.aload_n 0, 1) := by decide +kernel
theorem dX9_to_25 : decode cX9_to 25 = .ok (.iload_n 1, 1) := by decide +kernel
theorem dX9_to_26 : decode cX9_to 26 = .ok (.putfield 167, 3) := by decide +kernel
theorem dX9_to_29 : decode cX9_to 29 = .ok (.aload_n 0, 1) := by decide +kernel
theorem dX9_to_30 : decode cX9_to 30 = .ok (.iload_n 2, 1) := by decide +kernel
theorem dX9_to_31 : decode cX9_to 31 = .ok (.putfield 170, 3) := by decide +kernel
theorem dX9_to_34 : decode cX9_to 34 = .ok (.iconst 1, 1) := by decide +kernel
theorem dX9_to_35 : decode cX9_to 35 = .ok (.ireturn, 1) := by decide +kernel
theorem dX9_to_18 : decode cX9_to 18 = .ok (.aload_n 0, 1) := by decide +kernel
theorem dX9_to_19 : decode cX9_to 19 = .ok (.iconst 2, 1) := by decide +kernel
theorem dX9_to_20 : decode cX9_to 20 = .ok (.invokevirtual 118, 3) := by decide +kernel
set_option maxRecDepth 20000 in
theorem ggX9_to_X9_no : GoodIn wsX9_to wsX9_no := goodIn_r _ [12, 2, 13, 14, 15, 16, 17, 18, 19, 20, 21, 22, 23, 24, 25, 26, 27, 28, 29, 30, 31, 32, 33, 34, 35, 36, 37, 38, 39, 40, 41, 42, 43, 44, 45, 46, 47, 48, 49, 50, 51, 52, 53] (by decide +kernel) (by decide +kernel)
set_option maxRecDepth 20000 in
theorem gX9_to_X9_no : GoodIn wsX9_to (wsV RX9 118 RX9 yX9_no wsX9_no) := goodIn_app (goodIn_of _ (by decide +kernel)) ggX9_to_X9_no
theorem dX9_to_23 : decode cX9_to 23 = .ok (.ireturn, 1) := by decide +kernel
theorem dX9_open_0 : decode cX9_open 0 = .ok (.aload_n 0, 1) := by decide +kernel
theorem dX9_open_1 : decode cX9_open 1 = .ok (.iconst 0, 1) := by decide +kernel
theorem dX9_open_2 : decode cX9_open 2 = .ok (.putfield 112, 3) := by decide +kernel
theorem dX9_open_5 : decode cX9_open 5 = .ok (.aload_n 0, 1) := by decide +kernel
theorem dX9_open_6 : decode cX9_open 6 = .ok (.iconst 0, 1) := by decide +kernel
theorem dX9_open_7 : decode cX9_open 7 = .ok (.putfield 115, 3) := by decide +kernel
theorem dX9_open_10 : decode cX9_open 10 = .ok (.iload_n 1, 1) := by decide +kernel
theorem dX9_open_11 : decode cX9_open 11 = .ok (.iload_n 2, 1) := by decide +kernel
theorem dX9_open_12 : decode cX9_open 12 = .ok (.invokestatic 133, 3) := by decide +kernel
set_option maxRecDepth 20000 in
theorem ggX9_open_X9_isSquare : GoodIn wsX9_open wsX9_isSquare := goodIn_r _ [6] (by decide +kernel) (by decide +kernel)
set_option maxRecDepth 20000 in
theorem gX9_open_X9_isSquare : GoodIn wsX9_open (va_wsS RX9 133 yX9_isSquare wsX9_isSquare) := goodIn_app (goodIn_of _ (by decide +kernel)) ggX9_open_X9_isSquare
theorem dX9_open_15 : decode cX9_open 15 = .ok (.ifCond .ne 9, 3) := by decide +kernel
theorem dX9_open_24 : decode cX9_open 24 = .ok (.aload_n 0, 1) := by decide +kernel
theorem dX9_open_25 : decode cX9_open 25 = .ok (.iload_n 1, 1) := by decide +kernel
theorem dX9_open_26 : decode cX9_open 26 = .ok (.iload_n 2, 1) := by decide +kernel
theorem dX9_open_27 : decode cX9_open 27 = .ok (.invokevirtual 153, 3) := by decide +kernel
set_option maxRecDepth 20000 in
theorem ggX9_open_X9_isOpen : GoodIn wsX9_open wsX9_isOpen := goodIn_r _ [14, 15, 16, 3, 4, 5, 6, 17, 18, 19, 20, 21, 22, 23, 24, 25, 26, 27, 28, 29, 30, 31, 32, 33, 34, 35, 36, 37, 38, 39, 40, 41, 42, 43, 44, 45, 46, 47, 48, 49, 50, 51, 52, 53, 54, 55, 56, 57, 58, 59, 60, 61, 62, 63, 64, 65, 66] (by decide +kernel) (by decide +kernel)
set_option maxRecDepth 20000 in
theorem gX9_open_X9_isOpen : GoodIn wsX9_open (wsV RX9 153 RX9 yX9_isOpen wsX9_isOpen) := goodIn_app (goodIn_of _ (by decide +kernel)) ggX9_open_X9_isOpen
theorem dX9_open_30 : decode cX9_open 30 = .ok (.ifCond .eq 7, 3) := by decide +kernel
theorem dX9_open_37 : decode cX9_open 37 = .ok (.iconst 0, 1) := by decide +kernel
theorem dX9_open_38 : decode cX9_open 38 = .ok (.ireturn, 1) := by decide +kernel
theorem dX9_open_33 : decode cX9_open 33 = .ok (.iconst 1, 1) := by decide +kernel
theorem dX9_open_34 : decode cX9_open 34 = .ok (.goto 4, 3) := by decide +kernel
theorem dX9_open_18 : decode cX9_open 18 = .ok (.aload_n 0, 1) := by decide +kernel
theorem dX9_open_19 : decode cX9_open 19 = .ok (.iconst 2, 1) := by decide +kernel
theorem dX9_open_20 : decode cX9_open 20 = .ok (.invokevirtual 156, 3) := by decide +kernel
set_option maxRecDepth 20000 in
theorem ggX9_open_X9_refuse : GoodIn wsX9_open wsX9_refuse := goodIn_r _ [10, 2, 26, 27, 28, 29, 30, 31, 32, 33, 34, 35, 36, 37, 38, 39, 40, 41, 42, 43, 44, 45, 46, 47, 48, 49, 50, 51, 52, 53, 54, 55, 56, 57, 58, 59, 60, 61, 62, 63, 64, 65, 66] (by decide +kernel) (by decide +kernel)
set_option maxRecDepth 20000 in
theorem gX9_open_X9_refuse : GoodIn wsX9_open (wsV RX9 156 RX9 yX9_refuse wsX9_refuse) := goodIn_app (goodIn_of _ (by decide +kernel)) ggX9_open_X9_refuse
theorem dX9_open_23 : decode cX9_open 23 = .ok (.ireturn, 1) := by decide +kernel
theorem dX9_mirror_0 : decode cX9_mirror 0 = .ok (.aload_n 0, 1) := by decide +kernel
theorem dX9_mirror_1 : decode cX9_mirror 1 = .ok (.iconst 0, 1) := by decide +kernel
theorem dX9_mirror_2 : decode cX9_mirror 2 = .ok (.putfield 112, 3) := by decide +kernel
theorem dX9_mirror_5 : decode cX9_mirror 5 = .ok (.aload_n 0, 1) := by decide +kernel
theorem dX9_mirror_6 : decode cX9_mirror 6 = .ok (.iconst 0, 1) := by decide +kernel
theorem dX9_mirror_7 : decode cX9_mirror 7 = .ok (.putfield 115, 3) := by decide +kernel
theorem dX9_mirror_10 : decode cX9_mirror 10 = .ok (.iload_n 1, 1) := by decide +kernel
theorem dX9_mirror_11 : decode cX9_mirror 11 = .ok (.ifCond .lt 12, 3) := by decide +kernel
theorem dX9_mirror_23 : decode cX9_mirror 23 = .ok (.aload_n 0, 1) := by decide +kernel
theorem dX9_mirror_24 : decode cX9_mirror 24 = .ok (.iconst 2, 1) := by decide +kernel
theorem dX9_mirror_25 : decode cX9_mirror 25 = .ok (.invokevirtual 156, 3) := by decide +kernel
set_option maxRecDepth 20000 in
theorem ggX9_mirror_X9_refuse : GoodIn wsX9_mirror wsX9_refuse := goodIn_r _ [25, 2, 56, 57, 58, 59, 60, 61, 62, 63, 64, 65, 66, 67, 68, 69, 70, 71, 72, 73, 74, 75, 76, 77, 78, 79, 80, 81, 82, 83, 84, 85, 86, 87, 88, 89, 90, 91, 92, 93, 94, 95, 96] (by decide +kernel) (by decide +kernel)
set_option maxRecDepth 20000 in
theorem gX9_mirror_X9_refuse : GoodIn wsX9_mirror (wsV RX9 156 RX9 yX9_refuse wsX9_refuse) := goodIn_app (goodIn_of _ (by decide +kernel)) ggX9_mirror_X9_refuse
theorem dX9_mirror_28 : decode cX9_mirror 28 = .ok (.i2l, 1) := by decide +kernel
theorem dX9_mirror_29 : decode cX9_mirror 29 = .ok (.lreturn, 1) := by decide +kernel
theorem dX9_mirror_14 : decode cX9_mirror 14 = .ok (.iload_n 2, 1) := by decide +kernel
theorem dX9_mirror_15 : decode cX9_mirror 15 = .ok (.ifCond .lt 8, 3) := by decide +kernel
theorem dX9_mirror_18 : decode cX9_mirror 18 = .ok (.iload_n 2, 1) := by decide +kernel
theorem dX9_mirror_19 : decode cX9_mirror 19 = .ok (.iconst 1, 1) := by decide +kernel
theorem dX9_mirror_20 : decode cX9_mirror 20 = .ok (.if_icmp .le 10, 3) := by decide +kernel
theorem dX9_mirror_30 : decode cX9_mirror 30 = .ok (.aload_n 0, 1) := by decide +kernel
theorem dX9_mirror_31 : decode cX9_mirror 31 = .ok (.getfield 137, 3) := by decide +kernel
theorem dX9_mirror_34 : decode cX9_mirror 34 = .ok (.iconst 1, 1) := by decide +kernel
theorem dX9_mirror_35 : decode cX9_mirror 35 = .ok (.if_icmp .ne 10, 3) := by decide +kernel
theorem dX9_mirror_45 : decode cX9_mirror 45 = .ok (.aload_n 0, 1) := by decide +kernel
theorem dX9_mirror_46 : decode cX9_mirror 46 = .ok (.iconst 5, 1) := by decide +kernel
theorem dX9_mirror_47 : decode cX9_mirror 47 = .ok (.invokevirtual 156, 3) := by decide +kernel
theorem dX9_mirror_50 : decode cX9_mirror 50 = .ok (.i2l, 1) := by decide +kernel
theorem dX9_mirror_51 : decode cX9_mirror 51 = .ok (.lreturn, 1) := by decide +kernel
theorem dX9_falls_0 : decode cX9_falls 0 = .ok (.iload_n 1, 1) := by decide +kernel
theorem dX9_falls_1 : decode cX9_falls 1 = .ok (.iconst 1, 1) := by decide +kernel
theorem dX9_falls_2 : decode cX9_falls 2 = .ok (.if_icmp .lt 9, 3) := by decide +kernel
theorem dX9_falls_11 : decode cX9_falls 11 = .ok (.iconst 2, 1) := by decide +kernel
theorem dX9_falls_12 : decode cX9_falls 12 = .ok (.ireturn, 1) := by decide +kernel
theorem dX9_falls_5 : decode cX9_falls 5 = .ok (.iload_n 1, 1) := by decide +kernel
theorem dX9_falls_6 : decode cX9_falls 6 = .ok (.bipush 60, 2) := by decide +kernel
theorem dX9_falls_8 : decode cX9_falls 8 = .ok (.if_icmp .le 5, 3) := by decide +kernel
theorem dX9_falls_13 : decode cX9_falls 13 = .ok (.iconst 0, 1) := by decide +kernel
theorem dX9_falls_14 : decode cX9_falls 14 = .ok (.istore_n 2, 1) := by decide +kernel
theorem dX9_falls_15 : decode cX9_falls 15 = .ok (.iload_n 2, 1) := by decide +kernel
theorem dX9_falls_16 : decode cX9_falls 16 = .ok (.aload_n 0, 1) := by decide +kernel
theorem dX9_falls_17 : decode cX9_falls 17 = .ok (.getfield 19, 3) := by decide +kernel
theorem dX9_falls_20 : decode cX9_falls 20 = .ok (.if_icmp .ge 21, 3) := by decide +kernel
theorem dX9_falls_41 : decode cX9_falls 41 = .ok (.aload_n 0, 1) := by decide +kernel
theorem dX9_falls_42 : decode cX9_falls 42 = .ok (.getfield 164, 3) := by decide +kernel
theorem dX9_falls_45 : decode cX9_falls 45 = .ok (.ifCond .le 7, 3) := by decide +kernel
theorem dX9_falls_52 : decode cX9_falls 52 = .ok (.bipush 7, 2) := by decide +kernel
theorem dX9_falls_54 : decode cX9_falls 54 = .ok (.ireturn, 1) := by decide +kernel
theorem dX9_falls_23 : decode cX9_falls 23 = .ok (.aload_n 0, 1) := by decide +kernel
theorem dX9_falls_24 : decode cX9_falls 24 = .ok (.getfield 32, 3) := by decide +kernel
theorem dX9_falls_27 : decode cX9_falls 27 = .ok (.iload_n 2, 1) := by decide +kernel
theorem dX9_falls_28 : decode cX9_falls 28 = .ok (.iaload, 1) := by decide +kernel
theorem dX9_falls_29 : decode cX9_falls 29 = .ok (.iconst (-1), 1) := by decide +kernel
theorem dX9_falls_30 : decode cX9_falls 30 = .ok (.if_icmp .ge 5, 3) := by decide +kernel
theorem dX9_falls_35 : decode cX9_falls 35 = .ok (.iinc 2 1, 3) := by decide +kernel
theorem dX9_falls_38 : decode cX9_falls 38 = .ok (.goto (-23), 3) := by decide +kernel
theorem dX9_falls_33 : decode cX9_falls 33 = .ok (.iconst 5, 1) := by decide +kernel
theorem dX9_falls_34 : decode cX9_falls 34 = .ok (.ireturn, 1) := by decide +kernel
theorem dX9_first_0 : decode cX9_first 0 = .ok (.aload_n 0, 1) := by decide +kernel
theorem dX9_first_1 : decode cX9_first 1 = .ok (.iconst 0, 1) := by decide +kernel
theorem dX9_first_2 : decode cX9_first 2 = .ok (.putfield 112, 3) := by decide +kernel
theorem dX9_first_5 : decode cX9_first 5 = .ok (.aload_n 0, 1) := by decide +kernel
theorem dX9_first_6 : decode cX9_first 6 = .ok (.aload_n 0, 1) := by decide +kernel
theorem dX9_first_7 : decode cX9_first 7 = .ok (.iload_n 1, 1) := by decide +kernel
theorem dX9_first_8 : decode cX9_first 8 = .ok (.invokevirtual 262, 3) := by decide +kernel
set_option maxRecDepth 20000 in
theorem ggX9_first_X9_falls : GoodIn wsX9_first wsX9_falls := goodIn_r _ [9, 10, 11, 12, 26, 27, 28, 29, 30, 31, 32, 33, 34, 35, 36, 37, 38, 39, 40, 41, 42, 43, 44, 45, 46, 47, 48, 49, 50, 51, 52, 53, 54, 55, 56, 57, 58, 59, 60, 61, 62, 63, 64, 65, 66] (by decide +kernel) (by decide +kernel)
set_option maxRecDepth 20000 in
theorem gX9_first_X9_falls : GoodIn wsX9_first (wsV RX9 262 RX9 yX9_falls wsX9_falls) := goodIn_app (goodIn_of _ (by decide +kernel)) ggX9_first_X9_falls
theorem dX9_first_11 : decode cX9_first 11 = .ok (.putfield 115, 3) := by decide +kernel
theorem dX9_first_14 : decode cX9_first 14 = .ok (.aload_n 0, 1) := by decide +kernel
theorem dX9_first_15 : decode cX9_first 15 = .ok (.getfield 115, 3) := by decide +kernel
theorem dX9_first_18 : decode cX9_first 18 = .ok (.ifCond .le 7, 3) := by decide +kernel
theorem dX9_first_21 : decode cX9_first 21 = .ok (.ldc2_w 200, 3) := by decide +kernel
theorem dX9_first_24 : decode cX9_first 24 = .ok (.lreturn, 1) := by decide +kernel
theorem dX9_turnings_0 : decode cX9_turnings 0 = .ok (.aload_n 0, 1) := by decide +kernel
theorem dX9_turnings_1 : decode cX9_turnings 1 = .ok (.iconst 0, 1) := by decide +kernel
theorem dX9_turnings_2 : decode cX9_turnings 2 = .ok (.putfield 112, 3) := by decide +kernel
theorem dX9_turnings_5 : decode cX9_turnings 5 = .ok (.aload_n 0, 1) := by decide +kernel
theorem dX9_turnings_6 : decode cX9_turnings 6 = .ok (.aload_n 0, 1) := by decide +kernel
theorem dX9_turnings_7 : decode cX9_turnings 7 = .ok (.iload_n 1, 1) := by decide +kernel
theorem dX9_turnings_8 : decode cX9_turnings 8 = .ok (.invokevirtual 262, 3) := by decide +kernel
set_option maxRecDepth 20000 in
theorem ggX9_turnings_X9_falls : GoodIn wsX9_turnings wsX9_falls := goodIn_r _ [9, 10, 11, 12, 26, 27, 28, 29, 30, 31, 32, 33, 34, 35, 36, 37, 38, 39, 40, 41, 42, 43, 44, 45, 46, 47, 48, 49, 50, 51, 52, 53, 54, 55, 56, 57, 58, 59, 60, 61, 62, 63, 64, 65, 66] (by decide +kernel) (by decide +kernel)
set_option maxRecDepth 20000 in
theorem gX9_turnings_X9_falls : GoodIn wsX9_turnings (wsV RX9 262 RX9 yX9_falls wsX9_falls) := goodIn_app (goodIn_of _ (by decide +kernel)) ggX9_turnings_X9_falls
theorem dX9_turnings_11 : decode cX9_turnings 11 = .ok (.putfield 115, 3) := by decide +kernel
theorem dX9_turnings_14 : decode cX9_turnings 14 = .ok (.aload_n 0, 1) := by decide +kernel
theorem dX9_turnings_15 : decode cX9_turnings 15 = .ok (.getfield 115, 3) := by decide +kernel
theorem dX9_turnings_18 : decode cX9_turnings 18 = .ok (.ifCond .le 7, 3) := by decide +kernel
theorem dX9_turnings_21 : decode cX9_turnings 21 = .ok (.ldc2_w 200, 3) := by decide +kernel
theorem dX9_turnings_24 : decode cX9_turnings 24 = .ok (.lreturn, 1) := by decide +kernel
theorem dX9_family_0 : decode cX9_family 0 = .ok (.aload_n 0, 1) := by decide +kernel
theorem dX9_family_1 : decode cX9_family 1 = .ok (.iconst 0, 1) := by decide +kernel
theorem dX9_family_2 : decode cX9_family 2 = .ok (.putfield 112, 3) := by decide +kernel
theorem dX9_family_5 : decode cX9_family 5 = .ok (.aload_n 0, 1) := by decide +kernel
theorem dX9_family_6 : decode cX9_family 6 = .ok (.iconst 0, 1) := by decide +kernel
theorem dX9_family_7 : decode cX9_family 7 = .ok (.putfield 115, 3) := by decide +kernel
theorem dX9_family_10 : decode cX9_family 10 = .ok (.iload_n 1, 1) := by decide +kernel
theorem dX9_family_11 : decode cX9_family 11 = .ok (.iconst 1, 1) := by decide +kernel
theorem dX9_family_12 : decode cX9_family 12 = .ok (.if_icmp .lt 8, 3) := by decide +kernel
theorem dX9_family_20 : decode cX9_family 20 = .ok (.aload_n 0, 1) := by decide +kernel
theorem dX9_family_21 : decode cX9_family 21 = .ok (.iconst 2, 1) := by decide +kernel
theorem dX9_family_22 : decode cX9_family 22 = .ok (.invokevirtual 118, 3) := by decide +kernel
set_option maxRecDepth 20000 in
theorem ggX9_family_X9_no : GoodIn wsX9_family wsX9_no := goodIn_r _ [12, 2, 13, 14, 15, 16, 17, 18, 19, 20, 21, 22, 23, 24, 25, 26, 27, 28, 29, 30, 31, 32, 33, 34, 35, 36, 37, 38, 39, 40, 41, 42, 43, 44, 45, 46, 47, 48, 49, 50, 51, 52, 53] (by decide +kernel) (by decide +kernel)
set_option maxRecDepth 20000 in
theorem gX9_family_X9_no : GoodIn wsX9_family (wsV RX9 118 RX9 yX9_no wsX9_no) := goodIn_app (goodIn_of _ (by decide +kernel)) ggX9_family_X9_no
theorem dX9_family_25 : decode cX9_family 25 = .ok (.ireturn, 1) := by decide +kernel
theorem dX9_family_15 : decode cX9_family 15 = .ok (.iload_n 1, 1) := by decide +kernel
theorem dX9_family_16 : decode cX9_family 16 = .ok (.iconst 4, 1) := by decide +kernel
theorem dX9_family_17 : decode cX9_family 17 = .ok (.if_icmp .le 9, 3) := by decide +kernel
theorem dX9_family_26 : decode cX9_family 26 = .ok (.aload_n 0, 1) := by decide +kernel
theorem dX9_family_27 : decode cX9_family 27 = .ok (.iload_n 1, 1) := by decide +kernel
theorem dX9_family_28 : decode cX9_family 28 = .ok (.putfield 269, 3) := by decide +kernel
theorem dX9_family_31 : decode cX9_family 31 = .ok (.iconst 0, 1) := by decide +kernel
theorem dX9_family_32 : decode cX9_family 32 = .ok (.istore_n 2, 1) := by decide +kernel
theorem dX9_family_33 : decode cX9_family 33 = .ok (.iload_n 2, 1) := by decide +kernel
theorem dX9_family_34 : decode cX9_family 34 = .ok (.iconst 4, 1) := by decide +kernel
theorem dX9_family_35 : decode cX9_family 35 = .ok (.if_icmp .ge 37, 3) := by decide +kernel
theorem dX9_family_72 : decode cX9_family 72 = .ok (.iconst 1, 1) := by decide +kernel
theorem dX9_family_73 : decode cX9_family 73 = .ok (.ireturn, 1) := by decide +kernel
theorem dX9_family_38 : decode cX9_family 38 = .ok (.aload_n 0, 1) := by decide +kernel
theorem dX9_family_39 : decode cX9_family 39 = .ok (.getfield 60, 3) := by decide +kernel
theorem dX9_family_42 : decode cX9_family 42 = .ok (.iload_n 2, 1) := by decide +kernel
theorem dX9_family_43 : decode cX9_family 43 = .ok (.iconst 0, 1) := by decide +kernel
theorem dX9_family_44 : decode cX9_family 44 = .ok (.iastore, 1) := by decide +kernel
theorem dX9_family_45 : decode cX9_family 45 = .ok (.aload_n 0, 1) := by decide +kernel
theorem dX9_family_46 : decode cX9_family 46 = .ok (.getfield 63, 3) := by decide +kernel
theorem dX9_family_49 : decode cX9_family 49 = .ok (.iload_n 2, 1) := by decide +kernel
theorem dX9_family_50 : decode cX9_family 50 = .ok (.iconst 0, 1) := by decide +kernel
theorem dX9_family_51 : decode cX9_family 51 = .ok (.iastore, 1) := by decide +kernel
theorem dX9_family_52 : decode cX9_family 52 = .ok (.aload_n 0, 1) := by decide +kernel
theorem dX9_family_53 : decode cX9_family 53 = .ok (.getfield 66, 3) := by decide +kernel
theorem dX9_family_56 : decode cX9_family 56 = .ok (.iload_n 2, 1) := by decide +kernel
theorem dX9_family_57 : decode cX9_family 57 = .ok (.iconst 0, 1) := by decide +kernel
theorem dX9_family_58 : decode cX9_family 58 = .ok (.iastore, 1) := by decide +kernel
theorem dX9_family_59 : decode cX9_family 59 = .ok (.aload_n 0, 1) := by decide +kernel
theorem dX9_family_60 : decode cX9_family 60 = .ok (.getfield 69, 3) := by decide +kernel
theorem dX9_family_63 : decode cX9_family 63 = .ok (.iload_n 2, 1) := by decide +kernel
theorem dX9_family_64 : decode cX9_family 64 = .ok (.iconst 0, 1) := by decide +kernel
theorem dX9_family_65 : decode cX9_family 65 = .ok (.iastore, 1) := by decide +kernel
theorem dX9_family_66 : decode cX9_family 66 = .ok (.iinc 2 1, 3) := by decide +kernel
theorem dX9_family_69 : decode cX9_family 69 = .ok (.goto (-36), 3) := by decide +kernel
theorem dX9_place_0 : decode cX9_place 0 = .ok (.aload_n 0, 1) := by decide +kernel
theorem dX9_place_1 : decode cX9_place 1 = .ok (.iconst 0, 1) := by decide +kernel
theorem dX9_place_2 : decode cX9_place 2 = .ok (.putfield 112, 3) := by decide +kernel
theorem dX9_place_5 : decode cX9_place 5 = .ok (.aload_n 0, 1) := by decide +kernel
theorem dX9_place_6 : decode cX9_place 6 = .ok (.iconst 0, 1) := by decide +kernel
theorem dX9_place_7 : decode cX9_place 7 = .ok (.putfield 115, 3) := by decide +kernel
theorem dX9_place_10 : decode cX9_place 10 = .ok (.iload_n 3, 1) := by decide +kernel
theorem dX9_place_11 : decode cX9_place 11 = .ok (.iload 4, 2) := by decide +kernel
theorem dX9_place_13 : decode cX9_place 13 = .ok (.invokestatic 133, 3) := by decide +kernel
set_option maxRecDepth 20000 in
theorem ggX9_place_X9_isSquare : GoodIn wsX9_place wsX9_isSquare := goodIn_r _ [11] (by decide +kernel) (by decide +kernel)
set_option maxRecDepth 20000 in
theorem gX9_place_X9_isSquare : GoodIn wsX9_place (va_wsS RX9 133 yX9_isSquare wsX9_isSquare) := goodIn_app (goodIn_of _ (by decide +kernel)) ggX9_place_X9_isSquare
theorem dX9_place_16 : decode cX9_place 16 = .ok (.ifCond .ne 9, 3) := by decide +kernel
theorem dX9_place_25 : decode cX9_place 25 = .ok (.iload_n 1, 1) := by decide +kernel
theorem dX9_place_26 : decode cX9_place 26 = .ok (.ifCond .lt 11, 3) := by decide +kernel
theorem dX9_place_37 : decode cX9_place 37 = .ok (.aload_n 0, 1) := by decide +kernel
theorem dX9_place_38 : decode cX9_place 38 = .ok (.bipush 8, 2) := by decide +kernel
theorem dX9_place_40 : decode cX9_place 40 = .ok (.invokevirtual 118, 3) := by decide +kernel
set_option maxRecDepth 20000 in
theorem ggX9_place_X9_no : GoodIn wsX9_place wsX9_no := goodIn_r _ [15, 2, 16, 17, 18, 19, 20, 21, 22, 23, 24, 25, 26, 27, 28, 29, 30, 31, 32, 33, 34, 35, 36, 37, 38, 39, 40, 41, 42, 43, 44, 45, 46, 47, 48, 49, 50, 51, 52, 53, 54, 55, 56] (by decide +kernel) (by decide +kernel)
set_option maxRecDepth 20000 in
theorem gX9_place_X9_no : GoodIn wsX9_place (wsV RX9 118 RX9 yX9_no wsX9_no) := goodIn_app (goodIn_of _ (by decide +kernel)) ggX9_place_X9_no
theorem dX9_place_43 : decode cX9_place 43 = .ok (.ireturn, 1) := by decide +kernel
theorem dX9_place_29 : decode cX9_place 29 = .ok (.iload_n 1, 1) := by decide +kernel
theorem dX9_place_30 : decode cX9_place 30 = .ok (.aload_n 0, 1) := by decide +kernel
theorem dX9_place_31 : decode cX9_place 31 = .ok (.getfield 269, 3) := by decide +kernel
theorem dX9_place_34 : decode cX9_place 34 = .ok (.if_icmp .lt 10, 3) := by decide +kernel
theorem dX9_place_19 : decode cX9_place 19 = .ok (.aload_n 0, 1) := by decide +kernel
theorem dX9_place_20 : decode cX9_place 20 = .ok (.iconst 2, 1) := by decide +kernel
theorem dX9_place_21 : decode cX9_place 21 = .ok (.invokevirtual 118, 3) := by decide +kernel
theorem dX9_place_24 : decode cX9_place 24 = .ok (.ireturn, 1) := by decide +kernel
theorem dX9_table_0 : decode cX9_table 0 = .ok (.aload_n 0, 1) := by decide +kernel
theorem dX9_table_1 : decode cX9_table 1 = .ok (.iconst 0, 1) := by decide +kernel
theorem dX9_table_2 : decode cX9_table 2 = .ok (.putfield 112, 3) := by decide +kernel
theorem dX9_table_5 : decode cX9_table 5 = .ok (.aload_n 0, 1) := by decide +kernel
theorem dX9_table_6 : decode cX9_table 6 = .ok (.iconst 0, 1) := by decide +kernel
theorem dX9_table_7 : decode cX9_table 7 = .ok (.putfield 115, 3) := by decide +kernel
theorem dX9_table_10 : decode cX9_table 10 = .ok (.iload_n 1, 1) := by decide +kernel
theorem dX9_table_11 : decode cX9_table 11 = .ok (.ifCond .lt 23, 3) := by decide +kernel
theorem dX9_table_34 : decode cX9_table 34 = .ok (.aload_n 0, 1) := by decide +kernel
theorem dX9_table_35 : decode cX9_table 35 = .ok (.bipush 8, 2) := by decide +kernel
theorem dX9_table_37 : decode cX9_table 37 = .ok (.invokevirtual 156, 3) := by decide +kernel
set_option maxRecDepth 20000 in
theorem ggX9_table_X9_refuse : GoodIn wsX9_table wsX9_refuse := goodIn_r _ [12, 2, 32, 33, 34, 35, 36, 37, 38, 39, 40, 41, 42, 43, 44, 45, 46, 47, 48, 49, 50, 51, 52, 53, 54, 55, 56, 57, 58, 59, 60, 61, 62, 63, 64, 65, 66, 67, 68, 69, 70, 71, 72] (by decide +kernel) (by decide +kernel)
set_option maxRecDepth 20000 in
theorem gX9_table_X9_refuse : GoodIn wsX9_table (wsV RX9 156 RX9 yX9_refuse wsX9_refuse) := goodIn_app (goodIn_of _ (by decide +kernel)) ggX9_table_X9_refuse
theorem dX9_table_40 : decode cX9_table 40 = .ok (.ireturn, 1) := by decide +kernel
theorem dX9_table_14 : decode cX9_table 14 = .ok (.iload_n 1, 1) := by decide +kernel
theorem dX9_table_15 : decode cX9_table 15 = .ok (.aload_n 0, 1) := by decide +kernel
theorem dX9_table_16 : decode cX9_table 16 = .ok (.getfield 269, 3) := by decide +kernel
theorem dX9_table_19 : decode cX9_table 19 = .ok (.if_icmp .ge 15, 3) := by decide +kernel
theorem dX9_worth_0 : decode cX9_worth 0 = .ok (.aload_n 0, 1) := by decide +kernel
theorem dX9_worth_1 : decode cX9_worth 1 = .ok (.iconst 0, 1) := by decide +kernel
theorem dX9_worth_2 : decode cX9_worth 2 = .ok (.putfield 112, 3) := by decide +kernel
theorem dX9_worth_5 : decode cX9_worth 5 = .ok (.aload_n 0, 1) := by decide +kernel
theorem dX9_worth_6 : decode cX9_worth 6 = .ok (.iconst 0, 1) := by decide +kernel
theorem dX9_worth_7 : decode cX9_worth 7 = .ok (.putfield 115, 3) := by decide +kernel
theorem dX9_worth_10 : decode cX9_worth 10 = .ok (.aload_n 0, 1) := by decide +kernel
theorem dX9_worth_11 : decode cX9_worth 11 = .ok (.getfield 269, 3) := by decide +kernel
theorem dX9_worth_14 : decode cX9_worth 14 = .ok (.ifCond .ne 11, 3) := by decide +kernel
theorem dX9_worth_17 : decode cX9_worth 17 = .ok (.aload_n 0, 1) := by decide +kernel
theorem dX9_worth_18 : decode cX9_worth 18 = .ok (.bipush 8, 2) := by decide +kernel
theorem dX9_worth_20 : decode cX9_worth 20 = .ok (.invokevirtual 156, 3) := by decide +kernel
set_option maxRecDepth 20000 in
theorem ggX9_worth_X9_refuse : GoodIn wsX9_worth wsX9_refuse := goodIn_r _ [14, 2, 38, 39, 40, 41, 42, 43, 44, 45, 46, 47, 48, 49, 50, 51, 52, 53, 54, 55, 56, 57, 58, 59, 60, 61, 62, 63, 64, 65, 66, 67, 68, 69, 70, 71, 72, 73, 74, 75, 76, 77, 78] (by decide +kernel) (by decide +kernel)
set_option maxRecDepth 20000 in
theorem gX9_worth_X9_refuse : GoodIn wsX9_worth (wsV RX9 156 RX9 yX9_refuse wsX9_refuse) := goodIn_app (goodIn_of _ (by decide +kernel)) ggX9_worth_X9_refuse
theorem dX9_worth_23 : decode cX9_worth 23 = .ok (.i2l, 1) := by decide +kernel
theorem dX9_worth_24 : decode cX9_worth 24 = .ok (.lreturn, 1) := by decide +kernel
theorem dX9_part_0 : decode cX9_part 0 = .ok (.aload_n 0, 1) := by decide +kernel
theorem dX9_part_1 : decode cX9_part 1 = .ok (.iconst 0, 1) := by decide +kernel
theorem dX9_part_2 : decode cX9_part 2 = .ok (.putfield 112, 3) := by decide +kernel
theorem dX9_part_5 : decode cX9_part 5 = .ok (.aload_n 0, 1) := by decide +kernel
theorem dX9_part_6 : decode cX9_part 6 = .ok (.iconst 0, 1) := by decide +kernel
theorem dX9_part_7 : decode cX9_part 7 = .ok (.putfield 115, 3) := by decide +kernel
theorem dX9_part_10 : decode cX9_part 10 = .ok (.iload_n 1, 1) := by decide +kernel
theorem dX9_part_11 : decode cX9_part 11 = .ok (.iconst 1, 1) := by decide +kernel
theorem dX9_part_12 : decode cX9_part 12 = .ok (.if_icmp .lt 11, 3) := by decide +kernel
theorem dX9_part_23 : decode cX9_part 23 = .ok (.aload_n 0, 1) := by decide +kernel
theorem dX9_part_24 : decode cX9_part 24 = .ok (.bipush 8, 2) := by decide +kernel
theorem dX9_part_26 : decode cX9_part 26 = .ok (.invokevirtual 156, 3) := by decide +kernel
set_option maxRecDepth 20000 in
theorem ggX9_part_X9_refuse : GoodIn wsX9_part wsX9_refuse := goodIn_r _ [9, 2, 10, 11, 12, 13, 14, 15, 16, 17, 18, 19, 20, 21, 22, 23, 24, 25, 26, 27, 28, 29, 30, 31, 32, 33, 34, 35, 36, 37, 38, 39, 40, 41, 42, 43, 44, 45, 46, 47, 48, 49, 50] (by decide +kernel) (by decide +kernel)
set_option maxRecDepth 20000 in
theorem gX9_part_X9_refuse : GoodIn wsX9_part (wsV RX9 156 RX9 yX9_refuse wsX9_refuse) := goodIn_app (goodIn_of _ (by decide +kernel)) ggX9_part_X9_refuse
theorem dX9_part_29 : decode cX9_part 29 = .ok (.goto 12, 3) := by decide +kernel
theorem dX9_part_41 : decode cX9_part 41 = .ok (.ireturn, 1) := by decide +kernel
theorem dX9_part_15 : decode cX9_part 15 = .ok (.iload_n 1, 1) := by decide +kernel
theorem dX9_part_16 : decode cX9_part 16 = .ok (.aload_n 0, 1) := by decide +kernel
theorem dX9_part_17 : decode cX9_part 17 = .ok (.getfield 72, 3) := by decide +kernel
theorem dX9_part_20 : decode cX9_part 20 = .ok (.if_icmp .le 12, 3) := by decide +kernel
theorem dX9_out_0 : decode cX9_out 0 = .ok (.aload_n 0, 1) := by decide +kernel
theorem dX9_out_1 : decode cX9_out 1 = .ok (.iconst 0, 1) := by decide +kernel
theorem dX9_out_2 : decode cX9_out 2 = .ok (.putfield 112, 3) := by decide +kernel
theorem dX9_out_5 : decode cX9_out 5 = .ok (.iload_n 1, 1) := by decide +kernel
theorem dX9_out_6 : decode cX9_out 6 = .ok (.ifCond .lt 11, 3) := by decide +kernel
theorem dX9_out_17 : decode cX9_out 17 = .ok (.aload_n 0, 1) := by decide +kernel
theorem dX9_out_18 : decode cX9_out 18 = .ok (.iconst 1, 1) := by decide +kernel
theorem dX9_out_19 : decode cX9_out 19 = .ok (.putfield 112, 3) := by decide +kernel
theorem dX9_out_22 : decode cX9_out 22 = .ok (.iconst 0, 1) := by decide +kernel
theorem dX9_out_23 : decode cX9_out 23 = .ok (.ireturn, 1) := by decide +kernel
theorem dX9_out_9 : decode cX9_out 9 = .ok (.iload_n 1, 1) := by decide +kernel
theorem dX9_out_10 : decode cX9_out 10 = .ok (.aload_n 0, 1) := by decide +kernel
theorem dX9_out_11 : decode cX9_out 11 = .ok (.getfield 234, 3) := by decide +kernel
theorem dX9_out_14 : decode cX9_out 14 = .ok (.if_icmp .lt 10, 3) := by decide +kernel
theorem dX9_next_0 : decode cX9_next 0 = .ok (.iload_n 1, 1) := by decide +kernel
theorem dX9_next_1 : decode cX9_next 1 = .ok (.invokestatic 147, 3) := by decide +kernel
set_option maxRecDepth 20000 in
theorem ggX9_next_X9_xOf : GoodIn wsX9_next wsX9_xOf := goodIn_r _ [8] (by decide +kernel) (by decide +kernel)
set_option maxRecDepth 20000 in
theorem gX9_next_X9_xOf : GoodIn wsX9_next (va_wsS RX9 147 yX9_xOf wsX9_xOf) := goodIn_app (goodIn_of _ (by decide +kernel)) ggX9_next_X9_xOf
theorem dX9_next_4 : decode cX9_next 4 = .ok (.aload_n 0, 1) := by decide +kernel
theorem dX9_next_5 : decode cX9_next 5 = .ok (.getfield 29, 3) := by decide +kernel
theorem dX9_next_8 : decode cX9_next 8 = .ok (.iload_n 2, 1) := by decide +kernel
theorem dX9_next_9 : decode cX9_next 9 = .ok (.iaload, 1) := by decide +kernel
theorem dX9_next_10 : decode cX9_next 10 = .ok (.iadd, 1) := by decide +kernel
theorem dX9_next_11 : decode cX9_next 11 = .ok (.istore_n 3, 1) := by decide +kernel
theorem dX9_next_12 : decode cX9_next 12 = .ok (.iload_n 1, 1) := by decide +kernel
theorem dX9_next_13 : decode cX9_next 13 = .ok (.invokestatic 150, 3) := by decide +kernel
set_option maxRecDepth 20000 in
theorem ggX9_next_X9_yOf : GoodIn wsX9_next wsX9_yOf := goodIn_r _ [11] (by decide +kernel) (by decide +kernel)
set_option maxRecDepth 20000 in
theorem gX9_next_X9_yOf : GoodIn wsX9_next (va_wsS RX9 150 yX9_yOf wsX9_yOf) := goodIn_app (goodIn_of _ (by decide +kernel)) ggX9_next_X9_yOf
theorem dX9_next_16 : decode cX9_next 16 = .ok (.aload_n 0, 1) := by decide +kernel
theorem dX9_next_17 : decode cX9_next 17 = .ok (.getfield 32, 3) := by decide +kernel
theorem dX9_next_20 : decode cX9_next 20 = .ok (.iload_n 2, 1) := by decide +kernel
theorem dX9_next_21 : decode cX9_next 21 = .ok (.iaload, 1) := by decide +kernel
theorem dX9_next_22 : decode cX9_next 22 = .ok (.iadd, 1) := by decide +kernel
theorem dX9_next_23 : decode cX9_next 23 = .ok (.istore 4, 2) := by decide +kernel
theorem dX9_next_25 : decode cX9_next 25 = .ok (.aload_n 0, 1) := by decide +kernel
theorem dX9_next_26 : decode cX9_next 26 = .ok (.getfield 137, 3) := by decide +kernel
theorem dX9_next_29 : decode cX9_next 29 = .ok (.iconst 4, 1) := by decide +kernel
theorem dX9_next_30 : decode cX9_next 30 = .ok (.if_icmp .ne 20, 3) := by decide +kernel
theorem dX9_next_50 : decode cX9_next 50 = .ok (.aload_n 0, 1) := by decide +kernel
theorem dX9_next_51 : decode cX9_next 51 = .ok (.iload_n 3, 1) := by decide +kernel
theorem dX9_next_52 : decode cX9_next 52 = .ok (.iload 4, 2) := by decide +kernel
theorem dX9_next_54 : decode cX9_next 54 = .ok (.invokevirtual 153, 3) := by decide +kernel
set_option maxRecDepth 20000 in
theorem ggX9_next_X9_isOpen : GoodIn wsX9_next wsX9_isOpen := goodIn_r _ [15, 3, 16, 17, 18, 7, 19, 20, 21, 22, 23, 24, 4, 25, 26, 27, 28, 29, 30, 31, 32, 33, 34, 35, 36, 37, 38, 39, 40, 41, 42, 43, 44, 45, 46, 47, 48, 49, 50, 51, 52, 53, 54, 55, 56, 57, 58, 59, 60, 61, 62, 63, 64, 65, 66, 67, 68] (by decide +kernel) (by decide +kernel)
set_option maxRecDepth 20000 in
theorem gX9_next_X9_isOpen : GoodIn wsX9_next (wsV RX9 153 RX9 yX9_isOpen wsX9_isOpen) := goodIn_app (goodIn_of _ (by decide +kernel)) ggX9_next_X9_isOpen
theorem dX9_next_57 : decode cX9_next 57 = .ok (.ifCond .eq 12, 3) := by decide +kernel
theorem dX9_next_69 : decode cX9_next 69 = .ok (.iconst (-1), 1) := by decide +kernel
theorem dX9_next_70 : decode cX9_next 70 = .ok (.ireturn, 1) := by decide +kernel
theorem dX9_next_60 : decode cX9_next 60 = .ok (.iload_n 3, 1) := by decide +kernel
theorem dX9_next_61 : decode cX9_next 61 = .ok (.iload 4, 2) := by decide +kernel
theorem dX9_next_63 : decode cX9_next 63 = .ok (.invokestatic 144, 3) := by decide +kernel
set_option maxRecDepth 20000 in
theorem ggX9_next_X9_squareOf : GoodIn wsX9_next wsX9_squareOf := goodIn_r _ [27] (by decide +kernel) (by decide +kernel)
set_option maxRecDepth 20000 in
theorem gX9_next_X9_squareOf : GoodIn wsX9_next (va_wsS RX9 144 yX9_squareOf wsX9_squareOf) := goodIn_app (goodIn_of _ (by decide +kernel)) ggX9_next_X9_squareOf
theorem dX9_next_66 : decode cX9_next 66 = .ok (.goto 4, 3) := by decide +kernel
theorem dX9_plus_0 : decode cX9_plus 0 = .ok (.lload_n 0, 1) := by decide +kernel
theorem dX9_plus_1 : decode cX9_plus 1 = .ok (.lload_n 2, 1) := by decide +kernel
theorem dX9_plus_2 : decode cX9_plus 2 = .ok (.ladd, 1) := by decide +kernel
theorem dX9_plus_3 : decode cX9_plus 3 = .ok (.ldc2_w 173, 3) := by decide +kernel
theorem dX9_plus_6 : decode cX9_plus 6 = .ok (.lcmp, 1) := by decide +kernel
theorem dX9_plus_7 : decode cX9_plus 7 = .ok (.ifCond .ge 11, 3) := by decide +kernel
theorem dX9_plus_18 : decode cX9_plus 18 = .ok (.ldc2_w 173, 3) := by decide +kernel
theorem dX9_plus_21 : decode cX9_plus 21 = .ok (.goto 6, 3) := by decide +kernel
theorem dX9_plus_27 : decode cX9_plus 27 = .ok (.lreturn, 1) := by decide +kernel
theorem dX9_plus_10 : decode cX9_plus 10 = .ok (.lload_n 0, 1) := by decide +kernel
theorem dX9_plus_11 : decode cX9_plus 11 = .ok (.lload_n 2, 1) := by decide +kernel
theorem dX9_plus_12 : decode cX9_plus 12 = .ok (.ladd, 1) := by decide +kernel
theorem dX9_plus_13 : decode cX9_plus 13 = .ok (.lconst 0, 1) := by decide +kernel
theorem dX9_plus_14 : decode cX9_plus 14 = .ok (.lcmp, 1) := by decide +kernel
theorem dX9_plus_15 : decode cX9_plus 15 = .ok (.ifCond .ge 9, 3) := by decide +kernel
theorem dX9_plus_24 : decode cX9_plus 24 = .ok (.lload_n 0, 1) := by decide +kernel
theorem dX9_plus_25 : decode cX9_plus 25 = .ok (.lload_n 2, 1) := by decide +kernel
theorem dX9_plus_26 : decode cX9_plus 26 = .ok (.ladd, 1) := by decide +kernel
theorem dX9_fill_0 : decode cX9_fill 0 = .ok (.iconst 0, 1) := by decide +kernel
theorem dX9_fill_1 : decode cX9_fill 1 = .ok (.istore_n 3, 1) := by decide +kernel
theorem dX9_fill_2 : decode cX9_fill 2 = .ok (.iload_n 3, 1) := by decide +kernel
theorem dX9_fill_3 : decode cX9_fill 3 = .ok (.sipush 3721, 3) := by decide +kernel
theorem dX9_fill_6 : decode cX9_fill 6 = .ok (.if_icmp .ge 54, 3) := by decide +kernel
theorem dX9_fill_60 : decode cX9_fill 60 = .ok (.iconst 1, 1) := by decide +kernel
theorem dX9_fill_61 : decode cX9_fill 61 = .ok (.istore_n 3, 1) := by decide +kernel
theorem dX9_fill_62 : decode cX9_fill 62 = .ok (.iload_n 3, 1) := by decide +kernel
theorem dX9_fill_63 : decode cX9_fill 63 = .ok (.iload_n 1, 1) := by decide +kernel
theorem dX9_fill_64 : decode cX9_fill 64 = .ok (.if_icmp .gt 116, 3) := by decide +kernel
theorem dX9_fill_180 : decode cX9_fill 180 = .ok (.return_, 1) := by decide +kernel
theorem dX9_fill_67 : decode cX9_fill 67 = .ok (.iconst 0, 1) := by decide +kernel
theorem dX9_fill_68 : decode cX9_fill 68 = .ok (.istore 4, 2) := by decide +kernel
theorem dX9_fill_70 : decode cX9_fill 70 = .ok (.iload 4, 2) := by decide +kernel
theorem dX9_fill_72 : decode cX9_fill 72 = .ok (.sipush 3721, 3) := by decide +kernel
theorem dX9_fill_75 : decode cX9_fill 75 = .ok (.if_icmp .ge 99, 3) := by decide +kernel
theorem dX9_fill_174 : decode cX9_fill 174 = .ok (.iinc 3 1, 3) := by decide +kernel
theorem dX9_fill_177 : decode cX9_fill 177 = .ok (.goto (-115), 3) := by decide +kernel
theorem dX9_fill_78 : decode cX9_fill 78 = .ok (.lconst 0, 1) := by decide +kernel
theorem dX9_fill_79 : decode cX9_fill 79 = .ok (.lstore 5, 2) := by decide +kernel
theorem dX9_fill_81 : decode cX9_fill 81 = .ok (.aload_n 0, 1) := by decide +kernel
theorem dX9_fill_82 : decode cX9_fill 82 = .ok (.iload 4, 2) := by decide +kernel
theorem dX9_fill_84 : decode cX9_fill 84 = .ok (.invokestatic 147, 3) := by decide +kernel
set_option maxRecDepth 20000 in
theorem ggX9_fill_X9_xOf : GoodIn wsX9_fill wsX9_xOf := goodIn_r _ [8] (by decide +kernel) (by decide +kernel)
set_option maxRecDepth 20000 in
theorem gX9_fill_X9_xOf : GoodIn wsX9_fill (va_wsS RX9 147 yX9_xOf wsX9_xOf) := goodIn_app (goodIn_of _ (by decide +kernel)) ggX9_fill_X9_xOf
theorem dX9_fill_87 : decode cX9_fill 87 = .ok (.iload 4, 2) := by decide +kernel
theorem dX9_fill_89 : decode cX9_fill 89 = .ok (.invokestatic 150, 3) := by decide +kernel
set_option maxRecDepth 20000 in
theorem ggX9_fill_X9_yOf : GoodIn wsX9_fill wsX9_yOf := goodIn_r _ [11] (by decide +kernel) (by decide +kernel)
set_option maxRecDepth 20000 in
theorem gX9_fill_X9_yOf : GoodIn wsX9_fill (va_wsS RX9 150 yX9_yOf wsX9_yOf) := goodIn_app (goodIn_of _ (by decide +kernel)) ggX9_fill_X9_yOf
theorem dX9_fill_92 : decode cX9_fill 92 = .ok (.invokevirtual 153, 3) := by decide +kernel
set_option maxRecDepth 20000 in
theorem ggX9_fill_X9_isOpen : GoodIn wsX9_fill wsX9_isOpen := goodIn_r _ [15, 16, 17, 18, 19, 7, 20, 21, 22, 23, 24, 25, 26, 27, 28, 29, 40, 41, 42, 43, 44, 45, 46, 47, 48, 49, 50, 51, 52, 53, 54, 55, 56, 57, 58, 59, 60, 61, 62, 63, 64, 65, 66, 67, 68, 69, 70, 71, 72, 73, 74, 75, 76, 77, 78, 79, 80] (by decide +kernel) (by decide +kernel)
set_option maxRecDepth 20000 in
theorem gX9_fill_X9_isOpen : GoodIn wsX9_fill (wsV RX9 153 RX9 yX9_isOpen wsX9_isOpen) := goodIn_app (goodIn_of _ (by decide +kernel)) ggX9_fill_X9_isOpen
theorem dX9_fill_95 : decode cX9_fill 95 = .ok (.ifCond .eq 58, 3) := by decide +kernel
theorem dX9_fill_98 : decode cX9_fill 98 = .ok (.iconst 0, 1) := by decide +kernel
theorem dX9_fill_99 : decode cX9_fill 99 = .ok (.istore 7, 2) := by decide +kernel
theorem dX9_fill_101 : decode cX9_fill 101 = .ok (.iload 7, 2) := by decide +kernel
theorem dX9_fill_103 : decode cX9_fill 103 = .ok (.aload_n 0, 1) := by decide +kernel
theorem dX9_fill_104 : decode cX9_fill 104 = .ok (.getfield 19, 3) := by decide +kernel
theorem dX9_fill_107 : decode cX9_fill 107 = .ok (.if_icmp .ge 46, 3) := by decide +kernel
theorem dX9_fill_153 : decode cX9_fill 153 = .ok (.aload_n 0, 1) := by decide +kernel
theorem dX9_fill_154 : decode cX9_fill 154 = .ok (.getfield 43, 3) := by decide +kernel
theorem dX9_fill_157 : decode cX9_fill 157 = .ok (.sipush 3721, 3) := by decide +kernel
theorem dX9_fill_160 : decode cX9_fill 160 = .ok (.iload_n 3, 1) := by decide +kernel
theorem dX9_fill_161 : decode cX9_fill 161 = .ok (.imul, 1) := by decide +kernel
theorem dX9_fill_162 : decode cX9_fill 162 = .ok (.iload 4, 2) := by decide +kernel
theorem dX9_fill_164 : decode cX9_fill 164 = .ok (.iadd, 1) := by decide +kernel
theorem dX9_fill_165 : decode cX9_fill 165 = .ok (.lload 5, 2) := by decide +kernel
theorem dX9_fill_167 : decode cX9_fill 167 = .ok (.lastore, 1) := by decide +kernel
theorem dX9_fill_168 : decode cX9_fill 168 = .ok (.iinc 4 1, 3) := by decide +kernel
theorem dX9_fill_171 : decode cX9_fill 171 = .ok (.goto (-101), 3) := by decide +kernel
theorem dX9_fill_110 : decode cX9_fill 110 = .ok (.aload_n 0, 1) := by decide +kernel
theorem dX9_fill_111 : decode cX9_fill 111 = .ok (.iload 4, 2) := by decide +kernel
theorem dX9_fill_113 : decode cX9_fill 113 = .ok (.iload 7, 2) := by decide +kernel
theorem dX9_fill_115 : decode cX9_fill 115 = .ok (.invokevirtual 175, 3) := by decide +kernel
set_option maxRecDepth 20000 in
theorem ggX9_fill_X9_next : GoodIn wsX9_fill wsX9_next := goodIn_r _ [33, 34, 35, 16, 26, 5, 6, 7, 8, 9, 10, 11, 12, 13, 14, 15, 17, 18, 19, 20, 21, 22, 23, 24, 25, 27, 28, 29, 40, 41, 42, 43, 44, 45, 46, 47, 48, 49, 50, 51, 52, 53, 54, 55, 56, 57, 58, 59, 60, 61, 62, 63, 64, 65, 66, 67, 68, 69, 70, 71, 72, 73, 74, 75, 76, 77, 78, 79, 80] (by decide +kernel) (by decide +kernel)
set_option maxRecDepth 20000 in
theorem gX9_fill_X9_next : GoodIn wsX9_fill (wsV RX9 175 RX9 yX9_next wsX9_next) := goodIn_app (goodIn_of _ (by decide +kernel)) ggX9_fill_X9_next
theorem dX9_fill_118 : decode cX9_fill 118 = .ok (.istore 8, 2) := by decide +kernel
theorem dX9_fill_120 : decode cX9_fill 120 = .ok (.iload 8, 2) := by decide +kernel
theorem dX9_fill_122 : decode cX9_fill 122 = .ok (.ifCond .lt 25, 3) := by decide +kernel
theorem dX9_fill_147 : decode cX9_fill 147 = .ok (.iinc 7 1, 3) := by decide +kernel
theorem dX9_fill_150 : decode cX9_fill 150 = .ok (.goto (-49), 3) := by decide +kernel
theorem dX9_fill_125 : decode cX9_fill 125 = .ok (.lload 5, 2) := by decide +kernel
theorem dX9_fill_127 : decode cX9_fill 127 = .ok (.aload_n 0, 1) := by decide +kernel
theorem dX9_fill_128 : decode cX9_fill 128 = .ok (.getfield 43, 3) := by decide +kernel
theorem dX9_fill_131 : decode cX9_fill 131 = .ok (.sipush 3721, 3) := by decide +kernel
theorem dX9_fill_134 : decode cX9_fill 134 = .ok (.iload_n 3, 1) := by decide +kernel
theorem dX9_fill_135 : decode cX9_fill 135 = .ok (.iconst 1, 1) := by decide +kernel
theorem dX9_fill_136 : decode cX9_fill 136 = .ok (.isub, 1) := by decide +kernel
theorem dX9_fill_137 : decode cX9_fill 137 = .ok (.imul, 1) := by decide +kernel
theorem dX9_fill_138 : decode cX9_fill 138 = .ok (.iload 8, 2) := by decide +kernel
theorem dX9_fill_140 : decode cX9_fill 140 = .ok (.iadd, 1) := by decide +kernel
theorem dX9_fill_141 : decode cX9_fill 141 = .ok (.laload, 1) := by decide +kernel
theorem dX9_fill_142 : decode cX9_fill 142 = .ok (.invokestatic 178, 3) := by decide +kernel
set_option maxRecDepth 20000 in
theorem ggX9_fill_X9_plus : GoodIn wsX9_fill wsX9_plus := goodIn_r _ [38, 39] (by decide +kernel) (by decide +kernel)
set_option maxRecDepth 20000 in
theorem gX9_fill_X9_plus : GoodIn wsX9_fill (va_wsS RX9 178 yX9_plus wsX9_plus) := goodIn_app (goodIn_of _ (by decide +kernel)) ggX9_fill_X9_plus
theorem dX9_fill_145 : decode cX9_fill 145 = .ok (.lstore 5, 2) := by decide +kernel
theorem dX9_fill_9 : decode cX9_fill 9 = .ok (.aload_n 0, 1) := by decide +kernel
theorem dX9_fill_10 : decode cX9_fill 10 = .ok (.getfield 43, 3) := by decide +kernel
theorem dX9_fill_13 : decode cX9_fill 13 = .ok (.iload_n 3, 1) := by decide +kernel
theorem dX9_fill_14 : decode cX9_fill 14 = .ok (.aload_n 0, 1) := by decide +kernel
theorem dX9_fill_15 : decode cX9_fill 15 = .ok (.iload_n 3, 1) := by decide +kernel
theorem dX9_fill_16 : decode cX9_fill 16 = .ok (.invokestatic 147, 3) := by decide +kernel
theorem dX9_fill_19 : decode cX9_fill 19 = .ok (.iload_n 3, 1) := by decide +kernel
theorem dX9_fill_20 : decode cX9_fill 20 = .ok (.invokestatic 150, 3) := by decide +kernel
theorem dX9_fill_23 : decode cX9_fill 23 = .ok (.invokevirtual 153, 3) := by decide +kernel
theorem dX9_fill_26 : decode cX9_fill 26 = .ok (.ifCond .eq 26, 3) := by decide +kernel
theorem dX9_fill_29 : decode cX9_fill 29 = .ok (.iload_n 2, 1) := by decide +kernel
theorem dX9_fill_30 : decode cX9_fill 30 = .ok (.ifCond .ne 18, 3) := by decide +kernel
theorem dX9_fill_48 : decode cX9_fill 48 = .ok (.lconst 1, 1) := by decide +kernel
theorem dX9_fill_49 : decode cX9_fill 49 = .ok (.goto 4, 3) := by decide +kernel
theorem dX9_fill_53 : decode cX9_fill 53 = .ok (.lastore, 1) := by decide +kernel
theorem dX9_fill_54 : decode cX9_fill 54 = .ok (.iinc 3 1, 3) := by decide +kernel
theorem dX9_fill_57 : decode cX9_fill 57 = .ok (.goto (-55), 3) := by decide +kernel
theorem dX9_fill_33 : decode cX9_fill 33 = .ok (.iload_n 3, 1) := by decide +kernel
theorem dX9_fill_34 : decode cX9_fill 34 = .ok (.aload_n 0, 1) := by decide +kernel
theorem dX9_fill_35 : decode cX9_fill 35 = .ok (.getfield 167, 3) := by decide +kernel
theorem dX9_fill_38 : decode cX9_fill 38 = .ok (.aload_n 0, 1) := by decide +kernel
theorem dX9_fill_39 : decode cX9_fill 39 = .ok (.getfield 170, 3) := by decide +kernel
theorem dX9_fill_42 : decode cX9_fill 42 = .ok (.invokestatic 144, 3) := by decide +kernel
set_option maxRecDepth 20000 in
theorem ggX9_fill_X9_squareOf : GoodIn wsX9_fill wsX9_squareOf := goodIn_r _ [29] (by decide +kernel) (by decide +kernel)
set_option maxRecDepth 20000 in
theorem gX9_fill_X9_squareOf : GoodIn wsX9_fill (va_wsS RX9 144 yX9_squareOf wsX9_squareOf) := goodIn_app (goodIn_of _ (by decide +kernel)) ggX9_fill_X9_squareOf
theorem dX9_fill_45 : decode cX9_fill 45 = .ok (.if_icmp .ne 7, 3) := by decide +kernel
theorem dX9_fill_52 : decode cX9_fill 52 = .ok (.lconst 0, 1) := by decide +kernel
theorem dX9_areOpen_0 : decode cX9_areOpen 0 = .ok (.aload_n 0, 1) := by decide +kernel
theorem dX9_areOpen_1 : decode cX9_areOpen 1 = .ok (.aload_n 0, 1) := by decide +kernel
theorem dX9_areOpen_2 : decode cX9_areOpen 2 = .ok (.getfield 161, 3) := by decide +kernel
theorem dX9_areOpen_5 : decode cX9_areOpen 5 = .ok (.aload_n 0, 1) := by decide +kernel
theorem dX9_areOpen_6 : decode cX9_areOpen 6 = .ok (.getfield 164, 3) := by decide +kernel
theorem dX9_areOpen_9 : decode cX9_areOpen 9 = .ok (.invokevirtual 153, 3) := by decide +kernel
set_option maxRecDepth 20000 in
theorem ggX9_areOpen_X9_isOpen : GoodIn wsX9_areOpen wsX9_isOpen := goodIn_r _ [9, 10, 11, 12, 13, 8, 14, 15, 16, 17, 18, 19, 20, 21, 22, 23, 24, 25, 26, 27, 28, 29, 30, 31, 32, 33, 34, 35, 36, 37, 38, 39, 40, 41, 42, 43, 44, 45, 46, 47, 48, 49, 50, 51, 52, 53, 54, 55, 56, 57, 58, 59, 60, 61, 62, 63, 64] (by decide +kernel) (by decide +kernel)
set_option maxRecDepth 20000 in
theorem gX9_areOpen_X9_isOpen : GoodIn wsX9_areOpen (wsV RX9 153 RX9 yX9_isOpen wsX9_isOpen) := goodIn_app (goodIn_of _ (by decide +kernel)) ggX9_areOpen_X9_isOpen
theorem dX9_areOpen_12 : decode cX9_areOpen 12 = .ok (.ifCond .eq 22, 3) := by decide +kernel
theorem dX9_areOpen_15 : decode cX9_areOpen 15 = .ok (.aload_n 0, 1) := by decide +kernel
theorem dX9_areOpen_16 : decode cX9_areOpen 16 = .ok (.aload_n 0, 1) := by decide +kernel
theorem dX9_areOpen_17 : decode cX9_areOpen 17 = .ok (.getfield 167, 3) := by decide +kernel
theorem dX9_areOpen_20 : decode cX9_areOpen 20 = .ok (.aload_n 0, 1) := by decide +kernel
theorem dX9_areOpen_21 : decode cX9_areOpen 21 = .ok (.getfield 170, 3) := by decide +kernel
theorem dX9_areOpen_24 : decode cX9_areOpen 24 = .ok (.invokevirtual 153, 3) := by decide +kernel
theorem dX9_areOpen_27 : decode cX9_areOpen 27 = .ok (.ifCond .eq 7, 3) := by decide +kernel
theorem dX9_areOpen_30 : decode cX9_areOpen 30 = .ok (.iconst 1, 1) := by decide +kernel
theorem dX9_areOpen_31 : decode cX9_areOpen 31 = .ok (.goto 4, 3) := by decide +kernel
theorem dX9_areOpen_35 : decode cX9_areOpen 35 = .ok (.ireturn, 1) := by decide +kernel
theorem dX9_countOf_0 : decode cX9_countOf 0 = .ok (.aload_n 0, 1) := by decide +kernel
theorem dX9_countOf_1 : decode cX9_countOf 1 = .ok (.iload_n 1, 1) := by decide +kernel
theorem dX9_countOf_2 : decode cX9_countOf 2 = .ok (.iconst 0, 1) := by decide +kernel
theorem dX9_countOf_3 : decode cX9_countOf 3 = .ok (.invokevirtual 182, 3) := by decide +kernel
set_option maxRecDepth 20000 in
theorem ggX9_countOf_X9_fill : GoodIn wsX9_countOf wsX9_fill := goodIn_r _ [8, 1, 9, 10, 11, 12, 13, 7, 14, 15, 16, 17, 18, 19, 20, 21, 22, 23, 24, 25, 26, 27, 28, 29, 30, 31, 32, 33, 34, 35, 36, 37, 38, 39, 40, 41, 42, 43, 44, 45, 46, 47, 48, 49, 50, 51, 52, 53, 54, 55, 56, 57, 58, 59, 60, 61, 62, 63, 64, 65, 66, 67, 68, 69, 70, 71, 72, 73, 74, 75, 76, 77, 78, 79, 80, 81, 82, 83, 84, 85, 86] (by decide +kernel) (by decide +kernel)
set_option maxRecDepth 20000 in
theorem gX9_countOf_X9_fill : GoodIn wsX9_countOf (wsV RX9 182 RX9 yX9_fill wsX9_fill) := goodIn_app (goodIn_of _ (by decide +kernel)) ggX9_countOf_X9_fill
theorem dX9_countOf_6 : decode cX9_countOf 6 = .ok (.aload_n 0, 1) := by decide +kernel
theorem dX9_countOf_7 : decode cX9_countOf 7 = .ok (.getfield 43, 3) := by decide +kernel
theorem dX9_countOf_10 : decode cX9_countOf 10 = .ok (.sipush 3721, 3) := by decide +kernel
theorem dX9_countOf_13 : decode cX9_countOf 13 = .ok (.iload_n 1, 1) := by decide +kernel
theorem dX9_countOf_14 : decode cX9_countOf 14 = .ok (.imul, 1) := by decide +kernel
theorem dX9_countOf_15 : decode cX9_countOf 15 = .ok (.aload_n 0, 1) := by decide +kernel
theorem dX9_countOf_16 : decode cX9_countOf 16 = .ok (.getfield 161, 3) := by decide +kernel
theorem dX9_countOf_19 : decode cX9_countOf 19 = .ok (.aload_n 0, 1) := by decide +kernel
theorem dX9_countOf_20 : decode cX9_countOf 20 = .ok (.getfield 164, 3) := by decide +kernel
theorem dX9_countOf_23 : decode cX9_countOf 23 = .ok (.invokestatic 144, 3) := by decide +kernel
set_option maxRecDepth 20000 in
theorem ggX9_countOf_X9_squareOf : GoodIn wsX9_countOf wsX9_squareOf := goodIn_r _ [35] (by decide +kernel) (by decide +kernel)
set_option maxRecDepth 20000 in
theorem gX9_countOf_X9_squareOf : GoodIn wsX9_countOf (va_wsS RX9 144 yX9_squareOf wsX9_squareOf) := goodIn_app (goodIn_of _ (by decide +kernel)) ggX9_countOf_X9_squareOf
theorem dX9_countOf_26 : decode cX9_countOf 26 = .ok (.iadd, 1) := by decide +kernel
theorem dX9_countOf_27 : decode cX9_countOf 27 = .ok (.laload, 1) := by decide +kernel
theorem dX9_countOf_28 : decode cX9_countOf 28 = .ok (.lreturn, 1) := by decide +kernel
theorem dX9_count_0 : decode cX9_count 0 = .ok (.aload_n 0, 1) := by decide +kernel
theorem dX9_count_1 : decode cX9_count 1 = .ok (.iconst 0, 1) := by decide +kernel
theorem dX9_count_2 : decode cX9_count 2 = .ok (.putfield 112, 3) := by decide +kernel
theorem dX9_count_5 : decode cX9_count 5 = .ok (.aload_n 0, 1) := by decide +kernel
theorem dX9_count_6 : decode cX9_count 6 = .ok (.iconst 0, 1) := by decide +kernel
theorem dX9_count_7 : decode cX9_count 7 = .ok (.putfield 115, 3) := by decide +kernel
theorem dX9_count_10 : decode cX9_count 10 = .ok (.iload_n 1, 1) := by decide +kernel
theorem dX9_count_11 : decode cX9_count 11 = .ok (.ifCond .lt 9, 3) := by decide +kernel
theorem dX9_count_20 : decode cX9_count 20 = .ok (.aload_n 0, 1) := by decide +kernel
theorem dX9_count_21 : decode cX9_count 21 = .ok (.iconst 2, 1) := by decide +kernel
theorem dX9_count_22 : decode cX9_count 22 = .ok (.invokevirtual 156, 3) := by decide +kernel
set_option maxRecDepth 20000 in
theorem ggX9_count_X9_refuse : GoodIn wsX9_count wsX9_refuse := goodIn_r _ [8, 2, 60, 61, 62, 63, 64, 65, 66, 67, 68, 69, 70, 71, 72, 73, 74, 75, 76, 77, 78, 79, 80, 81, 82, 83, 84, 85, 86, 87, 88, 89, 90, 91, 92, 93, 94, 95, 96, 97, 98, 99, 100] (by decide +kernel) (by decide +kernel)
set_option maxRecDepth 20000 in
theorem gX9_count_X9_refuse : GoodIn wsX9_count (wsV RX9 156 RX9 yX9_refuse wsX9_refuse) := goodIn_app (goodIn_of _ (by decide +kernel)) ggX9_count_X9_refuse
theorem dX9_count_25 : decode cX9_count 25 = .ok (.i2l, 1) := by decide +kernel
theorem dX9_count_26 : decode cX9_count 26 = .ok (.lreturn, 1) := by decide +kernel
theorem dX9_count_14 : decode cX9_count 14 = .ok (.iload_n 1, 1) := by decide +kernel
theorem dX9_count_15 : decode cX9_count 15 = .ok (.bipush 60, 2) := by decide +kernel
theorem dX9_count_17 : decode cX9_count 17 = .ok (.if_icmp .le 10, 3) := by decide +kernel
theorem dX9_count_27 : decode cX9_count 27 = .ok (.aload_n 0, 1) := by decide +kernel
theorem dX9_count_28 : decode cX9_count 28 = .ok (.invokevirtual 186, 3) := by decide +kernel
set_option maxRecDepth 20000 in
theorem ggX9_count_X9_areOpen : GoodIn wsX9_count wsX9_areOpen := goodIn_r _ [12, 13, 14, 15, 16, 17, 18, 19, 7, 20, 21, 22, 23, 24, 25, 26, 27, 28, 29, 30, 31, 32, 33, 34, 60, 61, 62, 63, 64, 65, 66, 67, 68, 69, 70, 71, 72, 73, 74, 75, 76, 77, 78, 79, 80, 81, 82, 83, 84, 85, 86, 87, 88, 89, 90, 91, 92, 93, 94, 95, 96, 97, 98, 99, 100] (by decide +kernel) (by decide +kernel)
set_option maxRecDepth 20000 in
theorem gX9_count_X9_areOpen : GoodIn wsX9_count (wsV RX9 186 RX9 yX9_areOpen wsX9_areOpen) := goodIn_app (goodIn_of _ (by decide +kernel)) ggX9_count_X9_areOpen
theorem dX9_count_31 : decode cX9_count 31 = .ok (.ifCond .ne 11, 3) := by decide +kernel
theorem dX9_count_42 : decode cX9_count 42 = .ok (.aload_n 0, 1) := by decide +kernel
theorem dX9_count_43 : decode cX9_count 43 = .ok (.iload_n 1, 1) := by decide +kernel
theorem dX9_count_44 : decode cX9_count 44 = .ok (.invokevirtual 190, 3) := by decide +kernel
set_option maxRecDepth 20000 in
theorem ggX9_count_X9_countOf : GoodIn wsX9_count wsX9_countOf := goodIn_r _ [38, 39, 13, 14, 40, 41, 42, 7, 43, 15, 16, 44, 45, 46, 47, 48, 49, 50, 17, 18, 19, 20, 21, 22, 23, 24, 25, 26, 27, 28, 29, 30, 31, 32, 33, 34, 51, 52, 53, 54, 55, 56, 57, 58, 59, 3, 60, 61, 62, 63, 64, 65, 66, 67, 68, 69, 70, 71, 72, 73, 74, 75, 76, 77, 78, 79, 80, 81, 82, 83, 84, 85, 86, 87, 88, 89, 90, 91, 92, 93, 94, 95, 96, 97, 98, 99, 100] (by decide +kernel) (by decide +kernel)
set_option maxRecDepth 20000 in
theorem gX9_count_X9_countOf : GoodIn wsX9_count (wsV RX9 190 RX9 yX9_countOf wsX9_countOf) := goodIn_app (goodIn_of _ (by decide +kernel)) ggX9_count_X9_countOf
theorem dX9_count_47 : decode cX9_count 47 = .ok (.lstore_n 2, 1) := by decide +kernel
theorem dX9_count_48 : decode cX9_count 48 = .ok (.lload_n 2, 1) := by decide +kernel
theorem dX9_count_49 : decode cX9_count 49 = .ok (.ldc2_w 173, 3) := by decide +kernel
theorem dX9_count_52 : decode cX9_count 52 = .ok (.lcmp, 1) := by decide +kernel
theorem dX9_count_53 : decode cX9_count 53 = .ok (.ifCond .lt 13, 3) := by decide +kernel
theorem dX9_count_66 : decode cX9_count 66 = .ok (.lload_n 2, 1) := by decide +kernel
theorem dX9_count_67 : decode cX9_count 67 = .ok (.lreturn, 1) := by decide +kernel
theorem dX9_count_56 : decode cX9_count 56 = .ok (.aload_n 0, 1) := by decide +kernel
theorem dX9_count_57 : decode cX9_count 57 = .ok (.bipush 9, 2) := by decide +kernel
theorem dX9_count_59 : decode cX9_count 59 = .ok (.invokevirtual 156, 3) := by decide +kernel
theorem dX9_count_62 : decode cX9_count 62 = .ok (.i2l, 1) := by decide +kernel
theorem dX9_count_63 : decode cX9_count 63 = .ok (.goto 4, 3) := by decide +kernel
theorem dX9_all_0 : decode cX9_all 0 = .ok (.aload_n 0, 1) := by decide +kernel
theorem dX9_all_1 : decode cX9_all 1 = .ok (.iconst 0, 1) := by decide +kernel
theorem dX9_all_2 : decode cX9_all 2 = .ok (.putfield 112, 3) := by decide +kernel
theorem dX9_all_5 : decode cX9_all 5 = .ok (.aload_n 0, 1) := by decide +kernel
theorem dX9_all_6 : decode cX9_all 6 = .ok (.iconst 0, 1) := by decide +kernel
theorem dX9_all_7 : decode cX9_all 7 = .ok (.putfield 115, 3) := by decide +kernel
theorem dX9_all_10 : decode cX9_all 10 = .ok (.iload_n 1, 1) := by decide +kernel
theorem dX9_all_11 : decode cX9_all 11 = .ok (.ifCond .lt 9, 3) := by decide +kernel
theorem dX9_all_20 : decode cX9_all 20 = .ok (.aload_n 0, 1) := by decide +kernel
theorem dX9_all_21 : decode cX9_all 21 = .ok (.iconst 2, 1) := by decide +kernel
theorem dX9_all_22 : decode cX9_all 22 = .ok (.invokevirtual 156, 3) := by decide +kernel
set_option maxRecDepth 20000 in
theorem ggX9_all_X9_refuse : GoodIn wsX9_all wsX9_refuse := goodIn_r _ [11, 2, 52, 53, 54, 55, 56, 57, 58, 59, 60, 61, 62, 63, 64, 65, 66, 67, 68, 69, 70, 71, 72, 73, 74, 75, 76, 77, 78, 79, 80, 81, 82, 83, 84, 85, 86, 87, 88, 89, 90, 91, 92] (by decide +kernel) (by decide +kernel)
set_option maxRecDepth 20000 in
theorem gX9_all_X9_refuse : GoodIn wsX9_all (wsV RX9 156 RX9 yX9_refuse wsX9_refuse) := goodIn_app (goodIn_of _ (by decide +kernel)) ggX9_all_X9_refuse
theorem dX9_all_25 : decode cX9_all 25 = .ok (.i2l, 1) := by decide +kernel
theorem dX9_all_26 : decode cX9_all 26 = .ok (.lreturn, 1) := by decide +kernel
theorem dX9_all_14 : decode cX9_all 14 = .ok (.iload_n 1, 1) := by decide +kernel
theorem dX9_all_15 : decode cX9_all 15 = .ok (.bipush 60, 2) := by decide +kernel
theorem dX9_all_17 : decode cX9_all 17 = .ok (.if_icmp .le 10, 3) := by decide +kernel
theorem dX9_all_27 : decode cX9_all 27 = .ok (.aload_n 0, 1) := by decide +kernel
theorem dX9_all_28 : decode cX9_all 28 = .ok (.aload_n 0, 1) := by decide +kernel
theorem dX9_all_29 : decode cX9_all 29 = .ok (.getfield 161, 3) := by decide +kernel
theorem dX9_all_32 : decode cX9_all 32 = .ok (.aload_n 0, 1) := by decide +kernel
theorem dX9_all_33 : decode cX9_all 33 = .ok (.getfield 164, 3) := by decide +kernel
theorem dX9_all_36 : decode cX9_all 36 = .ok (.invokevirtual 153, 3) := by decide +kernel
set_option maxRecDepth 20000 in
theorem ggX9_all_X9_isOpen : GoodIn wsX9_all wsX9_isOpen := goodIn_r _ [15, 16, 17, 18, 19, 10, 20, 21, 22, 23, 24, 25, 26, 27, 28, 29, 52, 53, 54, 55, 56, 57, 58, 59, 60, 61, 62, 63, 64, 65, 66, 67, 68, 69, 70, 71, 72, 73, 74, 75, 76, 77, 78, 79, 80, 81, 82, 83, 84, 85, 86, 87, 88, 89, 90, 91, 92] (by decide +kernel) (by decide +kernel)
set_option maxRecDepth 20000 in
theorem gX9_all_X9_isOpen : GoodIn wsX9_all (wsV RX9 153 RX9 yX9_isOpen wsX9_isOpen) := goodIn_app (goodIn_of _ (by decide +kernel)) ggX9_all_X9_isOpen
theorem dX9_all_39 : decode cX9_all 39 = .ok (.ifCond .ne 11, 3) := by decide +kernel
theorem dX9_all_50 : decode cX9_all 50 = .ok (.aload_n 0, 1) := by decide +kernel
theorem dX9_all_51 : decode cX9_all 51 = .ok (.iload_n 1, 1) := by decide +kernel
theorem dX9_all_52 : decode cX9_all 52 = .ok (.iconst 1, 1) := by decide +kernel
theorem dX9_all_53 : decode cX9_all 53 = .ok (.invokevirtual 182, 3) := by decide +kernel
set_option maxRecDepth 20000 in
theorem ggX9_all_X9_fill : GoodIn wsX9_all wsX9_fill := goodIn_r _ [33, 5, 34, 35, 36, 37, 38, 10, 39, 40, 41, 42, 12, 13, 14, 15, 16, 17, 18, 19, 20, 21, 22, 23, 24, 25, 26, 27, 28, 29, 43, 44, 45, 46, 47, 48, 49, 50, 51, 6, 52, 53, 54, 55, 56, 57, 58, 59, 60, 61, 62, 63, 64, 65, 66, 67, 68, 69, 70, 71, 72, 73, 74, 75, 76, 77, 78, 79, 80, 81, 82, 83, 84, 85, 86, 87, 88, 89, 90, 91, 92] (by decide +kernel) (by decide +kernel)
set_option maxRecDepth 20000 in
theorem gX9_all_X9_fill : GoodIn wsX9_all (wsV RX9 182 RX9 yX9_fill wsX9_fill) := goodIn_app (goodIn_of _ (by decide +kernel)) ggX9_all_X9_fill
theorem dX9_all_56 : decode cX9_all 56 = .ok (.aload_n 0, 1) := by decide +kernel
theorem dX9_all_57 : decode cX9_all 57 = .ok (.getfield 43, 3) := by decide +kernel
theorem dX9_all_60 : decode cX9_all 60 = .ok (.sipush 3721, 3) := by decide +kernel
theorem dX9_all_63 : decode cX9_all 63 = .ok (.iload_n 1, 1) := by decide +kernel
theorem dX9_all_64 : decode cX9_all 64 = .ok (.imul, 1) := by decide +kernel
theorem dX9_all_65 : decode cX9_all 65 = .ok (.aload_n 0, 1) := by decide +kernel
theorem dX9_all_66 : decode cX9_all 66 = .ok (.getfield 161, 3) := by decide +kernel
theorem dX9_all_69 : decode cX9_all 69 = .ok (.aload_n 0, 1) := by decide +kernel
theorem dX9_all_70 : decode cX9_all 70 = .ok (.getfield 164, 3) := by decide +kernel
theorem dX9_all_73 : decode cX9_all 73 = .ok (.invokestatic 144, 3) := by decide +kernel
set_option maxRecDepth 20000 in
theorem ggX9_all_X9_squareOf : GoodIn wsX9_all wsX9_squareOf := goodIn_r _ [29] (by decide +kernel) (by decide +kernel)
set_option maxRecDepth 20000 in
theorem gX9_all_X9_squareOf : GoodIn wsX9_all (va_wsS RX9 144 yX9_squareOf wsX9_squareOf) := goodIn_app (goodIn_of _ (by decide +kernel)) ggX9_all_X9_squareOf
theorem dX9_all_76 : decode cX9_all 76 = .ok (.iadd, 1) := by decide +kernel
theorem dX9_all_77 : decode cX9_all 77 = .ok (.laload, 1) := by decide +kernel
theorem dX9_all_78 : decode cX9_all 78 = .ok (.lstore_n 2, 1) := by decide +kernel
theorem dX9_all_79 : decode cX9_all 79 = .ok (.lload_n 2, 1) := by decide +kernel
theorem dX9_all_80 : decode cX9_all 80 = .ok (.ldc2_w 173, 3) := by decide +kernel
theorem dX9_all_83 : decode cX9_all 83 = .ok (.lcmp, 1) := by decide +kernel
theorem dX9_all_84 : decode cX9_all 84 = .ok (.ifCond .lt 13, 3) := by decide +kernel
theorem dX9_all_97 : decode cX9_all 97 = .ok (.lload_n 2, 1) := by decide +kernel
theorem dX9_all_98 : decode cX9_all 98 = .ok (.lreturn, 1) := by decide +kernel
theorem dX9_all_87 : decode cX9_all 87 = .ok (.aload_n 0, 1) := by decide +kernel
theorem dX9_all_88 : decode cX9_all 88 = .ok (.bipush 9, 2) := by decide +kernel
theorem dX9_all_90 : decode cX9_all 90 = .ok (.invokevirtual 156, 3) := by decide +kernel
theorem dX9_all_93 : decode cX9_all 93 = .ok (.i2l, 1) := by decide +kernel
theorem dX9_all_94 : decode cX9_all 94 = .ok (.goto 4, 3) := by decide +kernel
theorem dX9_least_0 : decode cX9_least 0 = .ok (.aload_n 0, 1) := by decide +kernel
theorem dX9_least_1 : decode cX9_least 1 = .ok (.iconst 0, 1) := by decide +kernel
theorem dX9_least_2 : decode cX9_least 2 = .ok (.putfield 112, 3) := by decide +kernel
theorem dX9_least_5 : decode cX9_least 5 = .ok (.aload_n 0, 1) := by decide +kernel
theorem dX9_least_6 : decode cX9_least 6 = .ok (.iconst 0, 1) := by decide +kernel
theorem dX9_least_7 : decode cX9_least 7 = .ok (.putfield 115, 3) := by decide +kernel
theorem dX9_least_10 : decode cX9_least 10 = .ok (.aload_n 0, 1) := by decide +kernel
theorem dX9_least_11 : decode cX9_least 11 = .ok (.invokevirtual 186, 3) := by decide +kernel
set_option maxRecDepth 20000 in
theorem ggX9_least_X9_areOpen : GoodIn wsX9_least wsX9_areOpen := goodIn_r _ [10, 4, 5, 11, 12, 13, 14, 15, 9, 16, 17, 18, 19, 20, 21, 22, 23, 24, 25, 26, 27, 28, 29, 30, 56, 57, 58, 59, 60, 61, 62, 63, 64, 65, 66, 67, 68, 69, 70, 71, 72, 73, 74, 75, 76, 77, 78, 79, 80, 81, 82, 83, 84, 85, 86, 87, 88, 89, 90, 91, 92, 93, 94, 95, 96] (by decide +kernel) (by decide +kernel)
set_option maxRecDepth 20000 in
theorem gX9_least_X9_areOpen : GoodIn wsX9_least (wsV RX9 186 RX9 yX9_areOpen wsX9_areOpen) := goodIn_app (goodIn_of _ (by decide +kernel)) ggX9_least_X9_areOpen
theorem dX9_least_14 : decode cX9_least 14 = .ok (.ifCond .ne 10, 3) := by decide +kernel
theorem dX9_least_24 : decode cX9_least 24 = .ok (.aload_n 0, 1) := by decide +kernel
theorem dX9_least_25 : decode cX9_least 25 = .ok (.bipush 60, 2) := by decide +kernel
theorem dX9_least_27 : decode cX9_least 27 = .ok (.iconst 0, 1) := by decide +kernel
theorem dX9_least_28 : decode cX9_least 28 = .ok (.invokevirtual 182, 3) := by decide +kernel
set_option maxRecDepth 20000 in
theorem ggX9_least_X9_fill : GoodIn wsX9_least wsX9_fill := goodIn_r _ [38, 3, 11, 12, 39, 40, 41, 9, 42, 43, 44, 45, 13, 14, 15, 16, 17, 18, 19, 20, 21, 22, 23, 24, 25, 26, 27, 28, 29, 30, 46, 47, 48, 49, 50, 51, 52, 53, 54, 55, 56, 57, 58, 59, 60, 61, 62, 63, 64, 65, 66, 67, 68, 69, 70, 71, 72, 73, 74, 75, 76, 77, 78, 79, 80, 81, 82, 83, 84, 85, 86, 87, 88, 89, 90, 91, 92, 93, 94, 95, 96] (by decide +kernel) (by decide +kernel)
set_option maxRecDepth 20000 in
theorem gX9_least_X9_fill : GoodIn wsX9_least (wsV RX9 182 RX9 yX9_fill wsX9_fill) := goodIn_app (goodIn_of _ (by decide +kernel)) ggX9_least_X9_fill
theorem dX9_least_31 : decode cX9_least 31 = .ok (.iconst 0, 1) := by decide +kernel
theorem dX9_least_32 : decode cX9_least 32 = .ok (.istore_n 1, 1) := by decide +kernel
theorem dX9_least_33 : decode cX9_least 33 = .ok (.iload_n 1, 1) := by decide +kernel
theorem dX9_least_34 : decode cX9_least 34 = .ok (.bipush 60, 2) := by decide +kernel
theorem dX9_least_36 : decode cX9_least 36 = .ok (.if_icmp .gt 38, 3) := by decide +kernel
theorem dX9_least_39 : decode cX9_least 39 = .ok (.aload_n 0, 1) := by decide +kernel
theorem dX9_least_40 : decode cX9_least 40 = .ok (.getfield 43, 3) := by decide +kernel
theorem dX9_least_43 : decode cX9_least 43 = .ok (.sipush 3721, 3) := by decide +kernel
theorem dX9_least_46 : decode cX9_least 46 = .ok (.iload_n 1, 1) := by decide +kernel
theorem dX9_least_47 : decode cX9_least 47 = .ok (.imul, 1) := by decide +kernel
theorem dX9_least_48 : decode cX9_least 48 = .ok (.aload_n 0, 1) := by decide +kernel
theorem dX9_least_49 : decode cX9_least 49 = .ok (.getfield 161, 3) := by decide +kernel
theorem dX9_least_52 : decode cX9_least 52 = .ok (.aload_n 0, 1) := by decide +kernel
theorem dX9_least_53 : decode cX9_least 53 = .ok (.getfield 164, 3) := by decide +kernel
theorem dX9_least_56 : decode cX9_least 56 = .ok (.invokestatic 144, 3) := by decide +kernel
set_option maxRecDepth 20000 in
theorem ggX9_least_X9_squareOf : GoodIn wsX9_least wsX9_squareOf := goodIn_r _ [30] (by decide +kernel) (by decide +kernel)
set_option maxRecDepth 20000 in
theorem gX9_least_X9_squareOf : GoodIn wsX9_least (va_wsS RX9 144 yX9_squareOf wsX9_squareOf) := goodIn_app (goodIn_of _ (by decide +kernel)) ggX9_least_X9_squareOf
theorem dX9_least_59 : decode cX9_least 59 = .ok (.iadd, 1) := by decide +kernel
theorem dX9_least_60 : decode cX9_least 60 = .ok (.laload, 1) := by decide +kernel
theorem dX9_least_61 : decode cX9_least 61 = .ok (.lconst 0, 1) := by decide +kernel
theorem dX9_least_62 : decode cX9_least 62 = .ok (.lcmp, 1) := by decide +kernel
theorem dX9_least_63 : decode cX9_least 63 = .ok (.ifCond .le 5, 3) := by decide +kernel
theorem dX9_least_66 : decode cX9_least 66 = .ok (.iload_n 1, 1) := by decide +kernel
theorem dX9_least_67 : decode cX9_least 67 = .ok (.ireturn, 1) := by decide +kernel
theorem dX9_drawn_0 : decode cX9_drawn 0 = .ok (.ldc2_w 237, 3) := by decide +kernel
theorem dX9_drawn_3 : decode cX9_drawn 3 = .ok (.iload_n 0, 1) := by decide +kernel
theorem dX9_drawn_4 : decode cX9_drawn 4 = .ok (.i2l, 1) := by decide +kernel
theorem dX9_drawn_5 : decode cX9_drawn 5 = .ok (.lmul, 1) := by decide +kernel
theorem dX9_drawn_6 : decode cX9_drawn 6 = .ok (.ldc2_w 239, 3) := by decide +kernel
theorem dX9_drawn_9 : decode cX9_drawn 9 = .ok (.ladd, 1) := by decide +kernel
theorem dX9_drawn_10 : decode cX9_drawn 10 = .ok (.ldc2_w 241, 3) := by decide +kernel
theorem dX9_drawn_13 : decode cX9_drawn 13 = .ok (.land, 1) := by decide +kernel
theorem dX9_drawn_14 : decode cX9_drawn 14 = .ok (.l2i, 1) := by decide +kernel
theorem dX9_drawn_15 : decode cX9_drawn 15 = .ok (.ireturn, 1) := by decide +kernel
theorem dX9_draw_0 : decode cX9_draw 0 = .ok (.aload_n 0, 1) := by decide +kernel
theorem dX9_draw_1 : decode cX9_draw 1 = .ok (.iconst 0, 1) := by decide +kernel
theorem dX9_draw_2 : decode cX9_draw 2 = .ok (.putfield 112, 3) := by decide +kernel
theorem dX9_draw_5 : decode cX9_draw 5 = .ok (.aload_n 0, 1) := by decide +kernel
theorem dX9_draw_6 : decode cX9_draw 6 = .ok (.iconst 0, 1) := by decide +kernel
theorem dX9_draw_7 : decode cX9_draw 7 = .ok (.putfield 115, 3) := by decide +kernel
theorem dX9_draw_10 : decode cX9_draw 10 = .ok (.iload_n 1, 1) := by decide +kernel
theorem dX9_draw_11 : decode cX9_draw 11 = .ok (.ifCond .lt 13, 3) := by decide +kernel
theorem dX9_draw_24 : decode cX9_draw 24 = .ok (.aload_n 0, 1) := by decide +kernel
theorem dX9_draw_25 : decode cX9_draw 25 = .ok (.iconst 2, 1) := by decide +kernel
theorem dX9_draw_26 : decode cX9_draw 26 = .ok (.invokevirtual 156, 3) := by decide +kernel
set_option maxRecDepth 20000 in
theorem ggX9_draw_X9_refuse : GoodIn wsX9_draw wsX9_refuse := goodIn_r _ [12, 2, 70, 71, 72, 73, 74, 75, 76, 77, 78, 79, 80, 81, 82, 83, 84, 85, 86, 87, 88, 89, 90, 91, 92, 93, 94, 95, 96, 97, 98, 99, 100, 101, 102, 103, 104, 105, 106, 107, 108, 109, 110] (by decide +kernel) (by decide +kernel)
set_option maxRecDepth 20000 in
theorem gX9_draw_X9_refuse : GoodIn wsX9_draw (wsV RX9 156 RX9 yX9_refuse wsX9_refuse) := goodIn_app (goodIn_of _ (by decide +kernel)) ggX9_draw_X9_refuse
theorem dX9_draw_29 : decode cX9_draw 29 = .ok (.i2l, 1) := by decide +kernel
theorem dX9_draw_30 : decode cX9_draw 30 = .ok (.lreturn, 1) := by decide +kernel
theorem dX9_draw_14 : decode cX9_draw 14 = .ok (.iload_n 1, 1) := by decide +kernel
theorem dX9_draw_15 : decode cX9_draw 15 = .ok (.bipush 60, 2) := by decide +kernel
theorem dX9_draw_17 : decode cX9_draw 17 = .ok (.if_icmp .gt 7, 3) := by decide +kernel
theorem dX9_draw_20 : decode cX9_draw 20 = .ok (.iload_n 2, 1) := by decide +kernel
theorem dX9_draw_21 : decode cX9_draw 21 = .ok (.ifCond .ge 10, 3) := by decide +kernel
theorem dX9_draw_31 : decode cX9_draw 31 = .ok (.aload_n 0, 1) := by decide +kernel
theorem dX9_draw_32 : decode cX9_draw 32 = .ok (.invokevirtual 186, 3) := by decide +kernel
set_option maxRecDepth 20000 in
theorem ggX9_draw_X9_areOpen : GoodIn wsX9_draw wsX9_areOpen := goodIn_r _ [16, 17, 18, 19, 20, 21, 22, 23, 11, 24, 25, 26, 27, 28, 29, 30, 31, 32, 33, 34, 35, 36, 37, 38, 70, 71, 72, 73, 74, 75, 76, 77, 78, 79, 80, 81, 82, 83, 84, 85, 86, 87, 88, 89, 90, 91, 92, 93, 94, 95, 96, 97, 98, 99, 100, 101, 102, 103, 104, 105, 106, 107, 108, 109, 110] (by decide +kernel) (by decide +kernel)
set_option maxRecDepth 20000 in
theorem gX9_draw_X9_areOpen : GoodIn wsX9_draw (wsV RX9 186 RX9 yX9_areOpen wsX9_areOpen) := goodIn_app (goodIn_of _ (by decide +kernel)) ggX9_draw_X9_areOpen
theorem dX9_draw_35 : decode cX9_draw 35 = .ok (.ifCond .ne 11, 3) := by decide +kernel
theorem dX9_draw_46 : decode cX9_draw 46 = .ok (.aload_n 0, 1) := by decide +kernel
theorem dX9_draw_47 : decode cX9_draw 47 = .ok (.iload_n 1, 1) := by decide +kernel
theorem dX9_draw_48 : decode cX9_draw 48 = .ok (.invokevirtual 190, 3) := by decide +kernel
set_option maxRecDepth 20000 in
theorem ggX9_draw_X9_countOf : GoodIn wsX9_draw wsX9_countOf := goodIn_r _ [42, 43, 17, 18, 44, 45, 46, 11, 47, 19, 20, 48, 49, 50, 51, 52, 53, 54, 21, 22, 23, 24, 25, 26, 27, 28, 29, 30, 31, 32, 33, 34, 35, 36, 37, 38, 55, 56, 57, 58, 59, 60, 61, 62, 63, 3, 70, 71, 72, 73, 74, 75, 76, 77, 78, 79, 80, 81, 82, 83, 84, 85, 86, 87, 88, 89, 90, 91, 92, 93, 94, 95, 96, 97, 98, 99, 100, 101, 102, 103, 104, 105, 106, 107, 108, 109, 110] (by decide +kernel) (by decide +kernel)
set_option maxRecDepth 20000 in
theorem gX9_draw_X9_countOf : GoodIn wsX9_draw (wsV RX9 190 RX9 yX9_countOf wsX9_countOf) := goodIn_app (goodIn_of _ (by decide +kernel)) ggX9_draw_X9_countOf
theorem dX9_draw_51 : decode cX9_draw 51 = .ok (.lstore_n 3, 1) := by decide +kernel
theorem dX9_draw_52 : decode cX9_draw 52 = .ok (.lload_n 3, 1) := by decide +kernel
theorem dX9_draw_53 : decode cX9_draw 53 = .ok (.lconst 0, 1) := by decide +kernel
theorem dX9_draw_54 : decode cX9_draw 54 = .ok (.lcmp, 1) := by decide +kernel
theorem dX9_draw_55 : decode cX9_draw 55 = .ok (.ifCond .ne 11, 3) := by decide +kernel
theorem dX9_draw_66 : decode cX9_draw 66 = .ok (.lload_n 3, 1) := by decide +kernel
theorem dX9_draw_67 : decode cX9_draw 67 = .ok (.ldc2_w 173, 3) := by decide +kernel
theorem dX9_draw_70 : decode cX9_draw 70 = .ok (.lcmp, 1) := by decide +kernel
theorem dX9_draw_71 : decode cX9_draw 71 = .ok (.ifCond .lt 11, 3) := by decide +kernel
theorem dX9_draw_82 : decode cX9_draw 82 = .ok (.lconst 0, 1) := by decide +kernel
theorem dX9_draw_83 : decode cX9_draw 83 = .ok (.lstore 5, 2) := by decide +kernel
theorem dX9_draw_85 : decode cX9_draw 85 = .ok (.lload 5, 2) := by decide +kernel
theorem dX9_draw_87 : decode cX9_draw 87 = .ok (.lload_n 3, 1) := by decide +kernel
theorem dX9_draw_88 : decode cX9_draw 88 = .ok (.lconst 1, 1) := by decide +kernel
theorem dX9_draw_89 : decode cX9_draw 89 = .ok (.lsub, 1) := by decide +kernel
theorem dX9_draw_90 : decode cX9_draw 90 = .ok (.lcmp, 1) := by decide +kernel
theorem dX9_draw_91 : decode cX9_draw 91 = .ok (.ifCond .ge 16, 3) := by decide +kernel
theorem dX9_draw_107 : decode cX9_draw 107 = .ok (.iload_n 2, 1) := by decide +kernel
theorem dX9_draw_108 : decode cX9_draw 108 = .ok (.istore 7, 2) := by decide +kernel
theorem dX9_draw_110 : decode cX9_draw 110 = .ok (.lconst 0, 1) := by decide +kernel
theorem dX9_draw_111 : decode cX9_draw 111 = .ok (.lstore 8, 2) := by decide +kernel
theorem dX9_draw_113 : decode cX9_draw 113 = .ok (.iconst 0, 1) := by decide +kernel
theorem dX9_draw_114 : decode cX9_draw 114 = .ok (.istore 10, 2) := by decide +kernel
theorem dX9_draw_116 : decode cX9_draw 116 = .ok (.iload 10, 2) := by decide +kernel
theorem dX9_draw_118 : decode cX9_draw 118 = .ok (.bipush 64, 2) := by decide +kernel
theorem dX9_draw_120 : decode cX9_draw 120 = .ok (.if_icmp .ge 72, 3) := by decide +kernel
theorem dX9_draw_192 : decode cX9_draw 192 = .ok (.lload 8, 2) := by decide +kernel
theorem dX9_draw_194 : decode cX9_draw 194 = .ok (.lload_n 3, 1) := by decide +kernel
theorem dX9_draw_195 : decode cX9_draw 195 = .ok (.lrem, 1) := by decide +kernel
theorem dX9_draw_196 : decode cX9_draw 196 = .ok (.lreturn, 1) := by decide +kernel
theorem dX9_draw_123 : decode cX9_draw 123 = .ok (.lconst 0, 1) := by decide +kernel
theorem dX9_draw_124 : decode cX9_draw 124 = .ok (.lstore 8, 2) := by decide +kernel
theorem dX9_draw_126 : decode cX9_draw 126 = .ok (.iconst 0, 1) := by decide +kernel
theorem dX9_draw_127 : decode cX9_draw 127 = .ok (.istore 11, 2) := by decide +kernel
theorem dX9_draw_129 : decode cX9_draw 129 = .ok (.iload 11, 2) := by decide +kernel
theorem dX9_draw_131 : decode cX9_draw 131 = .ok (.iconst 5, 1) := by decide +kernel
theorem dX9_draw_132 : decode cX9_draw 132 = .ok (.if_icmp .ge 33, 3) := by decide +kernel
theorem dX9_draw_165 : decode cX9_draw 165 = .ok (.lload 8, 2) := by decide +kernel
theorem dX9_draw_167 : decode cX9_draw 167 = .ok (.ldc2_w 248, 3) := by decide +kernel
theorem dX9_draw_170 : decode cX9_draw 170 = .ok (.lload 5, 2) := by decide +kernel
theorem dX9_draw_172 : decode cX9_draw 172 = .ok (.land, 1) := by decide +kernel
theorem dX9_draw_173 : decode cX9_draw 173 = .ok (.land, 1) := by decide +kernel
theorem dX9_draw_174 : decode cX9_draw 174 = .ok (.lstore 8, 2) := by decide +kernel
theorem dX9_draw_176 : decode cX9_draw 176 = .ok (.lload 8, 2) := by decide +kernel
theorem dX9_draw_178 : decode cX9_draw 178 = .ok (.lload_n 3, 1) := by decide +kernel
theorem dX9_draw_179 : decode cX9_draw 179 = .ok (.lcmp, 1) := by decide +kernel
theorem dX9_draw_180 : decode cX9_draw 180 = .ok (.ifCond .ge 6, 3) := by decide +kernel
theorem dX9_draw_186 : decode cX9_draw 186 = .ok (.iinc 10 1, 3) := by decide +kernel
theorem dX9_draw_189 : decode cX9_draw 189 = .ok (.goto (-73), 3) := by decide +kernel
theorem dX9_draw_183 : decode cX9_draw 183 = .ok (.lload 8, 2) := by decide +kernel
theorem dX9_draw_185 : decode cX9_draw 185 = .ok (.lreturn, 1) := by decide +kernel
theorem dX9_draw_135 : decode cX9_draw 135 = .ok (.iload 7, 2) := by decide +kernel
theorem dX9_draw_137 : decode cX9_draw 137 = .ok (.invokestatic 243, 3) := by decide +kernel
set_option maxRecDepth 20000 in
theorem ggX9_draw_X9_drawn : GoodIn wsX9_draw wsX9_drawn := goodIn_r _ [66, 67, 68, 69] (by decide +kernel) (by decide +kernel)
set_option maxRecDepth 20000 in
theorem gX9_draw_X9_drawn : GoodIn wsX9_draw (va_wsS RX9 243 yX9_drawn wsX9_drawn) := goodIn_app (goodIn_of _ (by decide +kernel)) ggX9_draw_X9_drawn
theorem dX9_draw_140 : decode cX9_draw 140 = .ok (.istore 7, 2) := by decide +kernel
theorem dX9_draw_142 : decode cX9_draw 142 = .ok (.lload 8, 2) := by decide +kernel
theorem dX9_draw_144 : decode cX9_draw 144 = .ok (.bipush 15, 2) := by decide +kernel
theorem dX9_draw_146 : decode cX9_draw 146 = .ok (.lshl, 1) := by decide +kernel
theorem dX9_draw_147 : decode cX9_draw 147 = .ok (.iload 7, 2) := by decide +kernel
theorem dX9_draw_149 : decode cX9_draw 149 = .ok (.ldc 246, 2) := by decide +kernel
theorem dX9_draw_151 : decode cX9_draw 151 = .ok (.idiv, 1) := by decide +kernel
theorem dX9_draw_152 : decode cX9_draw 152 = .ok (.ldc 247, 2) := by decide +kernel
theorem dX9_draw_154 : decode cX9_draw 154 = .ok (.irem, 1) := by decide +kernel
theorem dX9_draw_155 : decode cX9_draw 155 = .ok (.i2l, 1) := by decide +kernel
theorem dX9_draw_156 : decode cX9_draw 156 = .ok (.lor, 1) := by decide +kernel
theorem dX9_draw_157 : decode cX9_draw 157 = .ok (.lstore 8, 2) := by decide +kernel
theorem dX9_draw_159 : decode cX9_draw 159 = .ok (.iinc 11 1, 3) := by decide +kernel
theorem dX9_draw_162 : decode cX9_draw 162 = .ok (.goto (-33), 3) := by decide +kernel
theorem dX9_draw_94 : decode cX9_draw 94 = .ok (.ldc2_w 159, 3) := by decide +kernel
theorem dX9_draw_97 : decode cX9_draw 97 = .ok (.lload 5, 2) := by decide +kernel
theorem dX9_draw_99 : decode cX9_draw 99 = .ok (.lmul, 1) := by decide +kernel
theorem dX9_draw_100 : decode cX9_draw 100 = .ok (.lconst 1, 1) := by decide +kernel
theorem dX9_draw_101 : decode cX9_draw 101 = .ok (.ladd, 1) := by decide +kernel
theorem dX9_draw_102 : decode cX9_draw 102 = .ok (.lstore 5, 2) := by decide +kernel
theorem dX9_draw_104 : decode cX9_draw 104 = .ok (.goto (-19), 3) := by decide +kernel
theorem dX9_draw_74 : decode cX9_draw 74 = .ok (.aload_n 0, 1) := by decide +kernel
theorem dX9_draw_75 : decode cX9_draw 75 = .ok (.bipush 9, 2) := by decide +kernel
theorem dX9_draw_77 : decode cX9_draw 77 = .ok (.invokevirtual 156, 3) := by decide +kernel
theorem dX9_draw_80 : decode cX9_draw 80 = .ok (.i2l, 1) := by decide +kernel
theorem dX9_draw_81 : decode cX9_draw 81 = .ok (.lreturn, 1) := by decide +kernel
theorem dX9_draw_58 : decode cX9_draw 58 = .ok (.aload_n 0, 1) := by decide +kernel
theorem dX9_draw_59 : decode cX9_draw 59 = .ok (.bipush 8, 2) := by decide +kernel
theorem dX9_draw_61 : decode cX9_draw 61 = .ok (.invokevirtual 156, 3) := by decide +kernel
theorem dX9_draw_64 : decode cX9_draw 64 = .ok (.i2l, 1) := by decide +kernel
theorem dX9_draw_65 : decode cX9_draw 65 = .ok (.lreturn, 1) := by decide +kernel
theorem dX9_walk_0 : decode cX9_walk 0 = .ok (.aload_n 0, 1) := by decide +kernel
theorem dX9_walk_1 : decode cX9_walk 1 = .ok (.iconst 0, 1) := by decide +kernel
theorem dX9_walk_2 : decode cX9_walk 2 = .ok (.putfield 112, 3) := by decide +kernel
theorem dX9_walk_5 : decode cX9_walk 5 = .ok (.aload_n 0, 1) := by decide +kernel
theorem dX9_walk_6 : decode cX9_walk 6 = .ok (.iconst 0, 1) := by decide +kernel
theorem dX9_walk_7 : decode cX9_walk 7 = .ok (.putfield 115, 3) := by decide +kernel
theorem dX9_walk_10 : decode cX9_walk 10 = .ok (.iload_n 1, 1) := by decide +kernel
theorem dX9_walk_11 : decode cX9_walk 11 = .ok (.ifCond .lt 9, 3) := by decide +kernel
theorem dX9_walk_20 : decode cX9_walk 20 = .ok (.aload_n 0, 1) := by decide +kernel
theorem dX9_walk_21 : decode cX9_walk 21 = .ok (.iconst 2, 1) := by decide +kernel
theorem dX9_walk_22 : decode cX9_walk 22 = .ok (.invokevirtual 156, 3) := by decide +kernel
set_option maxRecDepth 20000 in
theorem ggX9_walk_X9_refuse : GoodIn wsX9_walk wsX9_refuse := goodIn_r _ [13, 2, 62, 63, 64, 65, 66, 67, 68, 69, 70, 71, 72, 73, 74, 75, 76, 77, 78, 79, 80, 81, 82, 83, 84, 85, 86, 87, 88, 89, 90, 91, 92, 93, 94, 95, 96, 97, 98, 99, 100, 101, 102] (by decide +kernel) (by decide +kernel)
set_option maxRecDepth 20000 in
theorem gX9_walk_X9_refuse : GoodIn wsX9_walk (wsV RX9 156 RX9 yX9_refuse wsX9_refuse) := goodIn_app (goodIn_of _ (by decide +kernel)) ggX9_walk_X9_refuse
theorem dX9_walk_25 : decode cX9_walk 25 = .ok (.ireturn, 1) := by decide +kernel
theorem dX9_walk_14 : decode cX9_walk 14 = .ok (.iload_n 1, 1) := by decide +kernel
theorem dX9_walk_15 : decode cX9_walk 15 = .ok (.bipush 60, 2) := by decide +kernel
theorem dX9_walk_17 : decode cX9_walk 17 = .ok (.if_icmp .le 9, 3) := by decide +kernel
theorem dX9_walk_26 : decode cX9_walk 26 = .ok (.aload_n 0, 1) := by decide +kernel
theorem dX9_walk_27 : decode cX9_walk 27 = .ok (.invokevirtual 186, 3) := by decide +kernel
set_option maxRecDepth 20000 in
theorem ggX9_walk_X9_areOpen : GoodIn wsX9_walk wsX9_areOpen := goodIn_r _ [17, 5, 6, 18, 19, 20, 21, 22, 12, 23, 24, 25, 26, 27, 28, 29, 30, 31, 32, 33, 34, 35, 36, 37, 62, 63, 64, 65, 66, 67, 68, 69, 70, 71, 72, 73, 74, 75, 76, 77, 78, 79, 80, 81, 82, 83, 84, 85, 86, 87, 88, 89, 90, 91, 92, 93, 94, 95, 96, 97, 98, 99, 100, 101, 102] (by decide +kernel) (by decide +kernel)
set_option maxRecDepth 20000 in
theorem gX9_walk_X9_areOpen : GoodIn wsX9_walk (wsV RX9 186 RX9 yX9_areOpen wsX9_areOpen) := goodIn_app (goodIn_of _ (by decide +kernel)) ggX9_walk_X9_areOpen
theorem dX9_walk_30 : decode cX9_walk 30 = .ok (.ifCond .ne 10, 3) := by decide +kernel
theorem dX9_walk_40 : decode cX9_walk 40 = .ok (.aload_n 0, 1) := by decide +kernel
theorem dX9_walk_41 : decode cX9_walk 41 = .ok (.iload_n 1, 1) := by decide +kernel
theorem dX9_walk_42 : decode cX9_walk 42 = .ok (.invokevirtual 190, 3) := by decide +kernel
set_option maxRecDepth 20000 in
theorem ggX9_walk_X9_countOf : GoodIn wsX9_walk wsX9_countOf := goodIn_r _ [41, 7, 5, 6, 42, 43, 44, 12, 45, 18, 19, 46, 47, 48, 49, 50, 51, 52, 20, 21, 22, 23, 24, 25, 26, 27, 28, 29, 30, 31, 32, 33, 34, 35, 36, 37, 53, 54, 55, 56, 57, 58, 59, 60, 61, 3, 62, 63, 64, 65, 66, 67, 68, 69, 70, 71, 72, 73, 74, 75, 76, 77, 78, 79, 80, 81, 82, 83, 84, 85, 86, 87, 88, 89, 90, 91, 92, 93, 94, 95, 96, 97, 98, 99, 100, 101, 102] (by decide +kernel) (by decide +kernel)
set_option maxRecDepth 20000 in
theorem gX9_walk_X9_countOf : GoodIn wsX9_walk (wsV RX9 190 RX9 yX9_countOf wsX9_countOf) := goodIn_app (goodIn_of _ (by decide +kernel)) ggX9_walk_X9_countOf
theorem dX9_walk_45 : decode cX9_walk 45 = .ok (.lstore 4, 2) := by decide +kernel
theorem dX9_walk_47 : decode cX9_walk 47 = .ok (.lload_n 2, 1) := by decide +kernel
theorem dX9_walk_48 : decode cX9_walk 48 = .ok (.lconst 0, 1) := by decide +kernel
theorem dX9_walk_49 : decode cX9_walk 49 = .ok (.lcmp, 1) := by decide +kernel
theorem dX9_walk_50 : decode cX9_walk 50 = .ok (.ifCond .lt 19, 3) := by decide +kernel
theorem dX9_walk_69 : decode cX9_walk 69 = .ok (.aload_n 0, 1) := by decide +kernel
theorem dX9_walk_70 : decode cX9_walk 70 = .ok (.bipush 8, 2) := by decide +kernel
theorem dX9_walk_72 : decode cX9_walk 72 = .ok (.invokevirtual 156, 3) := by decide +kernel
theorem dX9_walk_75 : decode cX9_walk 75 = .ok (.ireturn, 1) := by decide +kernel
theorem dX9_walk_53 : decode cX9_walk 53 = .ok (.lload 4, 2) := by decide +kernel
theorem dX9_walk_55 : decode cX9_walk 55 = .ok (.ldc2_w 173, 3) := by decide +kernel
theorem dX9_walk_58 : decode cX9_walk 58 = .ok (.lcmp, 1) := by decide +kernel
theorem dX9_walk_59 : decode cX9_walk 59 = .ok (.ifCond .ge 17, 3) := by decide +kernel
theorem dX9_walk_76 : decode cX9_walk 76 = .ok (.lload 4, 2) := by decide +kernel
theorem dX9_walk_78 : decode cX9_walk 78 = .ok (.ldc2_w 173, 3) := by decide +kernel
theorem dX9_walk_81 : decode cX9_walk 81 = .ok (.lcmp, 1) := by decide +kernel
theorem dX9_walk_82 : decode cX9_walk 82 = .ok (.ifCond .lt 10, 3) := by decide +kernel
theorem dX9_walk_85 : decode cX9_walk 85 = .ok (.aload_n 0, 1) := by decide +kernel
theorem dX9_walk_86 : decode cX9_walk 86 = .ok (.bipush 9, 2) := by decide +kernel
theorem dX9_walk_88 : decode cX9_walk 88 = .ok (.invokevirtual 156, 3) := by decide +kernel
theorem dX9_walk_91 : decode cX9_walk 91 = .ok (.ireturn, 1) := by decide +kernel
theorem dX9_walk_62 : decode cX9_walk 62 = .ok (.lload_n 2, 1) := by decide +kernel
theorem dX9_walk_63 : decode cX9_walk 63 = .ok (.lload 4, 2) := by decide +kernel
theorem dX9_walk_65 : decode cX9_walk 65 = .ok (.lcmp, 1) := by decide +kernel
theorem dX9_walk_66 : decode cX9_walk 66 = .ok (.ifCond .lt 10, 3) := by decide +kernel
theorem dX9_walk_92 : decode cX9_walk 92 = .ok (.aload_n 0, 1) := by decide +kernel
theorem dX9_walk_93 : decode cX9_walk 93 = .ok (.iload_n 1, 1) := by decide +kernel
theorem dX9_walk_94 : decode cX9_walk 94 = .ok (.putfield 234, 3) := by decide +kernel
theorem dX9_walk_97 : decode cX9_walk 97 = .ok (.lload_n 2, 1) := by decide +kernel
theorem dX9_walk_98 : decode cX9_walk 98 = .ok (.lstore 6, 2) := by decide +kernel
theorem dX9_walk_100 : decode cX9_walk 100 = .ok (.aload_n 0, 1) := by decide +kernel
theorem dX9_walk_101 : decode cX9_walk 101 = .ok (.getfield 161, 3) := by decide +kernel
theorem dX9_walk_104 : decode cX9_walk 104 = .ok (.aload_n 0, 1) := by decide +kernel
theorem dX9_walk_105 : decode cX9_walk 105 = .ok (.getfield 164, 3) := by decide +kernel
theorem dX9_walk_108 : decode cX9_walk 108 = .ok (.invokestatic 144, 3) := by decide +kernel
set_option maxRecDepth 20000 in
theorem ggX9_walk_X9_squareOf : GoodIn wsX9_walk wsX9_squareOf := goodIn_r _ [37] (by decide +kernel) (by decide +kernel)
set_option maxRecDepth 20000 in
theorem gX9_walk_X9_squareOf : GoodIn wsX9_walk (va_wsS RX9 144 yX9_squareOf wsX9_squareOf) := goodIn_app (goodIn_of _ (by decide +kernel)) ggX9_walk_X9_squareOf
theorem dX9_walk_111 : decode cX9_walk 111 = .ok (.istore 8, 2) := by decide +kernel
theorem dX9_walk_113 : decode cX9_walk 113 = .ok (.iload_n 1, 1) := by decide +kernel
theorem dX9_walk_114 : decode cX9_walk 114 = .ok (.iconst 1, 1) := by decide +kernel
theorem dX9_walk_115 : decode cX9_walk 115 = .ok (.isub, 1) := by decide +kernel
theorem dX9_walk_116 : decode cX9_walk 116 = .ok (.istore 9, 2) := by decide +kernel
theorem dX9_walk_118 : decode cX9_walk 118 = .ok (.iload 9, 2) := by decide +kernel
theorem dX9_walk_120 : decode cX9_walk 120 = .ok (.ifCond .lt 115, 3) := by decide +kernel
theorem dX9_walk_235 : decode cX9_walk 235 = .ok (.iload_n 1, 1) := by decide +kernel
theorem dX9_walk_236 : decode cX9_walk 236 = .ok (.ireturn, 1) := by decide +kernel
theorem dX9_walk_123 : decode cX9_walk 123 = .ok (.iconst 0, 1) := by decide +kernel
theorem dX9_walk_124 : decode cX9_walk 124 = .ok (.istore 10, 2) := by decide +kernel
theorem dX9_walk_126 : decode cX9_walk 126 = .ok (.iconst 1, 1) := by decide +kernel
theorem dX9_walk_127 : decode cX9_walk 127 = .ok (.istore 11, 2) := by decide +kernel
theorem dX9_walk_129 : decode cX9_walk 129 = .ok (.iload 11, 2) := by decide +kernel
theorem dX9_walk_131 : decode cX9_walk 131 = .ok (.ifCond .eq 71, 3) := by decide +kernel
theorem dX9_walk_202 : decode cX9_walk 202 = .ok (.aload_n 0, 1) := by decide +kernel
theorem dX9_walk_203 : decode cX9_walk 203 = .ok (.getfield 78, 3) := by decide +kernel
theorem dX9_walk_206 : decode cX9_walk 206 = .ok (.iload_n 1, 1) := by decide +kernel
theorem dX9_walk_207 : decode cX9_walk 207 = .ok (.iconst 1, 1) := by decide +kernel
theorem dX9_walk_208 : decode cX9_walk 208 = .ok (.isub, 1) := by decide +kernel
theorem dX9_walk_209 : decode cX9_walk 209 = .ok (.iload 9, 2) := by decide +kernel
theorem dX9_walk_211 : decode cX9_walk 211 = .ok (.isub, 1) := by decide +kernel
theorem dX9_walk_212 : decode cX9_walk 212 = .ok (.bipush 48, 2) := by decide +kernel
theorem dX9_walk_214 : decode cX9_walk 214 = .ok (.iload 10, 2) := by decide +kernel
theorem dX9_walk_216 : decode cX9_walk 216 = .ok (.iadd, 1) := by decide +kernel
theorem dX9_walk_217 : decode cX9_walk 217 = .ok (.i2b, 1) := by decide +kernel
theorem dX9_walk_218 : decode cX9_walk 218 = .ok (.bastore, 1) := by decide +kernel
theorem dX9_walk_219 : decode cX9_walk 219 = .ok (.aload_n 0, 1) := by decide +kernel
theorem dX9_walk_220 : decode cX9_walk 220 = .ok (.iload 8, 2) := by decide +kernel
theorem dX9_walk_222 : decode cX9_walk 222 = .ok (.iload 10, 2) := by decide +kernel
theorem dX9_walk_224 : decode cX9_walk 224 = .ok (.invokevirtual 175, 3) := by decide +kernel
set_option maxRecDepth 20000 in
theorem ggX9_walk_X9_next : GoodIn wsX9_walk wsX9_next := goodIn_r _ [56, 57, 58, 24, 34, 47, 48, 12, 49, 50, 51, 52, 20, 21, 22, 23, 25, 26, 27, 28, 29, 30, 31, 32, 33, 35, 36, 37, 62, 63, 64, 65, 66, 67, 68, 69, 70, 71, 72, 73, 74, 75, 76, 77, 78, 79, 80, 81, 82, 83, 84, 85, 86, 87, 88, 89, 90, 91, 92, 93, 94, 95, 96, 97, 98, 99, 100, 101, 102] (by decide +kernel) (by decide +kernel)
set_option maxRecDepth 20000 in
theorem gX9_walk_X9_next : GoodIn wsX9_walk (wsV RX9 175 RX9 yX9_next wsX9_next) := goodIn_app (goodIn_of _ (by decide +kernel)) ggX9_walk_X9_next
theorem dX9_walk_227 : decode cX9_walk 227 = .ok (.istore 8, 2) := by decide +kernel
theorem dX9_walk_229 : decode cX9_walk 229 = .ok (.iinc 9 (-1), 3) := by decide +kernel
theorem dX9_walk_232 : decode cX9_walk 232 = .ok (.goto (-114), 3) := by decide +kernel
theorem dX9_walk_134 : decode cX9_walk 134 = .ok (.aload_n 0, 1) := by decide +kernel
theorem dX9_walk_135 : decode cX9_walk 135 = .ok (.iload 8, 2) := by decide +kernel
theorem dX9_walk_137 : decode cX9_walk 137 = .ok (.iload 10, 2) := by decide +kernel
theorem dX9_walk_139 : decode cX9_walk 139 = .ok (.invokevirtual 175, 3) := by decide +kernel
theorem dX9_walk_142 : decode cX9_walk 142 = .ok (.istore 12, 2) := by decide +kernel
theorem dX9_walk_144 : decode cX9_walk 144 = .ok (.iload 12, 2) := by decide +kernel
theorem dX9_walk_146 : decode cX9_walk 146 = .ok (.ifCond .ge 7, 3) := by decide +kernel
theorem dX9_walk_153 : decode cX9_walk 153 = .ok (.aload_n 0, 1) := by decide +kernel
theorem dX9_walk_154 : decode cX9_walk 154 = .ok (.getfield 43, 3) := by decide +kernel
theorem dX9_walk_157 : decode cX9_walk 157 = .ok (.sipush 3721, 3) := by decide +kernel
theorem dX9_walk_160 : decode cX9_walk 160 = .ok (.iload 9, 2) := by decide +kernel
theorem dX9_walk_162 : decode cX9_walk 162 = .ok (.imul, 1) := by decide +kernel
theorem dX9_walk_163 : decode cX9_walk 163 = .ok (.iload 12, 2) := by decide +kernel
theorem dX9_walk_165 : decode cX9_walk 165 = .ok (.iadd, 1) := by decide +kernel
theorem dX9_walk_166 : decode cX9_walk 166 = .ok (.laload, 1) := by decide +kernel
theorem dX9_walk_167 : decode cX9_walk 167 = .ok (.lstore 13, 2) := by decide +kernel
theorem dX9_walk_169 : decode cX9_walk 169 = .ok (.lload 6, 2) := by decide +kernel
theorem dX9_walk_171 : decode cX9_walk 171 = .ok (.lload 13, 2) := by decide +kernel
theorem dX9_walk_173 : decode cX9_walk 173 = .ok (.lcmp, 1) := by decide +kernel
theorem dX9_walk_174 : decode cX9_walk 174 = .ok (.ifCond .lt 7, 3) := by decide +kernel
theorem dX9_walk_181 : decode cX9_walk 181 = .ok (.iconst 0, 1) := by decide +kernel
theorem dX9_walk_182 : decode cX9_walk 182 = .ok (.istore 11, 2) := by decide +kernel
theorem dX9_walk_184 : decode cX9_walk 184 = .ok (.iload 11, 2) := by decide +kernel
