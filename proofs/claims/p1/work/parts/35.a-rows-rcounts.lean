theorem dX9_areOpen_0 : decode cX9_areOpen 0 = .ok (.aload_n 0, 1) := by decide +kernel
theorem dX9_areOpen_1 : decode cX9_areOpen 1 = .ok (.aload_n 0, 1) := by decide +kernel
theorem dX9_areOpen_2 : decode cX9_areOpen 2 = .ok (.getfield 161, 3) := by decide +kernel
theorem dX9_areOpen_5 : decode cX9_areOpen 5 = .ok (.aload_n 0, 1) := by decide +kernel
theorem dX9_areOpen_6 : decode cX9_areOpen 6 = .ok (.getfield 164, 3) := by decide +kernel
theorem dX9_areOpen_9 : decode cX9_areOpen 9 = .ok (.invokevirtual 153, 3) := by decide +kernel
set_option maxRecDepth 20000 in
theorem ggX9_areOpen_X9_isOpen : GoodIn wsX9_areOpen wsX9_isOpen := goodIn_r _ [9, 10, 11, 12, 13, 8, 14, 15, 16, 17, 18, 19, 20, 21, 22, 23, 24, 25, 26, 27, 28, 29, 30, 31, 32, 33, 34, 35, 36, 37, 38, 39, 40, 41, 42, 43, 44, 45, 46, 47, 48, 49, 50, 51, 52, 53, 54, 55, 56, 57, 58, 59, 60, 61, 62, 63, 64] (by decide +kernel) (by decide +kernel)
set_option maxRecDepth 20000 in
theorem gX9_areOpen_X9_isOpen : GoodIn wsX9_areOpen (wsV RX9 153 RX9 yX9_isOpen wsX9_isOpen) := goodIn_app (goodIn_of _ (by decide +kernel)) ggX9_areOpen_X9_isOpen
theorem dX9_areOpen_12 : decode cX9_areOpen 12 = .ok (.ifCond .eq 22, 3) := by decide +kernel
theorem dX9_areOpen_15 : decode cX9_areOpen 15 = .ok (.aload_n 0, 1) := by decide +kernel
theorem dX9_areOpen_16 : decode cX9_areOpen 16 = .ok (.aload_n 0, 1) := by decide +kernel
theorem dX9_areOpen_17 : decode cX9_areOpen 17 = .ok (.getfield 167, 3) := by decide +kernel
theorem dX9_areOpen_20 : decode cX9_areOpen 20 = .ok (.aload_n 0, 1) := by decide +kernel
theorem dX9_areOpen_21 : decode cX9_areOpen 21 = .ok (.getfield 170, 3) := by decide +kernel
theorem dX9_areOpen_24 : decode cX9_areOpen 24 = .ok (.invokevirtual 153, 3) := by decide +kernel
theorem dX9_areOpen_27 : decode cX9_areOpen 27 = .ok (.ifCond .eq 7, 3) := by decide +kernel
theorem dX9_areOpen_30 : decode cX9_areOpen 30 = .ok (.iconst 1, 1) := by decide +kernel
theorem dX9_areOpen_31 : decode cX9_areOpen 31 = .ok (.goto 4, 3) := by decide +kernel
theorem dX9_areOpen_35 : decode cX9_areOpen 35 = .ok (.ireturn, 1) := by decide +kernel
theorem dX9_countOf_0 : decode cX9_countOf 0 = .ok (.aload_n 0, 1) := by decide +kernel
theorem dX9_countOf_1 : decode cX9_countOf 1 = .ok (.iload_n 1, 1) := by decide +kernel
theorem dX9_countOf_2 : decode cX9_countOf 2 = .ok (.iconst 0, 1) := by decide +kernel
theorem dX9_countOf_3 : decode cX9_countOf 3 = .ok (.invokevirtual 182, 3) := by decide +kernel
set_option maxRecDepth 20000 in
theorem ggX9_countOf_X9_fill : GoodIn wsX9_countOf wsX9_fill := goodIn_r _ [8, 1, 9, 10, 11, 12, 13, 7, 14, 15, 16, 17, 18, 19, 20, 21, 22, 23, 24, 25, 26, 27, 28, 29, 30, 31, 32, 33, 34, 35, 36, 37, 38, 39, 40, 41, 42, 43, 44, 45, 46, 47, 48, 49, 50, 51, 52, 53, 54, 55, 56, 57, 58, 59, 60, 61, 62, 63, 64, 65, 66, 67, 68, 69, 70, 71, 72, 73, 74, 75, 76, 77, 78, 79, 80, 81, 82, 83, 84, 85, 86] (by decide +kernel) (by decide +kernel)
set_option maxRecDepth 20000 in
theorem gX9_countOf_X9_fill : GoodIn wsX9_countOf (wsV RX9 182 RX9 yX9_fill wsX9_fill) := goodIn_app (goodIn_of _ (by decide +kernel)) ggX9_countOf_X9_fill
theorem dX9_countOf_6 : decode cX9_countOf 6 = .ok (.aload_n 0, 1) := by decide +kernel
theorem dX9_countOf_7 : decode cX9_countOf 7 = .ok (.getfield 43, 3) := by decide +kernel
theorem dX9_countOf_10 : decode cX9_countOf 10 = .ok (.sipush 3721, 3) := by decide +kernel
theorem dX9_countOf_13 : decode cX9_countOf 13 = .ok (.iload_n 1, 1) := by decide +kernel
theorem dX9_countOf_14 : decode cX9_countOf 14 = .ok (.imul, 1) := by decide +kernel
theorem dX9_countOf_15 : decode cX9_countOf 15 = .ok (.aload_n 0, 1) := by decide +kernel
theorem dX9_countOf_16 : decode cX9_countOf 16 = .ok (.getfield 161, 3) := by decide +kernel
theorem dX9_countOf_19 : decode cX9_countOf 19 = .ok (.aload_n 0, 1) := by decide +kernel
theorem dX9_countOf_20 : decode cX9_countOf 20 = .ok (.getfield 164, 3) := by decide +kernel
theorem dX9_countOf_23 : decode cX9_countOf 23 = .ok (.invokestatic 144, 3) := by decide +kernel
set_option maxRecDepth 20000 in
theorem ggX9_countOf_X9_squareOf : GoodIn wsX9_countOf wsX9_squareOf := goodIn_r _ [35] (by decide +kernel) (by decide +kernel)
set_option maxRecDepth 20000 in
theorem gX9_countOf_X9_squareOf : GoodIn wsX9_countOf (va_wsS RX9 144 yX9_squareOf wsX9_squareOf) := goodIn_app (goodIn_of _ (by decide +kernel)) ggX9_countOf_X9_squareOf
theorem dX9_countOf_26 : decode cX9_countOf 26 = .ok (.iadd, 1) := by decide +kernel
theorem dX9_countOf_27 : decode cX9_countOf 27 = .ok (.laload, 1) := by decide +kernel
theorem dX9_countOf_28 : decode cX9_countOf 28 = .ok (.lreturn, 1) := by decide +kernel
theorem dX9_count_0 : decode cX9_count 0 = .ok (.aload_n 0, 1) := by decide +kernel
theorem dX9_count_1 : decode cX9_count 1 = .ok (.iconst 0, 1) := by decide +kernel
theorem dX9_count_2 : decode cX9_count 2 = .ok (.putfield 112, 3) := by decide +kernel
theorem dX9_count_5 : decode cX9_count 5 = .ok (.aload_n 0, 1) := by decide +kernel
theorem dX9_count_6 : decode cX9_count 6 = .ok (.iconst 0, 1) := by decide +kernel
theorem dX9_count_7 : decode cX9_count 7 = .ok (.putfield 115, 3) := by decide +kernel
theorem dX9_count_10 : decode cX9_count 10 = .ok (.iload_n 1, 1) := by decide +kernel
theorem dX9_count_11 : decode cX9_count 11 = .ok (.ifCond .lt 9, 3) := by decide +kernel
theorem dX9_count_20 : decode cX9_count 20 = .ok (.aload_n 0, 1) := by decide +kernel
theorem dX9_count_21 : decode cX9_count 21 = .ok (.iconst 2, 1) := by decide +kernel
theorem dX9_count_22 : decode cX9_count 22 = .ok (.invokevirtual 156, 3) := by decide +kernel
set_option maxRecDepth 20000 in
theorem ggX9_count_X9_refuse : GoodIn wsX9_count wsX9_refuse := goodIn_r _ [8, 2, 60, 61, 62, 63, 64, 65, 66, 67, 68, 69, 70, 71, 72, 73, 74, 75, 76, 77, 78, 79, 80, 81, 82, 83, 84, 85, 86, 87, 88, 89, 90, 91, 92, 93, 94, 95, 96, 97, 98, 99, 100] (by decide +kernel) (by decide +kernel)
set_option maxRecDepth 20000 in
theorem gX9_count_X9_refuse : GoodIn wsX9_count (wsV RX9 156 RX9 yX9_refuse wsX9_refuse) := goodIn_app (goodIn_of _ (by decide +kernel)) ggX9_count_X9_refuse
theorem dX9_count_25 : decode cX9_count 25 = .ok (.i2l, 1) := by decide +kernel
theorem dX9_count_26 : decode cX9_count 26 = .ok (.lreturn, 1) := by decide +kernel
theorem dX9_count_14 : decode cX9_count 14 = .ok (.iload_n 1, 1) := by decide +kernel
theorem dX9_count_15 : decode cX9_count 15 = .ok (.bipush 60, 2) := by decide +kernel
theorem dX9_count_17 : decode cX9_count 17 = .ok (.if_icmp .le 10, 3) := by decide +kernel
theorem dX9_count_27 : decode cX9_count 27 = .ok (.aload_n 0, 1) := by decide +kernel
theorem dX9_count_28 : decode cX9_count 28 = .ok (.invokevirtual 186, 3) := by decide +kernel
set_option maxRecDepth 20000 in
theorem ggX9_count_X9_areOpen : GoodIn wsX9_count wsX9_areOpen := goodIn_r _ [12, 13, 14, 15, 16, 17, 18, 19, 7, 20, 21, 22, 23, 24, 25, 26, 27, 28, 29, 30, 31, 32, 33, 34, 60, 61, 62, 63, 64, 65, 66, 67, 68, 69, 70, 71, 72, 73, 74, 75, 76, 77, 78, 79, 80, 81, 82, 83, 84, 85, 86, 87, 88, 89, 90, 91, 92, 93, 94, 95, 96, 97, 98, 99, 100] (by decide +kernel) (by decide +kernel)
set_option maxRecDepth 20000 in
theorem gX9_count_X9_areOpen : GoodIn wsX9_count (wsV RX9 186 RX9 yX9_areOpen wsX9_areOpen) := goodIn_app (goodIn_of _ (by decide +kernel)) ggX9_count_X9_areOpen
theorem dX9_count_31 : decode cX9_count 31 = .ok (.ifCond .ne 11, 3) := by decide +kernel
theorem dX9_count_42 : decode cX9_count 42 = .ok (.aload_n 0, 1) := by decide +kernel
theorem dX9_count_43 : decode cX9_count 43 = .ok (.iload_n 1, 1) := by decide +kernel
theorem dX9_count_44 : decode cX9_count 44 = .ok (.invokevirtual 190, 3) := by decide +kernel
set_option maxRecDepth 20000 in
theorem ggX9_count_X9_countOf : GoodIn wsX9_count wsX9_countOf := goodIn_r _ [38, 39, 13, 14, 40, 41, 42, 7, 43, 15, 16, 44, 45, 46, 47, 48, 49, 50, 17, 18, 19, 20, 21, 22, 23, 24, 25, 26, 27, 28, 29, 30, 31, 32, 33, 34, 51, 52, 53, 54, 55, 56, 57, 58, 59, 3, 60, 61, 62, 63, 64, 65, 66, 67, 68, 69, 70, 71, 72, 73, 74, 75, 76, 77, 78, 79, 80, 81, 82, 83, 84, 85, 86, 87, 88, 89, 90, 91, 92, 93, 94, 95, 96, 97, 98, 99, 100] (by decide +kernel) (by decide +kernel)
set_option maxRecDepth 20000 in
theorem gX9_count_X9_countOf : GoodIn wsX9_count (wsV RX9 190 RX9 yX9_countOf wsX9_countOf) := goodIn_app (goodIn_of _ (by decide +kernel)) ggX9_count_X9_countOf
theorem dX9_count_47 : decode cX9_count 47 = .ok (.lstore_n 2, 1) := by decide +kernel
theorem dX9_count_48 : decode cX9_count 48 = .ok (.lload_n 2, 1) := by decide +kernel
theorem dX9_count_49 : decode cX9_count 49 = .ok (.ldc2_w 173, 3) := by decide +kernel
theorem dX9_count_52 : decode cX9_count 52 = .ok (.lcmp, 1) := by decide +kernel
theorem dX9_count_53 : decode cX9_count 53 = .ok (.ifCond .lt 13, 3) := by decide +kernel
theorem dX9_count_66 : decode cX9_count 66 = .ok (.lload_n 2, 1) := by decide +kernel
theorem dX9_count_67 : decode cX9_count 67 = .ok (.lreturn, 1) := by decide +kernel
theorem dX9_count_56 : decode cX9_count 56 = .ok (.aload_n 0, 1) := by decide +kernel
theorem dX9_count_57 : decode cX9_count 57 = .ok (.bipush 9, 2) := by decide +kernel
theorem dX9_count_59 : decode cX9_count 59 = .ok (.invokevirtual 156, 3) := by decide +kernel
theorem dX9_count_62 : decode cX9_count 62 = .ok (.i2l, 1) := by decide +kernel
theorem dX9_count_63 : decode cX9_count 63 = .ok (.goto 4, 3) := by decide +kernel
theorem dX9_all_0 : decode cX9_all 0 = .ok (.aload_n 0, 1) := by decide +kernel
theorem dX9_all_1 : decode cX9_all 1 = .ok (.iconst 0, 1) := by decide +kernel
theorem dX9_all_2 : decode cX9_all 2 = .ok (.putfield 112, 3) := by decide +kernel
theorem dX9_all_5 : decode cX9_all 5 = .ok (.aload_n 0, 1) := by decide +kernel
theorem dX9_all_6 : decode cX9_all 6 = .ok (.iconst 0, 1) := by decide +kernel
theorem dX9_all_7 : decode cX9_all 7 = .ok (.putfield 115, 3) := by decide +kernel
theorem dX9_all_10 : decode cX9_all 10 = .ok (.iload_n 1, 1) := by decide +kernel
theorem dX9_all_11 : decode cX9_all 11 = .ok (.ifCond .lt 9, 3) := by decide +kernel
theorem dX9_all_20 : decode cX9_all 20 = .ok (.aload_n 0, 1) := by decide +kernel
theorem dX9_all_21 : decode cX9_all 21 = .ok (.iconst 2, 1) := by decide +kernel
theorem dX9_all_22 : decode cX9_all 22 = .ok (.invokevirtual 156, 3) := by decide +kernel
set_option maxRecDepth 20000 in
theorem ggX9_all_X9_refuse : GoodIn wsX9_all wsX9_refuse := goodIn_r _ [11, 2, 52, 53, 54, 55, 56, 57, 58, 59, 60, 61, 62, 63, 64, 65, 66, 67, 68, 69, 70, 71, 72, 73, 74, 75, 76, 77, 78, 79, 80, 81, 82, 83, 84, 85, 86, 87, 88, 89, 90, 91, 92] (by decide +kernel) (by decide +kernel)
set_option maxRecDepth 20000 in
theorem gX9_all_X9_refuse : GoodIn wsX9_all (wsV RX9 156 RX9 yX9_refuse wsX9_refuse) := goodIn_app (goodIn_of _ (by decide +kernel)) ggX9_all_X9_refuse
theorem dX9_all_25 : decode cX9_all 25 = .ok (.i2l, 1) := by decide +kernel
theorem dX9_all_26 : decode cX9_all 26 = .ok (.lreturn, 1) := by decide +kernel
theorem dX9_all_14 : decode cX9_all 14 = .ok (.iload_n 1, 1) := by decide +kernel
theorem dX9_all_15 : decode cX9_all 15 = .ok (.bipush 60, 2) := by decide +kernel
theorem dX9_all_17 : decode cX9_all 17 = .ok (.if_icmp .le 10, 3) := by decide +kernel
theorem dX9_all_27 : decode cX9_all 27 = .ok (.aload_n 0, 1) := by decide +kernel
theorem dX9_all_28 : decode cX9_all 28 = .ok (.aload_n 0, 1) := by decide +kernel
theorem dX9_all_29 : decode cX9_all 29 = .ok (.getfield 161, 3) := by decide +kernel
theorem dX9_all_32 : decode cX9_all 32 = .ok (.aload_n 0, 1) := by decide +kernel
theorem dX9_all_33 : decode cX9_all 33 = .ok (.getfield 164, 3) := by decide +kernel
theorem dX9_all_36 : decode cX9_all 36 = .ok (.invokevirtual 153, 3) := by decide +kernel
set_option maxRecDepth 20000 in
theorem ggX9_all_X9_isOpen : GoodIn wsX9_all wsX9_isOpen := goodIn_r _ [15, 16, 17, 18, 19, 10, 20, 21, 22, 23, 24, 25, 26, 27, 28, 29, 52, 53, 54, 55, 56, 57, 58, 59, 60, 61, 62, 63, 64, 65, 66, 67, 68, 69, 70, 71, 72, 73, 74, 75, 76, 77, 78, 79, 80, 81, 82, 83, 84, 85, 86, 87, 88, 89, 90, 91, 92] (by decide +kernel) (by decide +kernel)
set_option maxRecDepth 20000 in
theorem gX9_all_X9_isOpen : GoodIn wsX9_all (wsV RX9 153 RX9 yX9_isOpen wsX9_isOpen) := goodIn_app (goodIn_of _ (by decide +kernel)) ggX9_all_X9_isOpen
theorem dX9_all_39 : decode cX9_all 39 = .ok (.ifCond .ne 11, 3) := by decide +kernel
theorem dX9_all_50 : decode cX9_all 50 = .ok (.aload_n 0, 1) := by decide +kernel
theorem dX9_all_51 : decode cX9_all 51 = .ok (.iload_n 1, 1) := by decide +kernel
theorem dX9_all_52 : decode cX9_all 52 = .ok (.iconst 1, 1) := by decide +kernel
theorem dX9_all_53 : decode cX9_all 53 = .ok (.invokevirtual 182, 3) := by decide +kernel
set_option maxRecDepth 20000 in
theorem ggX9_all_X9_fill : GoodIn wsX9_all wsX9_fill := goodIn_r _ [33, 5, 34, 35, 36, 37, 38, 10, 39, 40, 41, 42, 12, 13, 14, 15, 16, 17, 18, 19, 20, 21, 22, 23, 24, 25, 26, 27, 28, 29, 43, 44, 45, 46, 47, 48, 49, 50, 51, 6, 52, 53, 54, 55, 56, 57, 58, 59, 60, 61, 62, 63, 64, 65, 66, 67, 68, 69, 70, 71, 72, 73, 74, 75, 76, 77, 78, 79, 80, 81, 82, 83, 84, 85, 86, 87, 88, 89, 90, 91, 92] (by decide +kernel) (by decide +kernel)
set_option maxRecDepth 20000 in
theorem gX9_all_X9_fill : GoodIn wsX9_all (wsV RX9 182 RX9 yX9_fill wsX9_fill) := goodIn_app (goodIn_of _ (by decide +kernel)) ggX9_all_X9_fill
theorem dX9_all_56 : decode cX9_all 56 = .ok (.aload_n 0, 1) := by decide +kernel
theorem dX9_all_57 : decode cX9_all 57 = .ok (.getfield 43, 3) := by decide +kernel
theorem dX9_all_60 : decode cX9_all 60 = .ok (.sipush 3721, 3) := by decide +kernel
theorem dX9_all_63 : decode cX9_all 63 = .ok (.iload_n 1, 1) := by decide +kernel
theorem dX9_all_64 : decode cX9_all 64 = .ok (.imul, 1) := by decide +kernel
theorem dX9_all_65 : decode cX9_all 65 = .ok (.aload_n 0, 1) := by decide +kernel
theorem dX9_all_66 : decode cX9_all 66 = .ok (.getfield 161, 3) := by decide +kernel
theorem dX9_all_69 : decode cX9_all 69 = .ok (.aload_n 0, 1) := by decide +kernel
theorem dX9_all_70 : decode cX9_all 70 = .ok (.getfield 164, 3) := by decide +kernel
theorem dX9_all_73 : decode cX9_all 73 = .ok (.invokestatic 144, 3) := by decide +kernel
set_option maxRecDepth 20000 in
theorem ggX9_all_X9_squareOf : GoodIn wsX9_all wsX9_squareOf := goodIn_r _ [29] (by decide +kernel) (by decide +kernel)
set_option maxRecDepth 20000 in
theorem gX9_all_X9_squareOf : GoodIn wsX9_all (va_wsS RX9 144 yX9_squareOf wsX9_squareOf) := goodIn_app (goodIn_of _ (by decide +kernel)) ggX9_all_X9_squareOf
theorem dX9_all_76 : decode cX9_all 76 = .ok (.iadd, 1) := by decide +kernel
theorem dX9_all_77 : decode cX9_all 77 = .ok (.laload, 1) := by decide +kernel
theorem dX9_all_78 : decode cX9_all 78 = .ok (.lstore_n 2, 1) := by decide +kernel
theorem dX9_all_79 : decode cX9_all 79 = .ok (.lload_n 2, 1) := by decide +kernel
theorem dX9_all_80 : decode cX9_all 80 = .ok (.ldc2_w 173, 3) := by decide +kernel
theorem dX9_all_83 : decode cX9_all 83 = .ok (.lcmp, 1) := by decide +kernel
theorem dX9_all_84 : decode cX9_all 84 = .ok (.ifCond .lt 13, 3) := by decide +kernel
theorem dX9_all_97 : decode cX9_all 97 = .ok (.lload_n 2, 1) := by decide +kernel
theorem dX9_all_98 : decode cX9_all 98 = .ok (.lreturn, 1) := by decide +kernel
theorem dX9_all_87 : decode cX9_all 87 = .ok (.aload_n 0, 1) := by decide +kernel
theorem dX9_all_88 : decode cX9_all 88 = .ok (.bipush 9, 2) := by decide +kernel
theorem dX9_all_90 : decode cX9_all 90 = .ok (.invokevirtual 156, 3) := by decide +kernel
theorem dX9_all_93 : decode cX9_all 93 = .ok (.i2l, 1) := by decide +kernel
theorem dX9_all_94 : decode cX9_all 94 = .ok (.goto 4, 3) := by decide +kernel
theorem dX9_least_0 : decode cX9_least 0 = .ok (.aload_n 0, 1) := by decide +kernel
theorem dX9_least_1 : decode cX9_least 1 = .ok (.iconst 0, 1) := by decide +kernel
theorem dX9_least_2 : decode cX9_least 2 = .ok (.putfield 112, 3) := by decide +kernel
theorem dX9_least_5 : decode cX9_least 5 = .ok (.aload_n 0, 1) := by decide +kernel
theorem dX9_least_6 : decode cX9_least 6 = .ok (.iconst 0, 1) := by decide +kernel
theorem dX9_least_7 : decode cX9_least 7 = .ok (.putfield 115, 3) := by decide +kernel
theorem dX9_least_10 : decode cX9_least 10 = .ok (.aload_n 0, 1) := by decide +kernel
theorem dX9_least_11 : decode cX9_least 11 = .ok (.invokevirtual 186, 3) := by decide +kernel
set_option maxRecDepth 20000 in
theorem ggX9_least_X9_areOpen : GoodIn wsX9_least wsX9_areOpen := goodIn_r _ [10, 4, 5, 11, 12, 13, 14, 15, 9, 16, 17, 18, 19, 20, 21, 22, 23, 24, 25, 26, 27, 28, 29, 30, 56, 57, 58, 59, 60, 61, 62, 63, 64, 65, 66, 67, 68, 69, 70, 71, 72, 73, 74, 75, 76, 77, 78, 79, 80, 81, 82, 83, 84, 85, 86, 87, 88, 89, 90, 91, 92, 93, 94, 95, 96] (by decide +kernel) (by decide +kernel)
set_option maxRecDepth 20000 in
theorem gX9_least_X9_areOpen : GoodIn wsX9_least (wsV RX9 186 RX9 yX9_areOpen wsX9_areOpen) := goodIn_app (goodIn_of _ (by decide +kernel)) ggX9_least_X9_areOpen
theorem dX9_least_14 : decode cX9_least 14 = .ok (.ifCond .ne 10, 3) := by decide +kernel
theorem dX9_least_24 : decode cX9_least 24 = .ok (.aload_n 0, 1) := by decide +kernel
theorem dX9_least_25 : decode cX9_least 25 = .ok (.bipush 60, 2) := by decide +kernel
theorem dX9_least_27 : decode cX9_least 27 = .ok (.iconst 0, 1) := by decide +kernel
theorem dX9_least_28 : decode cX9_least 28 = .ok (.invokevirtual 182, 3) := by decide +kernel
set_option maxRecDepth 20000 in
theorem ggX9_least_X9_fill : GoodIn wsX9_least wsX9_fill := goodIn_r _ [38, 3, 11, 12, 39, 40, 41, 9, 42, 43, 44, 45, 13, 14, 15, 16, 17, 18, 19, 20, 21, 22, 23, 24, 25, 26, 27, 28, 29, 30, 46, 47, 48, 49, 50, 51, 52, 53, 54, 55, 56, 57, 58, 59, 60, 61, 62, 63, 64, 65, 66, 67, 68, 69, 70, 71, 72, 73, 74, 75, 76, 77, 78, 79, 80, 81, 82, 83, 84, 85, 86, 87, 88, 89, 90, 91, 92, 93, 94, 95, 96] (by decide +kernel) (by decide +kernel)
set_option maxRecDepth 20000 in
theorem gX9_least_X9_fill : GoodIn wsX9_least (wsV RX9 182 RX9 yX9_fill wsX9_fill) := goodIn_app (goodIn_of _ (by decide +kernel)) ggX9_least_X9_fill
theorem dX9_least_31 : decode cX9_least 31 = .ok (.iconst 0, 1) := by decide +kernel
theorem dX9_least_32 : decode cX9_least 32 = .ok (.istore_n 1, 1) := by decide +kernel
theorem dX9_least_33 : decode cX9_least 33 = .ok (.iload_n 1, 1) := by decide +kernel
theorem dX9_least_34 : decode cX9_least 34 = .ok (.bipush 60, 2) := by decide +kernel
theorem dX9_least_36 : decode cX9_least 36 = .ok (.if_icmp .gt 38, 3) := by decide +kernel
theorem dX9_least_39 : decode cX9_least 39 = .ok (.aload_n 0, 1) := by decide +kernel
theorem dX9_least_40 : decode cX9_least 40 = .ok (.getfield 43, 3) := by decide +kernel
theorem dX9_least_43 : decode cX9_least 43 = .ok (.sipush 3721, 3) := by decide +kernel
theorem dX9_least_46 : decode cX9_least 46 = .ok (.iload_n 1, 1) := by decide +kernel
theorem dX9_least_47 : decode cX9_least 47 = .ok (.imul, 1) := by decide +kernel
theorem dX9_least_48 : decode cX9_least 48 = .ok (.aload_n 0, 1) := by decide +kernel
theorem dX9_least_49 : decode cX9_least 49 = .ok (.getfield 161, 3) := by decide +kernel
theorem dX9_least_52 : decode cX9_least 52 = .ok (.aload_n 0, 1) := by decide +kernel
theorem dX9_least_53 : decode cX9_least 53 = .ok (.getfield 164, 3) := by decide +kernel
theorem dX9_least_56 : decode cX9_least 56 = .ok (.invokestatic 144, 3) := by decide +kernel
set_option maxRecDepth 20000 in
theorem ggX9_least_X9_squareOf : GoodIn wsX9_least wsX9_squareOf := goodIn_r _ [30] (by decide +kernel) (by decide +kernel)
set_option maxRecDepth 20000 in
theorem gX9_least_X9_squareOf : GoodIn wsX9_least (va_wsS RX9 144 yX9_squareOf wsX9_squareOf) := goodIn_app (goodIn_of _ (by decide +kernel)) ggX9_least_X9_squareOf
theorem dX9_least_59 : decode cX9_least 59 = .ok (.iadd, 1) := by decide +kernel
theorem dX9_least_60 : decode cX9_least 60 = .ok (.laload, 1) := by decide +kernel
theorem dX9_least_61 : decode cX9_least 61 = .ok (.lconst 0, 1) := by decide +kernel
theorem dX9_least_62 : decode cX9_least 62 = .ok (.lcmp, 1) := by decide +kernel
theorem dX9_least_63 : decode cX9_least 63 = .ok (.ifCond .le 5, 3) := by decide +kernel
theorem dX9_least_66 : decode cX9_least 66 = .ok (.iload_n 1, 1) := by decide +kernel
theorem dX9_least_67 : decode cX9_least 67 = .ok (.ireturn, 1) := by decide +kernel
