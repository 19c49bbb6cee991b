theorem dX9_next_0 : decode cX9_next 0 = .ok (.iload_n 1, 1) := by decide +kernel
theorem dX9_next_1 : decode cX9_next 1 = .ok (.invokestatic 147, 3) := by decide +kernel
set_option maxRecDepth 20000 in
theorem ggX9_next_X9_xOf : GoodIn wsX9_next wsX9_xOf := goodIn_r _ [8] (by decide +kernel) (by decide +kernel)
set_option maxRecDepth 20000 in
theorem gX9_next_X9_xOf : GoodIn wsX9_next (va_wsS RX9 147 yX9_xOf wsX9_xOf) := goodIn_app (goodIn_of _ (by decide +kernel)) ggX9_next_X9_xOf
theorem dX9_next_4 : decode cX9_next 4 = .ok (.aload_n 0, 1) := by decide +kernel
theorem dX9_next_5 : decode cX9_next 5 = .ok (.getfield 29, 3) := by decide +kernel
theorem dX9_next_8 : decode cX9_next 8 = .ok (.iload_n 2, 1) := by decide +kernel
theorem dX9_next_9 : decode cX9_next 9 = .ok (.iaload, 1) := by decide +kernel
theorem dX9_next_10 : decode cX9_next 10 = .ok (.iadd, 1) := by decide +kernel
theorem dX9_next_11 : decode cX9_next 11 = .ok (.istore_n 3, 1) := by decide +kernel
theorem dX9_next_12 : decode cX9_next 12 = .ok (.iload_n 1, 1) := by decide +kernel
theorem dX9_next_13 : decode cX9_next 13 = .ok (.invokestatic 150, 3) := by decide +kernel
set_option maxRecDepth 20000 in
theorem ggX9_next_X9_yOf : GoodIn wsX9_next wsX9_yOf := goodIn_r _ [11] (by decide +kernel) (by decide +kernel)
set_option maxRecDepth 20000 in
theorem gX9_next_X9_yOf : GoodIn wsX9_next (va_wsS RX9 150 yX9_yOf wsX9_yOf) := goodIn_app (goodIn_of _ (by decide +kernel)) ggX9_next_X9_yOf
theorem dX9_next_16 : decode cX9_next 16 = .ok (.aload_n 0, 1) := by decide +kernel
theorem dX9_next_17 : decode cX9_next 17 = .ok (.getfield 32, 3) := by decide +kernel
theorem dX9_next_20 : decode cX9_next 20 = .ok (.iload_n 2, 1) := by decide +kernel
theorem dX9_next_21 : decode cX9_next 21 = .ok (.iaload, 1) := by decide +kernel
theorem dX9_next_22 : decode cX9_next 22 = .ok (.iadd, 1) := by decide +kernel
theorem dX9_next_23 : decode cX9_next 23 = .ok (.istore 4, 2) := by decide +kernel
theorem dX9_next_25 : decode cX9_next 25 = .ok (.aload_n 0, 1) := by decide +kernel
theorem dX9_next_26 : decode cX9_next 26 = .ok (.getfield 137, 3) := by decide +kernel
theorem dX9_next_29 : decode cX9_next 29 = .ok (.iconst 4, 1) := by decide +kernel
theorem dX9_next_30 : decode cX9_next 30 = .ok (.if_icmp .ne 20, 3) := by decide +kernel
theorem dX9_next_50 : decode cX9_next 50 = .ok (.aload_n 0, 1) := by decide +kernel
theorem dX9_next_51 : decode cX9_next 51 = .ok (.iload_n 3, 1) := by decide +kernel
theorem dX9_next_52 : decode cX9_next 52 = .ok (.iload 4, 2) := by decide +kernel
theorem dX9_next_54 : decode cX9_next 54 = .ok (.invokevirtual 153, 3) := by decide +kernel
set_option maxRecDepth 20000 in
theorem ggX9_next_X9_isOpen : GoodIn wsX9_next wsX9_isOpen := goodIn_r _ [15, 3, 16, 17, 18, 7, 19, 20, 21, 22, 23, 24, 4, 25, 26, 27, 28, 29, 30, 31, 32, 33, 34, 35, 36, 37, 38, 39, 40, 41, 42, 43, 44, 45, 46, 47, 48, 49, 50, 51, 52, 53, 54, 55, 56, 57, 58, 59, 60, 61, 62, 63, 64, 65, 66, 67, 68] (by decide +kernel) (by decide +kernel)
set_option maxRecDepth 20000 in
theorem gX9_next_X9_isOpen : GoodIn wsX9_next (wsV RX9 153 RX9 yX9_isOpen wsX9_isOpen) := goodIn_app (goodIn_of _ (by decide +kernel)) ggX9_next_X9_isOpen
theorem dX9_next_57 : decode cX9_next 57 = .ok (.ifCond .eq 12, 3) := by decide +kernel
theorem dX9_next_69 : decode cX9_next 69 = .ok (.iconst (-1), 1) := by decide +kernel
theorem dX9_next_70 : decode cX9_next 70 = .ok (.ireturn, 1) := by decide +kernel
theorem dX9_next_60 : decode cX9_next 60 = .ok (.iload_n 3, 1) := by decide +kernel
theorem dX9_next_61 : decode cX9_next 61 = .ok (.iload 4, 2) := by decide +kernel
theorem dX9_next_63 : decode cX9_next 63 = .ok (.invokestatic 144, 3) := by decide +kernel
set_option maxRecDepth 20000 in
theorem ggX9_next_X9_squareOf : GoodIn wsX9_next wsX9_squareOf := goodIn_r _ [27] (by decide +kernel) (by decide +kernel)
set_option maxRecDepth 20000 in
theorem gX9_next_X9_squareOf : GoodIn wsX9_next (va_wsS RX9 144 yX9_squareOf wsX9_squareOf) := goodIn_app (goodIn_of _ (by decide +kernel)) ggX9_next_X9_squareOf
theorem dX9_next_66 : decode cX9_next 66 = .ok (.goto 4, 3) := by decide +kernel
theorem dX9_plus_0 : decode cX9_plus 0 = .ok (.lload_n 0, 1) := by decide +kernel
theorem dX9_plus_1 : decode cX9_plus 1 = .ok (.lload_n 2, 1) := by decide +kernel
theorem dX9_plus_2 : decode cX9_plus 2 = .ok (.ladd, 1) := by decide +kernel
theorem dX9_plus_3 : decode cX9_plus 3 = .ok (.ldc2_w 173, 3) := by decide +kernel
theorem dX9_plus_6 : decode cX9_plus 6 = .ok (.lcmp, 1) := by decide +kernel
theorem dX9_plus_7 : decode cX9_plus 7 = .ok (.ifCond .ge 11, 3) := by decide +kernel
theorem dX9_plus_18 : decode cX9_plus 18 = .ok (.ldc2_w 173, 3) := by decide +kernel
theorem dX9_plus_21 : decode cX9_plus 21 = .ok (.goto 6, 3) := by decide +kernel
theorem dX9_plus_27 : decode cX9_plus 27 = .ok (.lreturn, 1) := by decide +kernel
theorem dX9_plus_10 : decode cX9_plus 10 = .ok (.lload_n 0, 1) := by decide +kernel
theorem dX9_plus_11 : decode cX9_plus 11 = .ok (.lload_n 2, 1) := by decide +kernel
theorem dX9_plus_12 : decode cX9_plus 12 = .ok (.ladd, 1) := by decide +kernel
theorem dX9_plus_13 : decode cX9_plus 13 = .ok (.lconst 0, 1) := by decide +kernel
theorem dX9_plus_14 : decode cX9_plus 14 = .ok (.lcmp, 1) := by decide +kernel
theorem dX9_plus_15 : decode cX9_plus 15 = .ok (.ifCond .ge 9, 3) := by decide +kernel
theorem dX9_plus_24 : decode cX9_plus 24 = .ok (.lload_n 0, 1) := by decide +kernel
theorem dX9_plus_25 : decode cX9_plus 25 = .ok (.lload_n 2, 1) := by decide +kernel
theorem dX9_plus_26 : decode cX9_plus 26 = .ok (.ladd, 1) := by decide +kernel
theorem dX9_fill_0 : decode cX9_fill 0 = .ok (.iconst 0, 1) := by decide +kernel
theorem dX9_fill_1 : decode cX9_fill 1 = .ok (.istore_n 3, 1) := by decide +kernel
theorem dX9_fill_2 : decode cX9_fill 2 = .ok (.iload_n 3, 1) := by decide +kernel
theorem dX9_fill_3 : decode cX9_fill 3 = .ok (.sipush 3721, 3) := by decide +kernel
theorem dX9_fill_6 : decode cX9_fill 6 = .ok (.if_icmp .ge 54, 3) := by decide +kernel
theorem dX9_fill_60 : decode cX9_fill 60 = .ok (.iconst 1, 1) := by decide +kernel
theorem dX9_fill_61 : decode cX9_fill 61 = .ok (.istore_n 3, 1) := by decide +kernel
theorem dX9_fill_62 : decode cX9_fill 62 = .ok (.iload_n 3, 1) := by decide +kernel
theorem dX9_fill_63 : decode cX9_fill 63 = .ok (.iload_n 1, 1) := by decide +kernel
theorem dX9_fill_64 : decode cX9_fill 64 = .ok (.if_icmp .gt 116, 3) := by decide +kernel
theorem dX9_fill_180 : decode cX9_fill 180 = .ok (.return_, 1) := by decide +kernel
theorem dX9_fill_67 : decode cX9_fill 67 = .ok (.iconst 0, 1) := by decide +kernel
theorem dX9_fill_68 : decode cX9_fill 68 = .ok (.istore 4, 2) := by decide +kernel
theorem dX9_fill_70 : decode cX9_fill 70 = .ok (.iload 4, 2) := by decide +kernel
theorem dX9_fill_72 : decode cX9_fill 72 = .ok (.sipush 3721, 3) := by decide +kernel
theorem dX9_fill_75 : decode cX9_fill 75 = .ok (.if_icmp .ge 99, 3) := by decide +kernel
theorem dX9_fill_174 : decode cX9_fill 174 = .ok (.iinc 3 1, 3) := by decide +kernel
theorem dX9_fill_177 : decode cX9_fill 177 = .ok (.goto (-115), 3) := by decide +kernel
theorem dX9_fill_78 : decode cX9_fill 78 = .ok (.lconst 0, 1) := by decide +kernel
theorem dX9_fill_79 : decode cX9_fill 79 = .ok (.lstore 5, 2) := by decide +kernel
theorem dX9_fill_81 : decode cX9_fill 81 = .ok (.aload_n 0, 1) := by decide +kernel
theorem dX9_fill_82 : decode cX9_fill 82 = .ok (.iload 4, 2) := by decide +kernel
theorem dX9_fill_84 : decode cX9_fill 84 = .ok (.invokestatic 147, 3) := by decide +kernel
set_option maxRecDepth 20000 in
theorem ggX9_fill_X9_xOf : GoodIn wsX9_fill wsX9_xOf := goodIn_r _ [8] (by decide +kernel) (by decide +kernel)
set_option maxRecDepth 20000 in
theorem gX9_fill_X9_xOf : GoodIn wsX9_fill (va_wsS RX9 147 yX9_xOf wsX9_xOf) := goodIn_app (goodIn_of _ (by decide +kernel)) ggX9_fill_X9_xOf
theorem dX9_fill_87 : decode cX9_fill 87 = .ok (.iload 4, 2) := by decide +kernel
theorem dX9_fill_89 : decode cX9_fill 89 = .ok (.invokestatic 150, 3) := by decide +kernel
set_option maxRecDepth 20000 in
theorem ggX9_fill_X9_yOf : GoodIn wsX9_fill wsX9_yOf := goodIn_r _ [11] (by decide +kernel) (by decide +kernel)
set_option maxRecDepth 20000 in
theorem gX9_fill_X9_yOf : GoodIn wsX9_fill (va_wsS RX9 150 yX9_yOf wsX9_yOf) := goodIn_app (goodIn_of _ (by decide +kernel)) ggX9_fill_X9_yOf
theorem dX9_fill_92 : decode cX9_fill 92 = .ok (.invokevirtual 153, 3) := by decide +kernel
set_option maxRecDepth 20000 in
theorem ggX9_fill_X9_isOpen : GoodIn wsX9_fill wsX9_isOpen := goodIn_r _ [15, 16, 17, 18, 19, 7, 20, 21, 22, 23, 24, 25, 26, 27, 28, 29, 40, 41, 42, 43, 44, 45, 46, 47, 48, 49, 50, 51, 52, 53, 54, 55, 56, 57, 58, 59, 60, 61, 62, 63, 64, 65, 66, 67, 68, 69, 70, 71, 72, 73, 74, 75, 76, 77, 78, 79, 80] (by decide +kernel) (by decide +kernel)
set_option maxRecDepth 20000 in
theorem gX9_fill_X9_isOpen : GoodIn wsX9_fill (wsV RX9 153 RX9 yX9_isOpen wsX9_isOpen) := goodIn_app (goodIn_of _ (by decide +kernel)) ggX9_fill_X9_isOpen
theorem dX9_fill_95 : decode cX9_fill 95 = .ok (.ifCond .eq 58, 3) := by decide +kernel
theorem dX9_fill_98 : decode cX9_fill 98 = .ok (.iconst 0, 1) := by decide +kernel
theorem dX9_fill_99 : decode cX9_fill 99 = .ok (.istore 7, 2) := by decide +kernel
theorem dX9_fill_101 : decode cX9_fill 101 = .ok (.iload 7, 2) := by decide +kernel
theorem dX9_fill_103 : decode cX9_fill 103 = .ok (.aload_n 0, 1) := by decide +kernel
theorem dX9_fill_104 : decode cX9_fill 104 = .ok (.getfield 19, 3) := by decide +kernel
theorem dX9_fill_107 : decode cX9_fill 107 = .ok (.if_icmp .ge 46, 3) := by decide +kernel
theorem dX9_fill_153 : decode cX9_fill 153 = .ok (.aload_n 0, 1) := by decide +kernel
theorem dX9_fill_154 : decode cX9_fill 154 = .ok (.getfield 43, 3) := by decide +kernel
theorem dX9_fill_157 : decode cX9_fill 157 = .ok (.sipush 3721, 3) := by decide +kernel
theorem dX9_fill_160 : decode cX9_fill 160 = .ok (.iload_n 3, 1) := by decide +kernel
theorem dX9_fill_161 : decode cX9_fill 161 = .ok (.imul, 1) := by decide +kernel
theorem dX9_fill_162 : decode cX9_fill 162 = .ok (.iload 4, 2) := by decide +kernel
theorem dX9_fill_164 : decode cX9_fill 164 = .ok (.iadd, 1) := by decide +kernel
theorem dX9_fill_165 : decode cX9_fill 165 = .ok (.lload 5, 2) := by decide +kernel
theorem dX9_fill_167 : decode cX9_fill 167 = .ok (.lastore, 1) := by decide +kernel
theorem dX9_fill_168 : decode cX9_fill 168 = .ok (.iinc 4 1, 3) := by decide +kernel
theorem dX9_fill_171 : decode cX9_fill 171 = .ok (.goto (-101), 3) := by decide +kernel
theorem dX9_fill_110 : decode cX9_fill 110 = .ok (.aload_n 0, 1) := by decide +kernel
theorem dX9_fill_111 : decode cX9_fill 111 = .ok (.iload 4, 2) := by decide +kernel
theorem dX9_fill_113 : decode cX9_fill 113 = .ok (.iload 7, 2) := by decide +kernel
theorem dX9_fill_115 : decode cX9_fill 115 = .ok (.invokevirtual 175, 3) := by decide +kernel
set_option maxRecDepth 20000 in
theorem ggX9_fill_X9_next : GoodIn wsX9_fill wsX9_next := goodIn_r _ [33, 34, 35, 16, 26, 5, 6, 7, 8, 9, 10, 11, 12, 13, 14, 15, 17, 18, 19, 20, 21, 22, 23, 24, 25, 27, 28, 29, 40, 41, 42, 43, 44, 45, 46, 47, 48, 49, 50, 51, 52, 53, 54, 55, 56, 57, 58, 59, 60, 61, 62, 63, 64, 65, 66, 67, 68, 69, 70, 71, 72, 73, 74, 75, 76, 77, 78, 79, 80] (by decide +kernel) (by decide +kernel)
set_option maxRecDepth 20000 in
theorem gX9_fill_X9_next : GoodIn wsX9_fill (wsV RX9 175 RX9 yX9_next wsX9_next) := goodIn_app (goodIn_of _ (by decide +kernel)) ggX9_fill_X9_next
theorem dX9_fill_118 : decode cX9_fill 118 = .ok (.istore 8, 2) := by decide +kernel
theorem dX9_fill_120 : decode cX9_fill 120 = .ok (.iload 8, 2) := by decide +kernel
theorem dX9_fill_122 : decode cX9_fill 122 = .ok (.ifCond .lt 25, 3) := by decide +kernel
theorem dX9_fill_147 : decode cX9_fill 147 = .ok (.iinc 7 1, 3) := by decide +kernel
theorem dX9_fill_150 : decode cX9_fill 150 = .ok (.goto (-49), 3) := by decide +kernel
theorem dX9_fill_125 : decode cX9_fill 125 = .ok (.lload 5, 2) := by decide +kernel
theorem dX9_fill_127 : decode cX9_fill 127 = .ok (.aload_n 0, 1) := by decide +kernel
theorem dX9_fill_128 : decode cX9_fill 128 = .ok (.getfield 43, 3) := by decide +kernel
theorem dX9_fill_131 : decode cX9_fill 131 = .ok (.sipush 3721, 3) := by decide +kernel
theorem dX9_fill_134 : decode cX9_fill 134 = .ok (.iload_n 3, 1) := by decide +kernel
theorem dX9_fill_135 : decode cX9_fill 135 = .ok (.iconst 1, 1) := by decide +kernel
theorem dX9_fill_136 : decode cX9_fill 136 = .ok (.isub, 1) := by decide +kernel
theorem dX9_fill_137 : decode cX9_fill 137 = .ok (.imul, 1) := by decide +kernel
theorem dX9_fill_138 : decode cX9_fill 138 = .ok (.iload 8, 2) := by decide +kernel
theorem dX9_fill_140 : decode cX9_fill 140 = .ok (.iadd, 1) := by decide +kernel
theorem dX9_fill_141 : decode cX9_fill 141 = .ok (.laload, 1) := by decide +kernel
theorem dX9_fill_142 : decode cX9_fill 142 = .ok (.invokestatic 178, 3) := by decide +kernel
set_option maxRecDepth 20000 in
theorem ggX9_fill_X9_plus : GoodIn wsX9_fill wsX9_plus := goodIn_r _ [38, 39] (by decide +kernel) (by decide +kernel)
set_option maxRecDepth 20000 in
theorem gX9_fill_X9_plus : GoodIn wsX9_fill (va_wsS RX9 178 yX9_plus wsX9_plus) := goodIn_app (goodIn_of _ (by decide +kernel)) ggX9_fill_X9_plus
theorem dX9_fill_145 : decode cX9_fill 145 = .ok (.lstore 5, 2) := by decide +kernel
theorem dX9_fill_9 : decode cX9_fill 9 = .ok (.aload_n 0, 1) := by decide +kernel
theorem dX9_fill_10 : decode cX9_fill 10 = .ok (.getfield 43, 3) := by decide +kernel
theorem dX9_fill_13 : decode cX9_fill 13 = .ok (.iload_n 3, 1) := by decide +kernel
theorem dX9_fill_14 : decode cX9_fill 14 = .ok (.aload_n 0, 1) := by decide +kernel
theorem dX9_fill_15 : decode cX9_fill 15 = .ok (.iload_n 3, 1) := by decide +kernel
theorem dX9_fill_16 : decode cX9_fill 16 = .ok (.invokestatic 147, 3) := by decide +kernel
theorem dX9_fill_19 : decode cX9_fill 19 = .ok (.iload_n 3, 1) := by decide +kernel
theorem dX9_fill_20 : decode cX9_fill 20 = .ok (.invokestatic 150, 3) := by decide +kernel
theorem dX9_fill_23 : decode cX9_fill 23 = .ok (.invokevirtual 153, 3) := by decide +kernel
theorem dX9_fill_26 : decode cX9_fill 26 = .ok (.ifCond .eq 26, 3) := by decide +kernel
theorem dX9_fill_29 : decode cX9_fill 29 = .ok (.iload_n 2, 1) := by decide +kernel
theorem dX9_fill_30 : decode cX9_fill 30 = .ok (.ifCond .ne 18, 3) := by decide +kernel
theorem dX9_fill_48 : decode cX9_fill 48 = .ok (.lconst 1, 1) := by decide +kernel
theorem dX9_fill_49 : decode cX9_fill 49 = .ok (.goto 4, 3) := by decide +kernel
theorem dX9_fill_53 : decode cX9_fill 53 = .ok (.lastore, 1) := by decide +kernel
theorem dX9_fill_54 : decode cX9_fill 54 = .ok (.iinc 3 1, 3) := by decide +kernel
theorem dX9_fill_57 : decode cX9_fill 57 = .ok (.goto (-55), 3) := by decide +kernel
theorem dX9_fill_33 : decode cX9_fill 33 = .ok (.iload_n 3, 1) := by decide +kernel
theorem dX9_fill_34 : decode cX9_fill 34 = .ok (.aload_n 0, 1) := by decide +kernel
theorem dX9_fill_35 : decode cX9_fill 35 = .ok (.getfield 167, 3) := by decide +kernel
theorem dX9_fill_38 : decode cX9_fill 38 = .ok (.aload_n 0, 1) := by decide +kernel
theorem dX9_fill_39 : decode cX9_fill 39 = .ok (.getfield 170, 3) := by decide +kernel
theorem dX9_fill_42 : decode cX9_fill 42 = .ok (.invokestatic 144, 3) := by decide +kernel
set_option maxRecDepth 20000 in
theorem ggX9_fill_X9_squareOf : GoodIn wsX9_fill wsX9_squareOf := goodIn_r _ [29] (by decide +kernel) (by decide +kernel)
set_option maxRecDepth 20000 in
theorem gX9_fill_X9_squareOf : GoodIn wsX9_fill (va_wsS RX9 144 yX9_squareOf wsX9_squareOf) := goodIn_app (goodIn_of _ (by decide +kernel)) ggX9_fill_X9_squareOf
theorem dX9_fill_45 : decode cX9_fill 45 = .ok (.if_icmp .ne 7, 3) := by decide +kernel
theorem dX9_fill_52 : decode cX9_fill 52 = .ok (.lconst 0, 1) := by decide +kernel
