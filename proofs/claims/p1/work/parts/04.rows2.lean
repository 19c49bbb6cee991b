theorem dX9_refuse_0 : decode cX9_refuse 0 = .ok (.aload_n 0, 1) := by decide +kernel
theorem dX9_refuse_1 : decode cX9_refuse 1 = .ok (.iload_n 1, 1) := by decide +kernel
theorem dX9_refuse_2 : decode cX9_refuse 2 = .ok (.putfield 115, 3) := by decide +kernel
theorem dX9_refuse_5 : decode cX9_refuse 5 = .ok (.iconst (-1), 1) := by decide +kernel
theorem dX9_refuse_6 : decode cX9_refuse 6 = .ok (.ireturn, 1) := by decide +kernel
theorem dX9_no_0 : decode cX9_no 0 = .ok (.aload_n 0, 1) := by decide +kernel
theorem dX9_no_1 : decode cX9_no 1 = .ok (.iload_n 1, 1) := by decide +kernel
theorem dX9_no_2 : decode cX9_no 2 = .ok (.putfield 115, 3) := by decide +kernel
theorem dX9_no_5 : decode cX9_no 5 = .ok (.iconst 0, 1) := by decide +kernel
theorem dX9_no_6 : decode cX9_no 6 = .ok (.ireturn, 1) := by decide +kernel
theorem dX9_cut_0 : decode cX9_cut 0 = .ok (.iload_n 0, 1) := by decide +kernel
theorem dX9_cut_1 : decode cX9_cut 1 = .ok (.ifCond .ne 8, 3) := by decide +kernel
theorem dX9_cut_4 : decode cX9_cut 4 = .ok (.iload_n 1, 1) := by decide +kernel
theorem dX9_cut_5 : decode cX9_cut 5 = .ok (.i2b, 1) := by decide +kernel
theorem dX9_cut_6 : decode cX9_cut 6 = .ok (.goto 14, 3) := by decide +kernel
theorem dX9_cut_9 : decode cX9_cut 9 = .ok (.iload_n 0, 1) := by decide +kernel
theorem dX9_cut_10 : decode cX9_cut 10 = .ok (.iconst 1, 1) := by decide +kernel
theorem dX9_cut_11 : decode cX9_cut 11 = .ok (.if_icmp .ne 8, 3) := by decide +kernel
theorem dX9_cut_14 : decode cX9_cut 14 = .ok (.iload_n 1, 1) := by decide +kernel
theorem dX9_cut_15 : decode cX9_cut 15 = .ok (.i2s, 1) := by decide +kernel
theorem dX9_cut_16 : decode cX9_cut 16 = .ok (.goto 4, 3) := by decide +kernel
theorem dX9_cut_19 : decode cX9_cut 19 = .ok (.iload_n 1, 1) := by decide +kernel
theorem dX9_cut_20 : decode cX9_cut 20 = .ok (.ireturn, 1) := by decide +kernel
set_option maxRecDepth 20000 in
theorem ggX9_sheet_X9_no : GoodIn wsX9_sheet wsX9_no := goodIn_r _ [10, 2, 11, 12, 13, 14, 15, 16, 17, 18, 19, 20, 21, 22, 23, 24, 25, 26, 27, 28, 29, 30, 31, 32, 33, 34, 35, 36, 37, 38, 39, 40, 41, 42, 43, 44, 45, 46, 47, 48, 49, 50, 51] (by decide +kernel) (by decide +kernel)
set_option maxRecDepth 20000 in
theorem gX9_sheet_X9_no : GoodIn wsX9_sheet (wsV RX9 118 RX9 yX9_no wsX9_no) := goodIn_app (goodIn_of _ (by decide +kernel)) ggX9_sheet_X9_no
theorem dX9_sheet_0 : decode cX9_sheet 0 = .ok (.aload_n 0, 1) := by decide +kernel
theorem dX9_sheet_1 : decode cX9_sheet 1 = .ok (.iconst 0, 1) := by decide +kernel
theorem dX9_sheet_2 : decode cX9_sheet 2 = .ok (.putfield 112, 3) := by decide +kernel
theorem dX9_sheet_5 : decode cX9_sheet 5 = .ok (.aload_n 0, 1) := by decide +kernel
theorem dX9_sheet_6 : decode cX9_sheet 6 = .ok (.iconst 0, 1) := by decide +kernel
theorem dX9_sheet_7 : decode cX9_sheet 7 = .ok (.putfield 115, 3) := by decide +kernel
theorem dX9_sheet_10 : decode cX9_sheet 10 = .ok (.iload_n 1, 1) := by decide +kernel
theorem dX9_sheet_11 : decode cX9_sheet 11 = .ok (.ifCond .lt 17, 3) := by decide +kernel
theorem dX9_sheet_14 : decode cX9_sheet 14 = .ok (.iload_n 1, 1) := by decide +kernel
theorem dX9_sheet_15 : decode cX9_sheet 15 = .ok (.iconst 4, 1) := by decide +kernel
theorem dX9_sheet_16 : decode cX9_sheet 16 = .ok (.if_icmp .ge 12, 3) := by decide +kernel
theorem dX9_sheet_19 : decode cX9_sheet 19 = .ok (.iload_n 2, 1) := by decide +kernel
theorem dX9_sheet_20 : decode cX9_sheet 20 = .ok (.ifCond .lt 8, 3) := by decide +kernel
theorem dX9_sheet_23 : decode cX9_sheet 23 = .ok (.iload_n 2, 1) := by decide +kernel
theorem dX9_sheet_24 : decode cX9_sheet 24 = .ok (.iconst 2, 1) := by decide +kernel
theorem dX9_sheet_25 : decode cX9_sheet 25 = .ok (.if_icmp .le 9, 3) := by decide +kernel
theorem dX9_sheet_28 : decode cX9_sheet 28 = .ok (.aload_n 0, 1) := by decide +kernel
theorem dX9_sheet_29 : decode cX9_sheet 29 = .ok (.iconst 1, 1) := by decide +kernel
theorem dX9_sheet_30 : decode cX9_sheet 30 = .ok (.invokevirtual 118, 3) := by decide +kernel
theorem dX9_sheet_33 : decode cX9_sheet 33 = .ok (.ireturn, 1) := by decide +kernel
theorem dX9_sheet_34 : decode cX9_sheet 34 = .ok (.iload_n 3, 1) := by decide +kernel
theorem dX9_sheet_35 : decode cX9_sheet 35 = .ok (.bipush 64, 2) := by decide +kernel
theorem dX9_sheet_37 : decode cX9_sheet 37 = .ok (.if_icmp .le 9, 3) := by decide +kernel
theorem dX9_sheet_40 : decode cX9_sheet 40 = .ok (.aload_n 0, 1) := by decide +kernel
theorem dX9_sheet_41 : decode cX9_sheet 41 = .ok (.iconst 2, 1) := by decide +kernel
theorem dX9_sheet_42 : decode cX9_sheet 42 = .ok (.invokevirtual 118, 3) := by decide +kernel
theorem dX9_sheet_45 : decode cX9_sheet 45 = .ok (.ireturn, 1) := by decide +kernel
theorem dX9_sheet_46 : decode cX9_sheet 46 = .ok (.iload_n 3, 1) := by decide +kernel
theorem dX9_sheet_47 : decode cX9_sheet 47 = .ok (.ifCond .ge 10, 3) := by decide +kernel
theorem dX9_sheet_50 : decode cX9_sheet 50 = .ok (.aload_n 0, 1) := by decide +kernel
theorem dX9_sheet_51 : decode cX9_sheet 51 = .ok (.bipush 6, 2) := by decide +kernel
theorem dX9_sheet_53 : decode cX9_sheet 53 = .ok (.invokevirtual 118, 3) := by decide +kernel
theorem dX9_sheet_56 : decode cX9_sheet 56 = .ok (.ireturn, 1) := by decide +kernel
theorem dX9_sheet_57 : decode cX9_sheet 57 = .ok (.aload_n 0, 1) := by decide +kernel
theorem dX9_sheet_58 : decode cX9_sheet 58 = .ok (.getfield 7, 3) := by decide +kernel
theorem dX9_sheet_61 : decode cX9_sheet 61 = .ok (.iload_n 1, 1) := by decide +kernel
theorem dX9_sheet_62 : decode cX9_sheet 62 = .ok (.iload_n 2, 1) := by decide +kernel
theorem dX9_sheet_63 : decode cX9_sheet 63 = .ok (.iastore, 1) := by decide +kernel
theorem dX9_sheet_64 : decode cX9_sheet 64 = .ok (.aload_n 0, 1) := by decide +kernel
theorem dX9_sheet_65 : decode cX9_sheet 65 = .ok (.getfield 13, 3) := by decide +kernel
theorem dX9_sheet_68 : decode cX9_sheet 68 = .ok (.iload_n 1, 1) := by decide +kernel
theorem dX9_sheet_69 : decode cX9_sheet 69 = .ok (.iload_n 3, 1) := by decide +kernel
theorem dX9_sheet_70 : decode cX9_sheet 70 = .ok (.iastore, 1) := by decide +kernel
theorem dX9_sheet_71 : decode cX9_sheet 71 = .ok (.iconst 0, 1) := by decide +kernel
theorem dX9_sheet_72 : decode cX9_sheet 72 = .ok (.istore 4, 2) := by decide +kernel
theorem dX9_sheet_74 : decode cX9_sheet 74 = .ok (.iload 4, 2) := by decide +kernel
theorem dX9_sheet_76 : decode cX9_sheet 76 = .ok (.iload_n 3, 1) := by decide +kernel
theorem dX9_sheet_77 : decode cX9_sheet 77 = .ok (.if_icmp .ge 22, 3) := by decide +kernel
theorem dX9_sheet_80 : decode cX9_sheet 80 = .ok (.aload_n 0, 1) := by decide +kernel
theorem dX9_sheet_81 : decode cX9_sheet 81 = .ok (.getfield 16, 3) := by decide +kernel
theorem dX9_sheet_84 : decode cX9_sheet 84 = .ok (.bipush 64, 2) := by decide +kernel
theorem dX9_sheet_86 : decode cX9_sheet 86 = .ok (.iload_n 1, 1) := by decide +kernel
theorem dX9_sheet_87 : decode cX9_sheet 87 = .ok (.imul, 1) := by decide +kernel
theorem dX9_sheet_88 : decode cX9_sheet 88 = .ok (.iload 4, 2) := by decide +kernel
theorem dX9_sheet_90 : decode cX9_sheet 90 = .ok (.iadd, 1) := by decide +kernel
theorem dX9_sheet_91 : decode cX9_sheet 91 = .ok (.iconst 0, 1) := by decide +kernel
theorem dX9_sheet_92 : decode cX9_sheet 92 = .ok (.iastore, 1) := by decide +kernel
theorem dX9_sheet_93 : decode cX9_sheet 93 = .ok (.iinc 4 1, 3) := by decide +kernel
theorem dX9_sheet_96 : decode cX9_sheet 96 = .ok (.goto (-22), 3) := by decide +kernel
theorem dX9_sheet_99 : decode cX9_sheet 99 = .ok (.iconst 1, 1) := by decide +kernel
theorem dX9_sheet_100 : decode cX9_sheet 100 = .ok (.ireturn, 1) := by decide +kernel
theorem dX9_sheeted_0 : decode cX9_sheeted 0 = .ok (.iload_n 1, 1) := by decide +kernel
theorem dX9_sheeted_1 : decode cX9_sheeted 1 = .ok (.ifCond .lt 8, 3) := by decide +kernel
theorem dX9_sheeted_4 : decode cX9_sheeted 4 = .ok (.iload_n 1, 1) := by decide +kernel
theorem dX9_sheeted_5 : decode cX9_sheeted 5 = .ok (.iconst 4, 1) := by decide +kernel
theorem dX9_sheeted_6 : decode cX9_sheeted 6 = .ok (.if_icmp .lt 7, 3) := by decide +kernel
theorem dX9_sheeted_9 : decode cX9_sheeted 9 = .ok (.iconst 1, 1) := by decide +kernel
theorem dX9_sheeted_10 : decode cX9_sheeted 10 = .ok (.goto 17, 3) := by decide +kernel
theorem dX9_sheeted_13 : decode cX9_sheeted 13 = .ok (.aload_n 0, 1) := by decide +kernel
theorem dX9_sheeted_14 : decode cX9_sheeted 14 = .ok (.getfield 13, 3) := by decide +kernel
theorem dX9_sheeted_17 : decode cX9_sheeted 17 = .ok (.iload_n 1, 1) := by decide +kernel
theorem dX9_sheeted_18 : decode cX9_sheeted 18 = .ok (.iaload, 1) := by decide +kernel
theorem dX9_sheeted_19 : decode cX9_sheeted 19 = .ok (.ifCond .ge 7, 3) := by decide +kernel
theorem dX9_sheeted_22 : decode cX9_sheeted 22 = .ok (.iconst 3, 1) := by decide +kernel
theorem dX9_sheeted_23 : decode cX9_sheeted 23 = .ok (.goto 4, 3) := by decide +kernel
theorem dX9_sheeted_26 : decode cX9_sheeted 26 = .ok (.iconst 0, 1) := by decide +kernel
theorem dX9_sheeted_27 : decode cX9_sheeted 27 = .ok (.ireturn, 1) := by decide +kernel
set_option maxRecDepth 20000 in
theorem ggX9_placed_X9_sheeted : GoodIn wsX9_placed wsX9_sheeted := goodIn_r _ [6, 1, 7, 8, 9, 10, 11, 12, 13, 14, 15, 16, 17, 18, 19, 20, 21, 22, 23, 24, 25, 26, 27, 28, 29, 30, 31, 32, 33, 34, 35, 36, 37, 38, 39, 40, 41, 42, 43, 44, 45, 46, 47] (by decide +kernel) (by decide +kernel)
set_option maxRecDepth 20000 in
theorem gX9_placed_X9_sheeted : GoodIn wsX9_placed (wsV RX9 122 RX9 yX9_sheeted wsX9_sheeted) := goodIn_app (goodIn_of _ (by decide +kernel)) ggX9_placed_X9_sheeted
theorem dX9_placed_0 : decode cX9_placed 0 = .ok (.aload_n 0, 1) := by decide +kernel
theorem dX9_placed_1 : decode cX9_placed 1 = .ok (.iload_n 1, 1) := by decide +kernel
theorem dX9_placed_2 : decode cX9_placed 2 = .ok (.invokevirtual 122, 3) := by decide +kernel
theorem dX9_placed_5 : decode cX9_placed 5 = .ok (.istore_n 3, 1) := by decide +kernel
theorem dX9_placed_6 : decode cX9_placed 6 = .ok (.iload_n 3, 1) := by decide +kernel
theorem dX9_placed_7 : decode cX9_placed 7 = .ok (.ifCond .le 7, 3) := by decide +kernel
theorem dX9_placed_10 : decode cX9_placed 10 = .ok (.iload_n 3, 1) := by decide +kernel
theorem dX9_placed_11 : decode cX9_placed 11 = .ok (.goto 22, 3) := by decide +kernel
theorem dX9_placed_14 : decode cX9_placed 14 = .ok (.iload_n 2, 1) := by decide +kernel
theorem dX9_placed_15 : decode cX9_placed 15 = .ok (.ifCond .lt 13, 3) := by decide +kernel
theorem dX9_placed_18 : decode cX9_placed 18 = .ok (.iload_n 2, 1) := by decide +kernel
theorem dX9_placed_19 : decode cX9_placed 19 = .ok (.aload_n 0, 1) := by decide +kernel
theorem dX9_placed_20 : decode cX9_placed 20 = .ok (.getfield 13, 3) := by decide +kernel
theorem dX9_placed_23 : decode cX9_placed 23 = .ok (.iload_n 1, 1) := by decide +kernel
theorem dX9_placed_24 : decode cX9_placed 24 = .ok (.iaload, 1) := by decide +kernel
theorem dX9_placed_25 : decode cX9_placed 25 = .ok (.if_icmp .lt 7, 3) := by decide +kernel
theorem dX9_placed_28 : decode cX9_placed 28 = .ok (.iconst 4, 1) := by decide +kernel
theorem dX9_placed_29 : decode cX9_placed 29 = .ok (.goto 4, 3) := by decide +kernel
theorem dX9_placed_32 : decode cX9_placed 32 = .ok (.iconst 0, 1) := by decide +kernel
theorem dX9_placed_33 : decode cX9_placed 33 = .ok (.ireturn, 1) := by decide +kernel
set_option maxRecDepth 20000 in
theorem ggX9_write_X9_placed : GoodIn wsX9_write wsX9_placed := goodIn_r _ [9, 10, 11, 12, 13, 8, 14, 18, 19, 20, 21, 22, 23, 24, 25, 26, 27, 28, 29, 30, 31, 32, 33, 34, 35, 36, 37, 38, 39, 40, 41, 42, 43, 44, 45, 46, 47, 48, 49, 50, 51, 52, 53, 54, 55, 56, 57, 58] (by decide +kernel) (by decide +kernel)
set_option maxRecDepth 20000 in
theorem gX9_write_X9_placed : GoodIn wsX9_write (wsV RX9 126 RX9 yX9_placed wsX9_placed) := goodIn_app (goodIn_of _ (by decide +kernel)) ggX9_write_X9_placed
set_option maxRecDepth 20000 in
theorem ggX9_write_X9_cut : GoodIn wsX9_write wsX9_cut := goodIn_r _ [17] (by decide +kernel) (by decide +kernel)
set_option maxRecDepth 20000 in
theorem gX9_write_X9_cut : GoodIn wsX9_write (va_wsS RX9 130 yX9_cut wsX9_cut) := goodIn_app (goodIn_of _ (by decide +kernel)) ggX9_write_X9_cut
theorem dX9_write_0 : decode cX9_write 0 = .ok (.aload_n 0, 1) := by decide +kernel
theorem dX9_write_1 : decode cX9_write 1 = .ok (.iconst 0, 1) := by decide +kernel
theorem dX9_write_2 : decode cX9_write 2 = .ok (.putfield 112, 3) := by decide +kernel
theorem dX9_write_5 : decode cX9_write 5 = .ok (.aload_n 0, 1) := by decide +kernel
theorem dX9_write_6 : decode cX9_write 6 = .ok (.aload_n 0, 1) := by decide +kernel
theorem dX9_write_7 : decode cX9_write 7 = .ok (.iload_n 1, 1) := by decide +kernel
theorem dX9_write_8 : decode cX9_write 8 = .ok (.iload_n 2, 1) := by decide +kernel
theorem dX9_write_9 : decode cX9_write 9 = .ok (.invokevirtual 126, 3) := by decide +kernel
theorem dX9_write_12 : decode cX9_write 12 = .ok (.putfield 115, 3) := by decide +kernel
theorem dX9_write_15 : decode cX9_write 15 = .ok (.aload_n 0, 1) := by decide +kernel
theorem dX9_write_16 : decode cX9_write 16 = .ok (.getfield 115, 3) := by decide +kernel
theorem dX9_write_19 : decode cX9_write 19 = .ok (.ifCond .le 5, 3) := by decide +kernel
theorem dX9_write_22 : decode cX9_write 22 = .ok (.iconst 0, 1) := by decide +kernel
theorem dX9_write_23 : decode cX9_write 23 = .ok (.ireturn, 1) := by decide +kernel
theorem dX9_write_24 : decode cX9_write 24 = .ok (.aload_n 0, 1) := by decide +kernel
theorem dX9_write_25 : decode cX9_write 25 = .ok (.getfield 16, 3) := by decide +kernel
theorem dX9_write_28 : decode cX9_write 28 = .ok (.bipush 64, 2) := by decide +kernel
theorem dX9_write_30 : decode cX9_write 30 = .ok (.iload_n 1, 1) := by decide +kernel
theorem dX9_write_31 : decode cX9_write 31 = .ok (.imul, 1) := by decide +kernel
theorem dX9_write_32 : decode cX9_write 32 = .ok (.iload_n 2, 1) := by decide +kernel
theorem dX9_write_33 : decode cX9_write 33 = .ok (.iadd, 1) := by decide +kernel
theorem dX9_write_34 : decode cX9_write 34 = .ok (.aload_n 0, 1) := by decide +kernel
theorem dX9_write_35 : decode cX9_write 35 = .ok (.getfield 7, 3) := by decide +kernel
theorem dX9_write_38 : decode cX9_write 38 = .ok (.iload_n 1, 1) := by decide +kernel
theorem dX9_write_39 : decode cX9_write 39 = .ok (.iaload, 1) := by decide +kernel
theorem dX9_write_40 : decode cX9_write 40 = .ok (.iload_n 3, 1) := by decide +kernel
theorem dX9_write_41 : decode cX9_write 41 = .ok (.invokestatic 130, 3) := by decide +kernel
theorem dX9_write_44 : decode cX9_write 44 = .ok (.iastore, 1) := by decide +kernel
theorem dX9_write_45 : decode cX9_write 45 = .ok (.iconst 1, 1) := by decide +kernel
theorem dX9_write_46 : decode cX9_write 46 = .ok (.ireturn, 1) := by decide +kernel
set_option maxRecDepth 20000 in
theorem ggX9_read_X9_placed : GoodIn wsX9_read wsX9_placed := goodIn_r _ [8, 9, 10, 11, 12, 7, 13, 14, 15, 16, 17, 18, 19, 20, 21, 22, 23, 24, 25, 26, 27, 28, 29, 30, 31, 32, 33, 34, 35, 36, 37, 38, 39, 40, 41, 42, 43, 44, 45, 46, 47, 48, 49, 50, 51, 52, 53, 54] (by decide +kernel) (by decide +kernel)
set_option maxRecDepth 20000 in
theorem gX9_read_X9_placed : GoodIn wsX9_read (wsV RX9 126 RX9 yX9_placed wsX9_placed) := goodIn_app (goodIn_of _ (by decide +kernel)) ggX9_read_X9_placed
theorem dX9_read_0 : decode cX9_read 0 = .ok (.aload_n 0, 1) := by decide +kernel
theorem dX9_read_1 : decode cX9_read 1 = .ok (.iconst 0, 1) := by decide +kernel
theorem dX9_read_2 : decode cX9_read 2 = .ok (.putfield 112, 3) := by decide +kernel
theorem dX9_read_5 : decode cX9_read 5 = .ok (.aload_n 0, 1) := by decide +kernel
theorem dX9_read_6 : decode cX9_read 6 = .ok (.aload_n 0, 1) := by decide +kernel
theorem dX9_read_7 : decode cX9_read 7 = .ok (.iload_n 1, 1) := by decide +kernel
theorem dX9_read_8 : decode cX9_read 8 = .ok (.iload_n 2, 1) := by decide +kernel
theorem dX9_read_9 : decode cX9_read 9 = .ok (.invokevirtual 126, 3) := by decide +kernel
theorem dX9_read_12 : decode cX9_read 12 = .ok (.putfield 115, 3) := by decide +kernel
theorem dX9_read_15 : decode cX9_read 15 = .ok (.aload_n 0, 1) := by decide +kernel
theorem dX9_read_16 : decode cX9_read 16 = .ok (.getfield 115, 3) := by decide +kernel
theorem dX9_read_19 : decode cX9_read 19 = .ok (.ifCond .le 7, 3) := by decide +kernel
theorem dX9_read_22 : decode cX9_read 22 = .ok (.iconst (-1), 1) := by decide +kernel
theorem dX9_read_23 : decode cX9_read 23 = .ok (.goto 14, 3) := by decide +kernel
theorem dX9_read_26 : decode cX9_read 26 = .ok (.aload_n 0, 1) := by decide +kernel
theorem dX9_read_27 : decode cX9_read 27 = .ok (.getfield 16, 3) := by decide +kernel
theorem dX9_read_30 : decode cX9_read 30 = .ok (.bipush 64, 2) := by decide +kernel
theorem dX9_read_32 : decode cX9_read 32 = .ok (.iload_n 1, 1) := by decide +kernel
theorem dX9_read_33 : decode cX9_read 33 = .ok (.imul, 1) := by decide +kernel
theorem dX9_read_34 : decode cX9_read 34 = .ok (.iload_n 2, 1) := by decide +kernel
theorem dX9_read_35 : decode cX9_read 35 = .ok (.iadd, 1) := by decide +kernel
theorem dX9_read_36 : decode cX9_read 36 = .ok (.iaload, 1) := by decide +kernel
theorem dX9_read_37 : decode cX9_read 37 = .ok (.ireturn, 1) := by decide +kernel
set_option maxRecDepth 20000 in
theorem ggX9_pour_X9_no : GoodIn wsX9_pour wsX9_no := goodIn_r _ [10, 2, 11, 12, 13, 14, 15, 16, 17, 18, 19, 20, 21, 22, 23, 24, 25, 26, 27, 28, 29, 30, 31, 32, 33, 34, 35, 36, 37, 38, 39, 40, 41, 42, 43, 44, 45, 46, 47, 48, 49, 50, 51] (by decide +kernel) (by decide +kernel)
set_option maxRecDepth 20000 in
theorem gX9_pour_X9_no : GoodIn wsX9_pour (wsV RX9 118 RX9 yX9_no wsX9_no) := goodIn_app (goodIn_of _ (by decide +kernel)) ggX9_pour_X9_no
theorem dX9_pour_0 : decode cX9_pour 0 = .ok (.aload_n 0, 1) := by decide +kernel
theorem dX9_pour_1 : decode cX9_pour 1 = .ok (.iconst 0, 1) := by decide +kernel
theorem dX9_pour_2 : decode cX9_pour 2 = .ok (.putfield 112, 3) := by decide +kernel
theorem dX9_pour_5 : decode cX9_pour 5 = .ok (.aload_n 0, 1) := by decide +kernel
theorem dX9_pour_6 : decode cX9_pour 6 = .ok (.iconst 0, 1) := by decide +kernel
theorem dX9_pour_7 : decode cX9_pour 7 = .ok (.putfield 115, 3) := by decide +kernel
theorem dX9_pour_10 : decode cX9_pour 10 = .ok (.iload_n 1, 1) := by decide +kernel
theorem dX9_pour_11 : decode cX9_pour 11 = .ok (.ifCond .lt 17, 3) := by decide +kernel
theorem dX9_pour_14 : decode cX9_pour 14 = .ok (.iload_n 1, 1) := by decide +kernel
theorem dX9_pour_15 : decode cX9_pour 15 = .ok (.iconst 4, 1) := by decide +kernel
theorem dX9_pour_16 : decode cX9_pour 16 = .ok (.if_icmp .ge 12, 3) := by decide +kernel
theorem dX9_pour_19 : decode cX9_pour 19 = .ok (.iload_n 3, 1) := by decide +kernel
theorem dX9_pour_20 : decode cX9_pour 20 = .ok (.ifCond .lt 8, 3) := by decide +kernel
theorem dX9_pour_23 : decode cX9_pour 23 = .ok (.iload_n 3, 1) := by decide +kernel
theorem dX9_pour_24 : decode cX9_pour 24 = .ok (.iconst 4, 1) := by decide +kernel
theorem dX9_pour_25 : decode cX9_pour 25 = .ok (.if_icmp .lt 9, 3) := by decide +kernel
theorem dX9_pour_28 : decode cX9_pour 28 = .ok (.aload_n 0, 1) := by decide +kernel
theorem dX9_pour_29 : decode cX9_pour 29 = .ok (.iconst 1, 1) := by decide +kernel
theorem dX9_pour_30 : decode cX9_pour 30 = .ok (.invokevirtual 118, 3) := by decide +kernel
theorem dX9_pour_33 : decode cX9_pour 33 = .ok (.ireturn, 1) := by decide +kernel
theorem dX9_pour_34 : decode cX9_pour 34 = .ok (.aload_n 0, 1) := by decide +kernel
theorem dX9_pour_35 : decode cX9_pour 35 = .ok (.getfield 13, 3) := by decide +kernel
theorem dX9_pour_38 : decode cX9_pour 38 = .ok (.iload_n 1, 1) := by decide +kernel
theorem dX9_pour_39 : decode cX9_pour 39 = .ok (.iaload, 1) := by decide +kernel
theorem dX9_pour_40 : decode cX9_pour 40 = .ok (.ifCond .lt 12, 3) := by decide +kernel
theorem dX9_pour_43 : decode cX9_pour 43 = .ok (.aload_n 0, 1) := by decide +kernel
theorem dX9_pour_44 : decode cX9_pour 44 = .ok (.getfield 13, 3) := by decide +kernel
theorem dX9_pour_47 : decode cX9_pour 47 = .ok (.iload_n 3, 1) := by decide +kernel
theorem dX9_pour_48 : decode cX9_pour 48 = .ok (.iaload, 1) := by decide +kernel
theorem dX9_pour_49 : decode cX9_pour 49 = .ok (.ifCond .ge 9, 3) := by decide +kernel
theorem dX9_pour_52 : decode cX9_pour 52 = .ok (.aload_n 0, 1) := by decide +kernel
theorem dX9_pour_53 : decode cX9_pour 53 = .ok (.iconst 3, 1) := by decide +kernel
theorem dX9_pour_54 : decode cX9_pour 54 = .ok (.invokevirtual 118, 3) := by decide +kernel
theorem dX9_pour_57 : decode cX9_pour 57 = .ok (.ireturn, 1) := by decide +kernel
theorem dX9_pour_58 : decode cX9_pour 58 = .ok (.aload_n 0, 1) := by decide +kernel
theorem dX9_pour_59 : decode cX9_pour 59 = .ok (.getfield 7, 3) := by decide +kernel
theorem dX9_pour_62 : decode cX9_pour 62 = .ok (.iload_n 1, 1) := by decide +kernel
theorem dX9_pour_63 : decode cX9_pour 63 = .ok (.iaload, 1) := by decide +kernel
theorem dX9_pour_64 : decode cX9_pour 64 = .ok (.aload_n 0, 1) := by decide +kernel
theorem dX9_pour_65 : decode cX9_pour 65 = .ok (.getfield 7, 3) := by decide +kernel
theorem dX9_pour_68 : decode cX9_pour 68 = .ok (.iload_n 3, 1) := by decide +kernel
theorem dX9_pour_69 : decode cX9_pour 69 = .ok (.iaload, 1) := by decide +kernel
theorem dX9_pour_70 : decode cX9_pour 70 = .ok (.if_icmp .eq 10, 3) := by decide +kernel
theorem dX9_pour_73 : decode cX9_pour 73 = .ok (.aload_n 0, 1) := by decide +kernel
theorem dX9_pour_74 : decode cX9_pour 74 = .ok (.bipush 11, 2) := by decide +kernel
theorem dX9_pour_76 : decode cX9_pour 76 = .ok (.invokevirtual 118, 3) := by decide +kernel
theorem dX9_pour_79 : decode cX9_pour 79 = .ok (.ireturn, 1) := by decide +kernel
theorem dX9_pour_80 : decode cX9_pour 80 = .ok (.iload 5, 2) := by decide +kernel
theorem dX9_pour_82 : decode cX9_pour 82 = .ok (.ifCond .ge 10, 3) := by decide +kernel
theorem dX9_pour_85 : decode cX9_pour 85 = .ok (.aload_n 0, 1) := by decide +kernel
theorem dX9_pour_86 : decode cX9_pour 86 = .ok (.bipush 6, 2) := by decide +kernel
theorem dX9_pour_88 : decode cX9_pour 88 = .ok (.invokevirtual 118, 3) := by decide +kernel
theorem dX9_pour_91 : decode cX9_pour 91 = .ok (.ireturn, 1) := by decide +kernel
theorem dX9_pour_92 : decode cX9_pour 92 = .ok (.iload_n 2, 1) := by decide +kernel
theorem dX9_pour_93 : decode cX9_pour 93 = .ok (.ifCond .lt 43, 3) := by decide +kernel
theorem dX9_pour_96 : decode cX9_pour 96 = .ok (.iload 4, 2) := by decide +kernel
theorem dX9_pour_98 : decode cX9_pour 98 = .ok (.ifCond .lt 38, 3) := by decide +kernel
theorem dX9_pour_101 : decode cX9_pour 101 = .ok (.iload_n 2, 1) := by decide +kernel
theorem dX9_pour_102 : decode cX9_pour 102 = .ok (.i2l, 1) := by decide +kernel
theorem dX9_pour_103 : decode cX9_pour 103 = .ok (.iload 5, 2) := by decide +kernel
theorem dX9_pour_105 : decode cX9_pour 105 = .ok (.i2l, 1) := by decide +kernel
theorem dX9_pour_106 : decode cX9_pour 106 = .ok (.ladd, 1) := by decide +kernel
theorem dX9_pour_107 : decode cX9_pour 107 = .ok (.aload_n 0, 1) := by decide +kernel
theorem dX9_pour_108 : decode cX9_pour 108 = .ok (.getfield 13, 3) := by decide +kernel
theorem dX9_pour_111 : decode cX9_pour 111 = .ok (.iload_n 1, 1) := by decide +kernel
theorem dX9_pour_112 : decode cX9_pour 112 = .ok (.iaload, 1) := by decide +kernel
theorem dX9_pour_113 : decode cX9_pour 113 = .ok (.i2l, 1) := by decide +kernel
theorem dX9_pour_114 : decode cX9_pour 114 = .ok (.lcmp, 1) := by decide +kernel
theorem dX9_pour_115 : decode cX9_pour 115 = .ok (.ifCond .gt 21, 3) := by decide +kernel
theorem dX9_pour_118 : decode cX9_pour 118 = .ok (.iload 4, 2) := by decide +kernel
theorem dX9_pour_120 : decode cX9_pour 120 = .ok (.i2l, 1) := by decide +kernel
theorem dX9_pour_121 : decode cX9_pour 121 = .ok (.iload 5, 2) := by decide +kernel
theorem dX9_pour_123 : decode cX9_pour 123 = .ok (.i2l, 1) := by decide +kernel
theorem dX9_pour_124 : decode cX9_pour 124 = .ok (.ladd, 1) := by decide +kernel
theorem dX9_pour_125 : decode cX9_pour 125 = .ok (.aload_n 0, 1) := by decide +kernel
theorem dX9_pour_126 : decode cX9_pour 126 = .ok (.getfield 13, 3) := by decide +kernel
theorem dX9_pour_129 : decode cX9_pour 129 = .ok (.iload_n 3, 1) := by decide +kernel
theorem dX9_pour_130 : decode cX9_pour 130 = .ok (.iaload, 1) := by decide +kernel
theorem dX9_pour_131 : decode cX9_pour 131 = .ok (.i2l, 1) := by decide +kernel
theorem dX9_pour_132 : decode cX9_pour 132 = .ok (.lcmp, 1) := by decide +kernel
theorem dX9_pour_133 : decode cX9_pour 133 = .ok (.ifCond .le 9, 3) := by decide +kernel
theorem dX9_pour_136 : decode cX9_pour 136 = .ok (.aload_n 0, 1) := by decide +kernel
theorem dX9_pour_137 : decode cX9_pour 137 = .ok (.iconst 4, 1) := by decide +kernel
theorem dX9_pour_138 : decode cX9_pour 138 = .ok (.invokevirtual 118, 3) := by decide +kernel
theorem dX9_pour_141 : decode cX9_pour 141 = .ok (.ireturn, 1) := by decide +kernel
theorem dX9_pour_142 : decode cX9_pour 142 = .ok (.iload_n 2, 1) := by decide +kernel
theorem dX9_pour_143 : decode cX9_pour 143 = .ok (.iload 4, 2) := by decide +kernel
theorem dX9_pour_145 : decode cX9_pour 145 = .ok (.if_icmp .ge 7, 3) := by decide +kernel
theorem dX9_pour_148 : decode cX9_pour 148 = .ok (.iconst 1, 1) := by decide +kernel
theorem dX9_pour_149 : decode cX9_pour 149 = .ok (.goto 4, 3) := by decide +kernel
theorem dX9_pour_152 : decode cX9_pour 152 = .ok (.iconst 0, 1) := by decide +kernel
theorem dX9_pour_153 : decode cX9_pour 153 = .ok (.istore 6, 2) := by decide +kernel
theorem dX9_pour_155 : decode cX9_pour 155 = .ok (.iconst 0, 1) := by decide +kernel
theorem dX9_pour_156 : decode cX9_pour 156 = .ok (.istore 7, 2) := by decide +kernel
theorem dX9_pour_158 : decode cX9_pour 158 = .ok (.iload 7, 2) := by decide +kernel
theorem dX9_pour_160 : decode cX9_pour 160 = .ok (.iload 5, 2) := by decide +kernel
theorem dX9_pour_162 : decode cX9_pour 162 = .ok (.if_icmp .ge 57, 3) := by decide +kernel
theorem dX9_pour_165 : decode cX9_pour 165 = .ok (.iload 6, 2) := by decide +kernel
theorem dX9_pour_167 : decode cX9_pour 167 = .ok (.ifCond .eq 13, 3) := by decide +kernel
theorem dX9_pour_170 : decode cX9_pour 170 = .ok (.iload 5, 2) := by decide +kernel
theorem dX9_pour_172 : decode cX9_pour 172 = .ok (.iconst 1, 1) := by decide +kernel
theorem dX9_pour_173 : decode cX9_pour 173 = .ok (.isub, 1) := by decide +kernel
theorem dX9_pour_174 : decode cX9_pour 174 = .ok (.iload 7, 2) := by decide +kernel
theorem dX9_pour_176 : decode cX9_pour 176 = .ok (.isub, 1) := by decide +kernel
theorem dX9_pour_177 : decode cX9_pour 177 = .ok (.goto 5, 3) := by decide +kernel
theorem dX9_pour_180 : decode cX9_pour 180 = .ok (.iload 7, 2) := by decide +kernel
theorem dX9_pour_182 : decode cX9_pour 182 = .ok (.istore 8, 2) := by decide +kernel
theorem dX9_pour_184 : decode cX9_pour 184 = .ok (.aload_n 0, 1) := by decide +kernel
theorem dX9_pour_185 : decode cX9_pour 185 = .ok (.getfield 16, 3) := by decide +kernel
theorem dX9_pour_188 : decode cX9_pour 188 = .ok (.bipush 64, 2) := by decide +kernel
theorem dX9_pour_190 : decode cX9_pour 190 = .ok (.iload_n 3, 1) := by decide +kernel
theorem dX9_pour_191 : decode cX9_pour 191 = .ok (.imul, 1) := by decide +kernel
theorem dX9_pour_192 : decode cX9_pour 192 = .ok (.iload 4, 2) := by decide +kernel
theorem dX9_pour_194 : decode cX9_pour 194 = .ok (.iadd, 1) := by decide +kernel
theorem dX9_pour_195 : decode cX9_pour 195 = .ok (.iload 8, 2) := by decide +kernel
theorem dX9_pour_197 : decode cX9_pour 197 = .ok (.iadd, 1) := by decide +kernel
theorem dX9_pour_198 : decode cX9_pour 198 = .ok (.aload_n 0, 1) := by decide +kernel
theorem dX9_pour_199 : decode cX9_pour 199 = .ok (.getfield 16, 3) := by decide +kernel
theorem dX9_pour_202 : decode cX9_pour 202 = .ok (.bipush 64, 2) := by decide +kernel
theorem dX9_pour_204 : decode cX9_pour 204 = .ok (.iload_n 1, 1) := by decide +kernel
theorem dX9_pour_205 : decode cX9_pour 205 = .ok (.imul, 1) := by decide +kernel
theorem dX9_pour_206 : decode cX9_pour 206 = .ok (.iload_n 2, 1) := by decide +kernel
theorem dX9_pour_207 : decode cX9_pour 207 = .ok (.iadd, 1) := by decide +kernel
theorem dX9_pour_208 : decode cX9_pour 208 = .ok (.iload 8, 2) := by decide +kernel
theorem dX9_pour_210 : decode cX9_pour 210 = .ok (.iadd, 1) := by decide +kernel
theorem dX9_pour_211 : decode cX9_pour 211 = .ok (.iaload, 1) := by decide +kernel
theorem dX9_pour_212 : decode cX9_pour 212 = .ok (.iastore, 1) := by decide +kernel
theorem dX9_pour_213 : decode cX9_pour 213 = .ok (.iinc 7 1, 3) := by decide +kernel
theorem dX9_pour_216 : decode cX9_pour 216 = .ok (.goto (-58), 3) := by decide +kernel
theorem dX9_pour_219 : decode cX9_pour 219 = .ok (.iconst 1, 1) := by decide +kernel
theorem dX9_pour_220 : decode cX9_pour 220 = .ok (.ireturn, 1) := by decide +kernel
theorem dX9_isSquare_0 : decode cX9_isSquare 0 = .ok (.iload_n 0, 1) := by decide +kernel
theorem dX9_isSquare_1 : decode cX9_isSquare 1 = .ok (.bipush (-30), 2) := by decide +kernel
theorem dX9_isSquare_3 : decode cX9_isSquare 3 = .ok (.if_icmp .lt 25, 3) := by decide +kernel
theorem dX9_isSquare_6 : decode cX9_isSquare 6 = .ok (.iload_n 0, 1) := by decide +kernel
theorem dX9_isSquare_7 : decode cX9_isSquare 7 = .ok (.bipush 30, 2) := by decide +kernel
theorem dX9_isSquare_9 : decode cX9_isSquare 9 = .ok (.if_icmp .gt 19, 3) := by decide +kernel
theorem dX9_isSquare_12 : decode cX9_isSquare 12 = .ok (.iload_n 1, 1) := by decide +kernel
theorem dX9_isSquare_13 : decode cX9_isSquare 13 = .ok (.bipush (-30), 2) := by decide +kernel
theorem dX9_isSquare_15 : decode cX9_isSquare 15 = .ok (.if_icmp .lt 13, 3) := by decide +kernel
theorem dX9_isSquare_18 : decode cX9_isSquare 18 = .ok (.iload_n 1, 1) := by decide +kernel
theorem dX9_isSquare_19 : decode cX9_isSquare 19 = .ok (.bipush 30, 2) := by decide +kernel
theorem dX9_isSquare_21 : decode cX9_isSquare 21 = .ok (.if_icmp .gt 7, 3) := by decide +kernel
theorem dX9_isSquare_24 : decode cX9_isSquare 24 = .ok (.iconst 1, 1) := by decide +kernel
theorem dX9_isSquare_25 : decode cX9_isSquare 25 = .ok (.goto 4, 3) := by decide +kernel
theorem dX9_isSquare_28 : decode cX9_isSquare 28 = .ok (.iconst 0, 1) := by decide +kernel
theorem dX9_isSquare_29 : decode cX9_isSquare 29 = .ok (.ireturn, 1) := by decide +kernel
theorem dX9_squareOf_0 : decode cX9_squareOf 0 = .ok (.bipush 61, 2) := by decide +kernel
theorem dX9_squareOf_2 : decode cX9_squareOf 2 = .ok (.iload_n 0, 1) := by decide +kernel
theorem dX9_squareOf_3 : decode cX9_squareOf 3 = .ok (.bipush 30, 2) := by decide +kernel
theorem dX9_squareOf_5 : decode cX9_squareOf 5 = .ok (.iadd, 1) := by decide +kernel
theorem dX9_squareOf_6 : decode cX9_squareOf 6 = .ok (.imul, 1) := by decide +kernel
theorem dX9_squareOf_7 : decode cX9_squareOf 7 = .ok (.iload_n 1, 1) := by decide +kernel
theorem dX9_squareOf_8 : decode cX9_squareOf 8 = .ok (.iadd, 1) := by decide +kernel
theorem dX9_squareOf_9 : decode cX9_squareOf 9 = .ok (.bipush 30, 2) := by decide +kernel
theorem dX9_squareOf_11 : decode cX9_squareOf 11 = .ok (.iadd, 1) := by decide +kernel
theorem dX9_squareOf_12 : decode cX9_squareOf 12 = .ok (.ireturn, 1) := by decide +kernel
theorem dX9_xOf_0 : decode cX9_xOf 0 = .ok (.iload_n 0, 1) := by decide +kernel
theorem dX9_xOf_1 : decode cX9_xOf 1 = .ok (.bipush 61, 2) := by decide +kernel
theorem dX9_xOf_3 : decode cX9_xOf 3 = .ok (.idiv, 1) := by decide +kernel
theorem dX9_xOf_4 : decode cX9_xOf 4 = .ok (.bipush 30, 2) := by decide +kernel
theorem dX9_xOf_6 : decode cX9_xOf 6 = .ok (.isub, 1) := by decide +kernel
theorem dX9_xOf_7 : decode cX9_xOf 7 = .ok (.ireturn, 1) := by decide +kernel
theorem dX9_yOf_0 : decode cX9_yOf 0 = .ok (.iload_n 0, 1) := by decide +kernel
theorem dX9_yOf_1 : decode cX9_yOf 1 = .ok (.bipush 61, 2) := by decide +kernel
theorem dX9_yOf_3 : decode cX9_yOf 3 = .ok (.irem, 1) := by decide +kernel
theorem dX9_yOf_4 : decode cX9_yOf 4 = .ok (.bipush 30, 2) := by decide +kernel
theorem dX9_yOf_6 : decode cX9_yOf 6 = .ok (.isub, 1) := by decide +kernel
theorem dX9_yOf_7 : decode cX9_yOf 7 = .ok (.ireturn, 1) := by decide +kernel
theorem dX9_isIn_0 : decode cX9_isIn 0 = .ok (.iload_n 1, 1) := by decide +kernel
theorem dX9_isIn_1 : decode cX9_isIn 1 = .ok (.tableswitch 91 1 4 #[31, 41, 59, 73], 31) := by decide +kernel
theorem dX9_isIn_32 : decode cX9_isIn 32 = .ok (.iload_n 3, 1) := by decide +kernel
theorem dX9_isIn_33 : decode cX9_isIn 33 = .ok (.ifCond .lt 7, 3) := by decide +kernel
theorem dX9_isIn_36 : decode cX9_isIn 36 = .ok (.iconst 1, 1) := by decide +kernel
theorem dX9_isIn_37 : decode cX9_isIn 37 = .ok (.goto 4, 3) := by decide +kernel
theorem dX9_isIn_40 : decode cX9_isIn 40 = .ok (.iconst 0, 1) := by decide +kernel
theorem dX9_isIn_41 : decode cX9_isIn 41 = .ok (.ireturn, 1) := by decide +kernel
theorem dX9_isIn_42 : decode cX9_isIn 42 = .ok (.iload_n 3, 1) := by decide +kernel
theorem dX9_isIn_43 : decode cX9_isIn 43 = .ok (.ifCond .lt 15, 3) := by decide +kernel
theorem dX9_isIn_46 : decode cX9_isIn 46 = .ok (.iload_n 3, 1) := by decide +kernel
theorem dX9_isIn_47 : decode cX9_isIn 47 = .ok (.aload_n 0, 1) := by decide +kernel
theorem dX9_isIn_48 : decode cX9_isIn 48 = .ok (.getfield 23, 3) := by decide +kernel
theorem dX9_isIn_51 : decode cX9_isIn 51 = .ok (.if_icmp .gt 7, 3) := by decide +kernel
theorem dX9_isIn_54 : decode cX9_isIn 54 = .ok (.iconst 1, 1) := by decide +kernel
theorem dX9_isIn_55 : decode cX9_isIn 55 = .ok (.goto 4, 3) := by decide +kernel
theorem dX9_isIn_58 : decode cX9_isIn 58 = .ok (.iconst 0, 1) := by decide +kernel
theorem dX9_isIn_59 : decode cX9_isIn 59 = .ok (.ireturn, 1) := by decide +kernel
theorem dX9_isIn_60 : decode cX9_isIn 60 = .ok (.iload_n 2, 1) := by decide +kernel
theorem dX9_isIn_61 : decode cX9_isIn 61 = .ok (.ifCond .lt 11, 3) := by decide +kernel
theorem dX9_isIn_64 : decode cX9_isIn 64 = .ok (.iload_n 3, 1) := by decide +kernel
theorem dX9_isIn_65 : decode cX9_isIn 65 = .ok (.ifCond .lt 7, 3) := by decide +kernel
theorem dX9_isIn_68 : decode cX9_isIn 68 = .ok (.iconst 1, 1) := by decide +kernel
theorem dX9_isIn_69 : decode cX9_isIn 69 = .ok (.goto 4, 3) := by decide +kernel
theorem dX9_isIn_72 : decode cX9_isIn 72 = .ok (.iconst 0, 1) := by decide +kernel
theorem dX9_isIn_73 : decode cX9_isIn 73 = .ok (.ireturn, 1) := by decide +kernel
theorem dX9_isIn_74 : decode cX9_isIn 74 = .ok (.iload_n 2, 1) := by decide +kernel
theorem dX9_isIn_75 : decode cX9_isIn 75 = .ok (.ifCond .lt 15, 3) := by decide +kernel
theorem dX9_isIn_78 : decode cX9_isIn 78 = .ok (.iload_n 2, 1) := by decide +kernel
theorem dX9_isIn_79 : decode cX9_isIn 79 = .ok (.aload_n 0, 1) := by decide +kernel
theorem dX9_isIn_80 : decode cX9_isIn 80 = .ok (.getfield 26, 3) := by decide +kernel
theorem dX9_isIn_83 : decode cX9_isIn 83 = .ok (.if_icmp .ge 7, 3) := by decide +kernel
theorem dX9_isIn_86 : decode cX9_isIn 86 = .ok (.iconst 1, 1) := by decide +kernel
theorem dX9_isIn_87 : decode cX9_isIn 87 = .ok (.goto 4, 3) := by decide +kernel
theorem dX9_isIn_90 : decode cX9_isIn 90 = .ok (.iconst 0, 1) := by decide +kernel
theorem dX9_isIn_91 : decode cX9_isIn 91 = .ok (.ireturn, 1) := by decide +kernel
theorem dX9_isIn_92 : decode cX9_isIn 92 = .ok (.iconst 1, 1) := by decide +kernel
theorem dX9_isIn_93 : decode cX9_isIn 93 = .ok (.ireturn, 1) := by decide +kernel
set_option maxRecDepth 20000 in
theorem ggX9_isOpen_X9_isSquare : GoodIn wsX9_isOpen wsX9_isSquare := goodIn_r _ [6] (by decide +kernel) (by decide +kernel)
set_option maxRecDepth 20000 in
theorem gX9_isOpen_X9_isSquare : GoodIn wsX9_isOpen (va_wsS RX9 133 yX9_isSquare wsX9_isSquare) := goodIn_app (goodIn_of _ (by decide +kernel)) ggX9_isOpen_X9_isSquare
set_option maxRecDepth 20000 in
theorem ggX9_isOpen_X9_isIn : GoodIn wsX9_isOpen wsX9_isIn := goodIn_r _ [10, 11, 12, 16, 17, 18, 19, 20, 21, 22, 23, 24, 25, 26, 27, 28, 29, 30, 31, 32, 33, 34, 35, 36, 37, 38, 39, 40, 41, 42, 43, 44, 45, 46, 47, 48, 49, 50, 51, 52, 53, 54, 55, 56] (by decide +kernel) (by decide +kernel)
set_option maxRecDepth 20000 in
theorem gX9_isOpen_X9_isIn : GoodIn wsX9_isOpen (wsV RX9 140 RX9 yX9_isIn wsX9_isIn) := goodIn_app (goodIn_of _ (by decide +kernel)) ggX9_isOpen_X9_isIn
set_option maxRecDepth 20000 in
theorem ggX9_isOpen_X9_squareOf : GoodIn wsX9_isOpen wsX9_squareOf := goodIn_r _ [15] (by decide +kernel) (by decide +kernel)
set_option maxRecDepth 20000 in
theorem gX9_isOpen_X9_squareOf : GoodIn wsX9_isOpen (va_wsS RX9 144 yX9_squareOf wsX9_squareOf) := goodIn_app (goodIn_of _ (by decide +kernel)) ggX9_isOpen_X9_squareOf
theorem dX9_isOpen_0 : decode cX9_isOpen 0 = .ok (.iload_n 1, 1) := by decide +kernel
theorem dX9_isOpen_1 : decode cX9_isOpen 1 = .ok (.iload_n 2, 1) := by decide +kernel
theorem dX9_isOpen_2 : decode cX9_isOpen 2 = .ok (.invokestatic 133, 3) := by decide +kernel
theorem dX9_isOpen_5 : decode cX9_isOpen 5 = .ok (.ifCond .eq 33, 3) := by decide +kernel
theorem dX9_isOpen_8 : decode cX9_isOpen 8 = .ok (.aload_n 0, 1) := by decide +kernel
theorem dX9_isOpen_9 : decode cX9_isOpen 9 = .ok (.aload_n 0, 1) := by decide +kernel
theorem dX9_isOpen_10 : decode cX9_isOpen 10 = .ok (.getfield 137, 3) := by decide +kernel
theorem dX9_isOpen_13 : decode cX9_isOpen 13 = .ok (.iload_n 1, 1) := by decide +kernel
theorem dX9_isOpen_14 : decode cX9_isOpen 14 = .ok (.iload_n 2, 1) := by decide +kernel
theorem dX9_isOpen_15 : decode cX9_isOpen 15 = .ok (.invokevirtual 140, 3) := by decide +kernel
theorem dX9_isOpen_18 : decode cX9_isOpen 18 = .ok (.ifCond .eq 20, 3) := by decide +kernel
theorem dX9_isOpen_21 : decode cX9_isOpen 21 = .ok (.aload_n 0, 1) := by decide +kernel
theorem dX9_isOpen_22 : decode cX9_isOpen 22 = .ok (.getfield 38, 3) := by decide +kernel
theorem dX9_isOpen_25 : decode cX9_isOpen 25 = .ok (.iload_n 1, 1) := by decide +kernel
theorem dX9_isOpen_26 : decode cX9_isOpen 26 = .ok (.iload_n 2, 1) := by decide +kernel
theorem dX9_isOpen_27 : decode cX9_isOpen 27 = .ok (.invokestatic 144, 3) := by decide +kernel
theorem dX9_isOpen_30 : decode cX9_isOpen 30 = .ok (.baload, 1) := by decide +kernel
theorem dX9_isOpen_31 : decode cX9_isOpen 31 = .ok (.ifCond .ne 7, 3) := by decide +kernel
theorem dX9_isOpen_34 : decode cX9_isOpen 34 = .ok (.iconst 1, 1) := by decide +kernel
theorem dX9_isOpen_35 : decode cX9_isOpen 35 = .ok (.goto 4, 3) := by decide +kernel
theorem dX9_isOpen_38 : decode cX9_isOpen 38 = .ok (.iconst 0, 1) := by decide +kernel
theorem dX9_isOpen_39 : decode cX9_isOpen 39 = .ok (.ireturn, 1) := by decide +kernel
set_option maxRecDepth 20000 in
theorem ggX9_next_X9_xOf : GoodIn wsX9_next wsX9_xOf := goodIn_r _ [8] (by decide +kernel) (by decide +kernel)
set_option maxRecDepth 20000 in
theorem gX9_next_X9_xOf : GoodIn wsX9_next (va_wsS RX9 147 yX9_xOf wsX9_xOf) := goodIn_app (goodIn_of _ (by decide +kernel)) ggX9_next_X9_xOf
set_option maxRecDepth 20000 in
theorem ggX9_next_X9_yOf : GoodIn wsX9_next wsX9_yOf := goodIn_r _ [11] (by decide +kernel) (by decide +kernel)
set_option maxRecDepth 20000 in
theorem gX9_next_X9_yOf : GoodIn wsX9_next (va_wsS RX9 150 yX9_yOf wsX9_yOf) := goodIn_app (goodIn_of _ (by decide +kernel)) ggX9_next_X9_yOf
set_option maxRecDepth 20000 in
theorem ggX9_next_X9_isOpen : GoodIn wsX9_next wsX9_isOpen := goodIn_r _ [15, 3, 16, 17, 18, 7, 19, 20, 21, 22, 23, 24, 4, 25, 26, 27, 28, 29, 30, 31, 32, 33, 34, 35, 36, 37, 38, 39, 40, 41, 42, 43, 44, 45, 46, 47, 48, 49, 50, 51, 52, 53, 54, 55, 56, 57, 58, 59, 60, 61, 62, 63, 64, 65, 66, 67, 68] (by decide +kernel) (by decide +kernel)
set_option maxRecDepth 20000 in
theorem gX9_next_X9_isOpen : GoodIn wsX9_next (wsV RX9 153 RX9 yX9_isOpen wsX9_isOpen) := goodIn_app (goodIn_of _ (by decide +kernel)) ggX9_next_X9_isOpen
set_option maxRecDepth 20000 in
theorem ggX9_next_X9_squareOf : GoodIn wsX9_next wsX9_squareOf := goodIn_r _ [27] (by decide +kernel) (by decide +kernel)
set_option maxRecDepth 20000 in
theorem gX9_next_X9_squareOf : GoodIn wsX9_next (va_wsS RX9 144 yX9_squareOf wsX9_squareOf) := goodIn_app (goodIn_of _ (by decide +kernel)) ggX9_next_X9_squareOf
theorem dX9_next_0 : decode cX9_next 0 = .ok (.iload_n 1, 1) := by decide +kernel
theorem dX9_next_1 : decode cX9_next 1 = .ok (.invokestatic 147, 3) := by decide +kernel
theorem dX9_next_4 : decode cX9_next 4 = .ok (.aload_n 0, 1) := by decide +kernel
theorem dX9_next_5 : decode cX9_next 5 = .ok (.getfield 29, 3) := by decide +kernel
theorem dX9_next_8 : decode cX9_next 8 = .ok (.iload_n 2, 1) := by decide +kernel
theorem dX9_next_9 : decode cX9_next 9 = .ok (.iaload, 1) := by decide +kernel
theorem dX9_next_10 : decode cX9_next 10 = .ok (.iadd, 1) := by decide +kernel
theorem dX9_next_11 : decode cX9_next 11 = .ok (.istore_n 3, 1) := by decide +kernel
theorem dX9_next_12 : decode cX9_next 12 = .ok (.iload_n 1, 1) := by decide +kernel
theorem dX9_next_13 : decode cX9_next 13 = .ok (.invokestatic 150, 3) := by decide +kernel
theorem dX9_next_16 : decode cX9_next 16 = .ok (.aload_n 0, 1) := by decide +kernel
theorem dX9_next_17 : decode cX9_next 17 = .ok (.getfield 32, 3) := by decide +kernel
theorem dX9_next_20 : decode cX9_next 20 = .ok (.iload_n 2, 1) := by decide +kernel
theorem dX9_next_21 : decode cX9_next 21 = .ok (.iaload, 1) := by decide +kernel
theorem dX9_next_22 : decode cX9_next 22 = .ok (.iadd, 1) := by decide +kernel
theorem dX9_next_23 : decode cX9_next 23 = .ok (.istore 4, 2) := by decide +kernel
theorem dX9_next_25 : decode cX9_next 25 = .ok (.aload_n 0, 1) := by decide +kernel
theorem dX9_next_26 : decode cX9_next 26 = .ok (.getfield 137, 3) := by decide +kernel
theorem dX9_next_29 : decode cX9_next 29 = .ok (.iconst 4, 1) := by decide +kernel
theorem dX9_next_30 : decode cX9_next 30 = .ok (.if_icmp .ne 20, 3) := by decide +kernel
theorem dX9_next_33 : decode cX9_next 33 = .ok (.iload_n 3, 1) := by decide +kernel
theorem dX9_next_34 : decode cX9_next 34 = .ok (.aload_n 0, 1) := by decide +kernel
theorem dX9_next_35 : decode cX9_next 35 = .ok (.getfield 26, 3) := by decide +kernel
theorem dX9_next_38 : decode cX9_next 38 = .ok (.irem, 1) := by decide +kernel
theorem dX9_next_39 : decode cX9_next 39 = .ok (.aload_n 0, 1) := by decide +kernel
theorem dX9_next_40 : decode cX9_next 40 = .ok (.getfield 26, 3) := by decide +kernel
theorem dX9_next_43 : decode cX9_next 43 = .ok (.iadd, 1) := by decide +kernel
theorem dX9_next_44 : decode cX9_next 44 = .ok (.aload_n 0, 1) := by decide +kernel
theorem dX9_next_45 : decode cX9_next 45 = .ok (.getfield 26, 3) := by decide +kernel
theorem dX9_next_48 : decode cX9_next 48 = .ok (.irem, 1) := by decide +kernel
theorem dX9_next_49 : decode cX9_next 49 = .ok (.istore_n 3, 1) := by decide +kernel
theorem dX9_next_50 : decode cX9_next 50 = .ok (.aload_n 0, 1) := by decide +kernel
theorem dX9_next_51 : decode cX9_next 51 = .ok (.iload_n 3, 1) := by decide +kernel
theorem dX9_next_52 : decode cX9_next 52 = .ok (.iload 4, 2) := by decide +kernel
theorem dX9_next_54 : decode cX9_next 54 = .ok (.invokevirtual 153, 3) := by decide +kernel
theorem dX9_next_57 : decode cX9_next 57 = .ok (.ifCond .eq 12, 3) := by decide +kernel
theorem dX9_next_60 : decode cX9_next 60 = .ok (.iload_n 3, 1) := by decide +kernel
theorem dX9_next_61 : decode cX9_next 61 = .ok (.iload 4, 2) := by decide +kernel
theorem dX9_next_63 : decode cX9_next 63 = .ok (.invokestatic 144, 3) := by decide +kernel
theorem dX9_next_66 : decode cX9_next 66 = .ok (.goto 4, 3) := by decide +kernel
theorem dX9_next_69 : decode cX9_next 69 = .ok (.iconst (-1), 1) := by decide +kernel
theorem dX9_next_70 : decode cX9_next 70 = .ok (.ireturn, 1) := by decide +kernel
set_option maxRecDepth 20000 in
theorem ggX9_steps_X9_sheeted : GoodIn wsX9_steps wsX9_sheeted := goodIn_r _ [13, 3, 18, 19, 20, 21, 22, 23, 24, 25, 26, 27, 28, 29, 30, 31, 32, 33, 34, 35, 36, 37, 38, 39, 40, 41, 42, 43, 44, 45, 46, 47, 48, 49, 50, 51, 52, 53, 54, 55, 56, 57, 58] (by decide +kernel) (by decide +kernel)
set_option maxRecDepth 20000 in
theorem gX9_steps_X9_sheeted : GoodIn wsX9_steps (wsV RX9 122 RX9 yX9_sheeted wsX9_sheeted) := goodIn_app (goodIn_of _ (by decide +kernel)) ggX9_steps_X9_sheeted
set_option maxRecDepth 20000 in
theorem ggX9_steps_X9_no : GoodIn wsX9_steps wsX9_no := goodIn_r _ [17, 2, 18, 19, 20, 21, 22, 23, 24, 25, 26, 27, 28, 29, 30, 31, 32, 33, 34, 35, 36, 37, 38, 39, 40, 41, 42, 43, 44, 45, 46, 47, 48, 49, 50, 51, 52, 53, 54, 55, 56, 57, 58] (by decide +kernel) (by decide +kernel)
set_option maxRecDepth 20000 in
theorem gX9_steps_X9_no : GoodIn wsX9_steps (wsV RX9 118 RX9 yX9_no wsX9_no) := goodIn_app (goodIn_of _ (by decide +kernel)) ggX9_steps_X9_no
theorem dX9_steps_0 : decode cX9_steps 0 = .ok (.aload_n 0, 1) := by decide +kernel
theorem dX9_steps_1 : decode cX9_steps 1 = .ok (.iconst 0, 1) := by decide +kernel
theorem dX9_steps_2 : decode cX9_steps 2 = .ok (.putfield 112, 3) := by decide +kernel
theorem dX9_steps_5 : decode cX9_steps 5 = .ok (.aload_n 0, 1) := by decide +kernel
theorem dX9_steps_6 : decode cX9_steps 6 = .ok (.aload_n 0, 1) := by decide +kernel
theorem dX9_steps_7 : decode cX9_steps 7 = .ok (.iload_n 1, 1) := by decide +kernel
theorem dX9_steps_8 : decode cX9_steps 8 = .ok (.invokevirtual 122, 3) := by decide +kernel
theorem dX9_steps_11 : decode cX9_steps 11 = .ok (.putfield 115, 3) := by decide +kernel
theorem dX9_steps_14 : decode cX9_steps 14 = .ok (.aload_n 0, 1) := by decide +kernel
theorem dX9_steps_15 : decode cX9_steps 15 = .ok (.getfield 115, 3) := by decide +kernel
theorem dX9_steps_18 : decode cX9_steps 18 = .ok (.ifCond .le 5, 3) := by decide +kernel
theorem dX9_steps_21 : decode cX9_steps 21 = .ok (.iconst 0, 1) := by decide +kernel
theorem dX9_steps_22 : decode cX9_steps 22 = .ok (.ireturn, 1) := by decide +kernel
theorem dX9_steps_23 : decode cX9_steps 23 = .ok (.iload_n 2, 1) := by decide +kernel
theorem dX9_steps_24 : decode cX9_steps 24 = .ok (.iconst 1, 1) := by decide +kernel
theorem dX9_steps_25 : decode cX9_steps 25 = .ok (.if_icmp .lt 9, 3) := by decide +kernel
theorem dX9_steps_28 : decode cX9_steps 28 = .ok (.iload_n 2, 1) := by decide +kernel
theorem dX9_steps_29 : decode cX9_steps 29 = .ok (.bipush 8, 2) := by decide +kernel
theorem dX9_steps_31 : decode cX9_steps 31 = .ok (.if_icmp .le 9, 3) := by decide +kernel
theorem dX9_steps_34 : decode cX9_steps 34 = .ok (.aload_n 0, 1) := by decide +kernel
theorem dX9_steps_35 : decode cX9_steps 35 = .ok (.iconst 2, 1) := by decide +kernel
theorem dX9_steps_36 : decode cX9_steps 36 = .ok (.invokevirtual 118, 3) := by decide +kernel
theorem dX9_steps_39 : decode cX9_steps 39 = .ok (.ireturn, 1) := by decide +kernel
theorem dX9_steps_40 : decode cX9_steps 40 = .ok (.iconst 2, 1) := by decide +kernel
theorem dX9_steps_41 : decode cX9_steps 41 = .ok (.iload_n 2, 1) := by decide +kernel
theorem dX9_steps_42 : decode cX9_steps 42 = .ok (.imul, 1) := by decide +kernel
theorem dX9_steps_43 : decode cX9_steps 43 = .ok (.aload_n 0, 1) := by decide +kernel
theorem dX9_steps_44 : decode cX9_steps 44 = .ok (.getfield 13, 3) := by decide +kernel
theorem dX9_steps_47 : decode cX9_steps 47 = .ok (.iload_n 1, 1) := by decide +kernel
theorem dX9_steps_48 : decode cX9_steps 48 = .ok (.iaload, 1) := by decide +kernel
theorem dX9_steps_49 : decode cX9_steps 49 = .ok (.if_icmp .le 9, 3) := by decide +kernel
theorem dX9_steps_52 : decode cX9_steps 52 = .ok (.aload_n 0, 1) := by decide +kernel
theorem dX9_steps_53 : decode cX9_steps 53 = .ok (.iconst 4, 1) := by decide +kernel
theorem dX9_steps_54 : decode cX9_steps 54 = .ok (.invokevirtual 118, 3) := by decide +kernel
theorem dX9_steps_57 : decode cX9_steps 57 = .ok (.ireturn, 1) := by decide +kernel
theorem dX9_steps_58 : decode cX9_steps 58 = .ok (.bipush 64, 2) := by decide +kernel
theorem dX9_steps_60 : decode cX9_steps 60 = .ok (.iload_n 1, 1) := by decide +kernel
theorem dX9_steps_61 : decode cX9_steps 61 = .ok (.imul, 1) := by decide +kernel
theorem dX9_steps_62 : decode cX9_steps 62 = .ok (.istore_n 3, 1) := by decide +kernel
theorem dX9_steps_63 : decode cX9_steps 63 = .ok (.iconst 0, 1) := by decide +kernel
theorem dX9_steps_64 : decode cX9_steps 64 = .ok (.istore 4, 2) := by decide +kernel
theorem dX9_steps_66 : decode cX9_steps 66 = .ok (.iload 4, 2) := by decide +kernel
theorem dX9_steps_68 : decode cX9_steps 68 = .ok (.iload_n 2, 1) := by decide +kernel
theorem dX9_steps_69 : decode cX9_steps 69 = .ok (.if_icmp .ge 153, 3) := by decide +kernel
theorem dX9_steps_72 : decode cX9_steps 72 = .ok (.aload_n 0, 1) := by decide +kernel
theorem dX9_steps_73 : decode cX9_steps 73 = .ok (.getfield 16, 3) := by decide +kernel
theorem dX9_steps_76 : decode cX9_steps 76 = .ok (.iload_n 3, 1) := by decide +kernel
theorem dX9_steps_77 : decode cX9_steps 77 = .ok (.iconst 2, 1) := by decide +kernel
theorem dX9_steps_78 : decode cX9_steps 78 = .ok (.iload 4, 2) := by decide +kernel
theorem dX9_steps_80 : decode cX9_steps 80 = .ok (.imul, 1) := by decide +kernel
theorem dX9_steps_81 : decode cX9_steps 81 = .ok (.iadd, 1) := by decide +kernel
theorem dX9_steps_82 : decode cX9_steps 82 = .ok (.iaload, 1) := by decide +kernel
theorem dX9_steps_83 : decode cX9_steps 83 = .ok (.istore 5, 2) := by decide +kernel
theorem dX9_steps_85 : decode cX9_steps 85 = .ok (.aload_n 0, 1) := by decide +kernel
theorem dX9_steps_86 : decode cX9_steps 86 = .ok (.getfield 16, 3) := by decide +kernel
theorem dX9_steps_89 : decode cX9_steps 89 = .ok (.iload_n 3, 1) := by decide +kernel
theorem dX9_steps_90 : decode cX9_steps 90 = .ok (.iconst 2, 1) := by decide +kernel
theorem dX9_steps_91 : decode cX9_steps 91 = .ok (.iload 4, 2) := by decide +kernel
theorem dX9_steps_93 : decode cX9_steps 93 = .ok (.imul, 1) := by decide +kernel
theorem dX9_steps_94 : decode cX9_steps 94 = .ok (.iadd, 1) := by decide +kernel
theorem dX9_steps_95 : decode cX9_steps 95 = .ok (.iconst 1, 1) := by decide +kernel
theorem dX9_steps_96 : decode cX9_steps 96 = .ok (.iadd, 1) := by decide +kernel
theorem dX9_steps_97 : decode cX9_steps 97 = .ok (.iaload, 1) := by decide +kernel
theorem dX9_steps_98 : decode cX9_steps 98 = .ok (.istore 6, 2) := by decide +kernel
theorem dX9_steps_100 : decode cX9_steps 100 = .ok (.iload 5, 2) := by decide +kernel
theorem dX9_steps_102 : decode cX9_steps 102 = .ok (.bipush (-3), 2) := by decide +kernel
theorem dX9_steps_104 : decode cX9_steps 104 = .ok (.if_icmp .lt 36, 3) := by decide +kernel
theorem dX9_steps_107 : decode cX9_steps 107 = .ok (.iload 5, 2) := by decide +kernel
theorem dX9_steps_109 : decode cX9_steps 109 = .ok (.iconst 3, 1) := by decide +kernel
theorem dX9_steps_110 : decode cX9_steps 110 = .ok (.if_icmp .gt 30, 3) := by decide +kernel
theorem dX9_steps_113 : decode cX9_steps 113 = .ok (.iload 6, 2) := by decide +kernel
theorem dX9_steps_115 : decode cX9_steps 115 = .ok (.bipush (-3), 2) := by decide +kernel
theorem dX9_steps_117 : decode cX9_steps 117 = .ok (.if_icmp .lt 23, 3) := by decide +kernel
theorem dX9_steps_120 : decode cX9_steps 120 = .ok (.iload 6, 2) := by decide +kernel
theorem dX9_steps_122 : decode cX9_steps 122 = .ok (.iconst 3, 1) := by decide +kernel
theorem dX9_steps_123 : decode cX9_steps 123 = .ok (.if_icmp .gt 17, 3) := by decide +kernel
theorem dX9_steps_126 : decode cX9_steps 126 = .ok (.iload 5, 2) := by decide +kernel
theorem dX9_steps_128 : decode cX9_steps 128 = .ok (.ifCond .ne 8, 3) := by decide +kernel
theorem dX9_steps_131 : decode cX9_steps 131 = .ok (.iload 6, 2) := by decide +kernel
theorem dX9_steps_133 : decode cX9_steps 133 = .ok (.ifCond .eq 7, 3) := by decide +kernel
theorem dX9_steps_136 : decode cX9_steps 136 = .ok (.iconst 1, 1) := by decide +kernel
theorem dX9_steps_137 : decode cX9_steps 137 = .ok (.goto 4, 3) := by decide +kernel
theorem dX9_steps_140 : decode cX9_steps 140 = .ok (.iconst 0, 1) := by decide +kernel
theorem dX9_steps_141 : decode cX9_steps 141 = .ok (.istore 7, 2) := by decide +kernel
theorem dX9_steps_143 : decode cX9_steps 143 = .ok (.iconst 0, 1) := by decide +kernel
theorem dX9_steps_144 : decode cX9_steps 144 = .ok (.istore 8, 2) := by decide +kernel
theorem dX9_steps_146 : decode cX9_steps 146 = .ok (.iload 8, 2) := by decide +kernel
theorem dX9_steps_148 : decode cX9_steps 148 = .ok (.iload 4, 2) := by decide +kernel
theorem dX9_steps_150 : decode cX9_steps 150 = .ok (.if_icmp .ge 55, 3) := by decide +kernel
theorem dX9_steps_153 : decode cX9_steps 153 = .ok (.iload 7, 2) := by decide +kernel
theorem dX9_steps_155 : decode cX9_steps 155 = .ok (.ifCond .eq 41, 3) := by decide +kernel
theorem dX9_steps_158 : decode cX9_steps 158 = .ok (.aload_n 0, 1) := by decide +kernel
theorem dX9_steps_159 : decode cX9_steps 159 = .ok (.getfield 16, 3) := by decide +kernel
theorem dX9_steps_162 : decode cX9_steps 162 = .ok (.iload_n 3, 1) := by decide +kernel
theorem dX9_steps_163 : decode cX9_steps 163 = .ok (.iconst 2, 1) := by decide +kernel
theorem dX9_steps_164 : decode cX9_steps 164 = .ok (.iload 8, 2) := by decide +kernel
theorem dX9_steps_166 : decode cX9_steps 166 = .ok (.imul, 1) := by decide +kernel
theorem dX9_steps_167 : decode cX9_steps 167 = .ok (.iadd, 1) := by decide +kernel
theorem dX9_steps_168 : decode cX9_steps 168 = .ok (.iaload, 1) := by decide +kernel
theorem dX9_steps_169 : decode cX9_steps 169 = .ok (.iload 5, 2) := by decide +kernel
theorem dX9_steps_171 : decode cX9_steps 171 = .ok (.if_icmp .ne 21, 3) := by decide +kernel
theorem dX9_steps_174 : decode cX9_steps 174 = .ok (.aload_n 0, 1) := by decide +kernel
theorem dX9_steps_175 : decode cX9_steps 175 = .ok (.getfield 16, 3) := by decide +kernel
theorem dX9_steps_178 : decode cX9_steps 178 = .ok (.iload_n 3, 1) := by decide +kernel
theorem dX9_steps_179 : decode cX9_steps 179 = .ok (.iconst 2, 1) := by decide +kernel
theorem dX9_steps_180 : decode cX9_steps 180 = .ok (.iload 8, 2) := by decide +kernel
theorem dX9_steps_182 : decode cX9_steps 182 = .ok (.imul, 1) := by decide +kernel
theorem dX9_steps_183 : decode cX9_steps 183 = .ok (.iadd, 1) := by decide +kernel
theorem dX9_steps_184 : decode cX9_steps 184 = .ok (.iconst 1, 1) := by decide +kernel
theorem dX9_steps_185 : decode cX9_steps 185 = .ok (.iadd, 1) := by decide +kernel
theorem dX9_steps_186 : decode cX9_steps 186 = .ok (.iaload, 1) := by decide +kernel
theorem dX9_steps_187 : decode cX9_steps 187 = .ok (.iload 6, 2) := by decide +kernel
theorem dX9_steps_189 : decode cX9_steps 189 = .ok (.if_icmp .eq 7, 3) := by decide +kernel
theorem dX9_steps_192 : decode cX9_steps 192 = .ok (.iconst 1, 1) := by decide +kernel
theorem dX9_steps_193 : decode cX9_steps 193 = .ok (.goto 4, 3) := by decide +kernel
theorem dX9_steps_196 : decode cX9_steps 196 = .ok (.iconst 0, 1) := by decide +kernel
theorem dX9_steps_197 : decode cX9_steps 197 = .ok (.istore 7, 2) := by decide +kernel
theorem dX9_steps_199 : decode cX9_steps 199 = .ok (.iinc 8 1, 3) := by decide +kernel
theorem dX9_steps_202 : decode cX9_steps 202 = .ok (.goto (-56), 3) := by decide +kernel
theorem dX9_steps_205 : decode cX9_steps 205 = .ok (.iload 7, 2) := by decide +kernel
theorem dX9_steps_207 : decode cX9_steps 207 = .ok (.ifCond .ne 9, 3) := by decide +kernel
theorem dX9_steps_210 : decode cX9_steps 210 = .ok (.aload_n 0, 1) := by decide +kernel
theorem dX9_steps_211 : decode cX9_steps 211 = .ok (.iconst 2, 1) := by decide +kernel
theorem dX9_steps_212 : decode cX9_steps 212 = .ok (.invokevirtual 118, 3) := by decide +kernel
theorem dX9_steps_215 : decode cX9_steps 215 = .ok (.ireturn, 1) := by decide +kernel
theorem dX9_steps_216 : decode cX9_steps 216 = .ok (.iinc 4 1, 3) := by decide +kernel
theorem dX9_steps_219 : decode cX9_steps 219 = .ok (.goto (-153), 3) := by decide +kernel
theorem dX9_steps_222 : decode cX9_steps 222 = .ok (.aload_n 0, 1) := by decide +kernel
theorem dX9_steps_223 : decode cX9_steps 223 = .ok (.iload_n 2, 1) := by decide +kernel
theorem dX9_steps_224 : decode cX9_steps 224 = .ok (.putfield 19, 3) := by decide +kernel
theorem dX9_steps_227 : decode cX9_steps 227 = .ok (.iconst 0, 1) := by decide +kernel
theorem dX9_steps_228 : decode cX9_steps 228 = .ok (.istore 4, 2) := by decide +kernel
theorem dX9_steps_230 : decode cX9_steps 230 = .ok (.iload 4, 2) := by decide +kernel
theorem dX9_steps_232 : decode cX9_steps 232 = .ok (.iload_n 2, 1) := by decide +kernel
theorem dX9_steps_233 : decode cX9_steps 233 = .ok (.if_icmp .ge 55, 3) := by decide +kernel
theorem dX9_steps_236 : decode cX9_steps 236 = .ok (.aload_n 0, 1) := by decide +kernel
theorem dX9_steps_237 : decode cX9_steps 237 = .ok (.getfield 29, 3) := by decide +kernel
theorem dX9_steps_240 : decode cX9_steps 240 = .ok (.iload 4, 2) := by decide +kernel
theorem dX9_steps_242 : decode cX9_steps 242 = .ok (.aload_n 0, 1) := by decide +kernel
theorem dX9_steps_243 : decode cX9_steps 243 = .ok (.getfield 16, 3) := by decide +kernel
theorem dX9_steps_246 : decode cX9_steps 246 = .ok (.iload_n 3, 1) := by decide +kernel
theorem dX9_steps_247 : decode cX9_steps 247 = .ok (.iconst 2, 1) := by decide +kernel
theorem dX9_steps_248 : decode cX9_steps 248 = .ok (.iload 4, 2) := by decide +kernel
theorem dX9_steps_250 : decode cX9_steps 250 = .ok (.imul, 1) := by decide +kernel
theorem dX9_steps_251 : decode cX9_steps 251 = .ok (.iadd, 1) := by decide +kernel
theorem dX9_steps_252 : decode cX9_steps 252 = .ok (.iaload, 1) := by decide +kernel
theorem dX9_steps_253 : decode cX9_steps 253 = .ok (.iastore, 1) := by decide +kernel
theorem dX9_steps_254 : decode cX9_steps 254 = .ok (.aload_n 0, 1) := by decide +kernel
theorem dX9_steps_255 : decode cX9_steps 255 = .ok (.getfield 32, 3) := by decide +kernel
theorem dX9_steps_258 : decode cX9_steps 258 = .ok (.iload 4, 2) := by decide +kernel
theorem dX9_steps_260 : decode cX9_steps 260 = .ok (.aload_n 0, 1) := by decide +kernel
theorem dX9_steps_261 : decode cX9_steps 261 = .ok (.getfield 16, 3) := by decide +kernel
theorem dX9_steps_264 : decode cX9_steps 264 = .ok (.iload_n 3, 1) := by decide +kernel
theorem dX9_steps_265 : decode cX9_steps 265 = .ok (.iconst 2, 1) := by decide +kernel
theorem dX9_steps_266 : decode cX9_steps 266 = .ok (.iload 4, 2) := by decide +kernel
theorem dX9_steps_268 : decode cX9_steps 268 = .ok (.imul, 1) := by decide +kernel
theorem dX9_steps_269 : decode cX9_steps 269 = .ok (.iadd, 1) := by decide +kernel
theorem dX9_steps_270 : decode cX9_steps 270 = .ok (.iconst 1, 1) := by decide +kernel
theorem dX9_steps_271 : decode cX9_steps 271 = .ok (.iadd, 1) := by decide +kernel
theorem dX9_steps_272 : decode cX9_steps 272 = .ok (.iaload, 1) := by decide +kernel
theorem dX9_steps_273 : decode cX9_steps 273 = .ok (.iastore, 1) := by decide +kernel
theorem dX9_steps_274 : decode cX9_steps 274 = .ok (.aload_n 0, 1) := by decide +kernel
theorem dX9_steps_275 : decode cX9_steps 275 = .ok (.getfield 35, 3) := by decide +kernel
theorem dX9_steps_278 : decode cX9_steps 278 = .ok (.iload 4, 2) := by decide +kernel
theorem dX9_steps_280 : decode cX9_steps 280 = .ok (.iconst 1, 1) := by decide +kernel
theorem dX9_steps_281 : decode cX9_steps 281 = .ok (.iastore, 1) := by decide +kernel
theorem dX9_steps_282 : decode cX9_steps 282 = .ok (.iinc 4 1, 3) := by decide +kernel
theorem dX9_steps_285 : decode cX9_steps 285 = .ok (.goto (-55), 3) := by decide +kernel
theorem dX9_steps_288 : decode cX9_steps 288 = .ok (.iconst 1, 1) := by decide +kernel
theorem dX9_steps_289 : decode cX9_steps 289 = .ok (.ireturn, 1) := by decide +kernel
set_option maxRecDepth 20000 in
theorem ggX9_step_X9_refuse : GoodIn wsX9_step wsX9_refuse := goodIn_r _ [11, 2, 12, 13, 14, 15, 16, 17, 18, 19, 20, 21, 22, 23, 24, 25, 26, 27, 28, 29, 30, 31, 32, 33, 34, 35, 36, 37, 38, 39, 40, 41, 42, 43, 44, 45, 46, 47, 48, 49, 50, 51, 52] (by decide +kernel) (by decide +kernel)
set_option maxRecDepth 20000 in
theorem gX9_step_X9_refuse : GoodIn wsX9_step (wsV RX9 156 RX9 yX9_refuse wsX9_refuse) := goodIn_app (goodIn_of _ (by decide +kernel)) ggX9_step_X9_refuse
theorem dX9_step_0 : decode cX9_step 0 = .ok (.aload_n 0, 1) := by decide +kernel
theorem dX9_step_1 : decode cX9_step 1 = .ok (.iconst 0, 1) := by decide +kernel
theorem dX9_step_2 : decode cX9_step 2 = .ok (.putfield 112, 3) := by decide +kernel
theorem dX9_step_5 : decode cX9_step 5 = .ok (.aload_n 0, 1) := by decide +kernel
theorem dX9_step_6 : decode cX9_step 6 = .ok (.iconst 0, 1) := by decide +kernel
theorem dX9_step_7 : decode cX9_step 7 = .ok (.putfield 115, 3) := by decide +kernel
theorem dX9_step_10 : decode cX9_step 10 = .ok (.iload_n 2, 1) := by decide +kernel
theorem dX9_step_11 : decode cX9_step 11 = .ok (.ifCond .lt 8, 3) := by decide +kernel
theorem dX9_step_14 : decode cX9_step 14 = .ok (.iload_n 2, 1) := by decide +kernel
theorem dX9_step_15 : decode cX9_step 15 = .ok (.iconst 2, 1) := by decide +kernel
theorem dX9_step_16 : decode cX9_step 16 = .ok (.if_icmp .le 9, 3) := by decide +kernel
theorem dX9_step_19 : decode cX9_step 19 = .ok (.aload_n 0, 1) := by decide +kernel
theorem dX9_step_20 : decode cX9_step 20 = .ok (.iconst 2, 1) := by decide +kernel
theorem dX9_step_21 : decode cX9_step 21 = .ok (.invokevirtual 156, 3) := by decide +kernel
theorem dX9_step_24 : decode cX9_step 24 = .ok (.ireturn, 1) := by decide +kernel
theorem dX9_step_25 : decode cX9_step 25 = .ok (.iload_n 1, 1) := by decide +kernel
theorem dX9_step_26 : decode cX9_step 26 = .ok (.ifCond .lt 11, 3) := by decide +kernel
theorem dX9_step_29 : decode cX9_step 29 = .ok (.iload_n 1, 1) := by decide +kernel
theorem dX9_step_30 : decode cX9_step 30 = .ok (.aload_n 0, 1) := by decide +kernel
theorem dX9_step_31 : decode cX9_step 31 = .ok (.getfield 19, 3) := by decide +kernel
theorem dX9_step_34 : decode cX9_step 34 = .ok (.if_icmp .lt 10, 3) := by decide +kernel
theorem dX9_step_37 : decode cX9_step 37 = .ok (.aload_n 0, 1) := by decide +kernel
theorem dX9_step_38 : decode cX9_step 38 = .ok (.bipush 8, 2) := by decide +kernel
theorem dX9_step_40 : decode cX9_step 40 = .ok (.invokevirtual 156, 3) := by decide +kernel
theorem dX9_step_43 : decode cX9_step 43 = .ok (.ireturn, 1) := by decide +kernel
theorem dX9_step_44 : decode cX9_step 44 = .ok (.iload_n 2, 1) := by decide +kernel
theorem dX9_step_45 : decode cX9_step 45 = .ok (.ifCond .ne 12, 3) := by decide +kernel
theorem dX9_step_48 : decode cX9_step 48 = .ok (.aload_n 0, 1) := by decide +kernel
theorem dX9_step_49 : decode cX9_step 49 = .ok (.getfield 29, 3) := by decide +kernel
theorem dX9_step_52 : decode cX9_step 52 = .ok (.iload_n 1, 1) := by decide +kernel
theorem dX9_step_53 : decode cX9_step 53 = .ok (.iaload, 1) := by decide +kernel
theorem dX9_step_54 : decode cX9_step 54 = .ok (.goto 23, 3) := by decide +kernel
theorem dX9_step_57 : decode cX9_step 57 = .ok (.iload_n 2, 1) := by decide +kernel
theorem dX9_step_58 : decode cX9_step 58 = .ok (.iconst 1, 1) := by decide +kernel
theorem dX9_step_59 : decode cX9_step 59 = .ok (.if_icmp .ne 12, 3) := by decide +kernel
theorem dX9_step_62 : decode cX9_step 62 = .ok (.aload_n 0, 1) := by decide +kernel
theorem dX9_step_63 : decode cX9_step 63 = .ok (.getfield 32, 3) := by decide +kernel
theorem dX9_step_66 : decode cX9_step 66 = .ok (.iload_n 1, 1) := by decide +kernel
theorem dX9_step_67 : decode cX9_step 67 = .ok (.iaload, 1) := by decide +kernel
theorem dX9_step_68 : decode cX9_step 68 = .ok (.goto 9, 3) := by decide +kernel
theorem dX9_step_71 : decode cX9_step 71 = .ok (.aload_n 0, 1) := by decide +kernel
theorem dX9_step_72 : decode cX9_step 72 = .ok (.getfield 35, 3) := by decide +kernel
theorem dX9_step_75 : decode cX9_step 75 = .ok (.iload_n 1, 1) := by decide +kernel
theorem dX9_step_76 : decode cX9_step 76 = .ok (.iaload, 1) := by decide +kernel
theorem dX9_step_77 : decode cX9_step 77 = .ok (.ireturn, 1) := by decide +kernel
set_option maxRecDepth 20000 in
theorem ggX9_told_X9_no : GoodIn wsX9_told wsX9_no := goodIn_r _ [9, 2, 10, 11, 12, 13, 14, 15, 16, 17, 18, 19, 20, 21, 22, 23, 24, 25, 26, 27, 28, 29, 30, 31, 32, 33, 34, 35, 36, 37, 38, 39, 40, 41, 42, 43, 44, 45, 46, 47, 48, 49, 50] (by decide +kernel) (by decide +kernel)
set_option maxRecDepth 20000 in
theorem gX9_told_X9_no : GoodIn wsX9_told (wsV RX9 118 RX9 yX9_no wsX9_no) := goodIn_app (goodIn_of _ (by decide +kernel)) ggX9_told_X9_no
theorem dX9_told_0 : decode cX9_told 0 = .ok (.aload_n 0, 1) := by decide +kernel
theorem dX9_told_1 : decode cX9_told 1 = .ok (.iconst 0, 1) := by decide +kernel
theorem dX9_told_2 : decode cX9_told 2 = .ok (.putfield 112, 3) := by decide +kernel
theorem dX9_told_5 : decode cX9_told 5 = .ok (.aload_n 0, 1) := by decide +kernel
theorem dX9_told_6 : decode cX9_told 6 = .ok (.iconst 0, 1) := by decide +kernel
theorem dX9_told_7 : decode cX9_told 7 = .ok (.putfield 115, 3) := by decide +kernel
theorem dX9_told_10 : decode cX9_told 10 = .ok (.iload_n 1, 1) := by decide +kernel
theorem dX9_told_11 : decode cX9_told 11 = .ok (.ifCond .lt 11, 3) := by decide +kernel
theorem dX9_told_14 : decode cX9_told 14 = .ok (.iload_n 1, 1) := by decide +kernel
theorem dX9_told_15 : decode cX9_told 15 = .ok (.aload_n 0, 1) := by decide +kernel
theorem dX9_told_16 : decode cX9_told 16 = .ok (.getfield 19, 3) := by decide +kernel
theorem dX9_told_19 : decode cX9_told 19 = .ok (.if_icmp .lt 10, 3) := by decide +kernel
theorem dX9_told_22 : decode cX9_told 22 = .ok (.aload_n 0, 1) := by decide +kernel
theorem dX9_told_23 : decode cX9_told 23 = .ok (.bipush 8, 2) := by decide +kernel
theorem dX9_told_25 : decode cX9_told 25 = .ok (.invokevirtual 118, 3) := by decide +kernel
theorem dX9_told_28 : decode cX9_told 28 = .ok (.ireturn, 1) := by decide +kernel
theorem dX9_told_29 : decode cX9_told 29 = .ok (.iload_n 2, 1) := by decide +kernel
theorem dX9_told_30 : decode cX9_told 30 = .ok (.ifCond .lt 9, 3) := by decide +kernel
theorem dX9_told_33 : decode cX9_told 33 = .ok (.iload_n 2, 1) := by decide +kernel
theorem dX9_told_34 : decode cX9_told 34 = .ok (.bipush 9, 2) := by decide +kernel
theorem dX9_told_36 : decode cX9_told 36 = .ok (.if_icmp .le 9, 3) := by decide +kernel
theorem dX9_told_39 : decode cX9_told 39 = .ok (.aload_n 0, 1) := by decide +kernel
theorem dX9_told_40 : decode cX9_told 40 = .ok (.iconst 2, 1) := by decide +kernel
theorem dX9_told_41 : decode cX9_told 41 = .ok (.invokevirtual 118, 3) := by decide +kernel
theorem dX9_told_44 : decode cX9_told 44 = .ok (.ireturn, 1) := by decide +kernel
theorem dX9_told_45 : decode cX9_told 45 = .ok (.aload_n 0, 1) := by decide +kernel
theorem dX9_told_46 : decode cX9_told 46 = .ok (.getfield 35, 3) := by decide +kernel
theorem dX9_told_49 : decode cX9_told 49 = .ok (.iload_n 1, 1) := by decide +kernel
theorem dX9_told_50 : decode cX9_told 50 = .ok (.iload_n 2, 1) := by decide +kernel
theorem dX9_told_51 : decode cX9_told 51 = .ok (.iastore, 1) := by decide +kernel
theorem dX9_told_52 : decode cX9_told 52 = .ok (.iconst 1, 1) := by decide +kernel
theorem dX9_told_53 : decode cX9_told 53 = .ok (.ireturn, 1) := by decide +kernel
set_option maxRecDepth 20000 in
theorem ggX9_kind_X9_no : GoodIn wsX9_kind wsX9_no := goodIn_r _ [10, 2, 11, 12, 13, 14, 15, 16, 17, 18, 19, 20, 21, 22, 23, 24, 25, 26, 27, 28, 29, 30, 31, 32, 33, 34, 35, 36, 37, 38, 39, 40, 41, 42, 43, 44, 45, 46, 47, 48, 49, 50, 51] (by decide +kernel) (by decide +kernel)
set_option maxRecDepth 20000 in
theorem gX9_kind_X9_no : GoodIn wsX9_kind (wsV RX9 118 RX9 yX9_no wsX9_no) := goodIn_app (goodIn_of _ (by decide +kernel)) ggX9_kind_X9_no
theorem dX9_kind_0 : decode cX9_kind 0 = .ok (.aload_n 0, 1) := by decide +kernel
theorem dX9_kind_1 : decode cX9_kind 1 = .ok (.iconst 0, 1) := by decide +kernel
theorem dX9_kind_2 : decode cX9_kind 2 = .ok (.putfield 112, 3) := by decide +kernel
theorem dX9_kind_5 : decode cX9_kind 5 = .ok (.aload_n 0, 1) := by decide +kernel
theorem dX9_kind_6 : decode cX9_kind 6 = .ok (.iconst 0, 1) := by decide +kernel
theorem dX9_kind_7 : decode cX9_kind 7 = .ok (.putfield 115, 3) := by decide +kernel
theorem dX9_kind_10 : decode cX9_kind 10 = .ok (.iload_n 1, 1) := by decide +kernel
theorem dX9_kind_11 : decode cX9_kind 11 = .ok (.iconst 2, 1) := by decide +kernel
theorem dX9_kind_12 : decode cX9_kind 12 = .ok (.if_icmp .ne 21, 3) := by decide +kernel
theorem dX9_kind_15 : decode cX9_kind 15 = .ok (.iload_n 2, 1) := by decide +kernel
theorem dX9_kind_16 : decode cX9_kind 16 = .ok (.ifCond .lt 13, 3) := by decide +kernel
theorem dX9_kind_19 : decode cX9_kind 19 = .ok (.iload_n 2, 1) := by decide +kernel
theorem dX9_kind_20 : decode cX9_kind 20 = .ok (.bipush 30, 2) := by decide +kernel
theorem dX9_kind_22 : decode cX9_kind 22 = .ok (.if_icmp .gt 7, 3) := by decide +kernel
theorem dX9_kind_25 : decode cX9_kind 25 = .ok (.iconst 1, 1) := by decide +kernel
theorem dX9_kind_26 : decode cX9_kind 26 = .ok (.goto 49, 3) := by decide +kernel
theorem dX9_kind_29 : decode cX9_kind 29 = .ok (.iconst 0, 1) := by decide +kernel
theorem dX9_kind_30 : decode cX9_kind 30 = .ok (.goto 45, 3) := by decide +kernel
theorem dX9_kind_33 : decode cX9_kind 33 = .ok (.iload_n 1, 1) := by decide +kernel
theorem dX9_kind_34 : decode cX9_kind 34 = .ok (.iconst 4, 1) := by decide +kernel
theorem dX9_kind_35 : decode cX9_kind 35 = .ok (.if_icmp .ne 22, 3) := by decide +kernel
theorem dX9_kind_38 : decode cX9_kind 38 = .ok (.iload_n 2, 1) := by decide +kernel
theorem dX9_kind_39 : decode cX9_kind 39 = .ok (.iconst 1, 1) := by decide +kernel
theorem dX9_kind_40 : decode cX9_kind 40 = .ok (.if_icmp .lt 13, 3) := by decide +kernel
theorem dX9_kind_43 : decode cX9_kind 43 = .ok (.iload_n 2, 1) := by decide +kernel
theorem dX9_kind_44 : decode cX9_kind 44 = .ok (.bipush 30, 2) := by decide +kernel
theorem dX9_kind_46 : decode cX9_kind 46 = .ok (.if_icmp .gt 7, 3) := by decide +kernel
theorem dX9_kind_49 : decode cX9_kind 49 = .ok (.iconst 1, 1) := by decide +kernel
theorem dX9_kind_50 : decode cX9_kind 50 = .ok (.goto 25, 3) := by decide +kernel
theorem dX9_kind_53 : decode cX9_kind 53 = .ok (.iconst 0, 1) := by decide +kernel
theorem dX9_kind_54 : decode cX9_kind 54 = .ok (.goto 21, 3) := by decide +kernel
theorem dX9_kind_57 : decode cX9_kind 57 = .ok (.iload_n 1, 1) := by decide +kernel
theorem dX9_kind_58 : decode cX9_kind 58 = .ok (.ifCond .lt 16, 3) := by decide +kernel
theorem dX9_kind_61 : decode cX9_kind 61 = .ok (.iload_n 1, 1) := by decide +kernel
theorem dX9_kind_62 : decode cX9_kind 62 = .ok (.iconst 4, 1) := by decide +kernel
theorem dX9_kind_63 : decode cX9_kind 63 = .ok (.if_icmp .ge 11, 3) := by decide +kernel
theorem dX9_kind_66 : decode cX9_kind 66 = .ok (.iload_n 2, 1) := by decide +kernel
theorem dX9_kind_67 : decode cX9_kind 67 = .ok (.ifCond .ne 7, 3) := by decide +kernel
theorem dX9_kind_70 : decode cX9_kind 70 = .ok (.iconst 1, 1) := by decide +kernel
theorem dX9_kind_71 : decode cX9_kind 71 = .ok (.goto 4, 3) := by decide +kernel
theorem dX9_kind_74 : decode cX9_kind 74 = .ok (.iconst 0, 1) := by decide +kernel
theorem dX9_kind_75 : decode cX9_kind 75 = .ok (.istore_n 3, 1) := by decide +kernel
theorem dX9_kind_76 : decode cX9_kind 76 = .ok (.iload_n 3, 1) := by decide +kernel
theorem dX9_kind_77 : decode cX9_kind 77 = .ok (.ifCond .ne 9, 3) := by decide +kernel
theorem dX9_kind_80 : decode cX9_kind 80 = .ok (.aload_n 0, 1) := by decide +kernel
theorem dX9_kind_81 : decode cX9_kind 81 = .ok (.iconst 2, 1) := by decide +kernel
theorem dX9_kind_82 : decode cX9_kind 82 = .ok (.invokevirtual 118, 3) := by decide +kernel
theorem dX9_kind_85 : decode cX9_kind 85 = .ok (.ireturn, 1) := by decide +kernel
theorem dX9_kind_86 : decode cX9_kind 86 = .ok (.aload_n 0, 1) := by decide +kernel
theorem dX9_kind_87 : decode cX9_kind 87 = .ok (.iload_n 1, 1) := by decide +kernel
theorem dX9_kind_88 : decode cX9_kind 88 = .ok (.putfield 137, 3) := by decide +kernel
theorem dX9_kind_91 : decode cX9_kind 91 = .ok (.iload_n 1, 1) := by decide +kernel
theorem dX9_kind_92 : decode cX9_kind 92 = .ok (.iconst 2, 1) := by decide +kernel
theorem dX9_kind_93 : decode cX9_kind 93 = .ok (.if_icmp .ne 8, 3) := by decide +kernel
theorem dX9_kind_96 : decode cX9_kind 96 = .ok (.aload_n 0, 1) := by decide +kernel
theorem dX9_kind_97 : decode cX9_kind 97 = .ok (.iload_n 2, 1) := by decide +kernel
theorem dX9_kind_98 : decode cX9_kind 98 = .ok (.putfield 23, 3) := by decide +kernel
theorem dX9_kind_101 : decode cX9_kind 101 = .ok (.iload_n 1, 1) := by decide +kernel
theorem dX9_kind_102 : decode cX9_kind 102 = .ok (.iconst 4, 1) := by decide +kernel
theorem dX9_kind_103 : decode cX9_kind 103 = .ok (.if_icmp .ne 8, 3) := by decide +kernel
theorem dX9_kind_106 : decode cX9_kind 106 = .ok (.aload_n 0, 1) := by decide +kernel
theorem dX9_kind_107 : decode cX9_kind 107 = .ok (.iload_n 2, 1) := by decide +kernel
theorem dX9_kind_108 : decode cX9_kind 108 = .ok (.putfield 26, 3) := by decide +kernel
theorem dX9_kind_111 : decode cX9_kind 111 = .ok (.iconst 1, 1) := by decide +kernel
theorem dX9_kind_112 : decode cX9_kind 112 = .ok (.ireturn, 1) := by decide +kernel
set_option maxRecDepth 20000 in
theorem ggX9_bar_X9_isSquare : GoodIn wsX9_bar wsX9_isSquare := goodIn_r _ [7] (by decide +kernel) (by decide +kernel)
set_option maxRecDepth 20000 in
theorem gX9_bar_X9_isSquare : GoodIn wsX9_bar (va_wsS RX9 133 yX9_isSquare wsX9_isSquare) := goodIn_app (goodIn_of _ (by decide +kernel)) ggX9_bar_X9_isSquare
set_option maxRecDepth 20000 in
theorem ggX9_bar_X9_no : GoodIn wsX9_bar wsX9_no := goodIn_r _ [11, 2, 15, 16, 17, 18, 19, 20, 21, 22, 23, 24, 25, 26, 27, 28, 29, 30, 31, 32, 33, 34, 35, 36, 37, 38, 39, 40, 41, 42, 43, 44, 45, 46, 47, 48, 49, 50, 51, 52, 53, 54, 55] (by decide +kernel) (by decide +kernel)
set_option maxRecDepth 20000 in
theorem gX9_bar_X9_no : GoodIn wsX9_bar (wsV RX9 118 RX9 yX9_no wsX9_no) := goodIn_app (goodIn_of _ (by decide +kernel)) ggX9_bar_X9_no
set_option maxRecDepth 20000 in
theorem ggX9_bar_X9_squareOf : GoodIn wsX9_bar wsX9_squareOf := goodIn_r _ [14] (by decide +kernel) (by decide +kernel)
set_option maxRecDepth 20000 in
theorem gX9_bar_X9_squareOf : GoodIn wsX9_bar (va_wsS RX9 144 yX9_squareOf wsX9_squareOf) := goodIn_app (goodIn_of _ (by decide +kernel)) ggX9_bar_X9_squareOf
theorem dX9_bar_0 : decode cX9_bar 0 = .ok (.aload_n 0, 1) := by decide +kernel
theorem dX9_bar_1 : decode cX9_bar 1 = .ok (.iconst 0, 1) := by decide +kernel
theorem dX9_bar_2 : decode cX9_bar 2 = .ok (.putfield 112, 3) := by decide +kernel
theorem dX9_bar_5 : decode cX9_bar 5 = .ok (.aload_n 0, 1) := by decide +kernel
theorem dX9_bar_6 : decode cX9_bar 6 = .ok (.iconst 0, 1) := by decide +kernel
theorem dX9_bar_7 : decode cX9_bar 7 = .ok (.putfield 115, 3) := by decide +kernel
theorem dX9_bar_10 : decode cX9_bar 10 = .ok (.iload_n 1, 1) := by decide +kernel
theorem dX9_bar_11 : decode cX9_bar 11 = .ok (.iload_n 2, 1) := by decide +kernel
theorem dX9_bar_12 : decode cX9_bar 12 = .ok (.invokestatic 133, 3) := by decide +kernel
theorem dX9_bar_15 : decode cX9_bar 15 = .ok (.ifCond .ne 9, 3) := by decide +kernel
theorem dX9_bar_18 : decode cX9_bar 18 = .ok (.aload_n 0, 1) := by decide +kernel
theorem dX9_bar_19 : decode cX9_bar 19 = .ok (.iconst 2, 1) := by decide +kernel
theorem dX9_bar_20 : decode cX9_bar 20 = .ok (.invokevirtual 118, 3) := by decide +kernel
theorem dX9_bar_23 : decode cX9_bar 23 = .ok (.ireturn, 1) := by decide +kernel
theorem dX9_bar_24 : decode cX9_bar 24 = .ok (.aload_n 0, 1) := by decide +kernel
theorem dX9_bar_25 : decode cX9_bar 25 = .ok (.getfield 38, 3) := by decide +kernel
theorem dX9_bar_28 : decode cX9_bar 28 = .ok (.iload_n 1, 1) := by decide +kernel
theorem dX9_bar_29 : decode cX9_bar 29 = .ok (.iload_n 2, 1) := by decide +kernel
theorem dX9_bar_30 : decode cX9_bar 30 = .ok (.invokestatic 144, 3) := by decide +kernel
theorem dX9_bar_33 : decode cX9_bar 33 = .ok (.iload_n 3, 1) := by decide +kernel
theorem dX9_bar_34 : decode cX9_bar 34 = .ok (.bastore, 1) := by decide +kernel
theorem dX9_bar_35 : decode cX9_bar 35 = .ok (.iconst 1, 1) := by decide +kernel
theorem dX9_bar_36 : decode cX9_bar 36 = .ok (.ireturn, 1) := by decide +kernel
set_option maxRecDepth 20000 in
theorem ggX9_wall_X9_sheeted : GoodIn wsX9_wall wsX9_sheeted := goodIn_r _ [11, 4, 22, 23, 24, 25, 26, 27, 28, 29, 30, 31, 32, 33, 34, 35, 36, 37, 38, 39, 40, 41, 42, 43, 44, 45, 46, 47, 48, 49, 50, 51, 52, 53, 54, 55, 56, 57, 58, 59, 60, 61, 62] (by decide +kernel) (by decide +kernel)
set_option maxRecDepth 20000 in
theorem gX9_wall_X9_sheeted : GoodIn wsX9_wall (wsV RX9 122 RX9 yX9_sheeted wsX9_sheeted) := goodIn_app (goodIn_of _ (by decide +kernel)) ggX9_wall_X9_sheeted
set_option maxRecDepth 20000 in
theorem ggX9_wall_X9_refuse : GoodIn wsX9_wall wsX9_refuse := goodIn_r _ [15, 2, 22, 23, 24, 25, 26, 27, 28, 29, 30, 31, 32, 33, 34, 35, 36, 37, 38, 39, 40, 41, 42, 43, 44, 45, 46, 47, 48, 49, 50, 51, 52, 53, 54, 55, 56, 57, 58, 59, 60, 61, 62] (by decide +kernel) (by decide +kernel)
set_option maxRecDepth 20000 in
theorem gX9_wall_X9_refuse : GoodIn wsX9_wall (wsV RX9 156 RX9 yX9_refuse wsX9_refuse) := goodIn_app (goodIn_of _ (by decide +kernel)) ggX9_wall_X9_refuse
set_option maxRecDepth 20000 in
theorem ggX9_wall_X9_isSquare : GoodIn wsX9_wall wsX9_isSquare := goodIn_r _ [18] (by decide +kernel) (by decide +kernel)
set_option maxRecDepth 20000 in
theorem gX9_wall_X9_isSquare : GoodIn wsX9_wall (va_wsS RX9 133 yX9_isSquare wsX9_isSquare) := goodIn_app (goodIn_of _ (by decide +kernel)) ggX9_wall_X9_isSquare
set_option maxRecDepth 20000 in
theorem ggX9_wall_X9_squareOf : GoodIn wsX9_wall wsX9_squareOf := goodIn_r _ [21] (by decide +kernel) (by decide +kernel)
set_option maxRecDepth 20000 in
theorem gX9_wall_X9_squareOf : GoodIn wsX9_wall (va_wsS RX9 144 yX9_squareOf wsX9_squareOf) := goodIn_app (goodIn_of _ (by decide +kernel)) ggX9_wall_X9_squareOf
theorem dX9_wall_0 : decode cX9_wall 0 = .ok (.aload_n 0, 1) := by decide +kernel
theorem dX9_wall_1 : decode cX9_wall 1 = .ok (.iconst 0, 1) := by decide +kernel
theorem dX9_wall_2 : decode cX9_wall 2 = .ok (.putfield 112, 3) := by decide +kernel
theorem dX9_wall_5 : decode cX9_wall 5 = .ok (.aload_n 0, 1) := by decide +kernel
theorem dX9_wall_6 : decode cX9_wall 6 = .ok (.aload_n 0, 1) := by decide +kernel
theorem dX9_wall_7 : decode cX9_wall 7 = .ok (.iload_n 1, 1) := by decide +kernel
theorem dX9_wall_8 : decode cX9_wall 8 = .ok (.invokevirtual 122, 3) := by decide +kernel
theorem dX9_wall_11 : decode cX9_wall 11 = .ok (.putfield 115, 3) := by decide +kernel
theorem dX9_wall_14 : decode cX9_wall 14 = .ok (.aload_n 0, 1) := by decide +kernel
theorem dX9_wall_15 : decode cX9_wall 15 = .ok (.getfield 115, 3) := by decide +kernel
theorem dX9_wall_18 : decode cX9_wall 18 = .ok (.ifCond .le 5, 3) := by decide +kernel
theorem dX9_wall_21 : decode cX9_wall 21 = .ok (.iconst (-1), 1) := by decide +kernel
theorem dX9_wall_22 : decode cX9_wall 22 = .ok (.ireturn, 1) := by decide +kernel
theorem dX9_wall_23 : decode cX9_wall 23 = .ok (.iload_n 2, 1) := by decide +kernel
theorem dX9_wall_24 : decode cX9_wall 24 = .ok (.ifCond .ge 9, 3) := by decide +kernel
theorem dX9_wall_27 : decode cX9_wall 27 = .ok (.aload_n 0, 1) := by decide +kernel
theorem dX9_wall_28 : decode cX9_wall 28 = .ok (.iconst 2, 1) := by decide +kernel
theorem dX9_wall_29 : decode cX9_wall 29 = .ok (.invokevirtual 156, 3) := by decide +kernel
theorem dX9_wall_32 : decode cX9_wall 32 = .ok (.ireturn, 1) := by decide +kernel
theorem dX9_wall_33 : decode cX9_wall 33 = .ok (.ldc2_w 159, 3) := by decide +kernel
theorem dX9_wall_36 : decode cX9_wall 36 = .ok (.iload_n 2, 1) := by decide +kernel
theorem dX9_wall_37 : decode cX9_wall 37 = .ok (.i2l, 1) := by decide +kernel
theorem dX9_wall_38 : decode cX9_wall 38 = .ok (.lmul, 1) := by decide +kernel
theorem dX9_wall_39 : decode cX9_wall 39 = .ok (.aload_n 0, 1) := by decide +kernel
theorem dX9_wall_40 : decode cX9_wall 40 = .ok (.getfield 13, 3) := by decide +kernel
theorem dX9_wall_43 : decode cX9_wall 43 = .ok (.iload_n 1, 1) := by decide +kernel
theorem dX9_wall_44 : decode cX9_wall 44 = .ok (.iaload, 1) := by decide +kernel
theorem dX9_wall_45 : decode cX9_wall 45 = .ok (.i2l, 1) := by decide +kernel
theorem dX9_wall_46 : decode cX9_wall 46 = .ok (.lcmp, 1) := by decide +kernel
theorem dX9_wall_47 : decode cX9_wall 47 = .ok (.ifCond .le 9, 3) := by decide +kernel
theorem dX9_wall_50 : decode cX9_wall 50 = .ok (.aload_n 0, 1) := by decide +kernel
theorem dX9_wall_51 : decode cX9_wall 51 = .ok (.iconst 4, 1) := by decide +kernel
theorem dX9_wall_52 : decode cX9_wall 52 = .ok (.invokevirtual 156, 3) := by decide +kernel
theorem dX9_wall_55 : decode cX9_wall 55 = .ok (.ireturn, 1) := by decide +kernel
theorem dX9_wall_56 : decode cX9_wall 56 = .ok (.bipush 64, 2) := by decide +kernel
theorem dX9_wall_58 : decode cX9_wall 58 = .ok (.iload_n 1, 1) := by decide +kernel
theorem dX9_wall_59 : decode cX9_wall 59 = .ok (.imul, 1) := by decide +kernel
theorem dX9_wall_60 : decode cX9_wall 60 = .ok (.istore_n 3, 1) := by decide +kernel
theorem dX9_wall_61 : decode cX9_wall 61 = .ok (.iconst 0, 1) := by decide +kernel
theorem dX9_wall_62 : decode cX9_wall 62 = .ok (.istore 4, 2) := by decide +kernel
theorem dX9_wall_64 : decode cX9_wall 64 = .ok (.iload 4, 2) := by decide +kernel
theorem dX9_wall_66 : decode cX9_wall 66 = .ok (.iload_n 2, 1) := by decide +kernel
theorem dX9_wall_67 : decode cX9_wall 67 = .ok (.if_icmp .ge 45, 3) := by decide +kernel
theorem dX9_wall_70 : decode cX9_wall 70 = .ok (.aload_n 0, 1) := by decide +kernel
theorem dX9_wall_71 : decode cX9_wall 71 = .ok (.getfield 16, 3) := by decide +kernel
theorem dX9_wall_74 : decode cX9_wall 74 = .ok (.iload_n 3, 1) := by decide +kernel
theorem dX9_wall_75 : decode cX9_wall 75 = .ok (.iconst 2, 1) := by decide +kernel
theorem dX9_wall_76 : decode cX9_wall 76 = .ok (.iload 4, 2) := by decide +kernel
theorem dX9_wall_78 : decode cX9_wall 78 = .ok (.imul, 1) := by decide +kernel
theorem dX9_wall_79 : decode cX9_wall 79 = .ok (.iadd, 1) := by decide +kernel
theorem dX9_wall_80 : decode cX9_wall 80 = .ok (.iaload, 1) := by decide +kernel
theorem dX9_wall_81 : decode cX9_wall 81 = .ok (.aload_n 0, 1) := by decide +kernel
theorem dX9_wall_82 : decode cX9_wall 82 = .ok (.getfield 16, 3) := by decide +kernel
theorem dX9_wall_85 : decode cX9_wall 85 = .ok (.iload_n 3, 1) := by decide +kernel
theorem dX9_wall_86 : decode cX9_wall 86 = .ok (.iconst 2, 1) := by decide +kernel
theorem dX9_wall_87 : decode cX9_wall 87 = .ok (.iload 4, 2) := by decide +kernel
theorem dX9_wall_89 : decode cX9_wall 89 = .ok (.imul, 1) := by decide +kernel
theorem dX9_wall_90 : decode cX9_wall 90 = .ok (.iadd, 1) := by decide +kernel
theorem dX9_wall_91 : decode cX9_wall 91 = .ok (.iconst 1, 1) := by decide +kernel
theorem dX9_wall_92 : decode cX9_wall 92 = .ok (.iadd, 1) := by decide +kernel
theorem dX9_wall_93 : decode cX9_wall 93 = .ok (.iaload, 1) := by decide +kernel
theorem dX9_wall_94 : decode cX9_wall 94 = .ok (.invokestatic 133, 3) := by decide +kernel
theorem dX9_wall_97 : decode cX9_wall 97 = .ok (.ifCond .ne 9, 3) := by decide +kernel
theorem dX9_wall_100 : decode cX9_wall 100 = .ok (.aload_n 0, 1) := by decide +kernel
theorem dX9_wall_101 : decode cX9_wall 101 = .ok (.iconst 2, 1) := by decide +kernel
theorem dX9_wall_102 : decode cX9_wall 102 = .ok (.invokevirtual 156, 3) := by decide +kernel
theorem dX9_wall_105 : decode cX9_wall 105 = .ok (.ireturn, 1) := by decide +kernel
theorem dX9_wall_106 : decode cX9_wall 106 = .ok (.iinc 4 1, 3) := by decide +kernel
theorem dX9_wall_109 : decode cX9_wall 109 = .ok (.goto (-45), 3) := by decide +kernel
theorem dX9_wall_112 : decode cX9_wall 112 = .ok (.iconst 0, 1) := by decide +kernel
theorem dX9_wall_113 : decode cX9_wall 113 = .ok (.istore 4, 2) := by decide +kernel
theorem dX9_wall_115 : decode cX9_wall 115 = .ok (.iconst 0, 1) := by decide +kernel
theorem dX9_wall_116 : decode cX9_wall 116 = .ok (.istore 5, 2) := by decide +kernel
theorem dX9_wall_118 : decode cX9_wall 118 = .ok (.iload 5, 2) := by decide +kernel
theorem dX9_wall_120 : decode cX9_wall 120 = .ok (.iload_n 2, 1) := by decide +kernel
theorem dX9_wall_121 : decode cX9_wall 121 = .ok (.if_icmp .ge 66, 3) := by decide +kernel
theorem dX9_wall_124 : decode cX9_wall 124 = .ok (.aload_n 0, 1) := by decide +kernel
theorem dX9_wall_125 : decode cX9_wall 125 = .ok (.getfield 16, 3) := by decide +kernel
theorem dX9_wall_128 : decode cX9_wall 128 = .ok (.iload_n 3, 1) := by decide +kernel
theorem dX9_wall_129 : decode cX9_wall 129 = .ok (.iconst 2, 1) := by decide +kernel
theorem dX9_wall_130 : decode cX9_wall 130 = .ok (.iload 5, 2) := by decide +kernel
theorem dX9_wall_132 : decode cX9_wall 132 = .ok (.imul, 1) := by decide +kernel
theorem dX9_wall_133 : decode cX9_wall 133 = .ok (.iadd, 1) := by decide +kernel
theorem dX9_wall_134 : decode cX9_wall 134 = .ok (.iaload, 1) := by decide +kernel
theorem dX9_wall_135 : decode cX9_wall 135 = .ok (.aload_n 0, 1) := by decide +kernel
theorem dX9_wall_136 : decode cX9_wall 136 = .ok (.getfield 16, 3) := by decide +kernel
theorem dX9_wall_139 : decode cX9_wall 139 = .ok (.iload_n 3, 1) := by decide +kernel
theorem dX9_wall_140 : decode cX9_wall 140 = .ok (.iconst 2, 1) := by decide +kernel
theorem dX9_wall_141 : decode cX9_wall 141 = .ok (.iload 5, 2) := by decide +kernel
theorem dX9_wall_143 : decode cX9_wall 143 = .ok (.imul, 1) := by decide +kernel
theorem dX9_wall_144 : decode cX9_wall 144 = .ok (.iadd, 1) := by decide +kernel
theorem dX9_wall_145 : decode cX9_wall 145 = .ok (.iconst 1, 1) := by decide +kernel
theorem dX9_wall_146 : decode cX9_wall 146 = .ok (.iadd, 1) := by decide +kernel
theorem dX9_wall_147 : decode cX9_wall 147 = .ok (.iaload, 1) := by decide +kernel
theorem dX9_wall_148 : decode cX9_wall 148 = .ok (.invokestatic 144, 3) := by decide +kernel
theorem dX9_wall_151 : decode cX9_wall 151 = .ok (.istore 6, 2) := by decide +kernel
theorem dX9_wall_153 : decode cX9_wall 153 = .ok (.iload 4, 2) := by decide +kernel
theorem dX9_wall_155 : decode cX9_wall 155 = .ok (.aload_n 0, 1) := by decide +kernel
theorem dX9_wall_156 : decode cX9_wall 156 = .ok (.getfield 38, 3) := by decide +kernel
theorem dX9_wall_159 : decode cX9_wall 159 = .ok (.iload 6, 2) := by decide +kernel
theorem dX9_wall_161 : decode cX9_wall 161 = .ok (.baload, 1) := by decide +kernel
theorem dX9_wall_162 : decode cX9_wall 162 = .ok (.ifCond .eq 7, 3) := by decide +kernel
theorem dX9_wall_165 : decode cX9_wall 165 = .ok (.iconst 0, 1) := by decide +kernel
theorem dX9_wall_166 : decode cX9_wall 166 = .ok (.goto 4, 3) := by decide +kernel
theorem dX9_wall_169 : decode cX9_wall 169 = .ok (.iconst 1, 1) := by decide +kernel
theorem dX9_wall_170 : decode cX9_wall 170 = .ok (.iadd, 1) := by decide +kernel
theorem dX9_wall_171 : decode cX9_wall 171 = .ok (.istore 4, 2) := by decide +kernel
theorem dX9_wall_173 : decode cX9_wall 173 = .ok (.aload_n 0, 1) := by decide +kernel
theorem dX9_wall_174 : decode cX9_wall 174 = .ok (.getfield 38, 3) := by decide +kernel
theorem dX9_wall_177 : decode cX9_wall 177 = .ok (.iload 6, 2) := by decide +kernel
theorem dX9_wall_179 : decode cX9_wall 179 = .ok (.iconst 1, 1) := by decide +kernel
theorem dX9_wall_180 : decode cX9_wall 180 = .ok (.bastore, 1) := by decide +kernel
theorem dX9_wall_181 : decode cX9_wall 181 = .ok (.iinc 5 1, 3) := by decide +kernel
theorem dX9_wall_184 : decode cX9_wall 184 = .ok (.goto (-66), 3) := by decide +kernel
theorem dX9_wall_187 : decode cX9_wall 187 = .ok (.iload 4, 2) := by decide +kernel
theorem dX9_wall_189 : decode cX9_wall 189 = .ok (.ireturn, 1) := by decide +kernel
set_option maxRecDepth 20000 in
theorem ggX9_from_X9_isSquare : GoodIn wsX9_from wsX9_isSquare := goodIn_r _ [8] (by decide +kernel) (by decide +kernel)
set_option maxRecDepth 20000 in
theorem gX9_from_X9_isSquare : GoodIn wsX9_from (va_wsS RX9 133 yX9_isSquare wsX9_isSquare) := goodIn_app (goodIn_of _ (by decide +kernel)) ggX9_from_X9_isSquare
set_option maxRecDepth 20000 in
theorem ggX9_from_X9_no : GoodIn wsX9_from wsX9_no := goodIn_r _ [12, 2, 13, 14, 15, 16, 17, 18, 19, 20, 21, 22, 23, 24, 25, 26, 27, 28, 29, 30, 31, 32, 33, 34, 35, 36, 37, 38, 39, 40, 41, 42, 43, 44, 45, 46, 47, 48, 49, 50, 51, 52, 53] (by decide +kernel) (by decide +kernel)
set_option maxRecDepth 20000 in
theorem gX9_from_X9_no : GoodIn wsX9_from (wsV RX9 118 RX9 yX9_no wsX9_no) := goodIn_app (goodIn_of _ (by decide +kernel)) ggX9_from_X9_no
theorem dX9_from_0 : decode cX9_from 0 = .ok (.aload_n 0, 1) := by decide +kernel
theorem dX9_from_1 : decode cX9_from 1 = .ok (.iconst 0, 1) := by decide +kernel
theorem dX9_from_2 : decode cX9_from 2 = .ok (.putfield 112, 3) := by decide +kernel
theorem dX9_from_5 : decode cX9_from 5 = .ok (.aload_n 0, 1) := by decide +kernel
theorem dX9_from_6 : decode cX9_from 6 = .ok (.iconst 0, 1) := by decide +kernel
theorem dX9_from_7 : decode cX9_from 7 = .ok (.putfield 115, 3) := by decide +kernel
theorem dX9_from_10 : decode cX9_from 10 = .ok (.iload_n 1, 1) := by decide +kernel
theorem dX9_from_11 : decode cX9_from 11 = .ok (.iload_n 2, 1) := by decide +kernel
theorem dX9_from_12 : decode cX9_from 12 = .ok (.invokestatic 133, 3) := by decide +kernel
theorem dX9_from_15 : decode cX9_from 15 = .ok (.ifCond .ne 9, 3) := by decide +kernel
theorem dX9_from_18 : decode cX9_from 18 = .ok (.aload_n 0, 1) := by decide +kernel
theorem dX9_from_19 : decode cX9_from 19 = .ok (.iconst 2, 1) := by decide +kernel
theorem dX9_from_20 : decode cX9_from 20 = .ok (.invokevirtual 118, 3) := by decide +kernel
theorem dX9_from_23 : decode cX9_from 23 = .ok (.ireturn, 1) := by decide +kernel
theorem dX9_from_24 : decode cX9_from 24 = .ok (.aload_n 0, 1) := by decide +kernel
theorem dX9_from_25 : decode cX9_from 25 = .ok (.iload_n 1, 1) := by decide +kernel
theorem dX9_from_26 : decode cX9_from 26 = .ok (.putfield 161, 3) := by decide +kernel
theorem dX9_from_29 : decode cX9_from 29 = .ok (.aload_n 0, 1) := by decide +kernel
theorem dX9_from_30 : decode cX9_from 30 = .ok (.iload_n 2, 1) := by decide +kernel
theorem dX9_from_31 : decode cX9_from 31 = .ok (.putfield 164, 3) := by decide +kernel
theorem dX9_from_34 : decode cX9_from 34 = .ok (.iconst 1, 1) := by decide +kernel
theorem dX9_from_35 : decode cX9_from 35 = .ok (.ireturn, 1) := by decide +kernel
set_option maxRecDepth 20000 in
theorem ggX9_to_X9_isSquare : GoodIn wsX9_to wsX9_isSquare := goodIn_r _ [8] (by decide +kernel) (by decide +kernel)
set_option maxRecDepth 20000 in
theorem gX9_to_X9_isSquare : GoodIn wsX9_to (va_wsS RX9 133 yX9_isSquare wsX9_isSquare) := goodIn_app (goodIn_of _ (by decide +kernel)) ggX9_to_X9_isSquare
set_option maxRecDepth 20000 in
theorem ggX9_to_X9_no : GoodIn wsX9_to wsX9_no := goodIn_r _ [12, 2, 13, 14, 15, 16, 17, 18, 19, 20, 21, 22, 23, 24, 25, 26, 27, 28, 29, 30, 31, 32, 33, 34, 35, 36, 37, 38, 39, 40, 41, 42, 43, 44, 45, 46, 47, 48, 49, 50, 51, 52, 53] (by decide +kernel) (by decide +kernel)
set_option maxRecDepth 20000 in
theorem gX9_to_X9_no : GoodIn wsX9_to (wsV RX9 118 RX9 yX9_no wsX9_no) := goodIn_app (goodIn_of _ (by decide +kernel)) ggX9_to_X9_no
theorem dX9_to_0 : decode cX9_to 0 = .ok (.aload_n 0, 1) := by decide +kernel
theorem dX9_to_1 : decode cX9_to 1 = .ok (.iconst 0, 1) := by decide +kernel
theorem dX9_to_2 : decode cX9_to 2 = .ok (.putfield 112, 3) := by decide +kernel
theorem dX9_to_5 : decode cX9_to 5 = .ok (.aload_n 0, 1) := by decide +kernel
theorem dX9_to_6 : decode cX9_to 6 = .ok (.iconst 0, 1) := by decide +kernel
theorem dX9_to_7 : decode cX9_to 7 = .ok (.putfield 115, 3) := by decide +kernel
theorem dX9_to_10 : decode cX9_to 10 = .ok (.iload_n 1, 1) := by decide +kernel
theorem dX9_to_11 : decode cX9_to 11 = .ok (.iload_n 2, 1) := by decide +kernel
theorem dX9_to_12 : decode cX9_to 12 = .ok (.invokestatic 133, 3) := by decide +kernel
theorem dX9_to_15 : decode cX9_to 15 = .ok (.ifCond .ne 9, 3) := by decide +kernel
theorem dX9_to_18 : decode cX9_to 18 = .ok (.aload_n 0, 1) := by decide +kernel
theorem dX9_to_19 : decode cX9_to 19 = .ok (.iconst 2, 1) := by decide +kernel
theorem dX9_to_20 : decode cX9_to 20 = .ok (.invokevirtual 118, 3) := by decide +kernel
theorem dX9_to_23 : decode cX9_to 23 = .ok (.ireturn, 1) := by decide +kernel
theorem dX9_to_24 : decode cX9_to 24 = .ok (.aload_n 0, 1) := by decide +kernel
theorem dX9_to_25 : decode cX9_to 25 = .ok (.iload_n 1, 1) := by decide +kernel
theorem dX9_to_26 : decode cX9_to 26 = .ok (.putfield 167, 3) := by decide +kernel
theorem dX9_to_29 : decode cX9_to 29 = .ok (.aload_n 0, 1) := by decide +kernel
theorem dX9_to_30 : decode cX9_to 30 = .ok (.iload_n 2, 1) := by decide +kernel
theorem dX9_to_31 : decode cX9_to 31 = .ok (.putfield 170, 3) := by decide +kernel
theorem dX9_to_34 : decode cX9_to 34 = .ok (.iconst 1, 1) := by decide +kernel
theorem dX9_to_35 : decode cX9_to 35 = .ok (.ireturn, 1) := by decide +kernel
set_option maxRecDepth 20000 in
theorem ggX9_open_X9_isSquare : GoodIn wsX9_open wsX9_isSquare := goodIn_r _ [6] (by decide +kernel) (by decide +kernel)
set_option maxRecDepth 20000 in
theorem gX9_open_X9_isSquare : GoodIn wsX9_open (va_wsS RX9 133 yX9_isSquare wsX9_isSquare) := goodIn_app (goodIn_of _ (by decide +kernel)) ggX9_open_X9_isSquare
set_option maxRecDepth 20000 in
theorem ggX9_open_X9_refuse : GoodIn wsX9_open wsX9_refuse := goodIn_r _ [10, 2, 26, 27, 28, 29, 30, 31, 32, 33, 34, 35, 36, 37, 38, 39, 40, 41, 42, 43, 44, 45, 46, 47, 48, 49, 50, 51, 52, 53, 54, 55, 56, 57, 58, 59, 60, 61, 62, 63, 64, 65, 66] (by decide +kernel) (by decide +kernel)
set_option maxRecDepth 20000 in
theorem gX9_open_X9_refuse : GoodIn wsX9_open (wsV RX9 156 RX9 yX9_refuse wsX9_refuse) := goodIn_app (goodIn_of _ (by decide +kernel)) ggX9_open_X9_refuse
set_option maxRecDepth 20000 in
theorem ggX9_open_X9_isOpen : GoodIn wsX9_open wsX9_isOpen := goodIn_r _ [14, 15, 16, 3, 4, 5, 6, 17, 18, 19, 20, 21, 22, 23, 24, 25, 26, 27, 28, 29, 30, 31, 32, 33, 34, 35, 36, 37, 38, 39, 40, 41, 42, 43, 44, 45, 46, 47, 48, 49, 50, 51, 52, 53, 54, 55, 56, 57, 58, 59, 60, 61, 62, 63, 64, 65, 66] (by decide +kernel) (by decide +kernel)
set_option maxRecDepth 20000 in
theorem gX9_open_X9_isOpen : GoodIn wsX9_open (wsV RX9 153 RX9 yX9_isOpen wsX9_isOpen) := goodIn_app (goodIn_of _ (by decide +kernel)) ggX9_open_X9_isOpen
theorem dX9_open_0 : decode cX9_open 0 = .ok (.aload_n 0, 1) := by decide +kernel
theorem dX9_open_1 : decode cX9_open 1 = .ok (.iconst 0, 1) := by decide +kernel
theorem dX9_open_2 : decode cX9_open 2 = .ok (.putfield 112, 3) := by decide +kernel
theorem dX9_open_5 : decode cX9_open 5 = .ok (.aload_n 0, 1) := by decide +kernel
theorem dX9_open_6 : decode cX9_open 6 = .ok (.iconst 0, 1) := by decide +kernel
theorem dX9_open_7 : decode cX9_open 7 = .ok (.putfield 115, 3) := by decide +kernel
theorem dX9_open_10 : decode cX9_open 10 = .ok (.iload_n 1, 1) := by decide +kernel
theorem dX9_open_11 : decode cX9_open 11 = .ok (.iload_n 2, 1) := by decide +kernel
theorem dX9_open_12 : decode cX9_open 12 = .ok (.invokestatic 133, 3) := by decide +kernel
theorem dX9_open_15 : decode cX9_open 15 = .ok (.ifCond .ne 9, 3) := by decide +kernel
theorem dX9_open_18 : decode cX9_open 18 = .ok (.aload_n 0, 1) := by decide +kernel
theorem dX9_open_19 : decode cX9_open 19 = .ok (.iconst 2, 1) := by decide +kernel
theorem dX9_open_20 : decode cX9_open 20 = .ok (.invokevirtual 156, 3) := by decide +kernel
theorem dX9_open_23 : decode cX9_open 23 = .ok (.ireturn, 1) := by decide +kernel
theorem dX9_open_24 : decode cX9_open 24 = .ok (.aload_n 0, 1) := by decide +kernel
theorem dX9_open_25 : decode cX9_open 25 = .ok (.iload_n 1, 1) := by decide +kernel
theorem dX9_open_26 : decode cX9_open 26 = .ok (.iload_n 2, 1) := by decide +kernel
theorem dX9_open_27 : decode cX9_open 27 = .ok (.invokevirtual 153, 3) := by decide +kernel
theorem dX9_open_30 : decode cX9_open 30 = .ok (.ifCond .eq 7, 3) := by decide +kernel
theorem dX9_open_33 : decode cX9_open 33 = .ok (.iconst 1, 1) := by decide +kernel
theorem dX9_open_34 : decode cX9_open 34 = .ok (.goto 4, 3) := by decide +kernel
theorem dX9_open_37 : decode cX9_open 37 = .ok (.iconst 0, 1) := by decide +kernel
theorem dX9_open_38 : decode cX9_open 38 = .ok (.ireturn, 1) := by decide +kernel
theorem dX9_plus_0 : decode cX9_plus 0 = .ok (.lload_n 0, 1) := by decide +kernel
theorem dX9_plus_1 : decode cX9_plus 1 = .ok (.lload_n 2, 1) := by decide +kernel
theorem dX9_plus_2 : decode cX9_plus 2 = .ok (.ladd, 1) := by decide +kernel
theorem dX9_plus_3 : decode cX9_plus 3 = .ok (.ldc2_w 173, 3) := by decide +kernel
theorem dX9_plus_6 : decode cX9_plus 6 = .ok (.lcmp, 1) := by decide +kernel
theorem dX9_plus_7 : decode cX9_plus 7 = .ok (.ifCond .ge 11, 3) := by decide +kernel
theorem dX9_plus_10 : decode cX9_plus 10 = .ok (.lload_n 0, 1) := by decide +kernel
theorem dX9_plus_11 : decode cX9_plus 11 = .ok (.lload_n 2, 1) := by decide +kernel
theorem dX9_plus_12 : decode cX9_plus 12 = .ok (.ladd, 1) := by decide +kernel
theorem dX9_plus_13 : decode cX9_plus 13 = .ok (.lconst 0, 1) := by decide +kernel
theorem dX9_plus_14 : decode cX9_plus 14 = .ok (.lcmp, 1) := by decide +kernel
theorem dX9_plus_15 : decode cX9_plus 15 = .ok (.ifCond .ge 9, 3) := by decide +kernel
theorem dX9_plus_18 : decode cX9_plus 18 = .ok (.ldc2_w 173, 3) := by decide +kernel
theorem dX9_plus_21 : decode cX9_plus 21 = .ok (.goto 6, 3) := by decide +kernel
theorem dX9_plus_24 : decode cX9_plus 24 = .ok (.lload_n 0, 1) := by decide +kernel
theorem dX9_plus_25 : decode cX9_plus 25 = .ok (.lload_n 2, 1) := by decide +kernel
theorem dX9_plus_26 : decode cX9_plus 26 = .ok (.ladd, 1) := by decide +kernel
theorem dX9_plus_27 : decode cX9_plus 27 = .ok (.lreturn, 1) := by decide +kernel
set_option maxRecDepth 20000 in
theorem ggX9_fill_X9_xOf : GoodIn wsX9_fill wsX9_xOf := goodIn_r _ [8] (by decide +kernel) (by decide +kernel)
set_option maxRecDepth 20000 in
theorem gX9_fill_X9_xOf : GoodIn wsX9_fill (va_wsS RX9 147 yX9_xOf wsX9_xOf) := goodIn_app (goodIn_of _ (by decide +kernel)) ggX9_fill_X9_xOf
set_option maxRecDepth 20000 in
theorem ggX9_fill_X9_yOf : GoodIn wsX9_fill wsX9_yOf := goodIn_r _ [11] (by decide +kernel) (by decide +kernel)
set_option maxRecDepth 20000 in
theorem gX9_fill_X9_yOf : GoodIn wsX9_fill (va_wsS RX9 150 yX9_yOf wsX9_yOf) := goodIn_app (goodIn_of _ (by decide +kernel)) ggX9_fill_X9_yOf
set_option maxRecDepth 20000 in
theorem ggX9_fill_X9_isOpen : GoodIn wsX9_fill wsX9_isOpen := goodIn_r _ [15, 16, 17, 18, 19, 7, 20, 21, 22, 23, 24, 25, 26, 27, 28, 29, 40, 41, 42, 43, 44, 45, 46, 47, 48, 49, 50, 51, 52, 53, 54, 55, 56, 57, 58, 59, 60, 61, 62, 63, 64, 65, 66, 67, 68, 69, 70, 71, 72, 73, 74, 75, 76, 77, 78, 79, 80] (by decide +kernel) (by decide +kernel)
set_option maxRecDepth 20000 in
theorem gX9_fill_X9_isOpen : GoodIn wsX9_fill (wsV RX9 153 RX9 yX9_isOpen wsX9_isOpen) := goodIn_app (goodIn_of _ (by decide +kernel)) ggX9_fill_X9_isOpen
set_option maxRecDepth 20000 in
theorem ggX9_fill_X9_squareOf : GoodIn wsX9_fill wsX9_squareOf := goodIn_r _ [29] (by decide +kernel) (by decide +kernel)
set_option maxRecDepth 20000 in
theorem gX9_fill_X9_squareOf : GoodIn wsX9_fill (va_wsS RX9 144 yX9_squareOf wsX9_squareOf) := goodIn_app (goodIn_of _ (by decide +kernel)) ggX9_fill_X9_squareOf
set_option maxRecDepth 20000 in
theorem ggX9_fill_X9_next : GoodIn wsX9_fill wsX9_next := goodIn_r _ [33, 34, 35, 16, 26, 5, 6, 7, 8, 9, 10, 11, 12, 13, 14, 15, 17, 18, 19, 20, 21, 22, 23, 24, 25, 27, 28, 29, 40, 41, 42, 43, 44, 45, 46, 47, 48, 49, 50, 51, 52, 53, 54, 55, 56, 57, 58, 59, 60, 61, 62, 63, 64, 65, 66, 67, 68, 69, 70, 71, 72, 73, 74, 75, 76, 77, 78, 79, 80] (by decide +kernel) (by decide +kernel)
set_option maxRecDepth 20000 in
theorem gX9_fill_X9_next : GoodIn wsX9_fill (wsV RX9 175 RX9 yX9_next wsX9_next) := goodIn_app (goodIn_of _ (by decide +kernel)) ggX9_fill_X9_next
set_option maxRecDepth 20000 in
theorem ggX9_fill_X9_plus : GoodIn wsX9_fill wsX9_plus := goodIn_r _ [38, 39] (by decide +kernel) (by decide +kernel)
set_option maxRecDepth 20000 in
theorem gX9_fill_X9_plus : GoodIn wsX9_fill (va_wsS RX9 178 yX9_plus wsX9_plus) := goodIn_app (goodIn_of _ (by decide +kernel)) ggX9_fill_X9_plus
theorem dX9_fill_0 : decode cX9_fill 0 = .ok (.iconst 0, 1) := by decide +kernel
theorem dX9_fill_1 : decode cX9_fill 1 = .ok (.istore_n 3, 1) := by decide +kernel
theorem dX9_fill_2 : decode cX9_fill 2 = .ok (.iload_n 3, 1) := by decide +kernel
theorem dX9_fill_3 : decode cX9_fill 3 = .ok (.sipush 3721, 3) := by decide +kernel
theorem dX9_fill_6 : decode cX9_fill 6 = .ok (.if_icmp .ge 54, 3) := by decide +kernel
theorem dX9_fill_9 : decode cX9_fill 9 = .ok (.aload_n 0, 1) := by decide +kernel
theorem dX9_fill_10 : decode cX9_fill 10 = .ok (.getfield 43, 3) := by decide +kernel
theorem dX9_fill_13 : decode cX9_fill 13 = .ok (.iload_n 3, 1) := by decide +kernel
theorem dX9_fill_14 : decode cX9_fill 14 = .ok (.aload_n 0, 1) := by decide +kernel
theorem dX9_fill_15 : decode cX9_fill 15 = .ok (.iload_n 3, 1) := by decide +kernel
theorem dX9_fill_16 : decode cX9_fill 16 = .ok (.invokestatic 147, 3) := by decide +kernel
theorem dX9_fill_19 : decode cX9_fill 19 = .ok (.iload_n 3, 1) := by decide +kernel
theorem dX9_fill_20 : decode cX9_fill 20 = .ok (.invokestatic 150, 3) := by decide +kernel
theorem dX9_fill_23 : decode cX9_fill 23 = .ok (.invokevirtual 153, 3) := by decide +kernel
theorem dX9_fill_26 : decode cX9_fill 26 = .ok (.ifCond .eq 26, 3) := by decide +kernel
theorem dX9_fill_29 : decode cX9_fill 29 = .ok (.iload_n 2, 1) := by decide +kernel
theorem dX9_fill_30 : decode cX9_fill 30 = .ok (.ifCond .ne 18, 3) := by decide +kernel
theorem dX9_fill_33 : decode cX9_fill 33 = .ok (.iload_n 3, 1) := by decide +kernel
theorem dX9_fill_34 : decode cX9_fill 34 = .ok (.aload_n 0, 1) := by decide +kernel
theorem dX9_fill_35 : decode cX9_fill 35 = .ok (.getfield 167, 3) := by decide +kernel
theorem dX9_fill_38 : decode cX9_fill 38 = .ok (.aload_n 0, 1) := by decide +kernel
theorem dX9_fill_39 : decode cX9_fill 39 = .ok (.getfield 170, 3) := by decide +kernel
theorem dX9_fill_42 : decode cX9_fill 42 = .ok (.invokestatic 144, 3) := by decide +kernel
theorem dX9_fill_45 : decode cX9_fill 45 = .ok (.if_icmp .ne 7, 3) := by decide +kernel
theorem dX9_fill_48 : decode cX9_fill 48 = .ok (.lconst 1, 1) := by decide +kernel
theorem dX9_fill_49 : decode cX9_fill 49 = .ok (.goto 4, 3) := by decide +kernel
theorem dX9_fill_52 : decode cX9_fill 52 = .ok (.lconst 0, 1) := by decide +kernel
theorem dX9_fill_53 : decode cX9_fill 53 = .ok (.lastore, 1) := by decide +kernel
theorem dX9_fill_54 : decode cX9_fill 54 = .ok (.iinc 3 1, 3) := by decide +kernel
theorem dX9_fill_57 : decode cX9_fill 57 = .ok (.goto (-55), 3) := by decide +kernel
theorem dX9_fill_60 : decode cX9_fill 60 = .ok (.iconst 1, 1) := by decide +kernel
theorem dX9_fill_61 : decode cX9_fill 61 = .ok (.istore_n 3, 1) := by decide +kernel
theorem dX9_fill_62 : decode cX9_fill 62 = .ok (.iload_n 3, 1) := by decide +kernel
theorem dX9_fill_63 : decode cX9_fill 63 = .ok (.iload_n 1, 1) := by decide +kernel
theorem dX9_fill_64 : decode cX9_fill 64 = .ok (.if_icmp .gt 116, 3) := by decide +kernel
theorem dX9_fill_67 : decode cX9_fill 67 = .ok (.iconst 0, 1) := by decide +kernel
theorem dX9_fill_68 : decode cX9_fill 68 = .ok (.istore 4, 2) := by decide +kernel
theorem dX9_fill_70 : decode cX9_fill 70 = .ok (.iload 4, 2) := by decide +kernel
theorem dX9_fill_72 : decode cX9_fill 72 = .ok (.sipush 3721, 3) := by decide +kernel
theorem dX9_fill_75 : decode cX9_fill 75 = .ok (.if_icmp .ge 99, 3) := by decide +kernel
theorem dX9_fill_78 : decode cX9_fill 78 = .ok (.lconst 0, 1) := by decide +kernel
theorem dX9_fill_79 : decode cX9_fill 79 = .ok (.lstore 5, 2) := by decide +kernel
theorem dX9_fill_81 : decode cX9_fill 81 = .ok (.aload_n 0, 1) := by decide +kernel
theorem dX9_fill_82 : decode cX9_fill 82 = .ok (.iload 4, 2) := by decide +kernel
theorem dX9_fill_84 : decode cX9_fill 84 = .ok (.invokestatic 147, 3) := by decide +kernel
theorem dX9_fill_87 : decode cX9_fill 87 = .ok (.iload 4, 2) := by decide +kernel
theorem dX9_fill_89 : decode cX9_fill 89 = .ok (.invokestatic 150, 3) := by decide +kernel
theorem dX9_fill_92 : decode cX9_fill 92 = .ok (.invokevirtual 153, 3) := by decide +kernel
theorem dX9_fill_95 : decode cX9_fill 95 = .ok (.ifCond .eq 58, 3) := by decide +kernel
theorem dX9_fill_98 : decode cX9_fill 98 = .ok (.iconst 0, 1) := by decide +kernel
theorem dX9_fill_99 : decode cX9_fill 99 = .ok (.istore 7, 2) := by decide +kernel
theorem dX9_fill_101 : decode cX9_fill 101 = .ok (.iload 7, 2) := by decide +kernel
theorem dX9_fill_103 : decode cX9_fill 103 = .ok (.aload_n 0, 1) := by decide +kernel
theorem dX9_fill_104 : decode cX9_fill 104 = .ok (.getfield 19, 3) := by decide +kernel
theorem dX9_fill_107 : decode cX9_fill 107 = .ok (.if_icmp .ge 46, 3) := by decide +kernel
theorem dX9_fill_110 : decode cX9_fill 110 = .ok (.aload_n 0, 1) := by decide +kernel
theorem dX9_fill_111 : decode cX9_fill 111 = .ok (.iload 4, 2) := by decide +kernel
theorem dX9_fill_113 : decode cX9_fill 113 = .ok (.iload 7, 2) := by decide +kernel
theorem dX9_fill_115 : decode cX9_fill 115 = .ok (.invokevirtual 175, 3) := by decide +kernel
theorem dX9_fill_118 : decode cX9_fill 118 = .ok (.istore 8, 2) := by decide +kernel
theorem dX9_fill_120 : decode cX9_fill 120 = .ok (.iload 8, 2) := by decide +kernel
theorem dX9_fill_122 : decode cX9_fill 122 = .ok (.ifCond .lt 25, 3) := by decide +kernel
theorem dX9_fill_125 : decode cX9_fill 125 = .ok (.lload 5, 2) := by decide +kernel
theorem dX9_fill_127 : decode cX9_fill 127 = .ok (.aload_n 0, 1) := by decide +kernel
theorem dX9_fill_128 : decode cX9_fill 128 = .ok (.getfield 43, 3) := by decide +kernel
theorem dX9_fill_131 : decode cX9_fill 131 = .ok (.sipush 3721, 3) := by decide +kernel
theorem dX9_fill_134 : decode cX9_fill 134 = .ok (.iload_n 3, 1) := by decide +kernel
theorem dX9_fill_135 : decode cX9_fill 135 = .ok (.iconst 1, 1) := by decide +kernel
theorem dX9_fill_136 : decode cX9_fill 136 = .ok (.isub, 1) := by decide +kernel
theorem dX9_fill_137 : decode cX9_fill 137 = .ok (.imul, 1) := by decide +kernel
theorem dX9_fill_138 : decode cX9_fill 138 = .ok (.iload 8, 2) := by decide +kernel
theorem dX9_fill_140 : decode cX9_fill 140 = .ok (.iadd, 1) := by decide +kernel
theorem dX9_fill_141 : decode cX9_fill 141 = .ok (.laload, 1) := by decide +kernel
theorem dX9_fill_142 : decode cX9_fill 142 = .ok (.invokestatic 178, 3) := by decide +kernel
theorem dX9_fill_145 : decode cX9_fill 145 = .ok (.lstore 5, 2) := by decide +kernel
theorem dX9_fill_147 : decode cX9_fill 147 = .ok (.iinc 7 1, 3) := by decide +kernel
theorem dX9_fill_150 : decode cX9_fill 150 = .ok (.goto (-49), 3) := by decide +kernel
theorem dX9_fill_153 : decode cX9_fill 153 = .ok (.aload_n 0, 1) := by decide +kernel
theorem dX9_fill_154 : decode cX9_fill 154 = .ok (.getfield 43, 3) := by decide +kernel
theorem dX9_fill_157 : decode cX9_fill 157 = .ok (.sipush 3721, 3) := by decide +kernel
theorem dX9_fill_160 : decode cX9_fill 160 = .ok (.iload_n 3, 1) := by decide +kernel
theorem dX9_fill_161 : decode cX9_fill 161 = .ok (.imul, 1) := by decide +kernel
theorem dX9_fill_162 : decode cX9_fill 162 = .ok (.iload 4, 2) := by decide +kernel
theorem dX9_fill_164 : decode cX9_fill 164 = .ok (.iadd, 1) := by decide +kernel
theorem dX9_fill_165 : decode cX9_fill 165 = .ok (.lload 5, 2) := by decide +kernel
theorem dX9_fill_167 : decode cX9_fill 167 = .ok (.lastore, 1) := by decide +kernel
theorem dX9_fill_168 : decode cX9_fill 168 = .ok (.iinc 4 1, 3) := by decide +kernel
theorem dX9_fill_171 : decode cX9_fill 171 = .ok (.goto (-101), 3) := by decide +kernel
theorem dX9_fill_174 : decode cX9_fill 174 = .ok (.iinc 3 1, 3) := by decide +kernel
theorem dX9_fill_177 : decode cX9_fill 177 = .ok (.goto (-115), 3) := by decide +kernel
theorem dX9_fill_180 : decode cX9_fill 180 = .ok (.return_, 1) := by decide +kernel
set_option maxRecDepth 20000 in
theorem ggX9_areOpen_X9_isOpen : GoodIn wsX9_areOpen wsX9_isOpen := goodIn_r _ [9, 10, 11, 12, 13, 8, 14, 15, 16, 17, 18, 19, 20, 21, 22, 23, 24, 25, 26, 27, 28, 29, 30, 31, 32, 33, 34, 35, 36, 37, 38, 39, 40, 41, 42, 43, 44, 45, 46, 47, 48, 49, 50, 51, 52, 53, 54, 55, 56, 57, 58, 59, 60, 61, 62, 63, 64] (by decide +kernel) (by decide +kernel)
set_option maxRecDepth 20000 in
theorem gX9_areOpen_X9_isOpen : GoodIn wsX9_areOpen (wsV RX9 153 RX9 yX9_isOpen wsX9_isOpen) := goodIn_app (goodIn_of _ (by decide +kernel)) ggX9_areOpen_X9_isOpen
theorem dX9_areOpen_0 : decode cX9_areOpen 0 = .ok (.aload_n 0, 1) := by decide +kernel
theorem dX9_areOpen_1 : decode cX9_areOpen 1 = .ok (.aload_n 0, 1) := by decide +kernel
theorem dX9_areOpen_2 : decode cX9_areOpen 2 = .ok (.getfield 161, 3) := by decide +kernel
theorem dX9_areOpen_5 : decode cX9_areOpen 5 = .ok (.aload_n 0, 1) := by decide +kernel
theorem dX9_areOpen_6 : decode cX9_areOpen 6 = .ok (.getfield 164, 3) := by decide +kernel
theorem dX9_areOpen_9 : decode cX9_areOpen 9 = .ok (.invokevirtual 153, 3) := by decide +kernel
theorem dX9_areOpen_12 : decode cX9_areOpen 12 = .ok (.ifCond .eq 22, 3) := by decide +kernel
theorem dX9_areOpen_15 : decode cX9_areOpen 15 = .ok (.aload_n 0, 1) := by decide +kernel
theorem dX9_areOpen_16 : decode cX9_areOpen 16 = .ok (.aload_n 0, 1) := by decide +kernel
theorem dX9_areOpen_17 : decode cX9_areOpen 17 = .ok (.getfield 167, 3) := by decide +kernel
theorem dX9_areOpen_20 : decode cX9_areOpen 20 = .ok (.aload_n 0, 1) := by decide +kernel
theorem dX9_areOpen_21 : decode cX9_areOpen 21 = .ok (.getfield 170, 3) := by decide +kernel
theorem dX9_areOpen_24 : decode cX9_areOpen 24 = .ok (.invokevirtual 153, 3) := by decide +kernel
theorem dX9_areOpen_27 : decode cX9_areOpen 27 = .ok (.ifCond .eq 7, 3) := by decide +kernel
theorem dX9_areOpen_30 : decode cX9_areOpen 30 = .ok (.iconst 1, 1) := by decide +kernel
theorem dX9_areOpen_31 : decode cX9_areOpen 31 = .ok (.goto 4, 3) := by decide +kernel
theorem dX9_areOpen_34 : decode cX9_areOpen 34 = .ok (.iconst 0, 1) := by decide +kernel
theorem dX9_areOpen_35 : decode cX9_areOpen 35 = .ok (.ireturn, 1) := by decide +kernel
set_option maxRecDepth 20000 in
theorem ggX9_countOf_X9_fill : GoodIn wsX9_countOf wsX9_fill := goodIn_r _ [8, 1, 9, 10, 11, 12, 13, 7, 14, 15, 16, 17, 18, 19, 20, 21, 22, 23, 24, 25, 26, 27, 28, 29, 30, 31, 32, 33, 34, 35, 36, 37, 38, 39, 40, 41, 42, 43, 44, 45, 46, 47, 48, 49, 50, 51, 52, 53, 54, 55, 56, 57, 58, 59, 60, 61, 62, 63, 64, 65, 66, 67, 68, 69, 70, 71, 72, 73, 74, 75, 76, 77, 78, 79, 80, 81, 82, 83, 84, 85, 86] (by decide +kernel) (by decide +kernel)
set_option maxRecDepth 20000 in
theorem gX9_countOf_X9_fill : GoodIn wsX9_countOf (wsV RX9 182 RX9 yX9_fill wsX9_fill) := goodIn_app (goodIn_of _ (by decide +kernel)) ggX9_countOf_X9_fill
set_option maxRecDepth 20000 in
theorem ggX9_countOf_X9_squareOf : GoodIn wsX9_countOf wsX9_squareOf := goodIn_r _ [35] (by decide +kernel) (by decide +kernel)
set_option maxRecDepth 20000 in
theorem gX9_countOf_X9_squareOf : GoodIn wsX9_countOf (va_wsS RX9 144 yX9_squareOf wsX9_squareOf) := goodIn_app (goodIn_of _ (by decide +kernel)) ggX9_countOf_X9_squareOf
theorem dX9_countOf_0 : decode cX9_countOf 0 = .ok (.aload_n 0, 1) := by decide +kernel
theorem dX9_countOf_1 : decode cX9_countOf 1 = .ok (.iload_n 1, 1) := by decide +kernel
theorem dX9_countOf_2 : decode cX9_countOf 2 = .ok (.iconst 0, 1) := by decide +kernel
theorem dX9_countOf_3 : decode cX9_countOf 3 = .ok (.invokevirtual 182, 3) := by decide +kernel
theorem dX9_countOf_6 : decode cX9_countOf 6 = .ok (.aload_n 0, 1) := by decide +kernel
theorem dX9_countOf_7 : decode cX9_countOf 7 = .ok (.getfield 43, 3) := by decide +kernel
theorem dX9_countOf_10 : decode cX9_countOf 10 = .ok (.sipush 3721, 3) := by decide +kernel
theorem dX9_countOf_13 : decode cX9_countOf 13 = .ok (.iload_n 1, 1) := by decide +kernel
theorem dX9_countOf_14 : decode cX9_countOf 14 = .ok (.imul, 1) := by decide +kernel
theorem dX9_countOf_15 : decode cX9_countOf 15 = .ok (.aload_n 0, 1) := by decide +kernel
theorem dX9_countOf_16 : decode cX9_countOf 16 = .ok (.getfield 161, 3) := by decide +kernel
theorem dX9_countOf_19 : decode cX9_countOf 19 = .ok (.aload_n 0, 1) := by decide +kernel
theorem dX9_countOf_20 : decode cX9_countOf 20 = .ok (.getfield 164, 3) := by decide +kernel
theorem dX9_countOf_23 : decode cX9_countOf 23 = .ok (.invokestatic 144, 3) := by decide +kernel
theorem dX9_countOf_26 : decode cX9_countOf 26 = .ok (.iadd, 1) := by decide +kernel
theorem dX9_countOf_27 : decode cX9_countOf 27 = .ok (.laload, 1) := by decide +kernel
theorem dX9_countOf_28 : decode cX9_countOf 28 = .ok (.lreturn, 1) := by decide +kernel
set_option maxRecDepth 20000 in
theorem ggX9_count_X9_refuse : GoodIn wsX9_count wsX9_refuse := goodIn_r _ [8, 2, 60, 61, 62, 63, 64, 65, 66, 67, 68, 69, 70, 71, 72, 73, 74, 75, 76, 77, 78, 79, 80, 81, 82, 83, 84, 85, 86, 87, 88, 89, 90, 91, 92, 93, 94, 95, 96, 97, 98, 99, 100] (by decide +kernel) (by decide +kernel)
set_option maxRecDepth 20000 in
theorem gX9_count_X9_refuse : GoodIn wsX9_count (wsV RX9 156 RX9 yX9_refuse wsX9_refuse) := goodIn_app (goodIn_of _ (by decide +kernel)) ggX9_count_X9_refuse
set_option maxRecDepth 20000 in
theorem ggX9_count_X9_areOpen : GoodIn wsX9_count wsX9_areOpen := goodIn_r _ [12, 13, 14, 15, 16, 17, 18, 19, 7, 20, 21, 22, 23, 24, 25, 26, 27, 28, 29, 30, 31, 32, 33, 34, 60, 61, 62, 63, 64, 65, 66, 67, 68, 69, 70, 71, 72, 73, 74, 75, 76, 77, 78, 79, 80, 81, 82, 83, 84, 85, 86, 87, 88, 89, 90, 91, 92, 93, 94, 95, 96, 97, 98, 99, 100] (by decide +kernel) (by decide +kernel)
set_option maxRecDepth 20000 in
theorem gX9_count_X9_areOpen : GoodIn wsX9_count (wsV RX9 186 RX9 yX9_areOpen wsX9_areOpen) := goodIn_app (goodIn_of _ (by decide +kernel)) ggX9_count_X9_areOpen
set_option maxRecDepth 20000 in
theorem ggX9_count_X9_countOf : GoodIn wsX9_count wsX9_countOf := goodIn_r _ [38, 39, 13, 14, 40, 41, 42, 7, 43, 15, 16, 44, 45, 46, 47, 48, 49, 50, 17, 18, 19, 20, 21, 22, 23, 24, 25, 26, 27, 28, 29, 30, 31, 32, 33, 34, 51, 52, 53, 54, 55, 56, 57, 58, 59, 3, 60, 61, 62, 63, 64, 65, 66, 67, 68, 69, 70, 71, 72, 73, 74, 75, 76, 77, 78, 79, 80, 81, 82, 83, 84, 85, 86, 87, 88, 89, 90, 91, 92, 93, 94, 95, 96, 97, 98, 99, 100] (by decide +kernel) (by decide +kernel)
set_option maxRecDepth 20000 in
theorem gX9_count_X9_countOf : GoodIn wsX9_count (wsV RX9 190 RX9 yX9_countOf wsX9_countOf) := goodIn_app (goodIn_of _ (by decide +kernel)) ggX9_count_X9_countOf
theorem dX9_count_0 : decode cX9_count 0 = .ok (.aload_n 0, 1) := by decide +kernel
theorem dX9_count_1 : decode cX9_count 1 = .ok (.iconst 0, 1) := by decide +kernel
theorem dX9_count_2 : decode cX9_count 2 = .ok (.putfield 112, 3) := by decide +kernel
theorem dX9_count_5 : decode cX9_count 5 = .ok (.aload_n 0, 1) := by decide +kernel
theorem dX9_count_6 : decode cX9_count 6 = .ok (.iconst 0, 1) := by decide +kernel
theorem dX9_count_7 : decode cX9_count 7 = .ok (.putfield 115, 3) := by decide +kernel
theorem dX9_count_10 : decode cX9_count 10 = .ok (.iload_n 1, 1) := by decide +kernel
theorem dX9_count_11 : decode cX9_count 11 = .ok (.ifCond .lt 9, 3) := by decide +kernel
theorem dX9_count_14 : decode cX9_count 14 = .ok (.iload_n 1, 1) := by decide +kernel
theorem dX9_count_15 : decode cX9_count 15 = .ok (.bipush 60, 2) := by decide +kernel
theorem dX9_count_17 : decode cX9_count 17 = .ok (.if_icmp .le 10, 3) := by decide +kernel
theorem dX9_count_20 : decode cX9_count 20 = .ok (.aload_n 0, 1) := by decide +kernel
theorem dX9_count_21 : decode cX9_count 21 = .ok (.iconst 2, 1) := by decide +kernel
theorem dX9_count_22 : decode cX9_count 22 = .ok (.invokevirtual 156, 3) := by decide +kernel
theorem dX9_count_25 : decode cX9_count 25 = .ok (.i2l, 1) := by decide +kernel
theorem dX9_count_26 : decode cX9_count 26 = .ok (.lreturn, 1) := by decide +kernel
theorem dX9_count_27 : decode cX9_count 27 = .ok (.aload_n 0, 1) := by decide +kernel
theorem dX9_count_28 : decode cX9_count 28 = .ok (.invokevirtual 186, 3) := by decide +kernel
theorem dX9_count_31 : decode cX9_count 31 = .ok (.ifCond .ne 11, 3) := by decide +kernel
theorem dX9_count_34 : decode cX9_count 34 = .ok (.aload_n 0, 1) := by decide +kernel
theorem dX9_count_35 : decode cX9_count 35 = .ok (.bipush 7, 2) := by decide +kernel
theorem dX9_count_37 : decode cX9_count 37 = .ok (.invokevirtual 156, 3) := by decide +kernel
theorem dX9_count_40 : decode cX9_count 40 = .ok (.i2l, 1) := by decide +kernel
theorem dX9_count_41 : decode cX9_count 41 = .ok (.lreturn, 1) := by decide +kernel
theorem dX9_count_42 : decode cX9_count 42 = .ok (.aload_n 0, 1) := by decide +kernel
theorem dX9_count_43 : decode cX9_count 43 = .ok (.iload_n 1, 1) := by decide +kernel
theorem dX9_count_44 : decode cX9_count 44 = .ok (.invokevirtual 190, 3) := by decide +kernel
theorem dX9_count_47 : decode cX9_count 47 = .ok (.lstore_n 2, 1) := by decide +kernel
theorem dX9_count_48 : decode cX9_count 48 = .ok (.lload_n 2, 1) := by decide +kernel
theorem dX9_count_49 : decode cX9_count 49 = .ok (.ldc2_w 173, 3) := by decide +kernel
theorem dX9_count_52 : decode cX9_count 52 = .ok (.lcmp, 1) := by decide +kernel
theorem dX9_count_53 : decode cX9_count 53 = .ok (.ifCond .lt 13, 3) := by decide +kernel
theorem dX9_count_56 : decode cX9_count 56 = .ok (.aload_n 0, 1) := by decide +kernel
theorem dX9_count_57 : decode cX9_count 57 = .ok (.bipush 9, 2) := by decide +kernel
theorem dX9_count_59 : decode cX9_count 59 = .ok (.invokevirtual 156, 3) := by decide +kernel
theorem dX9_count_62 : decode cX9_count 62 = .ok (.i2l, 1) := by decide +kernel
theorem dX9_count_63 : decode cX9_count 63 = .ok (.goto 4, 3) := by decide +kernel
theorem dX9_count_66 : decode cX9_count 66 = .ok (.lload_n 2, 1) := by decide +kernel
theorem dX9_count_67 : decode cX9_count 67 = .ok (.lreturn, 1) := by decide +kernel
set_option maxRecDepth 20000 in
theorem ggX9_all_X9_refuse : GoodIn wsX9_all wsX9_refuse := goodIn_r _ [11, 2, 52, 53, 54, 55, 56, 57, 58, 59, 60, 61, 62, 63, 64, 65, 66, 67, 68, 69, 70, 71, 72, 73, 74, 75, 76, 77, 78, 79, 80, 81, 82, 83, 84, 85, 86, 87, 88, 89, 90, 91, 92] (by decide +kernel) (by decide +kernel)
set_option maxRecDepth 20000 in
theorem gX9_all_X9_refuse : GoodIn wsX9_all (wsV RX9 156 RX9 yX9_refuse wsX9_refuse) := goodIn_app (goodIn_of _ (by decide +kernel)) ggX9_all_X9_refuse
set_option maxRecDepth 20000 in
theorem ggX9_all_X9_isOpen : GoodIn wsX9_all wsX9_isOpen := goodIn_r _ [15, 16, 17, 18, 19, 10, 20, 21, 22, 23, 24, 25, 26, 27, 28, 29, 52, 53, 54, 55, 56, 57, 58, 59, 60, 61, 62, 63, 64, 65, 66, 67, 68, 69, 70, 71, 72, 73, 74, 75, 76, 77, 78, 79, 80, 81, 82, 83, 84, 85, 86, 87, 88, 89, 90, 91, 92] (by decide +kernel) (by decide +kernel)
set_option maxRecDepth 20000 in
theorem gX9_all_X9_isOpen : GoodIn wsX9_all (wsV RX9 153 RX9 yX9_isOpen wsX9_isOpen) := goodIn_app (goodIn_of _ (by decide +kernel)) ggX9_all_X9_isOpen
set_option maxRecDepth 20000 in
theorem ggX9_all_X9_fill : GoodIn wsX9_all wsX9_fill := goodIn_r _ [33, 5, 34, 35, 36, 37, 38, 10, 39, 40, 41, 42, 12, 13, 14, 15, 16, 17, 18, 19, 20, 21, 22, 23, 24, 25, 26, 27, 28, 29, 43, 44, 45, 46, 47, 48, 49, 50, 51, 6, 52, 53, 54, 55, 56, 57, 58, 59, 60, 61, 62, 63, 64, 65, 66, 67, 68, 69, 70, 71, 72, 73, 74, 75, 76, 77, 78, 79, 80, 81, 82, 83, 84, 85, 86, 87, 88, 89, 90, 91, 92] (by decide +kernel) (by decide +kernel)
set_option maxRecDepth 20000 in
theorem gX9_all_X9_fill : GoodIn wsX9_all (wsV RX9 182 RX9 yX9_fill wsX9_fill) := goodIn_app (goodIn_of _ (by decide +kernel)) ggX9_all_X9_fill
set_option maxRecDepth 20000 in
theorem ggX9_all_X9_squareOf : GoodIn wsX9_all wsX9_squareOf := goodIn_r _ [29] (by decide +kernel) (by decide +kernel)
set_option maxRecDepth 20000 in
theorem gX9_all_X9_squareOf : GoodIn wsX9_all (va_wsS RX9 144 yX9_squareOf wsX9_squareOf) := goodIn_app (goodIn_of _ (by decide +kernel)) ggX9_all_X9_squareOf
theorem dX9_all_0 : decode cX9_all 0 = .ok (.aload_n 0, 1) := by decide +kernel
theorem dX9_all_1 : decode cX9_all 1 = .ok (.iconst 0, 1) := by decide +kernel
theorem dX9_all_2 : decode cX9_all 2 = .ok (.putfield 112, 3) := by decide +kernel
theorem dX9_all_5 : decode cX9_all 5 = .ok (.aload_n 0, 1) := by decide +kernel
theorem dX9_all_6 : decode cX9_all 6 = .ok (.iconst 0, 1) := by decide +kernel
theorem dX9_all_7 : decode cX9_all 7 = .ok (.putfield 115, 3) := by decide +kernel
theorem dX9_all_10 : decode cX9_all 10 = .ok (.iload_n 1, 1) := by decide +kernel
theorem dX9_all_11 : decode cX9_all 11 = .ok (.ifCond .lt 9, 3) := by decide +kernel
theorem dX9_all_14 : decode cX9_all 14 = .ok (.iload_n 1, 1) := by decide +kernel
theorem dX9_all_15 : decode cX9_all 15 = .ok (.bipush 60, 2) := by decide +kernel
theorem dX9_all_17 : decode cX9_all 17 = .ok (.if_icmp .le 10, 3) := by decide +kernel
theorem dX9_all_20 : decode cX9_all 20 = .ok (.aload_n 0, 1) := by decide +kernel
theorem dX9_all_21 : decode cX9_all 21 = .ok (.iconst 2, 1) := by decide +kernel
theorem dX9_all_22 : decode cX9_all 22 = .ok (.invokevirtual 156, 3) := by decide +kernel
theorem dX9_all_25 : decode cX9_all 25 = .ok (.i2l, 1) := by decide +kernel
theorem dX9_all_26 : decode cX9_all 26 = .ok (.lreturn, 1) := by decide +kernel
theorem dX9_all_27 : decode cX9_all 27 = .ok (.aload_n 0, 1) := by decide +kernel
theorem dX9_all_28 : decode cX9_all 28 = .ok (.aload_n 0, 1) := by decide +kernel
theorem dX9_all_29 : decode cX9_all 29 = .ok (.getfield 161, 3) := by decide +kernel
theorem dX9_all_32 : decode cX9_all 32 = .ok (.aload_n 0, 1) := by decide +kernel
theorem dX9_all_33 : decode cX9_all 33 = .ok (.getfield 164, 3) := by decide +kernel
theorem dX9_all_36 : decode cX9_all 36 = .ok (.invokevirtual 153, 3) := by decide +kernel
theorem dX9_all_39 : decode cX9_all 39 = .ok (.ifCond .ne 11, 3) := by decide +kernel
theorem dX9_all_42 : decode cX9_all 42 = .ok (.aload_n 0, 1) := by decide +kernel
theorem dX9_all_43 : decode cX9_all 43 = .ok (.bipush 7, 2) := by decide +kernel
theorem dX9_all_45 : decode cX9_all 45 = .ok (.invokevirtual 156, 3) := by decide +kernel
theorem dX9_all_48 : decode cX9_all 48 = .ok (.i2l, 1) := by decide +kernel
theorem dX9_all_49 : decode cX9_all 49 = .ok (.lreturn, 1) := by decide +kernel
theorem dX9_all_50 : decode cX9_all 50 = .ok (.aload_n 0, 1) := by decide +kernel
theorem dX9_all_51 : decode cX9_all 51 = .ok (.iload_n 1, 1) := by decide +kernel
theorem dX9_all_52 : decode cX9_all 52 = .ok (.iconst 1, 1) := by decide +kernel
theorem dX9_all_53 : decode cX9_all 53 = .ok (.invokevirtual 182, 3) := by decide +kernel
theorem dX9_all_56 : decode cX9_all 56 = .ok (.aload_n 0, 1) := by decide +kernel
theorem dX9_all_57 : decode cX9_all 57 = .ok (.getfield 43, 3) := by decide +kernel
theorem dX9_all_60 : decode cX9_all 60 = .ok (.sipush 3721, 3) := by decide +kernel
theorem dX9_all_63 : decode cX9_all 63 = .ok (.iload_n 1, 1) := by decide +kernel
theorem dX9_all_64 : decode cX9_all 64 = .ok (.imul, 1) := by decide +kernel
theorem dX9_all_65 : decode cX9_all 65 = .ok (.aload_n 0, 1) := by decide +kernel
theorem dX9_all_66 : decode cX9_all 66 = .ok (.getfield 161, 3) := by decide +kernel
theorem dX9_all_69 : decode cX9_all 69 = .ok (.aload_n 0, 1) := by decide +kernel
theorem dX9_all_70 : decode cX9_all 70 = .ok (.getfield 164, 3) := by decide +kernel
theorem dX9_all_73 : decode cX9_all 73 = .ok (.invokestatic 144, 3) := by decide +kernel
theorem dX9_all_76 : decode cX9_all 76 = .ok (.iadd, 1) := by decide +kernel
theorem dX9_all_77 : decode cX9_all 77 = .ok (.laload, 1) := by decide +kernel
theorem dX9_all_78 : decode cX9_all 78 = .ok (.lstore_n 2, 1) := by decide +kernel
theorem dX9_all_79 : decode cX9_all 79 = .ok (.lload_n 2, 1) := by decide +kernel
theorem dX9_all_80 : decode cX9_all 80 = .ok (.ldc2_w 173, 3) := by decide +kernel
theorem dX9_all_83 : decode cX9_all 83 = .ok (.lcmp, 1) := by decide +kernel
theorem dX9_all_84 : decode cX9_all 84 = .ok (.ifCond .lt 13, 3) := by decide +kernel
theorem dX9_all_87 : decode cX9_all 87 = .ok (.aload_n 0, 1) := by decide +kernel
theorem dX9_all_88 : decode cX9_all 88 = .ok (.bipush 9, 2) := by decide +kernel
theorem dX9_all_90 : decode cX9_all 90 = .ok (.invokevirtual 156, 3) := by decide +kernel
theorem dX9_all_93 : decode cX9_all 93 = .ok (.i2l, 1) := by decide +kernel
theorem dX9_all_94 : decode cX9_all 94 = .ok (.goto 4, 3) := by decide +kernel
theorem dX9_all_97 : decode cX9_all 97 = .ok (.lload_n 2, 1) := by decide +kernel
theorem dX9_all_98 : decode cX9_all 98 = .ok (.lreturn, 1) := by decide +kernel
set_option maxRecDepth 20000 in
theorem ggX9_least_X9_areOpen : GoodIn wsX9_least wsX9_areOpen := goodIn_r _ [10, 4, 5, 11, 12, 13, 14, 15, 9, 16, 17, 18, 19, 20, 21, 22, 23, 24, 25, 26, 27, 28, 29, 30, 56, 57, 58, 59, 60, 61, 62, 63, 64, 65, 66, 67, 68, 69, 70, 71, 72, 73, 74, 75, 76, 77, 78, 79, 80, 81, 82, 83, 84, 85, 86, 87, 88, 89, 90, 91, 92, 93, 94, 95, 96] (by decide +kernel) (by decide +kernel)
set_option maxRecDepth 20000 in
theorem gX9_least_X9_areOpen : GoodIn wsX9_least (wsV RX9 186 RX9 yX9_areOpen wsX9_areOpen) := goodIn_app (goodIn_of _ (by decide +kernel)) ggX9_least_X9_areOpen
set_option maxRecDepth 20000 in
theorem ggX9_least_X9_refuse : GoodIn wsX9_least wsX9_refuse := goodIn_r _ [34, 2, 56, 57, 58, 59, 60, 61, 62, 63, 64, 65, 66, 67, 68, 69, 70, 71, 72, 73, 74, 75, 76, 77, 78, 79, 80, 81, 82, 83, 84, 85, 86, 87, 88, 89, 90, 91, 92, 93, 94, 95, 96] (by decide +kernel) (by decide +kernel)
set_option maxRecDepth 20000 in
theorem gX9_least_X9_refuse : GoodIn wsX9_least (wsV RX9 156 RX9 yX9_refuse wsX9_refuse) := goodIn_app (goodIn_of _ (by decide +kernel)) ggX9_least_X9_refuse
set_option maxRecDepth 20000 in
theorem ggX9_least_X9_fill : GoodIn wsX9_least wsX9_fill := goodIn_r _ [38, 3, 11, 12, 39, 40, 41, 9, 42, 43, 44, 45, 13, 14, 15, 16, 17, 18, 19, 20, 21, 22, 23, 24, 25, 26, 27, 28, 29, 30, 46, 47, 48, 49, 50, 51, 52, 53, 54, 55, 56, 57, 58, 59, 60, 61, 62, 63, 64, 65, 66, 67, 68, 69, 70, 71, 72, 73, 74, 75, 76, 77, 78, 79, 80, 81, 82, 83, 84, 85, 86, 87, 88, 89, 90, 91, 92, 93, 94, 95, 96] (by decide +kernel) (by decide +kernel)
set_option maxRecDepth 20000 in
theorem gX9_least_X9_fill : GoodIn wsX9_least (wsV RX9 182 RX9 yX9_fill wsX9_fill) := goodIn_app (goodIn_of _ (by decide +kernel)) ggX9_least_X9_fill
set_option maxRecDepth 20000 in
theorem ggX9_least_X9_squareOf : GoodIn wsX9_least wsX9_squareOf := goodIn_r _ [30] (by decide +kernel) (by decide +kernel)
set_option maxRecDepth 20000 in
theorem gX9_least_X9_squareOf : GoodIn wsX9_least (va_wsS RX9 144 yX9_squareOf wsX9_squareOf) := goodIn_app (goodIn_of _ (by decide +kernel)) ggX9_least_X9_squareOf
theorem dX9_least_0 : decode cX9_least 0 = .ok (.aload_n 0, 1) := by decide +kernel
theorem dX9_least_1 : decode cX9_least 1 = .ok (.iconst 0, 1) := by decide +kernel
theorem dX9_least_2 : decode cX9_least 2 = .ok (.putfield 112, 3) := by decide +kernel
theorem dX9_least_5 : decode cX9_least 5 = .ok (.aload_n 0, 1) := by decide +kernel
theorem dX9_least_6 : decode cX9_least 6 = .ok (.iconst 0, 1) := by decide +kernel
theorem dX9_least_7 : decode cX9_least 7 = .ok (.putfield 115, 3) := by decide +kernel
theorem dX9_least_10 : decode cX9_least 10 = .ok (.aload_n 0, 1) := by decide +kernel
theorem dX9_least_11 : decode cX9_least 11 = .ok (.invokevirtual 186, 3) := by decide +kernel
theorem dX9_least_14 : decode cX9_least 14 = .ok (.ifCond .ne 10, 3) := by decide +kernel
theorem dX9_least_17 : decode cX9_least 17 = .ok (.aload_n 0, 1) := by decide +kernel
theorem dX9_least_18 : decode cX9_least 18 = .ok (.bipush 7, 2) := by decide +kernel
theorem dX9_least_20 : decode cX9_least 20 = .ok (.invokevirtual 156, 3) := by decide +kernel
theorem dX9_least_23 : decode cX9_least 23 = .ok (.ireturn, 1) := by decide +kernel
theorem dX9_least_24 : decode cX9_least 24 = .ok (.aload_n 0, 1) := by decide +kernel
theorem dX9_least_25 : decode cX9_least 25 = .ok (.bipush 60, 2) := by decide +kernel
theorem dX9_least_27 : decode cX9_least 27 = .ok (.iconst 0, 1) := by decide +kernel
theorem dX9_least_28 : decode cX9_least 28 = .ok (.invokevirtual 182, 3) := by decide +kernel
theorem dX9_least_31 : decode cX9_least 31 = .ok (.iconst 0, 1) := by decide +kernel
theorem dX9_least_32 : decode cX9_least 32 = .ok (.istore_n 1, 1) := by decide +kernel
theorem dX9_least_33 : decode cX9_least 33 = .ok (.iload_n 1, 1) := by decide +kernel
theorem dX9_least_34 : decode cX9_least 34 = .ok (.bipush 60, 2) := by decide +kernel
theorem dX9_least_36 : decode cX9_least 36 = .ok (.if_icmp .gt 38, 3) := by decide +kernel
theorem dX9_least_39 : decode cX9_least 39 = .ok (.aload_n 0, 1) := by decide +kernel
theorem dX9_least_40 : decode cX9_least 40 = .ok (.getfield 43, 3) := by decide +kernel
theorem dX9_least_43 : decode cX9_least 43 = .ok (.sipush 3721, 3) := by decide +kernel
theorem dX9_least_46 : decode cX9_least 46 = .ok (.iload_n 1, 1) := by decide +kernel
theorem dX9_least_47 : decode cX9_least 47 = .ok (.imul, 1) := by decide +kernel
theorem dX9_least_48 : decode cX9_least 48 = .ok (.aload_n 0, 1) := by decide +kernel
theorem dX9_least_49 : decode cX9_least 49 = .ok (.getfield 161, 3) := by decide +kernel
theorem dX9_least_52 : decode cX9_least 52 = .ok (.aload_n 0, 1) := by decide +kernel
theorem dX9_least_53 : decode cX9_least 53 = .ok (.getfield 164, 3) := by decide +kernel
theorem dX9_least_56 : decode cX9_least 56 = .ok (.invokestatic 144, 3) := by decide +kernel
theorem dX9_least_59 : decode cX9_least 59 = .ok (.iadd, 1) := by decide +kernel
theorem dX9_least_60 : decode cX9_least 60 = .ok (.laload, 1) := by decide +kernel
theorem dX9_least_61 : decode cX9_least 61 = .ok (.lconst 0, 1) := by decide +kernel
theorem dX9_least_62 : decode cX9_least 62 = .ok (.lcmp, 1) := by decide +kernel
theorem dX9_least_63 : decode cX9_least 63 = .ok (.ifCond .le 5, 3) := by decide +kernel
theorem dX9_least_66 : decode cX9_least 66 = .ok (.iload_n 1, 1) := by decide +kernel
theorem dX9_least_67 : decode cX9_least 67 = .ok (.ireturn, 1) := by decide +kernel
theorem dX9_least_68 : decode cX9_least 68 = .ok (.iinc 1 1, 3) := by decide +kernel
theorem dX9_least_71 : decode cX9_least 71 = .ok (.goto (-38), 3) := by decide +kernel
theorem dX9_least_74 : decode cX9_least 74 = .ok (.aload_n 0, 1) := by decide +kernel
theorem dX9_least_75 : decode cX9_least 75 = .ok (.bipush 8, 2) := by decide +kernel
theorem dX9_least_77 : decode cX9_least 77 = .ok (.invokevirtual 156, 3) := by decide +kernel
theorem dX9_least_80 : decode cX9_least 80 = .ok (.ireturn, 1) := by decide +kernel
theorem dX9_hasArea_0 : decode cX9_hasArea 0 = .ok (.aload_n 0, 1) := by decide +kernel
theorem dX9_hasArea_1 : decode cX9_hasArea 1 = .ok (.getfield 137, 3) := by decide +kernel
theorem dX9_hasArea_4 : decode cX9_hasArea 4 = .ok (.iconst 1, 1) := by decide +kernel
theorem dX9_hasArea_5 : decode cX9_hasArea 5 = .ok (.if_icmp .eq 19, 3) := by decide +kernel
theorem dX9_hasArea_8 : decode cX9_hasArea 8 = .ok (.aload_n 0, 1) := by decide +kernel
theorem dX9_hasArea_9 : decode cX9_hasArea 9 = .ok (.getfield 137, 3) := by decide +kernel
theorem dX9_hasArea_12 : decode cX9_hasArea 12 = .ok (.iconst 2, 1) := by decide +kernel
theorem dX9_hasArea_13 : decode cX9_hasArea 13 = .ok (.if_icmp .eq 11, 3) := by decide +kernel
theorem dX9_hasArea_16 : decode cX9_hasArea 16 = .ok (.aload_n 0, 1) := by decide +kernel
theorem dX9_hasArea_17 : decode cX9_hasArea 17 = .ok (.getfield 137, 3) := by decide +kernel
theorem dX9_hasArea_20 : decode cX9_hasArea 20 = .ok (.iconst 3, 1) := by decide +kernel
theorem dX9_hasArea_21 : decode cX9_hasArea 21 = .ok (.if_icmp .ne 7, 3) := by decide +kernel
theorem dX9_hasArea_24 : decode cX9_hasArea 24 = .ok (.iconst 1, 1) := by decide +kernel
theorem dX9_hasArea_25 : decode cX9_hasArea 25 = .ok (.goto 4, 3) := by decide +kernel
theorem dX9_hasArea_28 : decode cX9_hasArea 28 = .ok (.iconst 0, 1) := by decide +kernel
theorem dX9_hasArea_29 : decode cX9_hasArea 29 = .ok (.ireturn, 1) := by decide +kernel
set_option maxRecDepth 20000 in
theorem ggX9_adds_X9_yOf : GoodIn wsX9_adds wsX9_yOf := goodIn_r _ [5] (by decide +kernel) (by decide +kernel)
set_option maxRecDepth 20000 in
theorem gX9_adds_X9_yOf : GoodIn wsX9_adds (va_wsS RX9 150 yX9_yOf wsX9_yOf) := goodIn_app (goodIn_of _ (by decide +kernel)) ggX9_adds_X9_yOf
theorem dX9_adds_0 : decode cX9_adds 0 = .ok (.iload_n 1, 1) := by decide +kernel
theorem dX9_adds_1 : decode cX9_adds 1 = .ok (.tableswitch 62 0 2 #[27, 40, 57], 27) := by decide +kernel
theorem dX9_adds_28 : decode cX9_adds 28 = .ok (.iload_n 3, 1) := by decide +kernel
theorem dX9_adds_29 : decode cX9_adds 29 = .ok (.invokestatic 150, 3) := by decide +kernel
theorem dX9_adds_32 : decode cX9_adds 32 = .ok (.ifCond .ne 7, 3) := by decide +kernel
theorem dX9_adds_35 : decode cX9_adds 35 = .ok (.iconst 1, 1) := by decide +kernel
theorem dX9_adds_36 : decode cX9_adds 36 = .ok (.goto 4, 3) := by decide +kernel
theorem dX9_adds_39 : decode cX9_adds 39 = .ok (.iconst 0, 1) := by decide +kernel
theorem dX9_adds_40 : decode cX9_adds 40 = .ok (.ireturn, 1) := by decide +kernel
theorem dX9_adds_41 : decode cX9_adds 41 = .ok (.iload 4, 2) := by decide +kernel
theorem dX9_adds_43 : decode cX9_adds 43 = .ok (.ifCond .lt 13, 3) := by decide +kernel
theorem dX9_adds_46 : decode cX9_adds 46 = .ok (.iload 4, 2) := by decide +kernel
theorem dX9_adds_48 : decode cX9_adds 48 = .ok (.iload_n 2, 1) := by decide +kernel
theorem dX9_adds_49 : decode cX9_adds 49 = .ok (.if_icmp .eq 7, 3) := by decide +kernel
theorem dX9_adds_52 : decode cX9_adds 52 = .ok (.iconst 1, 1) := by decide +kernel
theorem dX9_adds_53 : decode cX9_adds 53 = .ok (.goto 4, 3) := by decide +kernel
theorem dX9_adds_56 : decode cX9_adds 56 = .ok (.iconst 0, 1) := by decide +kernel
theorem dX9_adds_57 : decode cX9_adds 57 = .ok (.ireturn, 1) := by decide +kernel
theorem dX9_adds_58 : decode cX9_adds 58 = .ok (.iload_n 3, 1) := by decide +kernel
theorem dX9_adds_59 : decode cX9_adds 59 = .ok (.invokestatic 150, 3) := by decide +kernel
theorem dX9_adds_62 : decode cX9_adds 62 = .ok (.ireturn, 1) := by decide +kernel
theorem dX9_adds_63 : decode cX9_adds 63 = .ok (.aload_n 0, 1) := by decide +kernel
theorem dX9_adds_64 : decode cX9_adds 64 = .ok (.getfield 35, 3) := by decide +kernel
theorem dX9_adds_67 : decode cX9_adds 67 = .ok (.iload_n 2, 1) := by decide +kernel
theorem dX9_adds_68 : decode cX9_adds 68 = .ok (.iaload, 1) := by decide +kernel
theorem dX9_adds_69 : decode cX9_adds 69 = .ok (.ireturn, 1) := by decide +kernel
set_option maxRecDepth 20000 in
theorem ggX9_weighed_X9_hasArea : GoodIn wsX9_weighed wsX9_hasArea := goodIn_r _ [5, 6, 32, 33, 34, 35, 36, 37, 38, 39, 40, 41, 42, 43, 44, 45, 46, 47, 48, 49, 50, 51, 52, 53, 54, 55, 56, 57, 58, 59, 60, 61, 62, 63, 64, 65, 66, 67, 68, 69, 70, 71, 72] (by decide +kernel) (by decide +kernel)
set_option maxRecDepth 20000 in
theorem gX9_weighed_X9_hasArea : GoodIn wsX9_weighed (wsV RX9 194 RX9 yX9_hasArea wsX9_hasArea) := goodIn_app (goodIn_of _ (by decide +kernel)) ggX9_weighed_X9_hasArea
set_option maxRecDepth 20000 in
theorem ggX9_weighed_X9_areOpen : GoodIn wsX9_weighed wsX9_areOpen := goodIn_r _ [10, 11, 12, 13, 14, 15, 16, 17, 4, 18, 6, 19, 20, 21, 22, 23, 24, 25, 26, 27, 28, 29, 30, 31, 32, 33, 34, 35, 36, 37, 38, 39, 40, 41, 42, 43, 44, 45, 46, 47, 48, 49, 50, 51, 52, 53, 54, 55, 56, 57, 58, 59, 60, 61, 62, 63, 64, 65, 66, 67, 68, 69, 70, 71, 72] (by decide +kernel) (by decide +kernel)
set_option maxRecDepth 20000 in
theorem gX9_weighed_X9_areOpen : GoodIn wsX9_weighed (wsV RX9 186 RX9 yX9_areOpen wsX9_areOpen) := goodIn_app (goodIn_of _ (by decide +kernel)) ggX9_weighed_X9_areOpen
theorem dX9_weighed_0 : decode cX9_weighed 0 = .ok (.iload_n 1, 1) := by decide +kernel
theorem dX9_weighed_1 : decode cX9_weighed 1 = .ok (.ifCond .lt 18, 3) := by decide +kernel
theorem dX9_weighed_4 : decode cX9_weighed 4 = .ok (.iload_n 1, 1) := by decide +kernel
theorem dX9_weighed_5 : decode cX9_weighed 5 = .ok (.iconst 3, 1) := by decide +kernel
theorem dX9_weighed_6 : decode cX9_weighed 6 = .ok (.if_icmp .gt 13, 3) := by decide +kernel
theorem dX9_weighed_9 : decode cX9_weighed 9 = .ok (.iload_n 2, 1) := by decide +kernel
theorem dX9_weighed_10 : decode cX9_weighed 10 = .ok (.ifCond .lt 9, 3) := by decide +kernel
theorem dX9_weighed_13 : decode cX9_weighed 13 = .ok (.iload_n 2, 1) := by decide +kernel
theorem dX9_weighed_14 : decode cX9_weighed 14 = .ok (.bipush 14, 2) := by decide +kernel
theorem dX9_weighed_16 : decode cX9_weighed 16 = .ok (.if_icmp .le 5, 3) := by decide +kernel
theorem dX9_weighed_19 : decode cX9_weighed 19 = .ok (.iconst 2, 1) := by decide +kernel
theorem dX9_weighed_20 : decode cX9_weighed 20 = .ok (.ireturn, 1) := by decide +kernel
theorem dX9_weighed_21 : decode cX9_weighed 21 = .ok (.iload_n 1, 1) := by decide +kernel
theorem dX9_weighed_22 : decode cX9_weighed 22 = .ok (.iconst 2, 1) := by decide +kernel
theorem dX9_weighed_23 : decode cX9_weighed 23 = .ok (.if_icmp .ne 12, 3) := by decide +kernel
theorem dX9_weighed_26 : decode cX9_weighed 26 = .ok (.aload_n 0, 1) := by decide +kernel
theorem dX9_weighed_27 : decode cX9_weighed 27 = .ok (.invokevirtual 194, 3) := by decide +kernel
theorem dX9_weighed_30 : decode cX9_weighed 30 = .ok (.ifCond .ne 5, 3) := by decide +kernel
theorem dX9_weighed_33 : decode cX9_weighed 33 = .ok (.iconst 5, 1) := by decide +kernel
theorem dX9_weighed_34 : decode cX9_weighed 34 = .ok (.ireturn, 1) := by decide +kernel
theorem dX9_weighed_35 : decode cX9_weighed 35 = .ok (.aload_n 0, 1) := by decide +kernel
theorem dX9_weighed_36 : decode cX9_weighed 36 = .ok (.invokevirtual 186, 3) := by decide +kernel
theorem dX9_weighed_39 : decode cX9_weighed 39 = .ok (.ifCond .eq 7, 3) := by decide +kernel
theorem dX9_weighed_42 : decode cX9_weighed 42 = .ok (.iconst 0, 1) := by decide +kernel
theorem dX9_weighed_43 : decode cX9_weighed 43 = .ok (.goto 5, 3) := by decide +kernel
theorem dX9_weighed_46 : decode cX9_weighed 46 = .ok (.bipush 7, 2) := by decide +kernel
theorem dX9_weighed_48 : decode cX9_weighed 48 = .ok (.ireturn, 1) := by decide +kernel
set_option maxRecDepth 20000 in
theorem ggX9_sum_X9_weighed : GoodIn wsX9_sum wsX9_weighed := goodIn_r _ [8, 9, 10, 11, 7, 12, 13, 14, 15, 16, 17, 18, 19, 20, 21, 22, 23, 24, 25, 26, 27, 28, 29, 30, 31, 32, 33, 34, 35, 36, 37, 38, 71, 72, 73, 74, 75, 76, 77, 78, 79, 80, 81, 82, 83, 84, 85, 86, 87, 88, 89, 90, 91, 92, 93, 94, 95, 96, 97, 98, 99, 100, 101, 102, 103, 104, 105, 106, 107, 108, 109, 110, 111] (by decide +kernel) (by decide +kernel)
set_option maxRecDepth 20000 in
theorem gX9_sum_X9_weighed : GoodIn wsX9_sum (wsV RX9 197 RX9 yX9_weighed wsX9_weighed) := goodIn_app (goodIn_of _ (by decide +kernel)) ggX9_sum_X9_weighed
set_option maxRecDepth 20000 in
theorem ggX9_sum_X9_turns : GoodIn wsX9_sum wsX9_turns := goodIn_r _ [42, 18, 19, 20, 21, 43, 44, 45, 36, 37, 7, 38, 46, 47, 48, 49, 50, 51, 13, 35, 52, 53, 54, 55, 56, 57, 22, 23, 24, 25, 26, 27, 28, 29, 30, 31, 32, 33, 34, 58, 59, 60, 61, 71, 72, 73, 74, 75, 76, 77, 78, 79, 80, 81, 82, 83, 84, 85, 86, 87, 88, 89, 90, 91, 92, 93, 94, 95, 96, 97, 98, 99, 100, 101, 102, 103, 104, 105, 106, 107, 108, 109, 110, 111] (by decide +kernel) (by decide +kernel)
set_option maxRecDepth 20000 in
theorem gX9_sum_X9_turns : GoodIn wsX9_sum (wsV RX9 202 RX9 yX9_turns wsX9_turns) := goodIn_app (goodIn_of _ (by decide +kernel)) ggX9_sum_X9_turns
set_option maxRecDepth 20000 in
theorem ggX9_sum_X9_weights : GoodIn wsX9_sum wsX9_weights := goodIn_r _ [65, 43, 18, 19, 45, 44, 20, 21, 36, 37, 7, 38, 52, 53, 54, 55, 56, 57, 22, 23, 24, 25, 13, 26, 27, 28, 29, 30, 31, 32, 33, 34, 35, 46, 47, 48, 49, 50, 51, 66, 67, 68, 69, 70, 71, 72, 73, 74, 75, 76, 77, 78, 79, 80, 81, 82, 83, 84, 85, 86, 87, 88, 89, 90, 91, 92, 93, 94, 95, 96, 97, 98, 99, 100, 101, 102, 103, 104, 105, 106, 107, 108, 109, 110, 111] (by decide +kernel) (by decide +kernel)
set_option maxRecDepth 20000 in
theorem gX9_sum_X9_weights : GoodIn wsX9_sum (wsV RX9 206 RX9 yX9_weights wsX9_weights) := goodIn_app (goodIn_of _ (by decide +kernel)) ggX9_sum_X9_weights
theorem dX9_sum_0 : decode cX9_sum 0 = .ok (.aload_n 0, 1) := by decide +kernel
theorem dX9_sum_1 : decode cX9_sum 1 = .ok (.iconst 0, 1) := by decide +kernel
theorem dX9_sum_2 : decode cX9_sum 2 = .ok (.putfield 112, 3) := by decide +kernel
theorem dX9_sum_5 : decode cX9_sum 5 = .ok (.aload_n 0, 1) := by decide +kernel
theorem dX9_sum_6 : decode cX9_sum 6 = .ok (.iload_n 3, 1) := by decide +kernel
theorem dX9_sum_7 : decode cX9_sum 7 = .ok (.ifCond .lt 9, 3) := by decide +kernel
theorem dX9_sum_10 : decode cX9_sum 10 = .ok (.iload_n 3, 1) := by decide +kernel
theorem dX9_sum_11 : decode cX9_sum 11 = .ok (.bipush 120, 2) := by decide +kernel
theorem dX9_sum_13 : decode cX9_sum 13 = .ok (.if_icmp .le 7, 3) := by decide +kernel
theorem dX9_sum_16 : decode cX9_sum 16 = .ok (.iconst 2, 1) := by decide +kernel
theorem dX9_sum_17 : decode cX9_sum 17 = .ok (.goto 9, 3) := by decide +kernel
theorem dX9_sum_20 : decode cX9_sum 20 = .ok (.aload_n 0, 1) := by decide +kernel
theorem dX9_sum_21 : decode cX9_sum 21 = .ok (.iload_n 1, 1) := by decide +kernel
theorem dX9_sum_22 : decode cX9_sum 22 = .ok (.iload_n 2, 1) := by decide +kernel
theorem dX9_sum_23 : decode cX9_sum 23 = .ok (.invokevirtual 197, 3) := by decide +kernel
theorem dX9_sum_26 : decode cX9_sum 26 = .ok (.putfield 115, 3) := by decide +kernel
theorem dX9_sum_29 : decode cX9_sum 29 = .ok (.aload_n 0, 1) := by decide +kernel
theorem dX9_sum_30 : decode cX9_sum 30 = .ok (.getfield 115, 3) := by decide +kernel
theorem dX9_sum_33 : decode cX9_sum 33 = .ok (.ifCond .le 7, 3) := by decide +kernel
theorem dX9_sum_36 : decode cX9_sum 36 = .ok (.ldc2_w 200, 3) := by decide +kernel
theorem dX9_sum_39 : decode cX9_sum 39 = .ok (.lreturn, 1) := by decide +kernel
theorem dX9_sum_40 : decode cX9_sum 40 = .ok (.iload_n 1, 1) := by decide +kernel
theorem dX9_sum_41 : decode cX9_sum 41 = .ok (.iconst 1, 1) := by decide +kernel
theorem dX9_sum_42 : decode cX9_sum 42 = .ok (.if_icmp .ne 12, 3) := by decide +kernel
theorem dX9_sum_45 : decode cX9_sum 45 = .ok (.aload_n 0, 1) := by decide +kernel
theorem dX9_sum_46 : decode cX9_sum 46 = .ok (.iload_n 2, 1) := by decide +kernel
theorem dX9_sum_47 : decode cX9_sum 47 = .ok (.iload_n 3, 1) := by decide +kernel
theorem dX9_sum_48 : decode cX9_sum 48 = .ok (.invokevirtual 202, 3) := by decide +kernel
theorem dX9_sum_51 : decode cX9_sum 51 = .ok (.goto 10, 3) := by decide +kernel
theorem dX9_sum_54 : decode cX9_sum 54 = .ok (.aload_n 0, 1) := by decide +kernel
theorem dX9_sum_55 : decode cX9_sum 55 = .ok (.iload_n 1, 1) := by decide +kernel
theorem dX9_sum_56 : decode cX9_sum 56 = .ok (.iload_n 2, 1) := by decide +kernel
theorem dX9_sum_57 : decode cX9_sum 57 = .ok (.iload_n 3, 1) := by decide +kernel
theorem dX9_sum_58 : decode cX9_sum 58 = .ok (.invokevirtual 206, 3) := by decide +kernel
theorem dX9_sum_61 : decode cX9_sum 61 = .ok (.lreturn, 1) := by decide +kernel
set_option maxRecDepth 20000 in
theorem ggX9_weights_X9_squareOf : GoodIn wsX9_weights wsX9_squareOf := goodIn_r _ [11] (by decide +kernel) (by decide +kernel)
set_option maxRecDepth 20000 in
theorem gX9_weights_X9_squareOf : GoodIn wsX9_weights (va_wsS RX9 144 yX9_squareOf wsX9_squareOf) := goodIn_app (goodIn_of _ (by decide +kernel)) ggX9_weights_X9_squareOf
set_option maxRecDepth 20000 in
theorem ggX9_weights_X9_xOf : GoodIn wsX9_weights wsX9_xOf := goodIn_r _ [14] (by decide +kernel) (by decide +kernel)
set_option maxRecDepth 20000 in
theorem gX9_weights_X9_xOf : GoodIn wsX9_weights (va_wsS RX9 147 yX9_xOf wsX9_xOf) := goodIn_app (goodIn_of _ (by decide +kernel)) ggX9_weights_X9_xOf
set_option maxRecDepth 20000 in
theorem ggX9_weights_X9_yOf : GoodIn wsX9_weights wsX9_yOf := goodIn_r _ [17] (by decide +kernel) (by decide +kernel)
set_option maxRecDepth 20000 in
theorem gX9_weights_X9_yOf : GoodIn wsX9_weights (va_wsS RX9 150 yX9_yOf wsX9_yOf) := goodIn_app (goodIn_of _ (by decide +kernel)) ggX9_weights_X9_yOf
set_option maxRecDepth 20000 in
theorem ggX9_weights_X9_isOpen : GoodIn wsX9_weights wsX9_isOpen := goodIn_r _ [21, 22, 23, 24, 25, 10, 26, 27, 28, 29, 30, 31, 32, 8, 9, 11, 44, 45, 46, 47, 48, 49, 50, 51, 52, 53, 54, 55, 56, 57, 58, 59, 60, 61, 62, 63, 64, 65, 66, 67, 68, 69, 70, 71, 72, 73, 74, 75, 76, 77, 78, 79, 80, 81, 82, 83, 84] (by decide +kernel) (by decide +kernel)
set_option maxRecDepth 20000 in
theorem gX9_weights_X9_isOpen : GoodIn wsX9_weights (wsV RX9 153 RX9 yX9_isOpen wsX9_isOpen) := goodIn_app (goodIn_of _ (by decide +kernel)) ggX9_weights_X9_isOpen
set_option maxRecDepth 20000 in
theorem ggX9_weights_X9_next : GoodIn wsX9_weights wsX9_next := goodIn_r _ [36, 37, 38, 22, 32, 12, 13, 10, 14, 15, 16, 17, 18, 19, 20, 21, 23, 24, 25, 26, 27, 28, 29, 30, 31, 8, 9, 11, 44, 45, 46, 47, 48, 49, 50, 51, 52, 53, 54, 55, 56, 57, 58, 59, 60, 61, 62, 63, 64, 65, 66, 67, 68, 69, 70, 71, 72, 73, 74, 75, 76, 77, 78, 79, 80, 81, 82, 83, 84] (by decide +kernel) (by decide +kernel)
set_option maxRecDepth 20000 in
theorem gX9_weights_X9_next : GoodIn wsX9_weights (wsV RX9 175 RX9 yX9_next wsX9_next) := goodIn_app (goodIn_of _ (by decide +kernel)) ggX9_weights_X9_next
set_option maxRecDepth 20000 in
theorem ggX9_weights_X9_adds : GoodIn wsX9_weights wsX9_adds := goodIn_r _ [42, 43, 15, 16, 10, 17, 44, 45, 46, 47, 48, 49, 50, 51, 52, 53, 54, 55, 56, 57, 58, 59, 60, 61, 62, 63, 64, 65, 66, 67, 68, 69, 70, 71, 72, 73, 74, 75, 76, 77, 78, 79, 80, 81, 82, 83, 84] (by decide +kernel) (by decide +kernel)
set_option maxRecDepth 20000 in
theorem gX9_weights_X9_adds : GoodIn wsX9_weights (wsV RX9 210 RX9 yX9_adds wsX9_adds) := goodIn_app (goodIn_of _ (by decide +kernel)) ggX9_weights_X9_adds
theorem dX9_weights_0 : decode cX9_weights 0 = .ok (.bipush 121, 2) := by decide +kernel
theorem dX9_weights_2 : decode cX9_weights 2 = .ok (.istore 4, 2) := by decide +kernel
theorem dX9_weights_4 : decode cX9_weights 4 = .ok (.iconst 0, 1) := by decide +kernel
theorem dX9_weights_5 : decode cX9_weights 5 = .ok (.istore 5, 2) := by decide +kernel
theorem dX9_weights_7 : decode cX9_weights 7 = .ok (.iload 5, 2) := by decide +kernel
theorem dX9_weights_9 : decode cX9_weights 9 = .ok (.aload_n 0, 1) := by decide +kernel
theorem dX9_weights_10 : decode cX9_weights 10 = .ok (.getfield 48, 3) := by decide +kernel
theorem dX9_weights_13 : decode cX9_weights 13 = .ok (.arraylength, 1) := by decide +kernel
theorem dX9_weights_14 : decode cX9_weights 14 = .ok (.if_icmp .ge 17, 3) := by decide +kernel
theorem dX9_weights_17 : decode cX9_weights 17 = .ok (.aload_n 0, 1) := by decide +kernel
theorem dX9_weights_18 : decode cX9_weights 18 = .ok (.getfield 48, 3) := by decide +kernel
theorem dX9_weights_21 : decode cX9_weights 21 = .ok (.iload 5, 2) := by decide +kernel
theorem dX9_weights_23 : decode cX9_weights 23 = .ok (.lconst 0, 1) := by decide +kernel
theorem dX9_weights_24 : decode cX9_weights 24 = .ok (.lastore, 1) := by decide +kernel
theorem dX9_weights_25 : decode cX9_weights 25 = .ok (.iinc 5 1, 3) := by decide +kernel
theorem dX9_weights_28 : decode cX9_weights 28 = .ok (.goto (-21), 3) := by decide +kernel
theorem dX9_weights_31 : decode cX9_weights 31 = .ok (.aload_n 0, 1) := by decide +kernel
theorem dX9_weights_32 : decode cX9_weights 32 = .ok (.getfield 48, 3) := by decide +kernel
theorem dX9_weights_35 : decode cX9_weights 35 = .ok (.iload 4, 2) := by decide +kernel
theorem dX9_weights_37 : decode cX9_weights 37 = .ok (.aload_n 0, 1) := by decide +kernel
theorem dX9_weights_38 : decode cX9_weights 38 = .ok (.getfield 161, 3) := by decide +kernel
theorem dX9_weights_41 : decode cX9_weights 41 = .ok (.aload_n 0, 1) := by decide +kernel
theorem dX9_weights_42 : decode cX9_weights 42 = .ok (.getfield 164, 3) := by decide +kernel
theorem dX9_weights_45 : decode cX9_weights 45 = .ok (.invokestatic 144, 3) := by decide +kernel
theorem dX9_weights_48 : decode cX9_weights 48 = .ok (.imul, 1) := by decide +kernel
theorem dX9_weights_49 : decode cX9_weights 49 = .ok (.lconst 1, 1) := by decide +kernel
theorem dX9_weights_50 : decode cX9_weights 50 = .ok (.lastore, 1) := by decide +kernel
theorem dX9_weights_51 : decode cX9_weights 51 = .ok (.iconst 0, 1) := by decide +kernel
theorem dX9_weights_52 : decode cX9_weights 52 = .ok (.istore 5, 2) := by decide +kernel
theorem dX9_weights_54 : decode cX9_weights 54 = .ok (.iload 5, 2) := by decide +kernel
theorem dX9_weights_56 : decode cX9_weights 56 = .ok (.iload_n 2, 1) := by decide +kernel
theorem dX9_weights_57 : decode cX9_weights 57 = .ok (.if_icmp .ge 204, 3) := by decide +kernel
theorem dX9_weights_60 : decode cX9_weights 60 = .ok (.iconst 0, 1) := by decide +kernel
theorem dX9_weights_61 : decode cX9_weights 61 = .ok (.istore 6, 2) := by decide +kernel
theorem dX9_weights_63 : decode cX9_weights 63 = .ok (.iload 6, 2) := by decide +kernel
theorem dX9_weights_65 : decode cX9_weights 65 = .ok (.aload_n 0, 1) := by decide +kernel
theorem dX9_weights_66 : decode cX9_weights 66 = .ok (.getfield 51, 3) := by decide +kernel
theorem dX9_weights_69 : decode cX9_weights 69 = .ok (.arraylength, 1) := by decide +kernel
theorem dX9_weights_70 : decode cX9_weights 70 = .ok (.if_icmp .ge 17, 3) := by decide +kernel
theorem dX9_weights_73 : decode cX9_weights 73 = .ok (.aload_n 0, 1) := by decide +kernel
theorem dX9_weights_74 : decode cX9_weights 74 = .ok (.getfield 51, 3) := by decide +kernel
theorem dX9_weights_77 : decode cX9_weights 77 = .ok (.iload 6, 2) := by decide +kernel
theorem dX9_weights_79 : decode cX9_weights 79 = .ok (.lconst 0, 1) := by decide +kernel
theorem dX9_weights_80 : decode cX9_weights 80 = .ok (.lastore, 1) := by decide +kernel
theorem dX9_weights_81 : decode cX9_weights 81 = .ok (.iinc 6 1, 3) := by decide +kernel
theorem dX9_weights_84 : decode cX9_weights 84 = .ok (.goto (-21), 3) := by decide +kernel
theorem dX9_weights_87 : decode cX9_weights 87 = .ok (.iconst 0, 1) := by decide +kernel
theorem dX9_weights_88 : decode cX9_weights 88 = .ok (.istore 6, 2) := by decide +kernel
theorem dX9_weights_90 : decode cX9_weights 90 = .ok (.iload 6, 2) := by decide +kernel
theorem dX9_weights_92 : decode cX9_weights 92 = .ok (.sipush 3721, 3) := by decide +kernel
theorem dX9_weights_95 : decode cX9_weights 95 = .ok (.if_icmp .ge 127, 3) := by decide +kernel
theorem dX9_weights_98 : decode cX9_weights 98 = .ok (.aload_n 0, 1) := by decide +kernel
theorem dX9_weights_99 : decode cX9_weights 99 = .ok (.iload 6, 2) := by decide +kernel
theorem dX9_weights_101 : decode cX9_weights 101 = .ok (.invokestatic 147, 3) := by decide +kernel
theorem dX9_weights_104 : decode cX9_weights 104 = .ok (.iload 6, 2) := by decide +kernel
theorem dX9_weights_106 : decode cX9_weights 106 = .ok (.invokestatic 150, 3) := by decide +kernel
theorem dX9_weights_109 : decode cX9_weights 109 = .ok (.invokevirtual 153, 3) := by decide +kernel
theorem dX9_weights_112 : decode cX9_weights 112 = .ok (.ifCond .ne 6, 3) := by decide +kernel
theorem dX9_weights_115 : decode cX9_weights 115 = .ok (.goto 101, 3) := by decide +kernel
theorem dX9_weights_118 : decode cX9_weights 118 = .ok (.iconst 0, 1) := by decide +kernel
theorem dX9_weights_119 : decode cX9_weights 119 = .ok (.istore 7, 2) := by decide +kernel
theorem dX9_weights_121 : decode cX9_weights 121 = .ok (.iload 7, 2) := by decide +kernel
theorem dX9_weights_123 : decode cX9_weights 123 = .ok (.aload_n 0, 1) := by decide +kernel
theorem dX9_weights_124 : decode cX9_weights 124 = .ok (.getfield 19, 3) := by decide +kernel
theorem dX9_weights_127 : decode cX9_weights 127 = .ok (.if_icmp .ge 89, 3) := by decide +kernel
theorem dX9_weights_130 : decode cX9_weights 130 = .ok (.aload_n 0, 1) := by decide +kernel
theorem dX9_weights_131 : decode cX9_weights 131 = .ok (.iload 6, 2) := by decide +kernel
theorem dX9_weights_133 : decode cX9_weights 133 = .ok (.iload 7, 2) := by decide +kernel
theorem dX9_weights_135 : decode cX9_weights 135 = .ok (.invokevirtual 175, 3) := by decide +kernel
theorem dX9_weights_138 : decode cX9_weights 138 = .ok (.istore 8, 2) := by decide +kernel
theorem dX9_weights_140 : decode cX9_weights 140 = .ok (.iload 8, 2) := by decide +kernel
theorem dX9_weights_142 : decode cX9_weights 142 = .ok (.ifCond .ge 6, 3) := by decide +kernel
theorem dX9_weights_145 : decode cX9_weights 145 = .ok (.goto 65, 3) := by decide +kernel
theorem dX9_weights_148 : decode cX9_weights 148 = .ok (.aload_n 0, 1) := by decide +kernel
theorem dX9_weights_149 : decode cX9_weights 149 = .ok (.iload_n 1, 1) := by decide +kernel
theorem dX9_weights_150 : decode cX9_weights 150 = .ok (.iload 7, 2) := by decide +kernel
theorem dX9_weights_152 : decode cX9_weights 152 = .ok (.iload 8, 2) := by decide +kernel
theorem dX9_weights_154 : decode cX9_weights 154 = .ok (.iconst (-1), 1) := by decide +kernel
theorem dX9_weights_155 : decode cX9_weights 155 = .ok (.invokevirtual 210, 3) := by decide +kernel
theorem dX9_weights_158 : decode cX9_weights 158 = .ok (.istore 9, 2) := by decide +kernel
theorem dX9_weights_160 : decode cX9_weights 160 = .ok (.iconst 0, 1) := by decide +kernel
theorem dX9_weights_161 : decode cX9_weights 161 = .ok (.istore 10, 2) := by decide +kernel
theorem dX9_weights_163 : decode cX9_weights 163 = .ok (.iload 10, 2) := by decide +kernel
theorem dX9_weights_165 : decode cX9_weights 165 = .ok (.iload 9, 2) := by decide +kernel
theorem dX9_weights_167 : decode cX9_weights 167 = .ok (.iadd, 1) := by decide +kernel
theorem dX9_weights_168 : decode cX9_weights 168 = .ok (.iload_n 3, 1) := by decide +kernel
theorem dX9_weights_169 : decode cX9_weights 169 = .ok (.if_icmp .gt 41, 3) := by decide +kernel
theorem dX9_weights_172 : decode cX9_weights 172 = .ok (.aload_n 0, 1) := by decide +kernel
theorem dX9_weights_173 : decode cX9_weights 173 = .ok (.getfield 51, 3) := by decide +kernel
theorem dX9_weights_176 : decode cX9_weights 176 = .ok (.iload 4, 2) := by decide +kernel
theorem dX9_weights_178 : decode cX9_weights 178 = .ok (.iload 8, 2) := by decide +kernel
theorem dX9_weights_180 : decode cX9_weights 180 = .ok (.imul, 1) := by decide +kernel
theorem dX9_weights_181 : decode cX9_weights 181 = .ok (.iload 10, 2) := by decide +kernel
theorem dX9_weights_183 : decode cX9_weights 183 = .ok (.iadd, 1) := by decide +kernel
theorem dX9_weights_184 : decode cX9_weights 184 = .ok (.iload 9, 2) := by decide +kernel
theorem dX9_weights_186 : decode cX9_weights 186 = .ok (.iadd, 1) := by decide +kernel
theorem dX9_weights_187 : decode cX9_weights 187 = .ok (.dup2, 1) := by decide +kernel
theorem dX9_weights_188 : decode cX9_weights 188 = .ok (.laload, 1) := by decide +kernel
theorem dX9_weights_189 : decode cX9_weights 189 = .ok (.aload_n 0, 1) := by decide +kernel
theorem dX9_weights_190 : decode cX9_weights 190 = .ok (.getfield 48, 3) := by decide +kernel
theorem dX9_weights_193 : decode cX9_weights 193 = .ok (.iload 4, 2) := by decide +kernel
theorem dX9_weights_195 : decode cX9_weights 195 = .ok (.iload 6, 2) := by decide +kernel
theorem dX9_weights_197 : decode cX9_weights 197 = .ok (.imul, 1) := by decide +kernel
theorem dX9_weights_198 : decode cX9_weights 198 = .ok (.iload 10, 2) := by decide +kernel
theorem dX9_weights_200 : decode cX9_weights 200 = .ok (.iadd, 1) := by decide +kernel
theorem dX9_weights_201 : decode cX9_weights 201 = .ok (.laload, 1) := by decide +kernel
theorem dX9_weights_202 : decode cX9_weights 202 = .ok (.ladd, 1) := by decide +kernel
theorem dX9_weights_203 : decode cX9_weights 203 = .ok (.lastore, 1) := by decide +kernel
theorem dX9_weights_204 : decode cX9_weights 204 = .ok (.iinc 10 1, 3) := by decide +kernel
theorem dX9_weights_207 : decode cX9_weights 207 = .ok (.goto (-44), 3) := by decide +kernel
theorem dX9_weights_210 : decode cX9_weights 210 = .ok (.iinc 7 1, 3) := by decide +kernel
theorem dX9_weights_213 : decode cX9_weights 213 = .ok (.goto (-92), 3) := by decide +kernel
theorem dX9_weights_216 : decode cX9_weights 216 = .ok (.iinc 6 1, 3) := by decide +kernel
theorem dX9_weights_219 : decode cX9_weights 219 = .ok (.goto (-129), 3) := by decide +kernel
theorem dX9_weights_222 : decode cX9_weights 222 = .ok (.iconst 0, 1) := by decide +kernel
theorem dX9_weights_223 : decode cX9_weights 223 = .ok (.istore 6, 2) := by decide +kernel
theorem dX9_weights_225 : decode cX9_weights 225 = .ok (.iload 6, 2) := by decide +kernel
theorem dX9_weights_227 : decode cX9_weights 227 = .ok (.aload_n 0, 1) := by decide +kernel
theorem dX9_weights_228 : decode cX9_weights 228 = .ok (.getfield 48, 3) := by decide +kernel
theorem dX9_weights_231 : decode cX9_weights 231 = .ok (.arraylength, 1) := by decide +kernel
theorem dX9_weights_232 : decode cX9_weights 232 = .ok (.if_icmp .ge 23, 3) := by decide +kernel
theorem dX9_weights_235 : decode cX9_weights 235 = .ok (.aload_n 0, 1) := by decide +kernel
theorem dX9_weights_236 : decode cX9_weights 236 = .ok (.getfield 48, 3) := by decide +kernel
theorem dX9_weights_239 : decode cX9_weights 239 = .ok (.iload 6, 2) := by decide +kernel
theorem dX9_weights_241 : decode cX9_weights 241 = .ok (.aload_n 0, 1) := by decide +kernel
theorem dX9_weights_242 : decode cX9_weights 242 = .ok (.getfield 51, 3) := by decide +kernel
theorem dX9_weights_245 : decode cX9_weights 245 = .ok (.iload 6, 2) := by decide +kernel
theorem dX9_weights_247 : decode cX9_weights 247 = .ok (.laload, 1) := by decide +kernel
theorem dX9_weights_248 : decode cX9_weights 248 = .ok (.lastore, 1) := by decide +kernel
theorem dX9_weights_249 : decode cX9_weights 249 = .ok (.iinc 6 1, 3) := by decide +kernel
theorem dX9_weights_252 : decode cX9_weights 252 = .ok (.goto (-27), 3) := by decide +kernel
theorem dX9_weights_255 : decode cX9_weights 255 = .ok (.iinc 5 1, 3) := by decide +kernel
theorem dX9_weights_258 : decode cX9_weights 258 = .ok (.goto (-204), 3) := by decide +kernel
theorem dX9_weights_261 : decode cX9_weights 261 = .ok (.aload_n 0, 1) := by decide +kernel
theorem dX9_weights_262 : decode cX9_weights 262 = .ok (.getfield 48, 3) := by decide +kernel
theorem dX9_weights_265 : decode cX9_weights 265 = .ok (.iload 4, 2) := by decide +kernel
theorem dX9_weights_267 : decode cX9_weights 267 = .ok (.aload_n 0, 1) := by decide +kernel
theorem dX9_weights_268 : decode cX9_weights 268 = .ok (.getfield 167, 3) := by decide +kernel
theorem dX9_weights_271 : decode cX9_weights 271 = .ok (.aload_n 0, 1) := by decide +kernel
theorem dX9_weights_272 : decode cX9_weights 272 = .ok (.getfield 170, 3) := by decide +kernel
theorem dX9_weights_275 : decode cX9_weights 275 = .ok (.invokestatic 144, 3) := by decide +kernel
theorem dX9_weights_278 : decode cX9_weights 278 = .ok (.imul, 1) := by decide +kernel
theorem dX9_weights_279 : decode cX9_weights 279 = .ok (.iload_n 3, 1) := by decide +kernel
theorem dX9_weights_280 : decode cX9_weights 280 = .ok (.iadd, 1) := by decide +kernel
theorem dX9_weights_281 : decode cX9_weights 281 = .ok (.laload, 1) := by decide +kernel
theorem dX9_weights_282 : decode cX9_weights 282 = .ok (.lreturn, 1) := by decide +kernel
set_option maxRecDepth 20000 in
theorem ggX9_turns_X9_squareOf : GoodIn wsX9_turns wsX9_squareOf := goodIn_r _ [11] (by decide +kernel) (by decide +kernel)
set_option maxRecDepth 20000 in
theorem gX9_turns_X9_squareOf : GoodIn wsX9_turns (va_wsS RX9 144 yX9_squareOf wsX9_squareOf) := goodIn_app (goodIn_of _ (by decide +kernel)) ggX9_turns_X9_squareOf
set_option maxRecDepth 20000 in
theorem ggX9_turns_X9_next : GoodIn wsX9_turns wsX9_next := goodIn_r _ [15, 16, 17, 18, 19, 20, 21, 10, 22, 23, 24, 25, 26, 27, 28, 29, 30, 31, 32, 33, 34, 35, 36, 37, 38, 8, 9, 11, 43, 44, 45, 46, 47, 48, 49, 50, 51, 52, 53, 54, 55, 56, 57, 58, 59, 60, 61, 62, 63, 64, 65, 66, 67, 68, 69, 70, 71, 72, 73, 74, 75, 76, 77, 78, 79, 80, 81, 82, 83] (by decide +kernel) (by decide +kernel)
set_option maxRecDepth 20000 in
theorem gX9_turns_X9_next : GoodIn wsX9_turns (wsV RX9 175 RX9 yX9_next wsX9_next) := goodIn_app (goodIn_of _ (by decide +kernel)) ggX9_turns_X9_next
set_option maxRecDepth 20000 in
theorem ggX9_turns_X9_goesOn : GoodIn wsX9_turns wsX9_goesOn := goodIn_r _ [42, 6, 7, 5, 12, 13, 14, 10, 15, 16, 17, 18, 19, 20, 21, 22, 23, 24, 25, 26, 27, 28, 29, 30, 31, 32, 33, 34, 35, 36, 37, 38, 8, 9, 11, 43, 44, 45, 46, 47, 48, 49, 50, 51, 52, 53, 54, 55, 56, 57, 58, 59, 60, 61, 62, 63, 64, 65, 66, 67, 68, 69, 70, 71, 72, 73, 74, 75, 76, 77, 78, 79, 80, 81, 82, 83] (by decide +kernel) (by decide +kernel)
set_option maxRecDepth 20000 in
theorem gX9_turns_X9_goesOn : GoodIn wsX9_turns (wsV RX9 214 RX9 yX9_goesOn wsX9_goesOn) := goodIn_app (goodIn_of _ (by decide +kernel)) ggX9_turns_X9_goesOn
theorem dX9_turns_0 : decode cX9_turns 0 = .ok (.iload_n 1, 1) := by decide +kernel
theorem dX9_turns_1 : decode cX9_turns 1 = .ok (.ifCond .ne 38, 3) := by decide +kernel
theorem dX9_turns_4 : decode cX9_turns 4 = .ok (.aload_n 0, 1) := by decide +kernel
theorem dX9_turns_5 : decode cX9_turns 5 = .ok (.getfield 161, 3) := by decide +kernel
theorem dX9_turns_8 : decode cX9_turns 8 = .ok (.aload_n 0, 1) := by decide +kernel
theorem dX9_turns_9 : decode cX9_turns 9 = .ok (.getfield 164, 3) := by decide +kernel
theorem dX9_turns_12 : decode cX9_turns 12 = .ok (.invokestatic 144, 3) := by decide +kernel
theorem dX9_turns_15 : decode cX9_turns 15 = .ok (.aload_n 0, 1) := by decide +kernel
theorem dX9_turns_16 : decode cX9_turns 16 = .ok (.getfield 167, 3) := by decide +kernel
theorem dX9_turns_19 : decode cX9_turns 19 = .ok (.aload_n 0, 1) := by decide +kernel
theorem dX9_turns_20 : decode cX9_turns 20 = .ok (.getfield 170, 3) := by decide +kernel
theorem dX9_turns_23 : decode cX9_turns 23 = .ok (.invokestatic 144, 3) := by decide +kernel
theorem dX9_turns_26 : decode cX9_turns 26 = .ok (.if_icmp .ne 11, 3) := by decide +kernel
theorem dX9_turns_29 : decode cX9_turns 29 = .ok (.iload_n 2, 1) := by decide +kernel
theorem dX9_turns_30 : decode cX9_turns 30 = .ok (.ifCond .ne 7, 3) := by decide +kernel
theorem dX9_turns_33 : decode cX9_turns 33 = .ok (.lconst 1, 1) := by decide +kernel
theorem dX9_turns_34 : decode cX9_turns 34 = .ok (.goto 4, 3) := by decide +kernel
theorem dX9_turns_37 : decode cX9_turns 37 = .ok (.lconst 0, 1) := by decide +kernel
theorem dX9_turns_38 : decode cX9_turns 38 = .ok (.lreturn, 1) := by decide +kernel
theorem dX9_turns_39 : decode cX9_turns 39 = .ok (.iload_n 2, 1) := by decide +kernel
theorem dX9_turns_40 : decode cX9_turns 40 = .ok (.bipush 14, 2) := by decide +kernel
theorem dX9_turns_42 : decode cX9_turns 42 = .ok (.if_icmp .le 5, 3) := by decide +kernel
theorem dX9_turns_45 : decode cX9_turns 45 = .ok (.lconst 0, 1) := by decide +kernel
theorem dX9_turns_46 : decode cX9_turns 46 = .ok (.lreturn, 1) := by decide +kernel
theorem dX9_turns_47 : decode cX9_turns 47 = .ok (.lconst 0, 1) := by decide +kernel
theorem dX9_turns_48 : decode cX9_turns 48 = .ok (.lstore_n 3, 1) := by decide +kernel
theorem dX9_turns_49 : decode cX9_turns 49 = .ok (.iconst 0, 1) := by decide +kernel
theorem dX9_turns_50 : decode cX9_turns 50 = .ok (.istore 5, 2) := by decide +kernel
theorem dX9_turns_52 : decode cX9_turns 52 = .ok (.iload 5, 2) := by decide +kernel
theorem dX9_turns_54 : decode cX9_turns 54 = .ok (.aload_n 0, 1) := by decide +kernel
theorem dX9_turns_55 : decode cX9_turns 55 = .ok (.getfield 48, 3) := by decide +kernel
theorem dX9_turns_58 : decode cX9_turns 58 = .ok (.arraylength, 1) := by decide +kernel
theorem dX9_turns_59 : decode cX9_turns 59 = .ok (.if_icmp .ge 17, 3) := by decide +kernel
theorem dX9_turns_62 : decode cX9_turns 62 = .ok (.aload_n 0, 1) := by decide +kernel
theorem dX9_turns_63 : decode cX9_turns 63 = .ok (.getfield 48, 3) := by decide +kernel
theorem dX9_turns_66 : decode cX9_turns 66 = .ok (.iload 5, 2) := by decide +kernel
theorem dX9_turns_68 : decode cX9_turns 68 = .ok (.lconst 0, 1) := by decide +kernel
theorem dX9_turns_69 : decode cX9_turns 69 = .ok (.lastore, 1) := by decide +kernel
theorem dX9_turns_70 : decode cX9_turns 70 = .ok (.iinc 5 1, 3) := by decide +kernel
theorem dX9_turns_73 : decode cX9_turns 73 = .ok (.goto (-21), 3) := by decide +kernel
theorem dX9_turns_76 : decode cX9_turns 76 = .ok (.iconst 0, 1) := by decide +kernel
theorem dX9_turns_77 : decode cX9_turns 77 = .ok (.istore 5, 2) := by decide +kernel
theorem dX9_turns_79 : decode cX9_turns 79 = .ok (.iload 5, 2) := by decide +kernel
theorem dX9_turns_81 : decode cX9_turns 81 = .ok (.aload_n 0, 1) := by decide +kernel
theorem dX9_turns_82 : decode cX9_turns 82 = .ok (.getfield 19, 3) := by decide +kernel
theorem dX9_turns_85 : decode cX9_turns 85 = .ok (.if_icmp .ge 53, 3) := by decide +kernel
theorem dX9_turns_88 : decode cX9_turns 88 = .ok (.aload_n 0, 1) := by decide +kernel
theorem dX9_turns_89 : decode cX9_turns 89 = .ok (.aload_n 0, 1) := by decide +kernel
theorem dX9_turns_90 : decode cX9_turns 90 = .ok (.getfield 161, 3) := by decide +kernel
theorem dX9_turns_93 : decode cX9_turns 93 = .ok (.aload_n 0, 1) := by decide +kernel
theorem dX9_turns_94 : decode cX9_turns 94 = .ok (.getfield 164, 3) := by decide +kernel
theorem dX9_turns_97 : decode cX9_turns 97 = .ok (.invokestatic 144, 3) := by decide +kernel
theorem dX9_turns_100 : decode cX9_turns 100 = .ok (.iload 5, 2) := by decide +kernel
theorem dX9_turns_102 : decode cX9_turns 102 = .ok (.invokevirtual 175, 3) := by decide +kernel
theorem dX9_turns_105 : decode cX9_turns 105 = .ok (.istore 6, 2) := by decide +kernel
theorem dX9_turns_107 : decode cX9_turns 107 = .ok (.iload 6, 2) := by decide +kernel
theorem dX9_turns_109 : decode cX9_turns 109 = .ok (.ifCond .lt 23, 3) := by decide +kernel
theorem dX9_turns_112 : decode cX9_turns 112 = .ok (.aload_n 0, 1) := by decide +kernel
theorem dX9_turns_113 : decode cX9_turns 113 = .ok (.getfield 48, 3) := by decide +kernel
theorem dX9_turns_116 : decode cX9_turns 116 = .ok (.bipush 120, 2) := by decide +kernel
theorem dX9_turns_118 : decode cX9_turns 118 = .ok (.iload 6, 2) := by decide +kernel
theorem dX9_turns_120 : decode cX9_turns 120 = .ok (.imul, 1) := by decide +kernel
theorem dX9_turns_121 : decode cX9_turns 121 = .ok (.bipush 15, 2) := by decide +kernel
theorem dX9_turns_123 : decode cX9_turns 123 = .ok (.iload 5, 2) := by decide +kernel
theorem dX9_turns_125 : decode cX9_turns 125 = .ok (.imul, 1) := by decide +kernel
theorem dX9_turns_126 : decode cX9_turns 126 = .ok (.iadd, 1) := by decide +kernel
theorem dX9_turns_127 : decode cX9_turns 127 = .ok (.dup2, 1) := by decide +kernel
theorem dX9_turns_128 : decode cX9_turns 128 = .ok (.laload, 1) := by decide +kernel
theorem dX9_turns_129 : decode cX9_turns 129 = .ok (.lconst 1, 1) := by decide +kernel
theorem dX9_turns_130 : decode cX9_turns 130 = .ok (.ladd, 1) := by decide +kernel
theorem dX9_turns_131 : decode cX9_turns 131 = .ok (.lastore, 1) := by decide +kernel
theorem dX9_turns_132 : decode cX9_turns 132 = .ok (.iinc 5 1, 3) := by decide +kernel
theorem dX9_turns_135 : decode cX9_turns 135 = .ok (.goto (-56), 3) := by decide +kernel
theorem dX9_turns_138 : decode cX9_turns 138 = .ok (.iconst 1, 1) := by decide +kernel
theorem dX9_turns_139 : decode cX9_turns 139 = .ok (.istore 5, 2) := by decide +kernel
theorem dX9_turns_141 : decode cX9_turns 141 = .ok (.iload 5, 2) := by decide +kernel
theorem dX9_turns_143 : decode cX9_turns 143 = .ok (.iload_n 1, 1) := by decide +kernel
theorem dX9_turns_144 : decode cX9_turns 144 = .ok (.if_icmp .ge 112, 3) := by decide +kernel
theorem dX9_turns_147 : decode cX9_turns 147 = .ok (.iconst 0, 1) := by decide +kernel
theorem dX9_turns_148 : decode cX9_turns 148 = .ok (.istore 6, 2) := by decide +kernel
theorem dX9_turns_150 : decode cX9_turns 150 = .ok (.iload 6, 2) := by decide +kernel
theorem dX9_turns_152 : decode cX9_turns 152 = .ok (.aload_n 0, 1) := by decide +kernel
theorem dX9_turns_153 : decode cX9_turns 153 = .ok (.getfield 51, 3) := by decide +kernel
theorem dX9_turns_156 : decode cX9_turns 156 = .ok (.arraylength, 1) := by decide +kernel
theorem dX9_turns_157 : decode cX9_turns 157 = .ok (.if_icmp .ge 17, 3) := by decide +kernel
theorem dX9_turns_160 : decode cX9_turns 160 = .ok (.aload_n 0, 1) := by decide +kernel
theorem dX9_turns_161 : decode cX9_turns 161 = .ok (.getfield 51, 3) := by decide +kernel
theorem dX9_turns_164 : decode cX9_turns 164 = .ok (.iload 6, 2) := by decide +kernel
theorem dX9_turns_166 : decode cX9_turns 166 = .ok (.lconst 0, 1) := by decide +kernel
theorem dX9_turns_167 : decode cX9_turns 167 = .ok (.lastore, 1) := by decide +kernel
theorem dX9_turns_168 : decode cX9_turns 168 = .ok (.iinc 6 1, 3) := by decide +kernel
theorem dX9_turns_171 : decode cX9_turns 171 = .ok (.goto (-21), 3) := by decide +kernel
theorem dX9_turns_174 : decode cX9_turns 174 = .ok (.iconst 0, 1) := by decide +kernel
theorem dX9_turns_175 : decode cX9_turns 175 = .ok (.istore 6, 2) := by decide +kernel
theorem dX9_turns_177 : decode cX9_turns 177 = .ok (.iload 6, 2) := by decide +kernel
theorem dX9_turns_179 : decode cX9_turns 179 = .ok (.sipush 3721, 3) := by decide +kernel
theorem dX9_turns_182 : decode cX9_turns 182 = .ok (.if_icmp .ge 35, 3) := by decide +kernel
theorem dX9_turns_185 : decode cX9_turns 185 = .ok (.iconst 0, 1) := by decide +kernel
theorem dX9_turns_186 : decode cX9_turns 186 = .ok (.istore 7, 2) := by decide +kernel
theorem dX9_turns_188 : decode cX9_turns 188 = .ok (.iload 7, 2) := by decide +kernel
theorem dX9_turns_190 : decode cX9_turns 190 = .ok (.aload_n 0, 1) := by decide +kernel
theorem dX9_turns_191 : decode cX9_turns 191 = .ok (.getfield 19, 3) := by decide +kernel
theorem dX9_turns_194 : decode cX9_turns 194 = .ok (.if_icmp .ge 17, 3) := by decide +kernel
theorem dX9_turns_197 : decode cX9_turns 197 = .ok (.aload_n 0, 1) := by decide +kernel
theorem dX9_turns_198 : decode cX9_turns 198 = .ok (.iload 6, 2) := by decide +kernel
theorem dX9_turns_200 : decode cX9_turns 200 = .ok (.iload 7, 2) := by decide +kernel
theorem dX9_turns_202 : decode cX9_turns 202 = .ok (.invokevirtual 214, 3) := by decide +kernel
theorem dX9_turns_205 : decode cX9_turns 205 = .ok (.iinc 7 1, 3) := by decide +kernel
theorem dX9_turns_208 : decode cX9_turns 208 = .ok (.goto (-20), 3) := by decide +kernel
theorem dX9_turns_211 : decode cX9_turns 211 = .ok (.iinc 6 1, 3) := by decide +kernel
theorem dX9_turns_214 : decode cX9_turns 214 = .ok (.goto (-37), 3) := by decide +kernel
theorem dX9_turns_217 : decode cX9_turns 217 = .ok (.iconst 0, 1) := by decide +kernel
theorem dX9_turns_218 : decode cX9_turns 218 = .ok (.istore 6, 2) := by decide +kernel
theorem dX9_turns_220 : decode cX9_turns 220 = .ok (.iload 6, 2) := by decide +kernel
theorem dX9_turns_222 : decode cX9_turns 222 = .ok (.aload_n 0, 1) := by decide +kernel
theorem dX9_turns_223 : decode cX9_turns 223 = .ok (.getfield 48, 3) := by decide +kernel
theorem dX9_turns_226 : decode cX9_turns 226 = .ok (.arraylength, 1) := by decide +kernel
theorem dX9_turns_227 : decode cX9_turns 227 = .ok (.if_icmp .ge 23, 3) := by decide +kernel
theorem dX9_turns_230 : decode cX9_turns 230 = .ok (.aload_n 0, 1) := by decide +kernel
theorem dX9_turns_231 : decode cX9_turns 231 = .ok (.getfield 48, 3) := by decide +kernel
theorem dX9_turns_234 : decode cX9_turns 234 = .ok (.iload 6, 2) := by decide +kernel
theorem dX9_turns_236 : decode cX9_turns 236 = .ok (.aload_n 0, 1) := by decide +kernel
theorem dX9_turns_237 : decode cX9_turns 237 = .ok (.getfield 51, 3) := by decide +kernel
theorem dX9_turns_240 : decode cX9_turns 240 = .ok (.iload 6, 2) := by decide +kernel
theorem dX9_turns_242 : decode cX9_turns 242 = .ok (.laload, 1) := by decide +kernel
theorem dX9_turns_243 : decode cX9_turns 243 = .ok (.lastore, 1) := by decide +kernel
theorem dX9_turns_244 : decode cX9_turns 244 = .ok (.iinc 6 1, 3) := by decide +kernel
theorem dX9_turns_247 : decode cX9_turns 247 = .ok (.goto (-27), 3) := by decide +kernel
theorem dX9_turns_250 : decode cX9_turns 250 = .ok (.iinc 5 1, 3) := by decide +kernel
theorem dX9_turns_253 : decode cX9_turns 253 = .ok (.goto (-112), 3) := by decide +kernel
theorem dX9_turns_256 : decode cX9_turns 256 = .ok (.iconst 0, 1) := by decide +kernel
theorem dX9_turns_257 : decode cX9_turns 257 = .ok (.istore 5, 2) := by decide +kernel
theorem dX9_turns_259 : decode cX9_turns 259 = .ok (.iload 5, 2) := by decide +kernel
theorem dX9_turns_261 : decode cX9_turns 261 = .ok (.aload_n 0, 1) := by decide +kernel
theorem dX9_turns_262 : decode cX9_turns 262 = .ok (.getfield 19, 3) := by decide +kernel
theorem dX9_turns_265 : decode cX9_turns 265 = .ok (.if_icmp .ge 39, 3) := by decide +kernel
theorem dX9_turns_268 : decode cX9_turns 268 = .ok (.lload_n 3, 1) := by decide +kernel
theorem dX9_turns_269 : decode cX9_turns 269 = .ok (.aload_n 0, 1) := by decide +kernel
theorem dX9_turns_270 : decode cX9_turns 270 = .ok (.getfield 48, 3) := by decide +kernel
theorem dX9_turns_273 : decode cX9_turns 273 = .ok (.bipush 120, 2) := by decide +kernel
theorem dX9_turns_275 : decode cX9_turns 275 = .ok (.aload_n 0, 1) := by decide +kernel
theorem dX9_turns_276 : decode cX9_turns 276 = .ok (.getfield 167, 3) := by decide +kernel
theorem dX9_turns_279 : decode cX9_turns 279 = .ok (.aload_n 0, 1) := by decide +kernel
theorem dX9_turns_280 : decode cX9_turns 280 = .ok (.getfield 170, 3) := by decide +kernel
theorem dX9_turns_283 : decode cX9_turns 283 = .ok (.invokestatic 144, 3) := by decide +kernel
theorem dX9_turns_286 : decode cX9_turns 286 = .ok (.imul, 1) := by decide +kernel
theorem dX9_turns_287 : decode cX9_turns 287 = .ok (.bipush 15, 2) := by decide +kernel
theorem dX9_turns_289 : decode cX9_turns 289 = .ok (.iload 5, 2) := by decide +kernel
theorem dX9_turns_291 : decode cX9_turns 291 = .ok (.imul, 1) := by decide +kernel
theorem dX9_turns_292 : decode cX9_turns 292 = .ok (.iadd, 1) := by decide +kernel
theorem dX9_turns_293 : decode cX9_turns 293 = .ok (.iload_n 2, 1) := by decide +kernel
theorem dX9_turns_294 : decode cX9_turns 294 = .ok (.iadd, 1) := by decide +kernel
theorem dX9_turns_295 : decode cX9_turns 295 = .ok (.laload, 1) := by decide +kernel
theorem dX9_turns_296 : decode cX9_turns 296 = .ok (.ladd, 1) := by decide +kernel
theorem dX9_turns_297 : decode cX9_turns 297 = .ok (.lstore_n 3, 1) := by decide +kernel
theorem dX9_turns_298 : decode cX9_turns 298 = .ok (.iinc 5 1, 3) := by decide +kernel
theorem dX9_turns_301 : decode cX9_turns 301 = .ok (.goto (-42), 3) := by decide +kernel
theorem dX9_turns_304 : decode cX9_turns 304 = .ok (.lload_n 3, 1) := by decide +kernel
theorem dX9_turns_305 : decode cX9_turns 305 = .ok (.lreturn, 1) := by decide +kernel
set_option maxRecDepth 20000 in
theorem ggX9_goesOn_X9_next : GoodIn wsX9_goesOn wsX9_next := goodIn_r _ [8, 9, 10, 11, 12, 13, 14, 7, 15, 16, 17, 18, 19, 20, 21, 22, 23, 24, 25, 26, 27, 28, 29, 30, 31, 32, 33, 34, 35, 36, 37, 38, 39, 40, 41, 42, 43, 44, 45, 46, 47, 48, 49, 50, 51, 52, 53, 54, 55, 56, 57, 58, 59, 60, 61, 62, 63, 64, 65, 66, 67, 68, 69, 70, 71, 72, 73, 74, 75] (by decide +kernel) (by decide +kernel)
set_option maxRecDepth 20000 in
theorem gX9_goesOn_X9_next : GoodIn wsX9_goesOn (wsV RX9 175 RX9 yX9_next wsX9_next) := goodIn_app (goodIn_of _ (by decide +kernel)) ggX9_goesOn_X9_next
theorem dX9_goesOn_0 : decode cX9_goesOn 0 = .ok (.aload_n 0, 1) := by decide +kernel
theorem dX9_goesOn_1 : decode cX9_goesOn 1 = .ok (.iload_n 1, 1) := by decide +kernel
theorem dX9_goesOn_2 : decode cX9_goesOn 2 = .ok (.iload_n 2, 1) := by decide +kernel
theorem dX9_goesOn_3 : decode cX9_goesOn 3 = .ok (.invokevirtual 175, 3) := by decide +kernel
theorem dX9_goesOn_6 : decode cX9_goesOn 6 = .ok (.istore_n 3, 1) := by decide +kernel
theorem dX9_goesOn_7 : decode cX9_goesOn 7 = .ok (.iload_n 3, 1) := by decide +kernel
theorem dX9_goesOn_8 : decode cX9_goesOn 8 = .ok (.ifCond .ge 4, 3) := by decide +kernel
theorem dX9_goesOn_11 : decode cX9_goesOn 11 = .ok (.return_, 1) := by decide +kernel
theorem dX9_goesOn_12 : decode cX9_goesOn 12 = .ok (.iconst 0, 1) := by decide +kernel
theorem dX9_goesOn_13 : decode cX9_goesOn 13 = .ok (.istore 4, 2) := by decide +kernel
theorem dX9_goesOn_15 : decode cX9_goesOn 15 = .ok (.iload 4, 2) := by decide +kernel
theorem dX9_goesOn_17 : decode cX9_goesOn 17 = .ok (.aload_n 0, 1) := by decide +kernel
theorem dX9_goesOn_18 : decode cX9_goesOn 18 = .ok (.getfield 19, 3) := by decide +kernel
theorem dX9_goesOn_21 : decode cX9_goesOn 21 = .ok (.if_icmp .ge 82, 3) := by decide +kernel
theorem dX9_goesOn_24 : decode cX9_goesOn 24 = .ok (.iload 4, 2) := by decide +kernel
theorem dX9_goesOn_26 : decode cX9_goesOn 26 = .ok (.iload_n 2, 1) := by decide +kernel
theorem dX9_goesOn_27 : decode cX9_goesOn 27 = .ok (.if_icmp .ne 7, 3) := by decide +kernel
theorem dX9_goesOn_30 : decode cX9_goesOn 30 = .ok (.iconst 0, 1) := by decide +kernel
theorem dX9_goesOn_31 : decode cX9_goesOn 31 = .ok (.goto 4, 3) := by decide +kernel
theorem dX9_goesOn_34 : decode cX9_goesOn 34 = .ok (.iconst 1, 1) := by decide +kernel
theorem dX9_goesOn_35 : decode cX9_goesOn 35 = .ok (.istore 5, 2) := by decide +kernel
theorem dX9_goesOn_37 : decode cX9_goesOn 37 = .ok (.iconst 0, 1) := by decide +kernel
theorem dX9_goesOn_38 : decode cX9_goesOn 38 = .ok (.istore 6, 2) := by decide +kernel
theorem dX9_goesOn_40 : decode cX9_goesOn 40 = .ok (.iload 6, 2) := by decide +kernel
theorem dX9_goesOn_42 : decode cX9_goesOn 42 = .ok (.iload 5, 2) := by decide +kernel
theorem dX9_goesOn_44 : decode cX9_goesOn 44 = .ok (.iadd, 1) := by decide +kernel
theorem dX9_goesOn_45 : decode cX9_goesOn 45 = .ok (.bipush 15, 2) := by decide +kernel
theorem dX9_goesOn_47 : decode cX9_goesOn 47 = .ok (.if_icmp .ge 50, 3) := by decide +kernel
theorem dX9_goesOn_50 : decode cX9_goesOn 50 = .ok (.aload_n 0, 1) := by decide +kernel
theorem dX9_goesOn_51 : decode cX9_goesOn 51 = .ok (.getfield 51, 3) := by decide +kernel
theorem dX9_goesOn_54 : decode cX9_goesOn 54 = .ok (.bipush 120, 2) := by decide +kernel
theorem dX9_goesOn_56 : decode cX9_goesOn 56 = .ok (.iload_n 3, 1) := by decide +kernel
theorem dX9_goesOn_57 : decode cX9_goesOn 57 = .ok (.imul, 1) := by decide +kernel
theorem dX9_goesOn_58 : decode cX9_goesOn 58 = .ok (.bipush 15, 2) := by decide +kernel
theorem dX9_goesOn_60 : decode cX9_goesOn 60 = .ok (.iload_n 2, 1) := by decide +kernel
theorem dX9_goesOn_61 : decode cX9_goesOn 61 = .ok (.imul, 1) := by decide +kernel
theorem dX9_goesOn_62 : decode cX9_goesOn 62 = .ok (.iadd, 1) := by decide +kernel
theorem dX9_goesOn_63 : decode cX9_goesOn 63 = .ok (.iload 6, 2) := by decide +kernel
theorem dX9_goesOn_65 : decode cX9_goesOn 65 = .ok (.iadd, 1) := by decide +kernel
theorem dX9_goesOn_66 : decode cX9_goesOn 66 = .ok (.iload 5, 2) := by decide +kernel
theorem dX9_goesOn_68 : decode cX9_goesOn 68 = .ok (.iadd, 1) := by decide +kernel
theorem dX9_goesOn_69 : decode cX9_goesOn 69 = .ok (.dup2, 1) := by decide +kernel
theorem dX9_goesOn_70 : decode cX9_goesOn 70 = .ok (.laload, 1) := by decide +kernel
theorem dX9_goesOn_71 : decode cX9_goesOn 71 = .ok (.aload_n 0, 1) := by decide +kernel
theorem dX9_goesOn_72 : decode cX9_goesOn 72 = .ok (.getfield 48, 3) := by decide +kernel
theorem dX9_goesOn_75 : decode cX9_goesOn 75 = .ok (.bipush 120, 2) := by decide +kernel
theorem dX9_goesOn_77 : decode cX9_goesOn 77 = .ok (.iload_n 1, 1) := by decide +kernel
theorem dX9_goesOn_78 : decode cX9_goesOn 78 = .ok (.imul, 1) := by decide +kernel
theorem dX9_goesOn_79 : decode cX9_goesOn 79 = .ok (.bipush 15, 2) := by decide +kernel
theorem dX9_goesOn_81 : decode cX9_goesOn 81 = .ok (.iload 4, 2) := by decide +kernel
theorem dX9_goesOn_83 : decode cX9_goesOn 83 = .ok (.imul, 1) := by decide +kernel
theorem dX9_goesOn_84 : decode cX9_goesOn 84 = .ok (.iadd, 1) := by decide +kernel
theorem dX9_goesOn_85 : decode cX9_goesOn 85 = .ok (.iload 6, 2) := by decide +kernel
theorem dX9_goesOn_87 : decode cX9_goesOn 87 = .ok (.iadd, 1) := by decide +kernel
theorem dX9_goesOn_88 : decode cX9_goesOn 88 = .ok (.laload, 1) := by decide +kernel
theorem dX9_goesOn_89 : decode cX9_goesOn 89 = .ok (.ladd, 1) := by decide +kernel
theorem dX9_goesOn_90 : decode cX9_goesOn 90 = .ok (.lastore, 1) := by decide +kernel
theorem dX9_goesOn_91 : decode cX9_goesOn 91 = .ok (.iinc 6 1, 3) := by decide +kernel
theorem dX9_goesOn_94 : decode cX9_goesOn 94 = .ok (.goto (-54), 3) := by decide +kernel
theorem dX9_goesOn_97 : decode cX9_goesOn 97 = .ok (.iinc 4 1, 3) := by decide +kernel
theorem dX9_goesOn_100 : decode cX9_goesOn 100 = .ok (.goto (-85), 3) := by decide +kernel
theorem dX9_goesOn_103 : decode cX9_goesOn 103 = .ok (.return_, 1) := by decide +kernel
set_option maxRecDepth 20000 in
theorem ggX9_best_X9_weighed : GoodIn wsX9_best wsX9_weighed := goodIn_r _ [13, 14, 15, 16, 12, 17, 18, 19, 20, 21, 22, 4, 5, 7, 8, 23, 24, 25, 26, 27, 28, 29, 30, 31, 32, 33, 34, 35, 36, 37, 38, 39, 76, 77, 78, 79, 80, 81, 82, 83, 84, 85, 86, 87, 88, 89, 90, 91, 92, 93, 94, 95, 96, 97, 98, 99, 100, 101, 102, 103, 104, 105, 106, 107, 108, 109, 110, 111, 112, 113, 114, 115, 116] (by decide +kernel) (by decide +kernel)
set_option maxRecDepth 20000 in
theorem gX9_best_X9_weighed : GoodIn wsX9_best (wsV RX9 197 RX9 yX9_weighed wsX9_weighed) := goodIn_app (goodIn_of _ (by decide +kernel)) ggX9_best_X9_weighed
set_option maxRecDepth 20000 in
theorem ggX9_best_X9_squareOf : GoodIn wsX9_best wsX9_squareOf := goodIn_r _ [39] (by decide +kernel) (by decide +kernel)
set_option maxRecDepth 20000 in
theorem gX9_best_X9_squareOf : GoodIn wsX9_best (va_wsS RX9 144 yX9_squareOf wsX9_squareOf) := goodIn_app (goodIn_of _ (by decide +kernel)) ggX9_best_X9_squareOf
set_option maxRecDepth 20000 in
theorem ggX9_best_X9_lightens : GoodIn wsX9_best wsX9_lightens := goodIn_r _ [43, 44, 3, 6, 45, 46, 47, 12, 48, 49, 50, 18, 36, 51, 52, 53, 54, 55, 56, 23, 24, 25, 26, 27, 28, 29, 30, 31, 32, 33, 34, 35, 37, 38, 39, 57, 58, 59, 60, 61, 62, 63, 64, 65, 66, 67, 68, 69, 70, 71, 76, 77, 78, 79, 80, 81, 82, 83, 84, 85, 86, 87, 88, 89, 90, 91, 92, 93, 94, 95, 96, 97, 98, 99, 100, 101, 102, 103, 104, 105, 106, 107, 108, 109, 110, 111, 112, 113, 114, 115, 116] (by decide +kernel) (by decide +kernel)
set_option maxRecDepth 20000 in
theorem gX9_best_X9_lightens : GoodIn wsX9_best (wsV RX9 218 RX9 yX9_lightens wsX9_lightens) := goodIn_app (goodIn_of _ (by decide +kernel)) ggX9_best_X9_lightens
set_option maxRecDepth 20000 in
theorem ggX9_best_X9_better : GoodIn wsX9_best wsX9_better := goodIn_r _ [64, 65, 66, 67, 68, 69, 70, 71] (by decide +kernel) (by decide +kernel)
set_option maxRecDepth 20000 in
theorem gX9_best_X9_better : GoodIn wsX9_best (va_wsS RX9 222 yX9_better wsX9_better) := goodIn_app (goodIn_of _ (by decide +kernel)) ggX9_best_X9_better
set_option maxRecDepth 20000 in
theorem ggX9_best_X9_refuse : GoodIn wsX9_best wsX9_refuse := goodIn_r _ [75, 2, 76, 77, 78, 79, 80, 81, 82, 83, 84, 85, 86, 87, 88, 89, 90, 91, 92, 93, 94, 95, 96, 97, 98, 99, 100, 101, 102, 103, 104, 105, 106, 107, 108, 109, 110, 111, 112, 113, 114, 115, 116] (by decide +kernel) (by decide +kernel)
set_option maxRecDepth 20000 in
theorem gX9_best_X9_refuse : GoodIn wsX9_best (wsV RX9 156 RX9 yX9_refuse wsX9_refuse) := goodIn_app (goodIn_of _ (by decide +kernel)) ggX9_best_X9_refuse
theorem dX9_best_0 : decode cX9_best 0 = .ok (.aload_n 0, 1) := by decide +kernel
theorem dX9_best_1 : decode cX9_best 1 = .ok (.iconst 0, 1) := by decide +kernel
theorem dX9_best_2 : decode cX9_best 2 = .ok (.putfield 112, 3) := by decide +kernel
theorem dX9_best_5 : decode cX9_best 5 = .ok (.aload_n 0, 1) := by decide +kernel
theorem dX9_best_6 : decode cX9_best 6 = .ok (.aload_n 0, 1) := by decide +kernel
theorem dX9_best_7 : decode cX9_best 7 = .ok (.iload_n 1, 1) := by decide +kernel
theorem dX9_best_8 : decode cX9_best 8 = .ok (.iload_n 2, 1) := by decide +kernel
theorem dX9_best_9 : decode cX9_best 9 = .ok (.invokevirtual 197, 3) := by decide +kernel
theorem dX9_best_12 : decode cX9_best 12 = .ok (.putfield 115, 3) := by decide +kernel
theorem dX9_best_15 : decode cX9_best 15 = .ok (.aload_n 0, 1) := by decide +kernel
theorem dX9_best_16 : decode cX9_best 16 = .ok (.getfield 115, 3) := by decide +kernel
theorem dX9_best_19 : decode cX9_best 19 = .ok (.ifCond .le 5, 3) := by decide +kernel
theorem dX9_best_22 : decode cX9_best 22 = .ok (.iconst (-1), 1) := by decide +kernel
theorem dX9_best_23 : decode cX9_best 23 = .ok (.ireturn, 1) := by decide +kernel
theorem dX9_best_24 : decode cX9_best 24 = .ok (.iconst 0, 1) := by decide +kernel
theorem dX9_best_25 : decode cX9_best 25 = .ok (.istore 4, 2) := by decide +kernel
theorem dX9_best_27 : decode cX9_best 27 = .ok (.iload 4, 2) := by decide +kernel
theorem dX9_best_29 : decode cX9_best 29 = .ok (.aload_n 0, 1) := by decide +kernel
theorem dX9_best_30 : decode cX9_best 30 = .ok (.getfield 54, 3) := by decide +kernel
theorem dX9_best_33 : decode cX9_best 33 = .ok (.arraylength, 1) := by decide +kernel
theorem dX9_best_34 : decode cX9_best 34 = .ok (.if_icmp .ge 17, 3) := by decide +kernel
theorem dX9_best_37 : decode cX9_best 37 = .ok (.aload_n 0, 1) := by decide +kernel
theorem dX9_best_38 : decode cX9_best 38 = .ok (.getfield 54, 3) := by decide +kernel
theorem dX9_best_41 : decode cX9_best 41 = .ok (.iload 4, 2) := by decide +kernel
theorem dX9_best_43 : decode cX9_best 43 = .ok (.iconst (-1), 1) := by decide +kernel
theorem dX9_best_44 : decode cX9_best 44 = .ok (.iastore, 1) := by decide +kernel
theorem dX9_best_45 : decode cX9_best 45 = .ok (.iinc 4 1, 3) := by decide +kernel
theorem dX9_best_48 : decode cX9_best 48 = .ok (.goto (-21), 3) := by decide +kernel
theorem dX9_best_51 : decode cX9_best 51 = .ok (.aload_n 0, 1) := by decide +kernel
theorem dX9_best_52 : decode cX9_best 52 = .ok (.getfield 54, 3) := by decide +kernel
theorem dX9_best_55 : decode cX9_best 55 = .ok (.bipush 8, 2) := by decide +kernel
theorem dX9_best_57 : decode cX9_best 57 = .ok (.aload_n 0, 1) := by decide +kernel
theorem dX9_best_58 : decode cX9_best 58 = .ok (.getfield 161, 3) := by decide +kernel
theorem dX9_best_61 : decode cX9_best 61 = .ok (.aload_n 0, 1) := by decide +kernel
theorem dX9_best_62 : decode cX9_best 62 = .ok (.getfield 164, 3) := by decide +kernel
theorem dX9_best_65 : decode cX9_best 65 = .ok (.invokestatic 144, 3) := by decide +kernel
theorem dX9_best_68 : decode cX9_best 68 = .ok (.imul, 1) := by decide +kernel
theorem dX9_best_69 : decode cX9_best 69 = .ok (.iconst 0, 1) := by decide +kernel
theorem dX9_best_70 : decode cX9_best 70 = .ok (.iastore, 1) := by decide +kernel
theorem dX9_best_71 : decode cX9_best 71 = .ok (.iconst 0, 1) := by decide +kernel
theorem dX9_best_72 : decode cX9_best 72 = .ok (.istore 4, 2) := by decide +kernel
theorem dX9_best_74 : decode cX9_best 74 = .ok (.iload 4, 2) := by decide +kernel
theorem dX9_best_76 : decode cX9_best 76 = .ok (.iload_n 2, 1) := by decide +kernel
theorem dX9_best_77 : decode cX9_best 77 = .ok (.if_icmp .ge 130, 3) := by decide +kernel
theorem dX9_best_80 : decode cX9_best 80 = .ok (.iconst 0, 1) := by decide +kernel
theorem dX9_best_81 : decode cX9_best 81 = .ok (.istore 5, 2) := by decide +kernel
theorem dX9_best_83 : decode cX9_best 83 = .ok (.iload 5, 2) := by decide +kernel
theorem dX9_best_85 : decode cX9_best 85 = .ok (.aload_n 0, 1) := by decide +kernel
theorem dX9_best_86 : decode cX9_best 86 = .ok (.getfield 54, 3) := by decide +kernel
theorem dX9_best_89 : decode cX9_best 89 = .ok (.arraylength, 1) := by decide +kernel
theorem dX9_best_90 : decode cX9_best 90 = .ok (.if_icmp .ge 17, 3) := by decide +kernel
theorem dX9_best_93 : decode cX9_best 93 = .ok (.aload_n 0, 1) := by decide +kernel
theorem dX9_best_94 : decode cX9_best 94 = .ok (.getfield 57, 3) := by decide +kernel
theorem dX9_best_97 : decode cX9_best 97 = .ok (.iload 5, 2) := by decide +kernel
theorem dX9_best_99 : decode cX9_best 99 = .ok (.iconst (-1), 1) := by decide +kernel
theorem dX9_best_100 : decode cX9_best 100 = .ok (.iastore, 1) := by decide +kernel
theorem dX9_best_101 : decode cX9_best 101 = .ok (.iinc 5 1, 3) := by decide +kernel
theorem dX9_best_104 : decode cX9_best 104 = .ok (.goto (-21), 3) := by decide +kernel
theorem dX9_best_107 : decode cX9_best 107 = .ok (.iconst 0, 1) := by decide +kernel
theorem dX9_best_108 : decode cX9_best 108 = .ok (.istore 5, 2) := by decide +kernel
theorem dX9_best_110 : decode cX9_best 110 = .ok (.iload 5, 2) := by decide +kernel
theorem dX9_best_112 : decode cX9_best 112 = .ok (.sipush 3721, 3) := by decide +kernel
theorem dX9_best_115 : decode cX9_best 115 = .ok (.if_icmp .ge 53, 3) := by decide +kernel
theorem dX9_best_118 : decode cX9_best 118 = .ok (.iconst 0, 1) := by decide +kernel
theorem dX9_best_119 : decode cX9_best 119 = .ok (.istore 6, 2) := by decide +kernel
theorem dX9_best_121 : decode cX9_best 121 = .ok (.iload 6, 2) := by decide +kernel
theorem dX9_best_123 : decode cX9_best 123 = .ok (.bipush 8, 2) := by decide +kernel
theorem dX9_best_125 : decode cX9_best 125 = .ok (.if_icmp .ge 37, 3) := by decide +kernel
theorem dX9_best_128 : decode cX9_best 128 = .ok (.aload_n 0, 1) := by decide +kernel
theorem dX9_best_129 : decode cX9_best 129 = .ok (.getfield 54, 3) := by decide +kernel
theorem dX9_best_132 : decode cX9_best 132 = .ok (.bipush 8, 2) := by decide +kernel
theorem dX9_best_134 : decode cX9_best 134 = .ok (.iload 5, 2) := by decide +kernel
theorem dX9_best_136 : decode cX9_best 136 = .ok (.imul, 1) := by decide +kernel
theorem dX9_best_137 : decode cX9_best 137 = .ok (.iload 6, 2) := by decide +kernel
theorem dX9_best_139 : decode cX9_best 139 = .ok (.iadd, 1) := by decide +kernel
theorem dX9_best_140 : decode cX9_best 140 = .ok (.iaload, 1) := by decide +kernel
theorem dX9_best_141 : decode cX9_best 141 = .ok (.ifCond .lt 15, 3) := by decide +kernel
theorem dX9_best_144 : decode cX9_best 144 = .ok (.aload_n 0, 1) := by decide +kernel
theorem dX9_best_145 : decode cX9_best 145 = .ok (.iload_n 1, 1) := by decide +kernel
theorem dX9_best_146 : decode cX9_best 146 = .ok (.iload 5, 2) := by decide +kernel
theorem dX9_best_148 : decode cX9_best 148 = .ok (.iload 6, 2) := by decide +kernel
theorem dX9_best_150 : decode cX9_best 150 = .ok (.iload 4, 2) := by decide +kernel
theorem dX9_best_152 : decode cX9_best 152 = .ok (.iload_n 3, 1) := by decide +kernel
theorem dX9_best_153 : decode cX9_best 153 = .ok (.invokevirtual 218, 3) := by decide +kernel
theorem dX9_best_156 : decode cX9_best 156 = .ok (.iinc 6 1, 3) := by decide +kernel
theorem dX9_best_159 : decode cX9_best 159 = .ok (.goto (-38), 3) := by decide +kernel
theorem dX9_best_162 : decode cX9_best 162 = .ok (.iinc 5 1, 3) := by decide +kernel
theorem dX9_best_165 : decode cX9_best 165 = .ok (.goto (-55), 3) := by decide +kernel
theorem dX9_best_168 : decode cX9_best 168 = .ok (.iconst 0, 1) := by decide +kernel
theorem dX9_best_169 : decode cX9_best 169 = .ok (.istore 5, 2) := by decide +kernel
theorem dX9_best_171 : decode cX9_best 171 = .ok (.iload 5, 2) := by decide +kernel
theorem dX9_best_173 : decode cX9_best 173 = .ok (.aload_n 0, 1) := by decide +kernel
theorem dX9_best_174 : decode cX9_best 174 = .ok (.getfield 54, 3) := by decide +kernel
theorem dX9_best_177 : decode cX9_best 177 = .ok (.arraylength, 1) := by decide +kernel
theorem dX9_best_178 : decode cX9_best 178 = .ok (.if_icmp .ge 23, 3) := by decide +kernel
theorem dX9_best_181 : decode cX9_best 181 = .ok (.aload_n 0, 1) := by decide +kernel
theorem dX9_best_182 : decode cX9_best 182 = .ok (.getfield 54, 3) := by decide +kernel
theorem dX9_best_185 : decode cX9_best 185 = .ok (.iload 5, 2) := by decide +kernel
theorem dX9_best_187 : decode cX9_best 187 = .ok (.aload_n 0, 1) := by decide +kernel
theorem dX9_best_188 : decode cX9_best 188 = .ok (.getfield 57, 3) := by decide +kernel
theorem dX9_best_191 : decode cX9_best 191 = .ok (.iload 5, 2) := by decide +kernel
theorem dX9_best_193 : decode cX9_best 193 = .ok (.iaload, 1) := by decide +kernel
theorem dX9_best_194 : decode cX9_best 194 = .ok (.iastore, 1) := by decide +kernel
theorem dX9_best_195 : decode cX9_best 195 = .ok (.iinc 5 1, 3) := by decide +kernel
theorem dX9_best_198 : decode cX9_best 198 = .ok (.goto (-27), 3) := by decide +kernel
theorem dX9_best_201 : decode cX9_best 201 = .ok (.iinc 4 1, 3) := by decide +kernel
theorem dX9_best_204 : decode cX9_best 204 = .ok (.goto (-130), 3) := by decide +kernel
theorem dX9_best_207 : decode cX9_best 207 = .ok (.iconst (-1), 1) := by decide +kernel
theorem dX9_best_208 : decode cX9_best 208 = .ok (.istore 4, 2) := by decide +kernel
theorem dX9_best_210 : decode cX9_best 210 = .ok (.iconst 0, 1) := by decide +kernel
theorem dX9_best_211 : decode cX9_best 211 = .ok (.istore 5, 2) := by decide +kernel
theorem dX9_best_213 : decode cX9_best 213 = .ok (.iload 5, 2) := by decide +kernel
theorem dX9_best_215 : decode cX9_best 215 = .ok (.bipush 8, 2) := by decide +kernel
theorem dX9_best_217 : decode cX9_best 217 = .ok (.if_icmp .ge 39, 3) := by decide +kernel
theorem dX9_best_220 : decode cX9_best 220 = .ok (.iload 4, 2) := by decide +kernel
theorem dX9_best_222 : decode cX9_best 222 = .ok (.aload_n 0, 1) := by decide +kernel
theorem dX9_best_223 : decode cX9_best 223 = .ok (.getfield 54, 3) := by decide +kernel
theorem dX9_best_226 : decode cX9_best 226 = .ok (.bipush 8, 2) := by decide +kernel
theorem dX9_best_228 : decode cX9_best 228 = .ok (.aload_n 0, 1) := by decide +kernel
theorem dX9_best_229 : decode cX9_best 229 = .ok (.getfield 167, 3) := by decide +kernel
theorem dX9_best_232 : decode cX9_best 232 = .ok (.aload_n 0, 1) := by decide +kernel
theorem dX9_best_233 : decode cX9_best 233 = .ok (.getfield 170, 3) := by decide +kernel
theorem dX9_best_236 : decode cX9_best 236 = .ok (.invokestatic 144, 3) := by decide +kernel
theorem dX9_best_239 : decode cX9_best 239 = .ok (.imul, 1) := by decide +kernel
theorem dX9_best_240 : decode cX9_best 240 = .ok (.iload 5, 2) := by decide +kernel
theorem dX9_best_242 : decode cX9_best 242 = .ok (.iadd, 1) := by decide +kernel
theorem dX9_best_243 : decode cX9_best 243 = .ok (.iaload, 1) := by decide +kernel
theorem dX9_best_244 : decode cX9_best 244 = .ok (.iload_n 3, 1) := by decide +kernel
theorem dX9_best_245 : decode cX9_best 245 = .ok (.invokestatic 222, 3) := by decide +kernel
theorem dX9_best_248 : decode cX9_best 248 = .ok (.istore 4, 2) := by decide +kernel
theorem dX9_best_250 : decode cX9_best 250 = .ok (.iinc 5 1, 3) := by decide +kernel
theorem dX9_best_253 : decode cX9_best 253 = .ok (.goto (-40), 3) := by decide +kernel
theorem dX9_best_256 : decode cX9_best 256 = .ok (.iload 4, 2) := by decide +kernel
theorem dX9_best_258 : decode cX9_best 258 = .ok (.ifCond .ge 12, 3) := by decide +kernel
theorem dX9_best_261 : decode cX9_best 261 = .ok (.aload_n 0, 1) := by decide +kernel
theorem dX9_best_262 : decode cX9_best 262 = .ok (.bipush 8, 2) := by decide +kernel
theorem dX9_best_264 : decode cX9_best 264 = .ok (.invokevirtual 156, 3) := by decide +kernel
theorem dX9_best_267 : decode cX9_best 267 = .ok (.goto 5, 3) := by decide +kernel
theorem dX9_best_270 : decode cX9_best 270 = .ok (.iload 4, 2) := by decide +kernel
theorem dX9_best_272 : decode cX9_best 272 = .ok (.ireturn, 1) := by decide +kernel
theorem dX9_better_0 : decode cX9_better 0 = .ok (.iload_n 0, 1) := by decide +kernel
theorem dX9_better_1 : decode cX9_better 1 = .ok (.ifCond .lt 7, 3) := by decide +kernel
theorem dX9_better_4 : decode cX9_better 4 = .ok (.iload_n 1, 1) := by decide +kernel
theorem dX9_better_5 : decode cX9_better 5 = .ok (.ifCond .ge 9, 3) := by decide +kernel
theorem dX9_better_8 : decode cX9_better 8 = .ok (.iload_n 0, 1) := by decide +kernel
theorem dX9_better_9 : decode cX9_better 9 = .ok (.iload_n 1, 1) := by decide +kernel
theorem dX9_better_10 : decode cX9_better 10 = .ok (.invokestatic 226, 3) := by decide +kernel
theorem dX9_better_13 : decode cX9_better 13 = .ok (.ireturn, 1) := by decide +kernel
theorem dX9_better_14 : decode cX9_better 14 = .ok (.iload_n 2, 1) := by decide +kernel
theorem dX9_better_15 : decode cX9_better 15 = .ok (.ifCond .eq 11, 3) := by decide +kernel
theorem dX9_better_18 : decode cX9_better 18 = .ok (.iload_n 0, 1) := by decide +kernel
theorem dX9_better_19 : decode cX9_better 19 = .ok (.iload_n 1, 1) := by decide +kernel
theorem dX9_better_20 : decode cX9_better 20 = .ok (.invokestatic 226, 3) := by decide +kernel
theorem dX9_better_23 : decode cX9_better 23 = .ok (.goto 8, 3) := by decide +kernel
theorem dX9_better_26 : decode cX9_better 26 = .ok (.iload_n 0, 1) := by decide +kernel
theorem dX9_better_27 : decode cX9_better 27 = .ok (.iload_n 1, 1) := by decide +kernel
theorem dX9_better_28 : decode cX9_better 28 = .ok (.invokestatic 231, 3) := by decide +kernel
theorem dX9_better_31 : decode cX9_better 31 = .ok (.ireturn, 1) := by decide +kernel
set_option maxRecDepth 20000 in
theorem ggX9_lightens_X9_next : GoodIn wsX9_lightens wsX9_next := goodIn_r _ [8, 9, 10, 11, 12, 13, 14, 7, 15, 16, 17, 18, 19, 20, 21, 22, 23, 24, 25, 26, 27, 28, 29, 30, 31, 32, 33, 34, 50, 51, 52, 53, 54, 55, 56, 57, 58, 59, 60, 61, 62, 63, 64, 65, 66, 67, 68, 69, 70, 71, 72, 73, 74, 75, 76, 77, 78, 79, 80, 81, 82, 83, 84, 85, 86, 87, 88, 89, 90] (by decide +kernel) (by decide +kernel)
set_option maxRecDepth 20000 in
theorem gX9_lightens_X9_next : GoodIn wsX9_lightens (wsV RX9 175 RX9 yX9_next wsX9_next) := goodIn_app (goodIn_of _ (by decide +kernel)) ggX9_lightens_X9_next
set_option maxRecDepth 20000 in
theorem ggX9_lightens_X9_adds : GoodIn wsX9_lightens wsX9_adds := goodIn_r _ [38, 39, 16, 17, 7, 18, 50, 51, 52, 53, 54, 55, 56, 57, 58, 59, 60, 61, 62, 63, 64, 65, 66, 67, 68, 69, 70, 71, 72, 73, 74, 75, 76, 77, 78, 79, 80, 81, 82, 83, 84, 85, 86, 87, 88, 89, 90] (by decide +kernel) (by decide +kernel)
set_option maxRecDepth 20000 in
theorem gX9_lightens_X9_adds : GoodIn wsX9_lightens (wsV RX9 210 RX9 yX9_adds wsX9_adds) := goodIn_app (goodIn_of _ (by decide +kernel)) ggX9_lightens_X9_adds
set_option maxRecDepth 20000 in
theorem ggX9_lightens_X9_better : GoodIn wsX9_lightens wsX9_better := goodIn_r _ [42, 43, 44, 45, 46, 47, 48, 49] (by decide +kernel) (by decide +kernel)
set_option maxRecDepth 20000 in
theorem gX9_lightens_X9_better : GoodIn wsX9_lightens (va_wsS RX9 222 yX9_better wsX9_better) := goodIn_app (goodIn_of _ (by decide +kernel)) ggX9_lightens_X9_better
theorem dX9_lightens_0 : decode cX9_lightens 0 = .ok (.iconst 0, 1) := by decide +kernel
theorem dX9_lightens_1 : decode cX9_lightens 1 = .ok (.istore 6, 2) := by decide +kernel
theorem dX9_lightens_3 : decode cX9_lightens 3 = .ok (.iload 6, 2) := by decide +kernel
theorem dX9_lightens_5 : decode cX9_lightens 5 = .ok (.aload_n 0, 1) := by decide +kernel
theorem dX9_lightens_6 : decode cX9_lightens 6 = .ok (.getfield 19, 3) := by decide +kernel
theorem dX9_lightens_9 : decode cX9_lightens 9 = .ok (.if_icmp .ge 92, 3) := by decide +kernel
theorem dX9_lightens_12 : decode cX9_lightens 12 = .ok (.aload_n 0, 1) := by decide +kernel
theorem dX9_lightens_13 : decode cX9_lightens 13 = .ok (.iload_n 2, 1) := by decide +kernel
theorem dX9_lightens_14 : decode cX9_lightens 14 = .ok (.iload 6, 2) := by decide +kernel
theorem dX9_lightens_16 : decode cX9_lightens 16 = .ok (.invokevirtual 175, 3) := by decide +kernel
theorem dX9_lightens_19 : decode cX9_lightens 19 = .ok (.istore 7, 2) := by decide +kernel
theorem dX9_lightens_21 : decode cX9_lightens 21 = .ok (.iload 7, 2) := by decide +kernel
theorem dX9_lightens_23 : decode cX9_lightens 23 = .ok (.ifCond .ge 6, 3) := by decide +kernel
theorem dX9_lightens_26 : decode cX9_lightens 26 = .ok (.goto 69, 3) := by decide +kernel
theorem dX9_lightens_29 : decode cX9_lightens 29 = .ok (.aload_n 0, 1) := by decide +kernel
theorem dX9_lightens_30 : decode cX9_lightens 30 = .ok (.getfield 54, 3) := by decide +kernel
theorem dX9_lightens_33 : decode cX9_lightens 33 = .ok (.bipush 8, 2) := by decide +kernel
theorem dX9_lightens_35 : decode cX9_lightens 35 = .ok (.iload_n 2, 1) := by decide +kernel
theorem dX9_lightens_36 : decode cX9_lightens 36 = .ok (.imul, 1) := by decide +kernel
theorem dX9_lightens_37 : decode cX9_lightens 37 = .ok (.iload_n 3, 1) := by decide +kernel
theorem dX9_lightens_38 : decode cX9_lightens 38 = .ok (.iadd, 1) := by decide +kernel
theorem dX9_lightens_39 : decode cX9_lightens 39 = .ok (.iaload, 1) := by decide +kernel
theorem dX9_lightens_40 : decode cX9_lightens 40 = .ok (.aload_n 0, 1) := by decide +kernel
theorem dX9_lightens_41 : decode cX9_lightens 41 = .ok (.iload_n 1, 1) := by decide +kernel
theorem dX9_lightens_42 : decode cX9_lightens 42 = .ok (.iload 6, 2) := by decide +kernel
theorem dX9_lightens_44 : decode cX9_lightens 44 = .ok (.iload 7, 2) := by decide +kernel
theorem dX9_lightens_46 : decode cX9_lightens 46 = .ok (.iload 4, 2) := by decide +kernel
theorem dX9_lightens_48 : decode cX9_lightens 48 = .ok (.ifCond .ne 7, 3) := by decide +kernel
theorem dX9_lightens_51 : decode cX9_lightens 51 = .ok (.iconst (-1), 1) := by decide +kernel
theorem dX9_lightens_52 : decode cX9_lightens 52 = .ok (.goto 4, 3) := by decide +kernel
theorem dX9_lightens_55 : decode cX9_lightens 55 = .ok (.iload_n 3, 1) := by decide +kernel
theorem dX9_lightens_56 : decode cX9_lightens 56 = .ok (.invokevirtual 210, 3) := by decide +kernel
theorem dX9_lightens_59 : decode cX9_lightens 59 = .ok (.iadd, 1) := by decide +kernel
theorem dX9_lightens_60 : decode cX9_lightens 60 = .ok (.istore 8, 2) := by decide +kernel
theorem dX9_lightens_62 : decode cX9_lightens 62 = .ok (.aload_n 0, 1) := by decide +kernel
theorem dX9_lightens_63 : decode cX9_lightens 63 = .ok (.getfield 57, 3) := by decide +kernel
theorem dX9_lightens_66 : decode cX9_lightens 66 = .ok (.bipush 8, 2) := by decide +kernel
theorem dX9_lightens_68 : decode cX9_lightens 68 = .ok (.iload 7, 2) := by decide +kernel
theorem dX9_lightens_70 : decode cX9_lightens 70 = .ok (.imul, 1) := by decide +kernel
theorem dX9_lightens_71 : decode cX9_lightens 71 = .ok (.iload 6, 2) := by decide +kernel
theorem dX9_lightens_73 : decode cX9_lightens 73 = .ok (.iadd, 1) := by decide +kernel
theorem dX9_lightens_74 : decode cX9_lightens 74 = .ok (.aload_n 0, 1) := by decide +kernel
theorem dX9_lightens_75 : decode cX9_lightens 75 = .ok (.getfield 57, 3) := by decide +kernel
theorem dX9_lightens_78 : decode cX9_lightens 78 = .ok (.bipush 8, 2) := by decide +kernel
theorem dX9_lightens_80 : decode cX9_lightens 80 = .ok (.iload 7, 2) := by decide +kernel
theorem dX9_lightens_82 : decode cX9_lightens 82 = .ok (.imul, 1) := by decide +kernel
theorem dX9_lightens_83 : decode cX9_lightens 83 = .ok (.iload 6, 2) := by decide +kernel
theorem dX9_lightens_85 : decode cX9_lightens 85 = .ok (.iadd, 1) := by decide +kernel
theorem dX9_lightens_86 : decode cX9_lightens 86 = .ok (.iaload, 1) := by decide +kernel
theorem dX9_lightens_87 : decode cX9_lightens 87 = .ok (.iload 8, 2) := by decide +kernel
theorem dX9_lightens_89 : decode cX9_lightens 89 = .ok (.iload 5, 2) := by decide +kernel
theorem dX9_lightens_91 : decode cX9_lightens 91 = .ok (.invokestatic 222, 3) := by decide +kernel
theorem dX9_lightens_94 : decode cX9_lightens 94 = .ok (.iastore, 1) := by decide +kernel
theorem dX9_lightens_95 : decode cX9_lightens 95 = .ok (.iinc 6 1, 3) := by decide +kernel
theorem dX9_lightens_98 : decode cX9_lightens 98 = .ok (.goto (-95), 3) := by decide +kernel
theorem dX9_lightens_101 : decode cX9_lightens 101 = .ok (.return_, 1) := by decide +kernel
set_option maxRecDepth 20000 in
theorem ggX9_walk_X9_refuse : GoodIn wsX9_walk wsX9_refuse := goodIn_r _ [13, 2, 62, 63, 64, 65, 66, 67, 68, 69, 70, 71, 72, 73, 74, 75, 76, 77, 78, 79, 80, 81, 82, 83, 84, 85, 86, 87, 88, 89, 90, 91, 92, 93, 94, 95, 96, 97, 98, 99, 100, 101, 102] (by decide +kernel) (by decide +kernel)
set_option maxRecDepth 20000 in
theorem gX9_walk_X9_refuse : GoodIn wsX9_walk (wsV RX9 156 RX9 yX9_refuse wsX9_refuse) := goodIn_app (goodIn_of _ (by decide +kernel)) ggX9_walk_X9_refuse
set_option maxRecDepth 20000 in
theorem ggX9_walk_X9_areOpen : GoodIn wsX9_walk wsX9_areOpen := goodIn_r _ [17, 5, 6, 18, 19, 20, 21, 22, 12, 23, 24, 25, 26, 27, 28, 29, 30, 31, 32, 33, 34, 35, 36, 37, 62, 63, 64, 65, 66, 67, 68, 69, 70, 71, 72, 73, 74, 75, 76, 77, 78, 79, 80, 81, 82, 83, 84, 85, 86, 87, 88, 89, 90, 91, 92, 93, 94, 95, 96, 97, 98, 99, 100, 101, 102] (by decide +kernel) (by decide +kernel)
set_option maxRecDepth 20000 in
theorem gX9_walk_X9_areOpen : GoodIn wsX9_walk (wsV RX9 186 RX9 yX9_areOpen wsX9_areOpen) := goodIn_app (goodIn_of _ (by decide +kernel)) ggX9_walk_X9_areOpen
set_option maxRecDepth 20000 in
theorem ggX9_walk_X9_countOf : GoodIn wsX9_walk wsX9_countOf := goodIn_r _ [41, 7, 5, 6, 42, 43, 44, 12, 45, 18, 19, 46, 47, 48, 49, 50, 51, 52, 20, 21, 22, 23, 24, 25, 26, 27, 28, 29, 30, 31, 32, 33, 34, 35, 36, 37, 53, 54, 55, 56, 57, 58, 59, 60, 61, 3, 62, 63, 64, 65, 66, 67, 68, 69, 70, 71, 72, 73, 74, 75, 76, 77, 78, 79, 80, 81, 82, 83, 84, 85, 86, 87, 88, 89, 90, 91, 92, 93, 94, 95, 96, 97, 98, 99, 100, 101, 102] (by decide +kernel) (by decide +kernel)
set_option maxRecDepth 20000 in
theorem gX9_walk_X9_countOf : GoodIn wsX9_walk (wsV RX9 190 RX9 yX9_countOf wsX9_countOf) := goodIn_app (goodIn_of _ (by decide +kernel)) ggX9_walk_X9_countOf
set_option maxRecDepth 20000 in
theorem ggX9_walk_X9_squareOf : GoodIn wsX9_walk wsX9_squareOf := goodIn_r _ [37] (by decide +kernel) (by decide +kernel)
set_option maxRecDepth 20000 in
theorem gX9_walk_X9_squareOf : GoodIn wsX9_walk (va_wsS RX9 144 yX9_squareOf wsX9_squareOf) := goodIn_app (goodIn_of _ (by decide +kernel)) ggX9_walk_X9_squareOf
set_option maxRecDepth 20000 in
theorem ggX9_walk_X9_next : GoodIn wsX9_walk wsX9_next := goodIn_r _ [56, 57, 58, 24, 34, 47, 48, 12, 49, 50, 51, 52, 20, 21, 22, 23, 25, 26, 27, 28, 29, 30, 31, 32, 33, 35, 36, 37, 62, 63, 64, 65, 66, 67, 68, 69, 70, 71, 72, 73, 74, 75, 76, 77, 78, 79, 80, 81, 82, 83, 84, 85, 86, 87, 88, 89, 90, 91, 92, 93, 94, 95, 96, 97, 98, 99, 100, 101, 102] (by decide +kernel) (by decide +kernel)
set_option maxRecDepth 20000 in
theorem gX9_walk_X9_next : GoodIn wsX9_walk (wsV RX9 175 RX9 yX9_next wsX9_next) := goodIn_app (goodIn_of _ (by decide +kernel)) ggX9_walk_X9_next
theorem dX9_walk_0 : decode cX9_walk 0 = .ok (.aload_n 0, 1) := by decide +kernel
theorem dX9_walk_1 : decode cX9_walk 1 = .ok (.iconst 0, 1) := by decide +kernel
theorem dX9_walk_2 : decode cX9_walk 2 = .ok (.putfield 112, 3) := by decide +kernel
theorem dX9_walk_5 : decode cX9_walk 5 = .ok (.aload_n 0, 1) := by decide +kernel
theorem dX9_walk_6 : decode cX9_walk 6 = .ok (.iconst 0, 1) := by decide +kernel
theorem dX9_walk_7 : decode cX9_walk 7 = .ok (.putfield 115, 3) := by decide +kernel
theorem dX9_walk_10 : decode cX9_walk 10 = .ok (.iload_n 1, 1) := by decide +kernel
theorem dX9_walk_11 : decode cX9_walk 11 = .ok (.ifCond .lt 9, 3) := by decide +kernel
theorem dX9_walk_14 : decode cX9_walk 14 = .ok (.iload_n 1, 1) := by decide +kernel
theorem dX9_walk_15 : decode cX9_walk 15 = .ok (.bipush 60, 2) := by decide +kernel
theorem dX9_walk_17 : decode cX9_walk 17 = .ok (.if_icmp .le 9, 3) := by decide +kernel
theorem dX9_walk_20 : decode cX9_walk 20 = .ok (.aload_n 0, 1) := by decide +kernel
theorem dX9_walk_21 : decode cX9_walk 21 = .ok (.iconst 2, 1) := by decide +kernel
theorem dX9_walk_22 : decode cX9_walk 22 = .ok (.invokevirtual 156, 3) := by decide +kernel
theorem dX9_walk_25 : decode cX9_walk 25 = .ok (.ireturn, 1) := by decide +kernel
theorem dX9_walk_26 : decode cX9_walk 26 = .ok (.aload_n 0, 1) := by decide +kernel
theorem dX9_walk_27 : decode cX9_walk 27 = .ok (.invokevirtual 186, 3) := by decide +kernel
theorem dX9_walk_30 : decode cX9_walk 30 = .ok (.ifCond .ne 10, 3) := by decide +kernel
theorem dX9_walk_33 : decode cX9_walk 33 = .ok (.aload_n 0, 1) := by decide +kernel
theorem dX9_walk_34 : decode cX9_walk 34 = .ok (.bipush 7, 2) := by decide +kernel
theorem dX9_walk_36 : decode cX9_walk 36 = .ok (.invokevirtual 156, 3) := by decide +kernel
theorem dX9_walk_39 : decode cX9_walk 39 = .ok (.ireturn, 1) := by decide +kernel
theorem dX9_walk_40 : decode cX9_walk 40 = .ok (.aload_n 0, 1) := by decide +kernel
theorem dX9_walk_41 : decode cX9_walk 41 = .ok (.iload_n 1, 1) := by decide +kernel
theorem dX9_walk_42 : decode cX9_walk 42 = .ok (.invokevirtual 190, 3) := by decide +kernel
theorem dX9_walk_45 : decode cX9_walk 45 = .ok (.lstore 4, 2) := by decide +kernel
theorem dX9_walk_47 : decode cX9_walk 47 = .ok (.lload_n 2, 1) := by decide +kernel
theorem dX9_walk_48 : decode cX9_walk 48 = .ok (.lconst 0, 1) := by decide +kernel
theorem dX9_walk_49 : decode cX9_walk 49 = .ok (.lcmp, 1) := by decide +kernel
theorem dX9_walk_50 : decode cX9_walk 50 = .ok (.ifCond .lt 19, 3) := by decide +kernel
theorem dX9_walk_53 : decode cX9_walk 53 = .ok (.lload 4, 2) := by decide +kernel
theorem dX9_walk_55 : decode cX9_walk 55 = .ok (.ldc2_w 173, 3) := by decide +kernel
theorem dX9_walk_58 : decode cX9_walk 58 = .ok (.lcmp, 1) := by decide +kernel
theorem dX9_walk_59 : decode cX9_walk 59 = .ok (.ifCond .ge 17, 3) := by decide +kernel
theorem dX9_walk_62 : decode cX9_walk 62 = .ok (.lload_n 2, 1) := by decide +kernel
theorem dX9_walk_63 : decode cX9_walk 63 = .ok (.lload 4, 2) := by decide +kernel
theorem dX9_walk_65 : decode cX9_walk 65 = .ok (.lcmp, 1) := by decide +kernel
theorem dX9_walk_66 : decode cX9_walk 66 = .ok (.ifCond .lt 10, 3) := by decide +kernel
theorem dX9_walk_69 : decode cX9_walk 69 = .ok (.aload_n 0, 1) := by decide +kernel
theorem dX9_walk_70 : decode cX9_walk 70 = .ok (.bipush 8, 2) := by decide +kernel
theorem dX9_walk_72 : decode cX9_walk 72 = .ok (.invokevirtual 156, 3) := by decide +kernel
theorem dX9_walk_75 : decode cX9_walk 75 = .ok (.ireturn, 1) := by decide +kernel
theorem dX9_walk_76 : decode cX9_walk 76 = .ok (.lload 4, 2) := by decide +kernel
theorem dX9_walk_78 : decode cX9_walk 78 = .ok (.ldc2_w 173, 3) := by decide +kernel
theorem dX9_walk_81 : decode cX9_walk 81 = .ok (.lcmp, 1) := by decide +kernel
theorem dX9_walk_82 : decode cX9_walk 82 = .ok (.ifCond .lt 10, 3) := by decide +kernel
theorem dX9_walk_85 : decode cX9_walk 85 = .ok (.aload_n 0, 1) := by decide +kernel
theorem dX9_walk_86 : decode cX9_walk 86 = .ok (.bipush 9, 2) := by decide +kernel
theorem dX9_walk_88 : decode cX9_walk 88 = .ok (.invokevirtual 156, 3) := by decide +kernel
theorem dX9_walk_91 : decode cX9_walk 91 = .ok (.ireturn, 1) := by decide +kernel
theorem dX9_walk_92 : decode cX9_walk 92 = .ok (.aload_n 0, 1) := by decide +kernel
theorem dX9_walk_93 : decode cX9_walk 93 = .ok (.iload_n 1, 1) := by decide +kernel
theorem dX9_walk_94 : decode cX9_walk 94 = .ok (.putfield 234, 3) := by decide +kernel
theorem dX9_walk_97 : decode cX9_walk 97 = .ok (.lload_n 2, 1) := by decide +kernel
theorem dX9_walk_98 : decode cX9_walk 98 = .ok (.lstore 6, 2) := by decide +kernel
theorem dX9_walk_100 : decode cX9_walk 100 = .ok (.aload_n 0, 1) := by decide +kernel
theorem dX9_walk_101 : decode cX9_walk 101 = .ok (.getfield 161, 3) := by decide +kernel
theorem dX9_walk_104 : decode cX9_walk 104 = .ok (.aload_n 0, 1) := by decide +kernel
theorem dX9_walk_105 : decode cX9_walk 105 = .ok (.getfield 164, 3) := by decide +kernel
theorem dX9_walk_108 : decode cX9_walk 108 = .ok (.invokestatic 144, 3) := by decide +kernel
theorem dX9_walk_111 : decode cX9_walk 111 = .ok (.istore 8, 2) := by decide +kernel
theorem dX9_walk_113 : decode cX9_walk 113 = .ok (.iload_n 1, 1) := by decide +kernel
theorem dX9_walk_114 : decode cX9_walk 114 = .ok (.iconst 1, 1) := by decide +kernel
theorem dX9_walk_115 : decode cX9_walk 115 = .ok (.isub, 1) := by decide +kernel
theorem dX9_walk_116 : decode cX9_walk 116 = .ok (.istore 9, 2) := by decide +kernel
theorem dX9_walk_118 : decode cX9_walk 118 = .ok (.iload 9, 2) := by decide +kernel
theorem dX9_walk_120 : decode cX9_walk 120 = .ok (.ifCond .lt 115, 3) := by decide +kernel
theorem dX9_walk_123 : decode cX9_walk 123 = .ok (.iconst 0, 1) := by decide +kernel
theorem dX9_walk_124 : decode cX9_walk 124 = .ok (.istore 10, 2) := by decide +kernel
theorem dX9_walk_126 : decode cX9_walk 126 = .ok (.iconst 1, 1) := by decide +kernel
theorem dX9_walk_127 : decode cX9_walk 127 = .ok (.istore 11, 2) := by decide +kernel
theorem dX9_walk_129 : decode cX9_walk 129 = .ok (.iload 11, 2) := by decide +kernel
theorem dX9_walk_131 : decode cX9_walk 131 = .ok (.ifCond .eq 71, 3) := by decide +kernel
theorem dX9_walk_134 : decode cX9_walk 134 = .ok (.aload_n 0, 1) := by decide +kernel
theorem dX9_walk_135 : decode cX9_walk 135 = .ok (.iload 8, 2) := by decide +kernel
theorem dX9_walk_137 : decode cX9_walk 137 = .ok (.iload 10, 2) := by decide +kernel
theorem dX9_walk_139 : decode cX9_walk 139 = .ok (.invokevirtual 175, 3) := by decide +kernel
theorem dX9_walk_142 : decode cX9_walk 142 = .ok (.istore 12, 2) := by decide +kernel
theorem dX9_walk_144 : decode cX9_walk 144 = .ok (.iload 12, 2) := by decide +kernel
theorem dX9_walk_146 : decode cX9_walk 146 = .ok (.ifCond .ge 7, 3) := by decide +kernel
theorem dX9_walk_149 : decode cX9_walk 149 = .ok (.lconst 0, 1) := by decide +kernel
theorem dX9_walk_150 : decode cX9_walk 150 = .ok (.goto 17, 3) := by decide +kernel
theorem dX9_walk_153 : decode cX9_walk 153 = .ok (.aload_n 0, 1) := by decide +kernel
theorem dX9_walk_154 : decode cX9_walk 154 = .ok (.getfield 43, 3) := by decide +kernel
theorem dX9_walk_157 : decode cX9_walk 157 = .ok (.sipush 3721, 3) := by decide +kernel
theorem dX9_walk_160 : decode cX9_walk 160 = .ok (.iload 9, 2) := by decide +kernel
theorem dX9_walk_162 : decode cX9_walk 162 = .ok (.imul, 1) := by decide +kernel
theorem dX9_walk_163 : decode cX9_walk 163 = .ok (.iload 12, 2) := by decide +kernel
theorem dX9_walk_165 : decode cX9_walk 165 = .ok (.iadd, 1) := by decide +kernel
theorem dX9_walk_166 : decode cX9_walk 166 = .ok (.laload, 1) := by decide +kernel
theorem dX9_walk_167 : decode cX9_walk 167 = .ok (.lstore 13, 2) := by decide +kernel
theorem dX9_walk_169 : decode cX9_walk 169 = .ok (.lload 6, 2) := by decide +kernel
theorem dX9_walk_171 : decode cX9_walk 171 = .ok (.lload 13, 2) := by decide +kernel
theorem dX9_walk_173 : decode cX9_walk 173 = .ok (.lcmp, 1) := by decide +kernel
theorem dX9_walk_174 : decode cX9_walk 174 = .ok (.ifCond .lt 7, 3) := by decide +kernel
theorem dX9_walk_177 : decode cX9_walk 177 = .ok (.iconst 1, 1) := by decide +kernel
theorem dX9_walk_178 : decode cX9_walk 178 = .ok (.goto 4, 3) := by decide +kernel
theorem dX9_walk_181 : decode cX9_walk 181 = .ok (.iconst 0, 1) := by decide +kernel
theorem dX9_walk_182 : decode cX9_walk 182 = .ok (.istore 11, 2) := by decide +kernel
theorem dX9_walk_184 : decode cX9_walk 184 = .ok (.iload 11, 2) := by decide +kernel
theorem dX9_walk_186 : decode cX9_walk 186 = .ok (.ifCond .eq 13, 3) := by decide +kernel
theorem dX9_walk_189 : decode cX9_walk 189 = .ok (.lload 6, 2) := by decide +kernel
theorem dX9_walk_191 : decode cX9_walk 191 = .ok (.lload 13, 2) := by decide +kernel
theorem dX9_walk_193 : decode cX9_walk 193 = .ok (.lsub, 1) := by decide +kernel
theorem dX9_walk_194 : decode cX9_walk 194 = .ok (.lstore 6, 2) := by decide +kernel
theorem dX9_walk_196 : decode cX9_walk 196 = .ok (.iinc 10 1, 3) := by decide +kernel
theorem dX9_walk_199 : decode cX9_walk 199 = .ok (.goto (-70), 3) := by decide +kernel
theorem dX9_walk_202 : decode cX9_walk 202 = .ok (.aload_n 0, 1) := by decide +kernel
theorem dX9_walk_203 : decode cX9_walk 203 = .ok (.getfield 78, 3) := by decide +kernel
theorem dX9_walk_206 : decode cX9_walk 206 = .ok (.iload_n 1, 1) := by decide +kernel
theorem dX9_walk_207 : decode cX9_walk 207 = .ok (.iconst 1, 1) := by decide +kernel
theorem dX9_walk_208 : decode cX9_walk 208 = .ok (.isub, 1) := by decide +kernel
theorem dX9_walk_209 : decode cX9_walk 209 = .ok (.iload 9, 2) := by decide +kernel
theorem dX9_walk_211 : decode cX9_walk 211 = .ok (.isub, 1) := by decide +kernel
theorem dX9_walk_212 : decode cX9_walk 212 = .ok (.bipush 48, 2) := by decide +kernel
theorem dX9_walk_214 : decode cX9_walk 214 = .ok (.iload 10, 2) := by decide +kernel
theorem dX9_walk_216 : decode cX9_walk 216 = .ok (.iadd, 1) := by decide +kernel
theorem dX9_walk_217 : decode cX9_walk 217 = .ok (.i2b, 1) := by decide +kernel
theorem dX9_walk_218 : decode cX9_walk 218 = .ok (.bastore, 1) := by decide +kernel
theorem dX9_walk_219 : decode cX9_walk 219 = .ok (.aload_n 0, 1) := by decide +kernel
theorem dX9_walk_220 : decode cX9_walk 220 = .ok (.iload 8, 2) := by decide +kernel
theorem dX9_walk_222 : decode cX9_walk 222 = .ok (.iload 10, 2) := by decide +kernel
theorem dX9_walk_224 : decode cX9_walk 224 = .ok (.invokevirtual 175, 3) := by decide +kernel
theorem dX9_walk_227 : decode cX9_walk 227 = .ok (.istore 8, 2) := by decide +kernel
theorem dX9_walk_229 : decode cX9_walk 229 = .ok (.iinc 9 (-1), 3) := by decide +kernel
theorem dX9_walk_232 : decode cX9_walk 232 = .ok (.goto (-114), 3) := by decide +kernel
theorem dX9_walk_235 : decode cX9_walk 235 = .ok (.iload_n 1, 1) := by decide +kernel
theorem dX9_walk_236 : decode cX9_walk 236 = .ok (.ireturn, 1) := by decide +kernel
set_option maxRecDepth 20000 in
theorem ggX9_number_X9_refuse : GoodIn wsX9_number wsX9_refuse := goodIn_r _ [16, 2, 62, 63, 64, 65, 66, 67, 68, 69, 70, 71, 72, 73, 74, 75, 76, 77, 78, 79, 80, 81, 82, 83, 84, 85, 86, 87, 88, 89, 90, 91, 92, 93, 94, 95, 96, 97, 98, 99, 100, 101, 102] (by decide +kernel) (by decide +kernel)
set_option maxRecDepth 20000 in
theorem gX9_number_X9_refuse : GoodIn wsX9_number (wsV RX9 156 RX9 yX9_refuse wsX9_refuse) := goodIn_app (goodIn_of _ (by decide +kernel)) ggX9_number_X9_refuse
set_option maxRecDepth 20000 in
theorem ggX9_number_X9_areOpen : GoodIn wsX9_number wsX9_areOpen := goodIn_r _ [20, 4, 5, 9, 10, 21, 22, 23, 15, 24, 25, 26, 27, 28, 29, 30, 31, 32, 33, 34, 35, 36, 37, 38, 62, 63, 64, 65, 66, 67, 68, 69, 70, 71, 72, 73, 74, 75, 76, 77, 78, 79, 80, 81, 82, 83, 84, 85, 86, 87, 88, 89, 90, 91, 92, 93, 94, 95, 96, 97, 98, 99, 100, 101, 102] (by decide +kernel) (by decide +kernel)
set_option maxRecDepth 20000 in
theorem gX9_number_X9_areOpen : GoodIn wsX9_number (wsV RX9 186 RX9 yX9_areOpen wsX9_areOpen) := goodIn_app (goodIn_of _ (by decide +kernel)) ggX9_number_X9_areOpen
set_option maxRecDepth 20000 in
theorem ggX9_number_X9_countOf : GoodIn wsX9_number wsX9_countOf := goodIn_r _ [42, 8, 4, 5, 43, 44, 45, 15, 46, 9, 10, 7, 47, 48, 49, 50, 51, 52, 21, 22, 23, 24, 25, 26, 27, 28, 29, 30, 31, 32, 33, 34, 35, 36, 37, 38, 53, 54, 55, 56, 57, 58, 59, 60, 61, 11, 62, 63, 64, 65, 66, 67, 68, 69, 70, 71, 72, 73, 74, 75, 76, 77, 78, 79, 80, 81, 82, 83, 84, 85, 86, 87, 88, 89, 90, 91, 92, 93, 94, 95, 96, 97, 98, 99, 100, 101, 102] (by decide +kernel) (by decide +kernel)
set_option maxRecDepth 20000 in
theorem gX9_number_X9_countOf : GoodIn wsX9_number (wsV RX9 190 RX9 yX9_countOf wsX9_countOf) := goodIn_app (goodIn_of _ (by decide +kernel)) ggX9_number_X9_countOf
set_option maxRecDepth 20000 in
theorem ggX9_number_X9_squareOf : GoodIn wsX9_number wsX9_squareOf := goodIn_r _ [38] (by decide +kernel) (by decide +kernel)
set_option maxRecDepth 20000 in
theorem gX9_number_X9_squareOf : GoodIn wsX9_number (va_wsS RX9 144 yX9_squareOf wsX9_squareOf) := goodIn_app (goodIn_of _ (by decide +kernel)) ggX9_number_X9_squareOf
set_option maxRecDepth 20000 in
theorem ggX9_number_X9_next : GoodIn wsX9_number wsX9_next := goodIn_r _ [56, 57, 58, 25, 35, 47, 48, 15, 49, 50, 51, 52, 21, 22, 23, 24, 26, 27, 28, 29, 30, 31, 32, 33, 34, 36, 37, 38, 62, 63, 64, 65, 66, 67, 68, 69, 70, 71, 72, 73, 74, 75, 76, 77, 78, 79, 80, 81, 82, 83, 84, 85, 86, 87, 88, 89, 90, 91, 92, 93, 94, 95, 96, 97, 98, 99, 100, 101, 102] (by decide +kernel) (by decide +kernel)
set_option maxRecDepth 20000 in
theorem gX9_number_X9_next : GoodIn wsX9_number (wsV RX9 175 RX9 yX9_next wsX9_next) := goodIn_app (goodIn_of _ (by decide +kernel)) ggX9_number_X9_next
set_option maxRecDepth 20000 in
theorem ggX9_number_X9_plus : GoodIn wsX9_number wsX9_plus := goodIn_r _ [61, 11] (by decide +kernel) (by decide +kernel)
set_option maxRecDepth 20000 in
theorem gX9_number_X9_plus : GoodIn wsX9_number (va_wsS RX9 178 yX9_plus wsX9_plus) := goodIn_app (goodIn_of _ (by decide +kernel)) ggX9_number_X9_plus
theorem dX9_number_0 : decode cX9_number 0 = .ok (.aload_n 0, 1) := by decide +kernel
theorem dX9_number_1 : decode cX9_number 1 = .ok (.iconst 0, 1) := by decide +kernel
theorem dX9_number_2 : decode cX9_number 2 = .ok (.putfield 112, 3) := by decide +kernel
theorem dX9_number_5 : decode cX9_number 5 = .ok (.aload_n 0, 1) := by decide +kernel
theorem dX9_number_6 : decode cX9_number 6 = .ok (.iconst 0, 1) := by decide +kernel
theorem dX9_number_7 : decode cX9_number 7 = .ok (.putfield 115, 3) := by decide +kernel
theorem dX9_number_10 : decode cX9_number 10 = .ok (.iload_n 1, 1) := by decide +kernel
theorem dX9_number_11 : decode cX9_number 11 = .ok (.ifCond .lt 8, 3) := by decide +kernel
theorem dX9_number_14 : decode cX9_number 14 = .ok (.iload_n 1, 1) := by decide +kernel
theorem dX9_number_15 : decode cX9_number 15 = .ok (.iconst 4, 1) := by decide +kernel
theorem dX9_number_16 : decode cX9_number 16 = .ok (.if_icmp .lt 10, 3) := by decide +kernel
theorem dX9_number_19 : decode cX9_number 19 = .ok (.aload_n 0, 1) := by decide +kernel
theorem dX9_number_20 : decode cX9_number 20 = .ok (.iconst 1, 1) := by decide +kernel
theorem dX9_number_21 : decode cX9_number 21 = .ok (.invokevirtual 156, 3) := by decide +kernel
theorem dX9_number_24 : decode cX9_number 24 = .ok (.i2l, 1) := by decide +kernel
theorem dX9_number_25 : decode cX9_number 25 = .ok (.lreturn, 1) := by decide +kernel
theorem dX9_number_26 : decode cX9_number 26 = .ok (.iload_n 2, 1) := by decide +kernel
theorem dX9_number_27 : decode cX9_number 27 = .ok (.ifCond .lt 9, 3) := by decide +kernel
theorem dX9_number_30 : decode cX9_number 30 = .ok (.iload_n 2, 1) := by decide +kernel
theorem dX9_number_31 : decode cX9_number 31 = .ok (.bipush 60, 2) := by decide +kernel
theorem dX9_number_33 : decode cX9_number 33 = .ok (.if_icmp .le 10, 3) := by decide +kernel
theorem dX9_number_36 : decode cX9_number 36 = .ok (.aload_n 0, 1) := by decide +kernel
theorem dX9_number_37 : decode cX9_number 37 = .ok (.iconst 2, 1) := by decide +kernel
theorem dX9_number_38 : decode cX9_number 38 = .ok (.invokevirtual 156, 3) := by decide +kernel
theorem dX9_number_41 : decode cX9_number 41 = .ok (.i2l, 1) := by decide +kernel
theorem dX9_number_42 : decode cX9_number 42 = .ok (.lreturn, 1) := by decide +kernel
theorem dX9_number_43 : decode cX9_number 43 = .ok (.aload_n 0, 1) := by decide +kernel
theorem dX9_number_44 : decode cX9_number 44 = .ok (.getfield 13, 3) := by decide +kernel
theorem dX9_number_47 : decode cX9_number 47 = .ok (.iload_n 1, 1) := by decide +kernel
theorem dX9_number_48 : decode cX9_number 48 = .ok (.iaload, 1) := by decide +kernel
theorem dX9_number_49 : decode cX9_number 49 = .ok (.ifCond .ge 10, 3) := by decide +kernel
theorem dX9_number_52 : decode cX9_number 52 = .ok (.aload_n 0, 1) := by decide +kernel
theorem dX9_number_53 : decode cX9_number 53 = .ok (.iconst 3, 1) := by decide +kernel
theorem dX9_number_54 : decode cX9_number 54 = .ok (.invokevirtual 156, 3) := by decide +kernel
theorem dX9_number_57 : decode cX9_number 57 = .ok (.i2l, 1) := by decide +kernel
theorem dX9_number_58 : decode cX9_number 58 = .ok (.lreturn, 1) := by decide +kernel
theorem dX9_number_59 : decode cX9_number 59 = .ok (.iload_n 2, 1) := by decide +kernel
theorem dX9_number_60 : decode cX9_number 60 = .ok (.aload_n 0, 1) := by decide +kernel
theorem dX9_number_61 : decode cX9_number 61 = .ok (.getfield 13, 3) := by decide +kernel
theorem dX9_number_64 : decode cX9_number 64 = .ok (.iload_n 1, 1) := by decide +kernel
theorem dX9_number_65 : decode cX9_number 65 = .ok (.iaload, 1) := by decide +kernel
theorem dX9_number_66 : decode cX9_number 66 = .ok (.if_icmp .le 10, 3) := by decide +kernel
theorem dX9_number_69 : decode cX9_number 69 = .ok (.aload_n 0, 1) := by decide +kernel
theorem dX9_number_70 : decode cX9_number 70 = .ok (.iconst 4, 1) := by decide +kernel
theorem dX9_number_71 : decode cX9_number 71 = .ok (.invokevirtual 156, 3) := by decide +kernel
theorem dX9_number_74 : decode cX9_number 74 = .ok (.i2l, 1) := by decide +kernel
theorem dX9_number_75 : decode cX9_number 75 = .ok (.lreturn, 1) := by decide +kernel
theorem dX9_number_76 : decode cX9_number 76 = .ok (.aload_n 0, 1) := by decide +kernel
theorem dX9_number_77 : decode cX9_number 77 = .ok (.invokevirtual 186, 3) := by decide +kernel
theorem dX9_number_80 : decode cX9_number 80 = .ok (.ifCond .ne 11, 3) := by decide +kernel
theorem dX9_number_83 : decode cX9_number 83 = .ok (.aload_n 0, 1) := by decide +kernel
theorem dX9_number_84 : decode cX9_number 84 = .ok (.bipush 7, 2) := by decide +kernel
theorem dX9_number_86 : decode cX9_number 86 = .ok (.invokevirtual 156, 3) := by decide +kernel
theorem dX9_number_89 : decode cX9_number 89 = .ok (.i2l, 1) := by decide +kernel
theorem dX9_number_90 : decode cX9_number 90 = .ok (.lreturn, 1) := by decide +kernel
theorem dX9_number_91 : decode cX9_number 91 = .ok (.aload_n 0, 1) := by decide +kernel
theorem dX9_number_92 : decode cX9_number 92 = .ok (.iload_n 2, 1) := by decide +kernel
theorem dX9_number_93 : decode cX9_number 93 = .ok (.invokevirtual 190, 3) := by decide +kernel
theorem dX9_number_96 : decode cX9_number 96 = .ok (.lstore_n 3, 1) := by decide +kernel
theorem dX9_number_97 : decode cX9_number 97 = .ok (.lconst 0, 1) := by decide +kernel
theorem dX9_number_98 : decode cX9_number 98 = .ok (.lstore 5, 2) := by decide +kernel
theorem dX9_number_100 : decode cX9_number 100 = .ok (.aload_n 0, 1) := by decide +kernel
theorem dX9_number_101 : decode cX9_number 101 = .ok (.getfield 161, 3) := by decide +kernel
theorem dX9_number_104 : decode cX9_number 104 = .ok (.aload_n 0, 1) := by decide +kernel
theorem dX9_number_105 : decode cX9_number 105 = .ok (.getfield 164, 3) := by decide +kernel
theorem dX9_number_108 : decode cX9_number 108 = .ok (.invokestatic 144, 3) := by decide +kernel
theorem dX9_number_111 : decode cX9_number 111 = .ok (.istore 7, 2) := by decide +kernel
theorem dX9_number_113 : decode cX9_number 113 = .ok (.iload_n 2, 1) := by decide +kernel
theorem dX9_number_114 : decode cX9_number 114 = .ok (.iconst 1, 1) := by decide +kernel
theorem dX9_number_115 : decode cX9_number 115 = .ok (.isub, 1) := by decide +kernel
theorem dX9_number_116 : decode cX9_number 116 = .ok (.istore 8, 2) := by decide +kernel
theorem dX9_number_118 : decode cX9_number 118 = .ok (.iload 8, 2) := by decide +kernel
theorem dX9_number_120 : decode cX9_number 120 = .ok (.ifCond .lt 124, 3) := by decide +kernel
theorem dX9_number_123 : decode cX9_number 123 = .ok (.aload_n 0, 1) := by decide +kernel
theorem dX9_number_124 : decode cX9_number 124 = .ok (.getfield 16, 3) := by decide +kernel
theorem dX9_number_127 : decode cX9_number 127 = .ok (.bipush 64, 2) := by decide +kernel
theorem dX9_number_129 : decode cX9_number 129 = .ok (.iload_n 1, 1) := by decide +kernel
theorem dX9_number_130 : decode cX9_number 130 = .ok (.imul, 1) := by decide +kernel
theorem dX9_number_131 : decode cX9_number 131 = .ok (.iload_n 2, 1) := by decide +kernel
theorem dX9_number_132 : decode cX9_number 132 = .ok (.iadd, 1) := by decide +kernel
theorem dX9_number_133 : decode cX9_number 133 = .ok (.iconst 1, 1) := by decide +kernel
theorem dX9_number_134 : decode cX9_number 134 = .ok (.isub, 1) := by decide +kernel
theorem dX9_number_135 : decode cX9_number 135 = .ok (.iload 8, 2) := by decide +kernel
theorem dX9_number_137 : decode cX9_number 137 = .ok (.isub, 1) := by decide +kernel
theorem dX9_number_138 : decode cX9_number 138 = .ok (.iaload, 1) := by decide +kernel
theorem dX9_number_139 : decode cX9_number 139 = .ok (.istore 9, 2) := by decide +kernel
theorem dX9_number_141 : decode cX9_number 141 = .ok (.iload 9, 2) := by decide +kernel
theorem dX9_number_143 : decode cX9_number 143 = .ok (.ifCond .lt 12, 3) := by decide +kernel
theorem dX9_number_146 : decode cX9_number 146 = .ok (.iload 9, 2) := by decide +kernel
theorem dX9_number_148 : decode cX9_number 148 = .ok (.aload_n 0, 1) := by decide +kernel
theorem dX9_number_149 : decode cX9_number 149 = .ok (.getfield 19, 3) := by decide +kernel
theorem dX9_number_152 : decode cX9_number 152 = .ok (.if_icmp .lt 7, 3) := by decide +kernel
theorem dX9_number_155 : decode cX9_number 155 = .ok (.iconst (-1), 1) := by decide +kernel
theorem dX9_number_156 : decode cX9_number 156 = .ok (.goto 11, 3) := by decide +kernel
theorem dX9_number_159 : decode cX9_number 159 = .ok (.aload_n 0, 1) := by decide +kernel
theorem dX9_number_160 : decode cX9_number 160 = .ok (.iload 7, 2) := by decide +kernel
theorem dX9_number_162 : decode cX9_number 162 = .ok (.iload 9, 2) := by decide +kernel
theorem dX9_number_164 : decode cX9_number 164 = .ok (.invokevirtual 175, 3) := by decide +kernel
theorem dX9_number_167 : decode cX9_number 167 = .ok (.istore 10, 2) := by decide +kernel
theorem dX9_number_169 : decode cX9_number 169 = .ok (.iload 10, 2) := by decide +kernel
theorem dX9_number_171 : decode cX9_number 171 = .ok (.ifCond .ge 11, 3) := by decide +kernel
theorem dX9_number_174 : decode cX9_number 174 = .ok (.aload_n 0, 1) := by decide +kernel
theorem dX9_number_175 : decode cX9_number 175 = .ok (.bipush 8, 2) := by decide +kernel
theorem dX9_number_177 : decode cX9_number 177 = .ok (.invokevirtual 156, 3) := by decide +kernel
theorem dX9_number_180 : decode cX9_number 180 = .ok (.i2l, 1) := by decide +kernel
theorem dX9_number_181 : decode cX9_number 181 = .ok (.lreturn, 1) := by decide +kernel
theorem dX9_number_182 : decode cX9_number 182 = .ok (.iconst 0, 1) := by decide +kernel
theorem dX9_number_183 : decode cX9_number 183 = .ok (.istore 11, 2) := by decide +kernel
theorem dX9_number_185 : decode cX9_number 185 = .ok (.iload 11, 2) := by decide +kernel
theorem dX9_number_187 : decode cX9_number 187 = .ok (.iload 9, 2) := by decide +kernel
theorem dX9_number_189 : decode cX9_number 189 = .ok (.if_icmp .ge 45, 3) := by decide +kernel
theorem dX9_number_192 : decode cX9_number 192 = .ok (.aload_n 0, 1) := by decide +kernel
theorem dX9_number_193 : decode cX9_number 193 = .ok (.iload 7, 2) := by decide +kernel
theorem dX9_number_195 : decode cX9_number 195 = .ok (.iload 11, 2) := by decide +kernel
theorem dX9_number_197 : decode cX9_number 197 = .ok (.invokevirtual 175, 3) := by decide +kernel
theorem dX9_number_200 : decode cX9_number 200 = .ok (.istore 12, 2) := by decide +kernel
theorem dX9_number_202 : decode cX9_number 202 = .ok (.iload 12, 2) := by decide +kernel
theorem dX9_number_204 : decode cX9_number 204 = .ok (.ifCond .lt 24, 3) := by decide +kernel
theorem dX9_number_207 : decode cX9_number 207 = .ok (.lload 5, 2) := by decide +kernel
theorem dX9_number_209 : decode cX9_number 209 = .ok (.aload_n 0, 1) := by decide +kernel
theorem dX9_number_210 : decode cX9_number 210 = .ok (.getfield 43, 3) := by decide +kernel
theorem dX9_number_213 : decode cX9_number 213 = .ok (.sipush 3721, 3) := by decide +kernel
theorem dX9_number_216 : decode cX9_number 216 = .ok (.iload 8, 2) := by decide +kernel
theorem dX9_number_218 : decode cX9_number 218 = .ok (.imul, 1) := by decide +kernel
theorem dX9_number_219 : decode cX9_number 219 = .ok (.iload 12, 2) := by decide +kernel
theorem dX9_number_221 : decode cX9_number 221 = .ok (.iadd, 1) := by decide +kernel
theorem dX9_number_222 : decode cX9_number 222 = .ok (.laload, 1) := by decide +kernel
theorem dX9_number_223 : decode cX9_number 223 = .ok (.invokestatic 178, 3) := by decide +kernel
theorem dX9_number_226 : decode cX9_number 226 = .ok (.lstore 5, 2) := by decide +kernel
theorem dX9_number_228 : decode cX9_number 228 = .ok (.iinc 11 1, 3) := by decide +kernel
theorem dX9_number_231 : decode cX9_number 231 = .ok (.goto (-46), 3) := by decide +kernel
theorem dX9_number_234 : decode cX9_number 234 = .ok (.iload 10, 2) := by decide +kernel
theorem dX9_number_236 : decode cX9_number 236 = .ok (.istore 7, 2) := by decide +kernel
theorem dX9_number_238 : decode cX9_number 238 = .ok (.iinc 8 (-1), 3) := by decide +kernel
theorem dX9_number_241 : decode cX9_number 241 = .ok (.goto (-123), 3) := by decide +kernel
theorem dX9_number_244 : decode cX9_number 244 = .ok (.iload 7, 2) := by decide +kernel
theorem dX9_number_246 : decode cX9_number 246 = .ok (.aload_n 0, 1) := by decide +kernel
theorem dX9_number_247 : decode cX9_number 247 = .ok (.getfield 167, 3) := by decide +kernel
theorem dX9_number_250 : decode cX9_number 250 = .ok (.aload_n 0, 1) := by decide +kernel
theorem dX9_number_251 : decode cX9_number 251 = .ok (.getfield 170, 3) := by decide +kernel
theorem dX9_number_254 : decode cX9_number 254 = .ok (.invokestatic 144, 3) := by decide +kernel
theorem dX9_number_257 : decode cX9_number 257 = .ok (.if_icmp .eq 11, 3) := by decide +kernel
theorem dX9_number_260 : decode cX9_number 260 = .ok (.aload_n 0, 1) := by decide +kernel
theorem dX9_number_261 : decode cX9_number 261 = .ok (.bipush 8, 2) := by decide +kernel
theorem dX9_number_263 : decode cX9_number 263 = .ok (.invokevirtual 156, 3) := by decide +kernel
theorem dX9_number_266 : decode cX9_number 266 = .ok (.i2l, 1) := by decide +kernel
theorem dX9_number_267 : decode cX9_number 267 = .ok (.lreturn, 1) := by decide +kernel
theorem dX9_number_268 : decode cX9_number 268 = .ok (.lload_n 3, 1) := by decide +kernel
theorem dX9_number_269 : decode cX9_number 269 = .ok (.ldc2_w 173, 3) := by decide +kernel
theorem dX9_number_272 : decode cX9_number 272 = .ok (.lcmp, 1) := by decide +kernel
theorem dX9_number_273 : decode cX9_number 273 = .ok (.ifCond .lt 13, 3) := by decide +kernel
theorem dX9_number_276 : decode cX9_number 276 = .ok (.aload_n 0, 1) := by decide +kernel
theorem dX9_number_277 : decode cX9_number 277 = .ok (.bipush 9, 2) := by decide +kernel
theorem dX9_number_279 : decode cX9_number 279 = .ok (.invokevirtual 156, 3) := by decide +kernel
theorem dX9_number_282 : decode cX9_number 282 = .ok (.i2l, 1) := by decide +kernel
theorem dX9_number_283 : decode cX9_number 283 = .ok (.goto 5, 3) := by decide +kernel
theorem dX9_number_286 : decode cX9_number 286 = .ok (.lload 5, 2) := by decide +kernel
theorem dX9_number_288 : decode cX9_number 288 = .ok (.lreturn, 1) := by decide +kernel
theorem dX9_drawn_0 : decode cX9_drawn 0 = .ok (.ldc2_w 237, 3) := by decide +kernel
theorem dX9_drawn_3 : decode cX9_drawn 3 = .ok (.iload_n 0, 1) := by decide +kernel
theorem dX9_drawn_4 : decode cX9_drawn 4 = .ok (.i2l, 1) := by decide +kernel
theorem dX9_drawn_5 : decode cX9_drawn 5 = .ok (.lmul, 1) := by decide +kernel
theorem dX9_drawn_6 : decode cX9_drawn 6 = .ok (.ldc2_w 239, 3) := by decide +kernel
theorem dX9_drawn_9 : decode cX9_drawn 9 = .ok (.ladd, 1) := by decide +kernel
theorem dX9_drawn_10 : decode cX9_drawn 10 = .ok (.ldc2_w 241, 3) := by decide +kernel
theorem dX9_drawn_13 : decode cX9_drawn 13 = .ok (.land, 1) := by decide +kernel
theorem dX9_drawn_14 : decode cX9_drawn 14 = .ok (.l2i, 1) := by decide +kernel
theorem dX9_drawn_15 : decode cX9_drawn 15 = .ok (.ireturn, 1) := by decide +kernel
set_option maxRecDepth 20000 in
theorem ggX9_draw_X9_refuse : GoodIn wsX9_draw wsX9_refuse := goodIn_r _ [12, 2, 70, 71, 72, 73, 74, 75, 76, 77, 78, 79, 80, 81, 82, 83, 84, 85, 86, 87, 88, 89, 90, 91, 92, 93, 94, 95, 96, 97, 98, 99, 100, 101, 102, 103, 104, 105, 106, 107, 108, 109, 110] (by decide +kernel) (by decide +kernel)
set_option maxRecDepth 20000 in
theorem gX9_draw_X9_refuse : GoodIn wsX9_draw (wsV RX9 156 RX9 yX9_refuse wsX9_refuse) := goodIn_app (goodIn_of _ (by decide +kernel)) ggX9_draw_X9_refuse
set_option maxRecDepth 20000 in
theorem ggX9_draw_X9_areOpen : GoodIn wsX9_draw wsX9_areOpen := goodIn_r _ [16, 17, 18, 19, 20, 21, 22, 23, 11, 24, 25, 26, 27, 28, 29, 30, 31, 32, 33, 34, 35, 36, 37, 38, 70, 71, 72, 73, 74, 75, 76, 77, 78, 79, 80, 81, 82, 83, 84, 85, 86, 87, 88, 89, 90, 91, 92, 93, 94, 95, 96, 97, 98, 99, 100, 101, 102, 103, 104, 105, 106, 107, 108, 109, 110] (by decide +kernel) (by decide +kernel)
set_option maxRecDepth 20000 in
theorem gX9_draw_X9_areOpen : GoodIn wsX9_draw (wsV RX9 186 RX9 yX9_areOpen wsX9_areOpen) := goodIn_app (goodIn_of _ (by decide +kernel)) ggX9_draw_X9_areOpen
set_option maxRecDepth 20000 in
theorem ggX9_draw_X9_countOf : GoodIn wsX9_draw wsX9_countOf := goodIn_r _ [42, 43, 17, 18, 44, 45, 46, 11, 47, 19, 20, 48, 49, 50, 51, 52, 53, 54, 21, 22, 23, 24, 25, 26, 27, 28, 29, 30, 31, 32, 33, 34, 35, 36, 37, 38, 55, 56, 57, 58, 59, 60, 61, 62, 63, 3, 70, 71, 72, 73, 74, 75, 76, 77, 78, 79, 80, 81, 82, 83, 84, 85, 86, 87, 88, 89, 90, 91, 92, 93, 94, 95, 96, 97, 98, 99, 100, 101, 102, 103, 104, 105, 106, 107, 108, 109, 110] (by decide +kernel) (by decide +kernel)
set_option maxRecDepth 20000 in
theorem gX9_draw_X9_countOf : GoodIn wsX9_draw (wsV RX9 190 RX9 yX9_countOf wsX9_countOf) := goodIn_app (goodIn_of _ (by decide +kernel)) ggX9_draw_X9_countOf
set_option maxRecDepth 20000 in
theorem ggX9_draw_X9_drawn : GoodIn wsX9_draw wsX9_drawn := goodIn_r _ [66, 67, 68, 69] (by decide +kernel) (by decide +kernel)
set_option maxRecDepth 20000 in
theorem gX9_draw_X9_drawn : GoodIn wsX9_draw (va_wsS RX9 243 yX9_drawn wsX9_drawn) := goodIn_app (goodIn_of _ (by decide +kernel)) ggX9_draw_X9_drawn
theorem dX9_draw_0 : decode cX9_draw 0 = .ok (.aload_n 0, 1) := by decide +kernel
theorem dX9_draw_1 : decode cX9_draw 1 = .ok (.iconst 0, 1) := by decide +kernel
theorem dX9_draw_2 : decode cX9_draw 2 = .ok (.putfield 112, 3) := by decide +kernel
theorem dX9_draw_5 : decode cX9_draw 5 = .ok (.aload_n 0, 1) := by decide +kernel
theorem dX9_draw_6 : decode cX9_draw 6 = .ok (.iconst 0, 1) := by decide +kernel
theorem dX9_draw_7 : decode cX9_draw 7 = .ok (.putfield 115, 3) := by decide +kernel
theorem dX9_draw_10 : decode cX9_draw 10 = .ok (.iload_n 1, 1) := by decide +kernel
theorem dX9_draw_11 : decode cX9_draw 11 = .ok (.ifCond .lt 13, 3) := by decide +kernel
theorem dX9_draw_14 : decode cX9_draw 14 = .ok (.iload_n 1, 1) := by decide +kernel
theorem dX9_draw_15 : decode cX9_draw 15 = .ok (.bipush 60, 2) := by decide +kernel
theorem dX9_draw_17 : decode cX9_draw 17 = .ok (.if_icmp .gt 7, 3) := by decide +kernel
theorem dX9_draw_20 : decode cX9_draw 20 = .ok (.iload_n 2, 1) := by decide +kernel
theorem dX9_draw_21 : decode cX9_draw 21 = .ok (.ifCond .ge 10, 3) := by decide +kernel
theorem dX9_draw_24 : decode cX9_draw 24 = .ok (.aload_n 0, 1) := by decide +kernel
theorem dX9_draw_25 : decode cX9_draw 25 = .ok (.iconst 2, 1) := by decide +kernel
theorem dX9_draw_26 : decode cX9_draw 26 = .ok (.invokevirtual 156, 3) := by decide +kernel
theorem dX9_draw_29 : decode cX9_draw 29 = .ok (.i2l, 1) := by decide +kernel
theorem dX9_draw_30 : decode cX9_draw 30 = .ok (.lreturn, 1) := by decide +kernel
theorem dX9_draw_31 : decode cX9_draw 31 = .ok (.aload_n 0, 1) := by decide +kernel
theorem dX9_draw_32 : decode cX9_draw 32 = .ok (.invokevirtual 186, 3) := by decide +kernel
theorem dX9_draw_35 : decode cX9_draw 35 = .ok (.ifCond .ne 11, 3) := by decide +kernel
theorem dX9_draw_38 : decode cX9_draw 38 = .ok (.aload_n 0, 1) := by decide +kernel
theorem dX9_draw_39 : decode cX9_draw 39 = .ok (.bipush 7, 2) := by decide +kernel
theorem dX9_draw_41 : decode cX9_draw 41 = .ok (.invokevirtual 156, 3) := by decide +kernel
theorem dX9_draw_44 : decode cX9_draw 44 = .ok (.i2l, 1) := by decide +kernel
theorem dX9_draw_45 : decode cX9_draw 45 = .ok (.lreturn, 1) := by decide +kernel
theorem dX9_draw_46 : decode cX9_draw 46 = .ok (.aload_n 0, 1) := by decide +kernel
theorem dX9_draw_47 : decode cX9_draw 47 = .ok (.iload_n 1, 1) := by decide +kernel
theorem dX9_draw_48 : decode cX9_draw 48 = .ok (.invokevirtual 190, 3) := by decide +kernel
theorem dX9_draw_51 : decode cX9_draw 51 = .ok (.lstore_n 3, 1) := by decide +kernel
theorem dX9_draw_52 : decode cX9_draw 52 = .ok (.lload_n 3, 1) := by decide +kernel
theorem dX9_draw_53 : decode cX9_draw 53 = .ok (.lconst 0, 1) := by decide +kernel
theorem dX9_draw_54 : decode cX9_draw 54 = .ok (.lcmp, 1) := by decide +kernel
theorem dX9_draw_55 : decode cX9_draw 55 = .ok (.ifCond .ne 11, 3) := by decide +kernel
theorem dX9_draw_58 : decode cX9_draw 58 = .ok (.aload_n 0, 1) := by decide +kernel
theorem dX9_draw_59 : decode cX9_draw 59 = .ok (.bipush 8, 2) := by decide +kernel
theorem dX9_draw_61 : decode cX9_draw 61 = .ok (.invokevirtual 156, 3) := by decide +kernel
theorem dX9_draw_64 : decode cX9_draw 64 = .ok (.i2l, 1) := by decide +kernel
theorem dX9_draw_65 : decode cX9_draw 65 = .ok (.lreturn, 1) := by decide +kernel
theorem dX9_draw_66 : decode cX9_draw 66 = .ok (.lload_n 3, 1) := by decide +kernel
theorem dX9_draw_67 : decode cX9_draw 67 = .ok (.ldc2_w 173, 3) := by decide +kernel
theorem dX9_draw_70 : decode cX9_draw 70 = .ok (.lcmp, 1) := by decide +kernel
theorem dX9_draw_71 : decode cX9_draw 71 = .ok (.ifCond .lt 11, 3) := by decide +kernel
theorem dX9_draw_74 : decode cX9_draw 74 = .ok (.aload_n 0, 1) := by decide +kernel
theorem dX9_draw_75 : decode cX9_draw 75 = .ok (.bipush 9, 2) := by decide +kernel
theorem dX9_draw_77 : decode cX9_draw 77 = .ok (.invokevirtual 156, 3) := by decide +kernel
theorem dX9_draw_80 : decode cX9_draw 80 = .ok (.i2l, 1) := by decide +kernel
theorem dX9_draw_81 : decode cX9_draw 81 = .ok (.lreturn, 1) := by decide +kernel
theorem dX9_draw_82 : decode cX9_draw 82 = .ok (.lconst 0, 1) := by decide +kernel
theorem dX9_draw_83 : decode cX9_draw 83 = .ok (.lstore 5, 2) := by decide +kernel
theorem dX9_draw_85 : decode cX9_draw 85 = .ok (.lload 5, 2) := by decide +kernel
theorem dX9_draw_87 : decode cX9_draw 87 = .ok (.lload_n 3, 1) := by decide +kernel
theorem dX9_draw_88 : decode cX9_draw 88 = .ok (.lconst 1, 1) := by decide +kernel
theorem dX9_draw_89 : decode cX9_draw 89 = .ok (.lsub, 1) := by decide +kernel
theorem dX9_draw_90 : decode cX9_draw 90 = .ok (.lcmp, 1) := by decide +kernel
theorem dX9_draw_91 : decode cX9_draw 91 = .ok (.ifCond .ge 16, 3) := by decide +kernel
theorem dX9_draw_94 : decode cX9_draw 94 = .ok (.ldc2_w 159, 3) := by decide +kernel
theorem dX9_draw_97 : decode cX9_draw 97 = .ok (.lload 5, 2) := by decide +kernel
theorem dX9_draw_99 : decode cX9_draw 99 = .ok (.lmul, 1) := by decide +kernel
theorem dX9_draw_100 : decode cX9_draw 100 = .ok (.lconst 1, 1) := by decide +kernel
theorem dX9_draw_101 : decode cX9_draw 101 = .ok (.ladd, 1) := by decide +kernel
theorem dX9_draw_102 : decode cX9_draw 102 = .ok (.lstore 5, 2) := by decide +kernel
theorem dX9_draw_104 : decode cX9_draw 104 = .ok (.goto (-19), 3) := by decide +kernel
theorem dX9_draw_107 : decode cX9_draw 107 = .ok (.iload_n 2, 1) := by decide +kernel
theorem dX9_draw_108 : decode cX9_draw 108 = .ok (.istore 7, 2) := by decide +kernel
theorem dX9_draw_110 : decode cX9_draw 110 = .ok (.lconst 0, 1) := by decide +kernel
theorem dX9_draw_111 : decode cX9_draw 111 = .ok (.lstore 8, 2) := by decide +kernel
theorem dX9_draw_113 : decode cX9_draw 113 = .ok (.iconst 0, 1) := by decide +kernel
theorem dX9_draw_114 : decode cX9_draw 114 = .ok (.istore 10, 2) := by decide +kernel
theorem dX9_draw_116 : decode cX9_draw 116 = .ok (.iload 10, 2) := by decide +kernel
theorem dX9_draw_118 : decode cX9_draw 118 = .ok (.bipush 64, 2) := by decide +kernel
theorem dX9_draw_120 : decode cX9_draw 120 = .ok (.if_icmp .ge 72, 3) := by decide +kernel
theorem dX9_draw_123 : decode cX9_draw 123 = .ok (.lconst 0, 1) := by decide +kernel
theorem dX9_draw_124 : decode cX9_draw 124 = .ok (.lstore 8, 2) := by decide +kernel
theorem dX9_draw_126 : decode cX9_draw 126 = .ok (.iconst 0, 1) := by decide +kernel
theorem dX9_draw_127 : decode cX9_draw 127 = .ok (.istore 11, 2) := by decide +kernel
theorem dX9_draw_129 : decode cX9_draw 129 = .ok (.iload 11, 2) := by decide +kernel
theorem dX9_draw_131 : decode cX9_draw 131 = .ok (.iconst 5, 1) := by decide +kernel
theorem dX9_draw_132 : decode cX9_draw 132 = .ok (.if_icmp .ge 33, 3) := by decide +kernel
theorem dX9_draw_135 : decode cX9_draw 135 = .ok (.iload 7, 2) := by decide +kernel
theorem dX9_draw_137 : decode cX9_draw 137 = .ok (.invokestatic 243, 3) := by decide +kernel
theorem dX9_draw_140 : decode cX9_draw 140 = .ok (.istore 7, 2) := by decide +kernel
theorem dX9_draw_142 : decode cX9_draw 142 = .ok (.lload 8, 2) := by decide +kernel
theorem dX9_draw_144 : decode cX9_draw 144 = .ok (.bipush 15, 2) := by decide +kernel
theorem dX9_draw_146 : decode cX9_draw 146 = .ok (.lshl, 1) := by decide +kernel
theorem dX9_draw_147 : decode cX9_draw 147 = .ok (.iload 7, 2) := by decide +kernel
theorem dX9_draw_149 : decode cX9_draw 149 = .ok (.ldc 246, 2) := by decide +kernel
theorem dX9_draw_151 : decode cX9_draw 151 = .ok (.idiv, 1) := by decide +kernel
theorem dX9_draw_152 : decode cX9_draw 152 = .ok (.ldc 247, 2) := by decide +kernel
theorem dX9_draw_154 : decode cX9_draw 154 = .ok (.irem, 1) := by decide +kernel
theorem dX9_draw_155 : decode cX9_draw 155 = .ok (.i2l, 1) := by decide +kernel
theorem dX9_draw_156 : decode cX9_draw 156 = .ok (.lor, 1) := by decide +kernel
theorem dX9_draw_157 : decode cX9_draw 157 = .ok (.lstore 8, 2) := by decide +kernel
theorem dX9_draw_159 : decode cX9_draw 159 = .ok (.iinc 11 1, 3) := by decide +kernel
theorem dX9_draw_162 : decode cX9_draw 162 = .ok (.goto (-33), 3) := by decide +kernel
theorem dX9_draw_165 : decode cX9_draw 165 = .ok (.lload 8, 2) := by decide +kernel
theorem dX9_draw_167 : decode cX9_draw 167 = .ok (.ldc2_w 248, 3) := by decide +kernel
theorem dX9_draw_170 : decode cX9_draw 170 = .ok (.lload 5, 2) := by decide +kernel
theorem dX9_draw_172 : decode cX9_draw 172 = .ok (.land, 1) := by decide +kernel
theorem dX9_draw_173 : decode cX9_draw 173 = .ok (.land, 1) := by decide +kernel
theorem dX9_draw_174 : decode cX9_draw 174 = .ok (.lstore 8, 2) := by decide +kernel
theorem dX9_draw_176 : decode cX9_draw 176 = .ok (.lload 8, 2) := by decide +kernel
theorem dX9_draw_178 : decode cX9_draw 178 = .ok (.lload_n 3, 1) := by decide +kernel
theorem dX9_draw_179 : decode cX9_draw 179 = .ok (.lcmp, 1) := by decide +kernel
theorem dX9_draw_180 : decode cX9_draw 180 = .ok (.ifCond .ge 6, 3) := by decide +kernel
theorem dX9_draw_183 : decode cX9_draw 183 = .ok (.lload 8, 2) := by decide +kernel
theorem dX9_draw_185 : decode cX9_draw 185 = .ok (.lreturn, 1) := by decide +kernel
theorem dX9_draw_186 : decode cX9_draw 186 = .ok (.iinc 10 1, 3) := by decide +kernel
theorem dX9_draw_189 : decode cX9_draw 189 = .ok (.goto (-73), 3) := by decide +kernel
theorem dX9_draw_192 : decode cX9_draw 192 = .ok (.lload 8, 2) := by decide +kernel
theorem dX9_draw_194 : decode cX9_draw 194 = .ok (.lload_n 3, 1) := by decide +kernel
theorem dX9_draw_195 : decode cX9_draw 195 = .ok (.lrem, 1) := by decide +kernel
theorem dX9_draw_196 : decode cX9_draw 196 = .ok (.lreturn, 1) := by decide +kernel
set_option maxRecDepth 20000 in
theorem ggX9_mirror_X9_refuse : GoodIn wsX9_mirror wsX9_refuse := goodIn_r _ [25, 2, 56, 57, 58, 59, 60, 61, 62, 63, 64, 65, 66, 67, 68, 69, 70, 71, 72, 73, 74, 75, 76, 77, 78, 79, 80, 81, 82, 83, 84, 85, 86, 87, 88, 89, 90, 91, 92, 93, 94, 95, 96] (by decide +kernel) (by decide +kernel)
set_option maxRecDepth 20000 in
theorem gX9_mirror_X9_refuse : GoodIn wsX9_mirror (wsV RX9 156 RX9 yX9_refuse wsX9_refuse) := goodIn_app (goodIn_of _ (by decide +kernel)) ggX9_mirror_X9_refuse
set_option maxRecDepth 20000 in
theorem ggX9_mirror_X9_isMirrored : GoodIn wsX9_mirror wsX9_isMirrored := goodIn_r _ [29, 17, 18, 19, 56, 57, 58, 59, 60, 61, 62, 63, 64, 65, 66, 67, 68, 69, 70, 71, 72, 73, 74, 75, 76, 77, 78, 79, 80, 81, 82, 83, 84, 85, 86, 87, 88, 89, 90, 91, 92, 93, 94, 95, 96] (by decide +kernel) (by decide +kernel)
set_option maxRecDepth 20000 in
theorem gX9_mirror_X9_isMirrored : GoodIn wsX9_mirror (wsV RX9 250 RX9 yX9_isMirrored wsX9_isMirrored) := goodIn_app (goodIn_of _ (by decide +kernel)) ggX9_mirror_X9_isMirrored
set_option maxRecDepth 20000 in
theorem ggX9_mirror_X9_areOpen : GoodIn wsX9_mirror wsX9_areOpen := goodIn_r _ [33, 8, 5, 20, 14, 34, 35, 36, 24, 37, 3, 4, 38, 39, 40, 41, 42, 43, 44, 45, 46, 47, 48, 49, 56, 57, 58, 59, 60, 61, 62, 63, 64, 65, 66, 67, 68, 69, 70, 71, 72, 73, 74, 75, 76, 77, 78, 79, 80, 81, 82, 83, 84, 85, 86, 87, 88, 89, 90, 91, 92, 93, 94, 95, 96] (by decide +kernel) (by decide +kernel)
set_option maxRecDepth 20000 in
theorem gX9_mirror_X9_areOpen : GoodIn wsX9_mirror (wsV RX9 186 RX9 yX9_areOpen wsX9_areOpen) := goodIn_app (goodIn_of _ (by decide +kernel)) ggX9_mirror_X9_areOpen
set_option maxRecDepth 20000 in
theorem ggX9_mirror_X9_squareOf : GoodIn wsX9_mirror wsX9_squareOf := goodIn_r _ [49] (by decide +kernel) (by decide +kernel)
set_option maxRecDepth 20000 in
theorem gX9_mirror_X9_squareOf : GoodIn wsX9_mirror (va_wsS RX9 144 yX9_squareOf wsX9_squareOf) := goodIn_app (goodIn_of _ (by decide +kernel)) ggX9_mirror_X9_squareOf
set_option maxRecDepth 20000 in
theorem ggX9_mirror_X9_xOf : GoodIn wsX9_mirror wsX9_xOf := goodIn_r _ [52] (by decide +kernel) (by decide +kernel)
set_option maxRecDepth 20000 in
theorem gX9_mirror_X9_xOf : GoodIn wsX9_mirror (va_wsS RX9 147 yX9_xOf wsX9_xOf) := goodIn_app (goodIn_of _ (by decide +kernel)) ggX9_mirror_X9_xOf
set_option maxRecDepth 20000 in
theorem ggX9_mirror_X9_yOf : GoodIn wsX9_mirror wsX9_yOf := goodIn_r _ [55] (by decide +kernel) (by decide +kernel)
set_option maxRecDepth 20000 in
theorem gX9_mirror_X9_yOf : GoodIn wsX9_mirror (va_wsS RX9 150 yX9_yOf wsX9_yOf) := goodIn_app (goodIn_of _ (by decide +kernel)) ggX9_mirror_X9_yOf
theorem dX9_mirror_0 : decode cX9_mirror 0 = .ok (.aload_n 0, 1) := by decide +kernel
theorem dX9_mirror_1 : decode cX9_mirror 1 = .ok (.iconst 0, 1) := by decide +kernel
theorem dX9_mirror_2 : decode cX9_mirror 2 = .ok (.putfield 112, 3) := by decide +kernel
theorem dX9_mirror_5 : decode cX9_mirror 5 = .ok (.aload_n 0, 1) := by decide +kernel
theorem dX9_mirror_6 : decode cX9_mirror 6 = .ok (.iconst 0, 1) := by decide +kernel
theorem dX9_mirror_7 : decode cX9_mirror 7 = .ok (.putfield 115, 3) := by decide +kernel
theorem dX9_mirror_10 : decode cX9_mirror 10 = .ok (.iload_n 1, 1) := by decide +kernel
theorem dX9_mirror_11 : decode cX9_mirror 11 = .ok (.ifCond .lt 12, 3) := by decide +kernel
theorem dX9_mirror_14 : decode cX9_mirror 14 = .ok (.iload_n 2, 1) := by decide +kernel
theorem dX9_mirror_15 : decode cX9_mirror 15 = .ok (.ifCond .lt 8, 3) := by decide +kernel
theorem dX9_mirror_18 : decode cX9_mirror 18 = .ok (.iload_n 2, 1) := by decide +kernel
theorem dX9_mirror_19 : decode cX9_mirror 19 = .ok (.iconst 1, 1) := by decide +kernel
theorem dX9_mirror_20 : decode cX9_mirror 20 = .ok (.if_icmp .le 10, 3) := by decide +kernel
theorem dX9_mirror_23 : decode cX9_mirror 23 = .ok (.aload_n 0, 1) := by decide +kernel
theorem dX9_mirror_24 : decode cX9_mirror 24 = .ok (.iconst 2, 1) := by decide +kernel
theorem dX9_mirror_25 : decode cX9_mirror 25 = .ok (.invokevirtual 156, 3) := by decide +kernel
theorem dX9_mirror_28 : decode cX9_mirror 28 = .ok (.i2l, 1) := by decide +kernel
theorem dX9_mirror_29 : decode cX9_mirror 29 = .ok (.lreturn, 1) := by decide +kernel
theorem dX9_mirror_30 : decode cX9_mirror 30 = .ok (.aload_n 0, 1) := by decide +kernel
theorem dX9_mirror_31 : decode cX9_mirror 31 = .ok (.getfield 137, 3) := by decide +kernel
theorem dX9_mirror_34 : decode cX9_mirror 34 = .ok (.iconst 1, 1) := by decide +kernel
theorem dX9_mirror_35 : decode cX9_mirror 35 = .ok (.if_icmp .ne 10, 3) := by decide +kernel
theorem dX9_mirror_38 : decode cX9_mirror 38 = .ok (.aload_n 0, 1) := by decide +kernel
theorem dX9_mirror_39 : decode cX9_mirror 39 = .ok (.invokevirtual 250, 3) := by decide +kernel
theorem dX9_mirror_42 : decode cX9_mirror 42 = .ok (.ifCond .ne 10, 3) := by decide +kernel
theorem dX9_mirror_45 : decode cX9_mirror 45 = .ok (.aload_n 0, 1) := by decide +kernel
theorem dX9_mirror_46 : decode cX9_mirror 46 = .ok (.iconst 5, 1) := by decide +kernel
theorem dX9_mirror_47 : decode cX9_mirror 47 = .ok (.invokevirtual 156, 3) := by decide +kernel
theorem dX9_mirror_50 : decode cX9_mirror 50 = .ok (.i2l, 1) := by decide +kernel
theorem dX9_mirror_51 : decode cX9_mirror 51 = .ok (.lreturn, 1) := by decide +kernel
theorem dX9_mirror_52 : decode cX9_mirror 52 = .ok (.iconst 0, 1) := by decide +kernel
theorem dX9_mirror_53 : decode cX9_mirror 53 = .ok (.istore_n 3, 1) := by decide +kernel
theorem dX9_mirror_54 : decode cX9_mirror 54 = .ok (.iload_n 3, 1) := by decide +kernel
theorem dX9_mirror_55 : decode cX9_mirror 55 = .ok (.sipush 3721, 3) := by decide +kernel
theorem dX9_mirror_58 : decode cX9_mirror 58 = .ok (.if_icmp .ge 26, 3) := by decide +kernel
theorem dX9_mirror_61 : decode cX9_mirror 61 = .ok (.aload_n 0, 1) := by decide +kernel
theorem dX9_mirror_62 : decode cX9_mirror 62 = .ok (.getfield 38, 3) := by decide +kernel
theorem dX9_mirror_65 : decode cX9_mirror 65 = .ok (.iload_n 3, 1) := by decide +kernel
theorem dX9_mirror_66 : decode cX9_mirror 66 = .ok (.baload, 1) := by decide +kernel
theorem dX9_mirror_67 : decode cX9_mirror 67 = .ok (.ifCond .eq 11, 3) := by decide +kernel
theorem dX9_mirror_70 : decode cX9_mirror 70 = .ok (.aload_n 0, 1) := by decide +kernel
theorem dX9_mirror_71 : decode cX9_mirror 71 = .ok (.bipush 7, 2) := by decide +kernel
theorem dX9_mirror_73 : decode cX9_mirror 73 = .ok (.invokevirtual 156, 3) := by decide +kernel
theorem dX9_mirror_76 : decode cX9_mirror 76 = .ok (.i2l, 1) := by decide +kernel
theorem dX9_mirror_77 : decode cX9_mirror 77 = .ok (.lreturn, 1) := by decide +kernel
theorem dX9_mirror_78 : decode cX9_mirror 78 = .ok (.iinc 3 1, 3) := by decide +kernel
theorem dX9_mirror_81 : decode cX9_mirror 81 = .ok (.goto (-27), 3) := by decide +kernel
theorem dX9_mirror_84 : decode cX9_mirror 84 = .ok (.aload_n 0, 1) := by decide +kernel
theorem dX9_mirror_85 : decode cX9_mirror 85 = .ok (.invokevirtual 186, 3) := by decide +kernel
theorem dX9_mirror_88 : decode cX9_mirror 88 = .ok (.ifCond .ne 11, 3) := by decide +kernel
theorem dX9_mirror_91 : decode cX9_mirror 91 = .ok (.aload_n 0, 1) := by decide +kernel
theorem dX9_mirror_92 : decode cX9_mirror 92 = .ok (.bipush 7, 2) := by decide +kernel
theorem dX9_mirror_94 : decode cX9_mirror 94 = .ok (.invokevirtual 156, 3) := by decide +kernel
theorem dX9_mirror_97 : decode cX9_mirror 97 = .ok (.i2l, 1) := by decide +kernel
theorem dX9_mirror_98 : decode cX9_mirror 98 = .ok (.lreturn, 1) := by decide +kernel
theorem dX9_mirror_99 : decode cX9_mirror 99 = .ok (.iload_n 1, 1) := by decide +kernel
theorem dX9_mirror_100 : decode cX9_mirror 100 = .ok (.i2l, 1) := by decide +kernel
theorem dX9_mirror_101 : decode cX9_mirror 101 = .ok (.aload_n 0, 1) := by decide +kernel
theorem dX9_mirror_102 : decode cX9_mirror 102 = .ok (.getfield 164, 3) := by decide +kernel
theorem dX9_mirror_105 : decode cX9_mirror 105 = .ok (.i2l, 1) := by decide +kernel
theorem dX9_mirror_106 : decode cX9_mirror 106 = .ok (.ladd, 1) := by decide +kernel
theorem dX9_mirror_107 : decode cX9_mirror 107 = .ok (.ldc2_w 253, 3) := by decide +kernel
theorem dX9_mirror_110 : decode cX9_mirror 110 = .ok (.lcmp, 1) := by decide +kernel
theorem dX9_mirror_111 : decode cX9_mirror 111 = .ok (.ifCond .gt 25, 3) := by decide +kernel
theorem dX9_mirror_114 : decode cX9_mirror 114 = .ok (.ldc2_w 255, 3) := by decide +kernel
theorem dX9_mirror_117 : decode cX9_mirror 117 = .ok (.iload_n 1, 1) := by decide +kernel
theorem dX9_mirror_118 : decode cX9_mirror 118 = .ok (.i2l, 1) := by decide +kernel
theorem dX9_mirror_119 : decode cX9_mirror 119 = .ok (.lmul, 1) := by decide +kernel
theorem dX9_mirror_120 : decode cX9_mirror 120 = .ok (.aload_n 0, 1) := by decide +kernel
theorem dX9_mirror_121 : decode cX9_mirror 121 = .ok (.getfield 161, 3) := by decide +kernel
theorem dX9_mirror_124 : decode cX9_mirror 124 = .ok (.invokestatic 257, 3) := by decide +kernel
theorem dX9_mirror_127 : decode cX9_mirror 127 = .ok (.i2l, 1) := by decide +kernel
theorem dX9_mirror_128 : decode cX9_mirror 128 = .ok (.ladd, 1) := by decide +kernel
theorem dX9_mirror_129 : decode cX9_mirror 129 = .ok (.ldc2_w 260, 3) := by decide +kernel
theorem dX9_mirror_132 : decode cX9_mirror 132 = .ok (.lcmp, 1) := by decide +kernel
theorem dX9_mirror_133 : decode cX9_mirror 133 = .ok (.ifCond .le 11, 3) := by decide +kernel
theorem dX9_mirror_136 : decode cX9_mirror 136 = .ok (.aload_n 0, 1) := by decide +kernel
theorem dX9_mirror_137 : decode cX9_mirror 137 = .ok (.bipush 10, 2) := by decide +kernel
theorem dX9_mirror_139 : decode cX9_mirror 139 = .ok (.invokevirtual 156, 3) := by decide +kernel
theorem dX9_mirror_142 : decode cX9_mirror 142 = .ok (.i2l, 1) := by decide +kernel
theorem dX9_mirror_143 : decode cX9_mirror 143 = .ok (.lreturn, 1) := by decide +kernel
theorem dX9_mirror_144 : decode cX9_mirror 144 = .ok (.iload_n 2, 1) := by decide +kernel
theorem dX9_mirror_145 : decode cX9_mirror 145 = .ok (.ifCond .ne 10, 3) := by decide +kernel
theorem dX9_mirror_148 : decode cX9_mirror 148 = .ok (.aload_n 0, 1) := by decide +kernel
theorem dX9_mirror_149 : decode cX9_mirror 149 = .ok (.getfield 170, 3) := by decide +kernel
theorem dX9_mirror_152 : decode cX9_mirror 152 = .ok (.goto 10, 3) := by decide +kernel
theorem dX9_mirror_155 : decode cX9_mirror 155 = .ok (.bipush (-2), 2) := by decide +kernel
theorem dX9_mirror_157 : decode cX9_mirror 157 = .ok (.aload_n 0, 1) := by decide +kernel
theorem dX9_mirror_158 : decode cX9_mirror 158 = .ok (.getfield 170, 3) := by decide +kernel
theorem dX9_mirror_161 : decode cX9_mirror 161 = .ok (.isub, 1) := by decide +kernel
theorem dX9_mirror_162 : decode cX9_mirror 162 = .ok (.istore_n 3, 1) := by decide +kernel
theorem dX9_mirror_163 : decode cX9_mirror 163 = .ok (.iload_n 3, 1) := by decide +kernel
theorem dX9_mirror_164 : decode cX9_mirror 164 = .ok (.bipush (-30), 2) := by decide +kernel
theorem dX9_mirror_166 : decode cX9_mirror 166 = .ok (.if_icmp .ge 5, 3) := by decide +kernel
theorem dX9_mirror_169 : decode cX9_mirror 169 = .ok (.lconst 0, 1) := by decide +kernel
theorem dX9_mirror_170 : decode cX9_mirror 170 = .ok (.lreturn, 1) := by decide +kernel
theorem dX9_mirror_171 : decode cX9_mirror 171 = .ok (.iconst 0, 1) := by decide +kernel
theorem dX9_mirror_172 : decode cX9_mirror 172 = .ok (.istore 4, 2) := by decide +kernel
theorem dX9_mirror_174 : decode cX9_mirror 174 = .ok (.iload 4, 2) := by decide +kernel
theorem dX9_mirror_176 : decode cX9_mirror 176 = .ok (.sipush 3721, 3) := by decide +kernel
theorem dX9_mirror_179 : decode cX9_mirror 179 = .ok (.if_icmp .ge 17, 3) := by decide +kernel
theorem dX9_mirror_182 : decode cX9_mirror 182 = .ok (.aload_n 0, 1) := by decide +kernel
theorem dX9_mirror_183 : decode cX9_mirror 183 = .ok (.getfield 48, 3) := by decide +kernel
theorem dX9_mirror_186 : decode cX9_mirror 186 = .ok (.iload 4, 2) := by decide +kernel
theorem dX9_mirror_188 : decode cX9_mirror 188 = .ok (.lconst 0, 1) := by decide +kernel
theorem dX9_mirror_189 : decode cX9_mirror 189 = .ok (.lastore, 1) := by decide +kernel
theorem dX9_mirror_190 : decode cX9_mirror 190 = .ok (.iinc 4 1, 3) := by decide +kernel
theorem dX9_mirror_193 : decode cX9_mirror 193 = .ok (.goto (-19), 3) := by decide +kernel
theorem dX9_mirror_196 : decode cX9_mirror 196 = .ok (.aload_n 0, 1) := by decide +kernel
theorem dX9_mirror_197 : decode cX9_mirror 197 = .ok (.getfield 48, 3) := by decide +kernel
theorem dX9_mirror_200 : decode cX9_mirror 200 = .ok (.aload_n 0, 1) := by decide +kernel
theorem dX9_mirror_201 : decode cX9_mirror 201 = .ok (.getfield 161, 3) := by decide +kernel
theorem dX9_mirror_204 : decode cX9_mirror 204 = .ok (.aload_n 0, 1) := by decide +kernel
theorem dX9_mirror_205 : decode cX9_mirror 205 = .ok (.getfield 164, 3) := by decide +kernel
theorem dX9_mirror_208 : decode cX9_mirror 208 = .ok (.invokestatic 144, 3) := by decide +kernel
theorem dX9_mirror_211 : decode cX9_mirror 211 = .ok (.lconst 1, 1) := by decide +kernel
theorem dX9_mirror_212 : decode cX9_mirror 212 = .ok (.lastore, 1) := by decide +kernel
theorem dX9_mirror_213 : decode cX9_mirror 213 = .ok (.iconst 0, 1) := by decide +kernel
theorem dX9_mirror_214 : decode cX9_mirror 214 = .ok (.istore 4, 2) := by decide +kernel
theorem dX9_mirror_216 : decode cX9_mirror 216 = .ok (.iload 4, 2) := by decide +kernel
theorem dX9_mirror_218 : decode cX9_mirror 218 = .ok (.iload_n 1, 1) := by decide +kernel
theorem dX9_mirror_219 : decode cX9_mirror 219 = .ok (.if_icmp .ge 156, 3) := by decide +kernel
theorem dX9_mirror_222 : decode cX9_mirror 222 = .ok (.iconst 0, 1) := by decide +kernel
theorem dX9_mirror_223 : decode cX9_mirror 223 = .ok (.istore 5, 2) := by decide +kernel
theorem dX9_mirror_225 : decode cX9_mirror 225 = .ok (.iload 5, 2) := by decide +kernel
theorem dX9_mirror_227 : decode cX9_mirror 227 = .ok (.sipush 3721, 3) := by decide +kernel
theorem dX9_mirror_230 : decode cX9_mirror 230 = .ok (.if_icmp .ge 17, 3) := by decide +kernel
theorem dX9_mirror_233 : decode cX9_mirror 233 = .ok (.aload_n 0, 1) := by decide +kernel
theorem dX9_mirror_234 : decode cX9_mirror 234 = .ok (.getfield 51, 3) := by decide +kernel
theorem dX9_mirror_237 : decode cX9_mirror 237 = .ok (.iload 5, 2) := by decide +kernel
theorem dX9_mirror_239 : decode cX9_mirror 239 = .ok (.lconst 0, 1) := by decide +kernel
theorem dX9_mirror_240 : decode cX9_mirror 240 = .ok (.lastore, 1) := by decide +kernel
theorem dX9_mirror_241 : decode cX9_mirror 241 = .ok (.iinc 5 1, 3) := by decide +kernel
theorem dX9_mirror_244 : decode cX9_mirror 244 = .ok (.goto (-19), 3) := by decide +kernel
theorem dX9_mirror_247 : decode cX9_mirror 247 = .ok (.iconst 0, 1) := by decide +kernel
theorem dX9_mirror_248 : decode cX9_mirror 248 = .ok (.istore 5, 2) := by decide +kernel
theorem dX9_mirror_250 : decode cX9_mirror 250 = .ok (.iload 5, 2) := by decide +kernel
theorem dX9_mirror_252 : decode cX9_mirror 252 = .ok (.sipush 3721, 3) := by decide +kernel
theorem dX9_mirror_255 : decode cX9_mirror 255 = .ok (.if_icmp .ge 83, 3) := by decide +kernel
theorem dX9_mirror_258 : decode cX9_mirror 258 = .ok (.iconst 0, 1) := by decide +kernel
theorem dX9_mirror_259 : decode cX9_mirror 259 = .ok (.istore 6, 2) := by decide +kernel
theorem dX9_mirror_261 : decode cX9_mirror 261 = .ok (.iload 6, 2) := by decide +kernel
theorem dX9_mirror_263 : decode cX9_mirror 263 = .ok (.aload_n 0, 1) := by decide +kernel
theorem dX9_mirror_264 : decode cX9_mirror 264 = .ok (.getfield 19, 3) := by decide +kernel
theorem dX9_mirror_267 : decode cX9_mirror 267 = .ok (.if_icmp .ge 65, 3) := by decide +kernel
theorem dX9_mirror_270 : decode cX9_mirror 270 = .ok (.aload_n 0, 1) := by decide +kernel
theorem dX9_mirror_271 : decode cX9_mirror 271 = .ok (.getfield 48, 3) := by decide +kernel
theorem dX9_mirror_274 : decode cX9_mirror 274 = .ok (.iload 5, 2) := by decide +kernel
theorem dX9_mirror_276 : decode cX9_mirror 276 = .ok (.laload, 1) := by decide +kernel
theorem dX9_mirror_277 : decode cX9_mirror 277 = .ok (.lconst 0, 1) := by decide +kernel
theorem dX9_mirror_278 : decode cX9_mirror 278 = .ok (.lcmp, 1) := by decide +kernel
theorem dX9_mirror_279 : decode cX9_mirror 279 = .ok (.ifCond .le 53, 3) := by decide +kernel
theorem dX9_mirror_282 : decode cX9_mirror 282 = .ok (.aload_n 0, 1) := by decide +kernel
theorem dX9_mirror_283 : decode cX9_mirror 283 = .ok (.getfield 51, 3) := by decide +kernel
theorem dX9_mirror_286 : decode cX9_mirror 286 = .ok (.iload 5, 2) := by decide +kernel
theorem dX9_mirror_288 : decode cX9_mirror 288 = .ok (.invokestatic 147, 3) := by decide +kernel
theorem dX9_mirror_291 : decode cX9_mirror 291 = .ok (.aload_n 0, 1) := by decide +kernel
theorem dX9_mirror_292 : decode cX9_mirror 292 = .ok (.getfield 29, 3) := by decide +kernel
theorem dX9_mirror_295 : decode cX9_mirror 295 = .ok (.iload 6, 2) := by decide +kernel
theorem dX9_mirror_297 : decode cX9_mirror 297 = .ok (.iaload, 1) := by decide +kernel
theorem dX9_mirror_298 : decode cX9_mirror 298 = .ok (.iadd, 1) := by decide +kernel
theorem dX9_mirror_299 : decode cX9_mirror 299 = .ok (.iload 5, 2) := by decide +kernel
theorem dX9_mirror_301 : decode cX9_mirror 301 = .ok (.invokestatic 150, 3) := by decide +kernel
theorem dX9_mirror_304 : decode cX9_mirror 304 = .ok (.aload_n 0, 1) := by decide +kernel
theorem dX9_mirror_305 : decode cX9_mirror 305 = .ok (.getfield 32, 3) := by decide +kernel
theorem dX9_mirror_308 : decode cX9_mirror 308 = .ok (.iload 6, 2) := by decide +kernel
theorem dX9_mirror_310 : decode cX9_mirror 310 = .ok (.iaload, 1) := by decide +kernel
theorem dX9_mirror_311 : decode cX9_mirror 311 = .ok (.iadd, 1) := by decide +kernel
theorem dX9_mirror_312 : decode cX9_mirror 312 = .ok (.invokestatic 144, 3) := by decide +kernel
theorem dX9_mirror_315 : decode cX9_mirror 315 = .ok (.dup2, 1) := by decide +kernel
theorem dX9_mirror_316 : decode cX9_mirror 316 = .ok (.laload, 1) := by decide +kernel
theorem dX9_mirror_317 : decode cX9_mirror 317 = .ok (.aload_n 0, 1) := by decide +kernel
theorem dX9_mirror_318 : decode cX9_mirror 318 = .ok (.getfield 48, 3) := by decide +kernel
theorem dX9_mirror_321 : decode cX9_mirror 321 = .ok (.iload 5, 2) := by decide +kernel
theorem dX9_mirror_323 : decode cX9_mirror 323 = .ok (.laload, 1) := by decide +kernel
theorem dX9_mirror_324 : decode cX9_mirror 324 = .ok (.ladd, 1) := by decide +kernel
theorem dX9_mirror_325 : decode cX9_mirror 325 = .ok (.lastore, 1) := by decide +kernel
theorem dX9_mirror_326 : decode cX9_mirror 326 = .ok (.iinc 6 1, 3) := by decide +kernel
theorem dX9_mirror_329 : decode cX9_mirror 329 = .ok (.goto (-68), 3) := by decide +kernel
theorem dX9_mirror_332 : decode cX9_mirror 332 = .ok (.iinc 5 1, 3) := by decide +kernel
theorem dX9_mirror_335 : decode cX9_mirror 335 = .ok (.goto (-85), 3) := by decide +kernel
theorem dX9_mirror_338 : decode cX9_mirror 338 = .ok (.iconst 0, 1) := by decide +kernel
theorem dX9_mirror_339 : decode cX9_mirror 339 = .ok (.istore 5, 2) := by decide +kernel
theorem dX9_mirror_341 : decode cX9_mirror 341 = .ok (.iload 5, 2) := by decide +kernel
theorem dX9_mirror_343 : decode cX9_mirror 343 = .ok (.sipush 3721, 3) := by decide +kernel
theorem dX9_mirror_346 : decode cX9_mirror 346 = .ok (.if_icmp .ge 23, 3) := by decide +kernel
theorem dX9_mirror_349 : decode cX9_mirror 349 = .ok (.aload_n 0, 1) := by decide +kernel
theorem dX9_mirror_350 : decode cX9_mirror 350 = .ok (.getfield 48, 3) := by decide +kernel
theorem dX9_mirror_353 : decode cX9_mirror 353 = .ok (.iload 5, 2) := by decide +kernel
theorem dX9_mirror_355 : decode cX9_mirror 355 = .ok (.aload_n 0, 1) := by decide +kernel
theorem dX9_mirror_356 : decode cX9_mirror 356 = .ok (.getfield 51, 3) := by decide +kernel
theorem dX9_mirror_359 : decode cX9_mirror 359 = .ok (.iload 5, 2) := by decide +kernel
theorem dX9_mirror_361 : decode cX9_mirror 361 = .ok (.laload, 1) := by decide +kernel
theorem dX9_mirror_362 : decode cX9_mirror 362 = .ok (.lastore, 1) := by decide +kernel
theorem dX9_mirror_363 : decode cX9_mirror 363 = .ok (.iinc 5 1, 3) := by decide +kernel
theorem dX9_mirror_366 : decode cX9_mirror 366 = .ok (.goto (-25), 3) := by decide +kernel
theorem dX9_mirror_369 : decode cX9_mirror 369 = .ok (.iinc 4 1, 3) := by decide +kernel
theorem dX9_mirror_372 : decode cX9_mirror 372 = .ok (.goto (-156), 3) := by decide +kernel
theorem dX9_mirror_375 : decode cX9_mirror 375 = .ok (.aload_n 0, 1) := by decide +kernel
theorem dX9_mirror_376 : decode cX9_mirror 376 = .ok (.getfield 48, 3) := by decide +kernel
theorem dX9_mirror_379 : decode cX9_mirror 379 = .ok (.aload_n 0, 1) := by decide +kernel
theorem dX9_mirror_380 : decode cX9_mirror 380 = .ok (.getfield 167, 3) := by decide +kernel
theorem dX9_mirror_383 : decode cX9_mirror 383 = .ok (.iload_n 3, 1) := by decide +kernel
theorem dX9_mirror_384 : decode cX9_mirror 384 = .ok (.invokestatic 144, 3) := by decide +kernel
theorem dX9_mirror_387 : decode cX9_mirror 387 = .ok (.laload, 1) := by decide +kernel
theorem dX9_mirror_388 : decode cX9_mirror 388 = .ok (.lreturn, 1) := by decide +kernel
theorem dX9_isMirrored_0 : decode cX9_isMirrored 0 = .ok (.iconst 0, 1) := by decide +kernel
theorem dX9_isMirrored_1 : decode cX9_isMirrored 1 = .ok (.istore_n 1, 1) := by decide +kernel
theorem dX9_isMirrored_2 : decode cX9_isMirrored 2 = .ok (.iload_n 1, 1) := by decide +kernel
theorem dX9_isMirrored_3 : decode cX9_isMirrored 3 = .ok (.aload_n 0, 1) := by decide +kernel
theorem dX9_isMirrored_4 : decode cX9_isMirrored 4 = .ok (.getfield 19, 3) := by decide +kernel
theorem dX9_isMirrored_7 : decode cX9_isMirrored 7 = .ok (.if_icmp .ge 94, 3) := by decide +kernel
theorem dX9_isMirrored_10 : decode cX9_isMirrored 10 = .ok (.iconst 0, 1) := by decide +kernel
theorem dX9_isMirrored_11 : decode cX9_isMirrored 11 = .ok (.istore_n 2, 1) := by decide +kernel
theorem dX9_isMirrored_12 : decode cX9_isMirrored 12 = .ok (.iconst 0, 1) := by decide +kernel
theorem dX9_isMirrored_13 : decode cX9_isMirrored 13 = .ok (.istore_n 3, 1) := by decide +kernel
theorem dX9_isMirrored_14 : decode cX9_isMirrored 14 = .ok (.iload_n 3, 1) := by decide +kernel
theorem dX9_isMirrored_15 : decode cX9_isMirrored 15 = .ok (.aload_n 0, 1) := by decide +kernel
theorem dX9_isMirrored_16 : decode cX9_isMirrored 16 = .ok (.getfield 19, 3) := by decide +kernel
theorem dX9_isMirrored_19 : decode cX9_isMirrored 19 = .ok (.if_icmp .ge 50, 3) := by decide +kernel
theorem dX9_isMirrored_22 : decode cX9_isMirrored 22 = .ok (.iload_n 2, 1) := by decide +kernel
theorem dX9_isMirrored_23 : decode cX9_isMirrored 23 = .ok (.ifCond .ne 34, 3) := by decide +kernel
theorem dX9_isMirrored_26 : decode cX9_isMirrored 26 = .ok (.aload_n 0, 1) := by decide +kernel
theorem dX9_isMirrored_27 : decode cX9_isMirrored 27 = .ok (.getfield 29, 3) := by decide +kernel
theorem dX9_isMirrored_30 : decode cX9_isMirrored 30 = .ok (.iload_n 3, 1) := by decide +kernel
theorem dX9_isMirrored_31 : decode cX9_isMirrored 31 = .ok (.iaload, 1) := by decide +kernel
theorem dX9_isMirrored_32 : decode cX9_isMirrored 32 = .ok (.aload_n 0, 1) := by decide +kernel
theorem dX9_isMirrored_33 : decode cX9_isMirrored 33 = .ok (.getfield 29, 3) := by decide +kernel
theorem dX9_isMirrored_36 : decode cX9_isMirrored 36 = .ok (.iload_n 1, 1) := by decide +kernel
theorem dX9_isMirrored_37 : decode cX9_isMirrored 37 = .ok (.iaload, 1) := by decide +kernel
theorem dX9_isMirrored_38 : decode cX9_isMirrored 38 = .ok (.if_icmp .ne 23, 3) := by decide +kernel
theorem dX9_isMirrored_41 : decode cX9_isMirrored 41 = .ok (.aload_n 0, 1) := by decide +kernel
theorem dX9_isMirrored_42 : decode cX9_isMirrored 42 = .ok (.getfield 32, 3) := by decide +kernel
theorem dX9_isMirrored_45 : decode cX9_isMirrored 45 = .ok (.iload_n 3, 1) := by decide +kernel
theorem dX9_isMirrored_46 : decode cX9_isMirrored 46 = .ok (.iaload, 1) := by decide +kernel
theorem dX9_isMirrored_47 : decode cX9_isMirrored 47 = .ok (.aload_n 0, 1) := by decide +kernel
theorem dX9_isMirrored_48 : decode cX9_isMirrored 48 = .ok (.getfield 32, 3) := by decide +kernel
theorem dX9_isMirrored_51 : decode cX9_isMirrored 51 = .ok (.iload_n 1, 1) := by decide +kernel
theorem dX9_isMirrored_52 : decode cX9_isMirrored 52 = .ok (.iaload, 1) := by decide +kernel
theorem dX9_isMirrored_53 : decode cX9_isMirrored 53 = .ok (.ineg, 1) := by decide +kernel
theorem dX9_isMirrored_54 : decode cX9_isMirrored 54 = .ok (.if_icmp .ne 7, 3) := by decide +kernel
theorem dX9_isMirrored_57 : decode cX9_isMirrored 57 = .ok (.iconst 1, 1) := by decide +kernel
theorem dX9_isMirrored_58 : decode cX9_isMirrored 58 = .ok (.goto 4, 3) := by decide +kernel
theorem dX9_isMirrored_61 : decode cX9_isMirrored 61 = .ok (.iconst 0, 1) := by decide +kernel
theorem dX9_isMirrored_62 : decode cX9_isMirrored 62 = .ok (.istore_n 2, 1) := by decide +kernel
theorem dX9_isMirrored_63 : decode cX9_isMirrored 63 = .ok (.iinc 3 1, 3) := by decide +kernel
theorem dX9_isMirrored_66 : decode cX9_isMirrored 66 = .ok (.goto (-52), 3) := by decide +kernel
theorem dX9_isMirrored_69 : decode cX9_isMirrored 69 = .ok (.iload_n 2, 1) := by decide +kernel
theorem dX9_isMirrored_70 : decode cX9_isMirrored 70 = .ok (.ifCond .eq 23, 3) := by decide +kernel
theorem dX9_isMirrored_73 : decode cX9_isMirrored 73 = .ok (.aload_n 0, 1) := by decide +kernel
theorem dX9_isMirrored_74 : decode cX9_isMirrored 74 = .ok (.getfield 32, 3) := by decide +kernel
theorem dX9_isMirrored_77 : decode cX9_isMirrored 77 = .ok (.iload_n 1, 1) := by decide +kernel
theorem dX9_isMirrored_78 : decode cX9_isMirrored 78 = .ok (.iaload, 1) := by decide +kernel
theorem dX9_isMirrored_79 : decode cX9_isMirrored 79 = .ok (.iconst 1, 1) := by decide +kernel
theorem dX9_isMirrored_80 : decode cX9_isMirrored 80 = .ok (.if_icmp .eq 15, 3) := by decide +kernel
theorem dX9_isMirrored_83 : decode cX9_isMirrored 83 = .ok (.aload_n 0, 1) := by decide +kernel
theorem dX9_isMirrored_84 : decode cX9_isMirrored 84 = .ok (.getfield 32, 3) := by decide +kernel
theorem dX9_isMirrored_87 : decode cX9_isMirrored 87 = .ok (.iload_n 1, 1) := by decide +kernel
theorem dX9_isMirrored_88 : decode cX9_isMirrored 88 = .ok (.iaload, 1) := by decide +kernel
theorem dX9_isMirrored_89 : decode cX9_isMirrored 89 = .ok (.iconst (-1), 1) := by decide +kernel
theorem dX9_isMirrored_90 : decode cX9_isMirrored 90 = .ok (.if_icmp .eq 5, 3) := by decide +kernel
theorem dX9_isMirrored_93 : decode cX9_isMirrored 93 = .ok (.iconst 0, 1) := by decide +kernel
theorem dX9_isMirrored_94 : decode cX9_isMirrored 94 = .ok (.ireturn, 1) := by decide +kernel
theorem dX9_isMirrored_95 : decode cX9_isMirrored 95 = .ok (.iinc 1 1, 3) := by decide +kernel
theorem dX9_isMirrored_98 : decode cX9_isMirrored 98 = .ok (.goto (-96), 3) := by decide +kernel
theorem dX9_isMirrored_101 : decode cX9_isMirrored 101 = .ok (.iconst 1, 1) := by decide +kernel
theorem dX9_isMirrored_102 : decode cX9_isMirrored 102 = .ok (.ireturn, 1) := by decide +kernel
theorem dX9_falls_0 : decode cX9_falls 0 = .ok (.iload_n 1, 1) := by decide +kernel
theorem dX9_falls_1 : decode cX9_falls 1 = .ok (.iconst 1, 1) := by decide +kernel
theorem dX9_falls_2 : decode cX9_falls 2 = .ok (.if_icmp .lt 9, 3) := by decide +kernel
theorem dX9_falls_5 : decode cX9_falls 5 = .ok (.iload_n 1, 1) := by decide +kernel
theorem dX9_falls_6 : decode cX9_falls 6 = .ok (.bipush 60, 2) := by decide +kernel
theorem dX9_falls_8 : decode cX9_falls 8 = .ok (.if_icmp .le 5, 3) := by decide +kernel
theorem dX9_falls_11 : decode cX9_falls 11 = .ok (.iconst 2, 1) := by decide +kernel
theorem dX9_falls_12 : decode cX9_falls 12 = .ok (.ireturn, 1) := by decide +kernel
theorem dX9_falls_13 : decode cX9_falls 13 = .ok (.iconst 0, 1) := by decide +kernel
theorem dX9_falls_14 : decode cX9_falls 14 = .ok (.istore_n 2, 1) := by decide +kernel
theorem dX9_falls_15 : decode cX9_falls 15 = .ok (.iload_n 2, 1) := by decide +kernel
theorem dX9_falls_16 : decode cX9_falls 16 = .ok (.aload_n 0, 1) := by decide +kernel
theorem dX9_falls_17 : decode cX9_falls 17 = .ok (.getfield 19, 3) := by decide +kernel
theorem dX9_falls_20 : decode cX9_falls 20 = .ok (.if_icmp .ge 21, 3) := by decide +kernel
theorem dX9_falls_23 : decode cX9_falls 23 = .ok (.aload_n 0, 1) := by decide +kernel
theorem dX9_falls_24 : decode cX9_falls 24 = .ok (.getfield 32, 3) := by decide +kernel
theorem dX9_falls_27 : decode cX9_falls 27 = .ok (.iload_n 2, 1) := by decide +kernel
theorem dX9_falls_28 : decode cX9_falls 28 = .ok (.iaload, 1) := by decide +kernel
theorem dX9_falls_29 : decode cX9_falls 29 = .ok (.iconst (-1), 1) := by decide +kernel
theorem dX9_falls_30 : decode cX9_falls 30 = .ok (.if_icmp .ge 5, 3) := by decide +kernel
theorem dX9_falls_33 : decode cX9_falls 33 = .ok (.iconst 5, 1) := by decide +kernel
theorem dX9_falls_34 : decode cX9_falls 34 = .ok (.ireturn, 1) := by decide +kernel
theorem dX9_falls_35 : decode cX9_falls 35 = .ok (.iinc 2 1, 3) := by decide +kernel
theorem dX9_falls_38 : decode cX9_falls 38 = .ok (.goto (-23), 3) := by decide +kernel
theorem dX9_falls_41 : decode cX9_falls 41 = .ok (.aload_n 0, 1) := by decide +kernel
theorem dX9_falls_42 : decode cX9_falls 42 = .ok (.getfield 164, 3) := by decide +kernel
theorem dX9_falls_45 : decode cX9_falls 45 = .ok (.ifCond .le 7, 3) := by decide +kernel
theorem dX9_falls_48 : decode cX9_falls 48 = .ok (.iconst 0, 1) := by decide +kernel
theorem dX9_falls_49 : decode cX9_falls 49 = .ok (.goto 5, 3) := by decide +kernel
theorem dX9_falls_52 : decode cX9_falls 52 = .ok (.bipush 7, 2) := by decide +kernel
theorem dX9_falls_54 : decode cX9_falls 54 = .ok (.ireturn, 1) := by decide +kernel
set_option maxRecDepth 20000 in
theorem ggX9_comings_X9_plus : GoodIn wsX9_comings wsX9_plus := goodIn_r _ [9, 10] (by decide +kernel) (by decide +kernel)
set_option maxRecDepth 20000 in
theorem gX9_comings_X9_plus : GoodIn wsX9_comings (va_wsS RX9 178 yX9_plus wsX9_plus) := goodIn_app (goodIn_of _ (by decide +kernel)) ggX9_comings_X9_plus
theorem dX9_comings_0 : decode cX9_comings 0 = .ok (.iconst 0, 1) := by decide +kernel
theorem dX9_comings_1 : decode cX9_comings 1 = .ok (.istore_n 3, 1) := by decide +kernel
theorem dX9_comings_2 : decode cX9_comings 2 = .ok (.iload_n 3, 1) := by decide +kernel
theorem dX9_comings_3 : decode cX9_comings 3 = .ok (.sipush 400, 3) := by decide +kernel
theorem dX9_comings_6 : decode cX9_comings 6 = .ok (.if_icmp .ge 16, 3) := by decide +kernel
theorem dX9_comings_9 : decode cX9_comings 9 = .ok (.aload_n 0, 1) := by decide +kernel
theorem dX9_comings_10 : decode cX9_comings 10 = .ok (.getfield 48, 3) := by decide +kernel
theorem dX9_comings_13 : decode cX9_comings 13 = .ok (.iload_n 3, 1) := by decide +kernel
theorem dX9_comings_14 : decode cX9_comings 14 = .ok (.lconst 0, 1) := by decide +kernel
theorem dX9_comings_15 : decode cX9_comings 15 = .ok (.lastore, 1) := by decide +kernel
theorem dX9_comings_16 : decode cX9_comings 16 = .ok (.iinc 3 1, 3) := by decide +kernel
theorem dX9_comings_19 : decode cX9_comings 19 = .ok (.goto (-17), 3) := by decide +kernel
theorem dX9_comings_22 : decode cX9_comings 22 = .ok (.aload_n 0, 1) := by decide +kernel
theorem dX9_comings_23 : decode cX9_comings 23 = .ok (.getfield 48, 3) := by decide +kernel
theorem dX9_comings_26 : decode cX9_comings 26 = .ok (.bipush 60, 2) := by decide +kernel
theorem dX9_comings_28 : decode cX9_comings 28 = .ok (.aload_n 0, 1) := by decide +kernel
theorem dX9_comings_29 : decode cX9_comings 29 = .ok (.getfield 164, 3) := by decide +kernel
theorem dX9_comings_32 : decode cX9_comings 32 = .ok (.iadd, 1) := by decide +kernel
theorem dX9_comings_33 : decode cX9_comings 33 = .ok (.lconst 1, 1) := by decide +kernel
theorem dX9_comings_34 : decode cX9_comings 34 = .ok (.lastore, 1) := by decide +kernel
theorem dX9_comings_35 : decode cX9_comings 35 = .ok (.iconst 1, 1) := by decide +kernel
theorem dX9_comings_36 : decode cX9_comings 36 = .ok (.istore_n 3, 1) := by decide +kernel
theorem dX9_comings_37 : decode cX9_comings 37 = .ok (.iload_n 3, 1) := by decide +kernel
theorem dX9_comings_38 : decode cX9_comings 38 = .ok (.iload_n 1, 1) := by decide +kernel
theorem dX9_comings_39 : decode cX9_comings 39 = .ok (.if_icmp .gt 179, 3) := by decide +kernel
theorem dX9_comings_42 : decode cX9_comings 42 = .ok (.iconst 0, 1) := by decide +kernel
theorem dX9_comings_43 : decode cX9_comings 43 = .ok (.istore 4, 2) := by decide +kernel
theorem dX9_comings_45 : decode cX9_comings 45 = .ok (.iload 4, 2) := by decide +kernel
theorem dX9_comings_47 : decode cX9_comings 47 = .ok (.sipush 400, 3) := by decide +kernel
theorem dX9_comings_50 : decode cX9_comings 50 = .ok (.if_icmp .ge 17, 3) := by decide +kernel
theorem dX9_comings_53 : decode cX9_comings 53 = .ok (.aload_n 0, 1) := by decide +kernel
theorem dX9_comings_54 : decode cX9_comings 54 = .ok (.getfield 51, 3) := by decide +kernel
theorem dX9_comings_57 : decode cX9_comings 57 = .ok (.iload 4, 2) := by decide +kernel
theorem dX9_comings_59 : decode cX9_comings 59 = .ok (.lconst 0, 1) := by decide +kernel
theorem dX9_comings_60 : decode cX9_comings 60 = .ok (.lastore, 1) := by decide +kernel
theorem dX9_comings_61 : decode cX9_comings 61 = .ok (.iinc 4 1, 3) := by decide +kernel
theorem dX9_comings_64 : decode cX9_comings 64 = .ok (.goto (-19), 3) := by decide +kernel
theorem dX9_comings_67 : decode cX9_comings 67 = .ok (.iconst 0, 1) := by decide +kernel
theorem dX9_comings_68 : decode cX9_comings 68 = .ok (.istore 4, 2) := by decide +kernel
theorem dX9_comings_70 : decode cX9_comings 70 = .ok (.iload 4, 2) := by decide +kernel
theorem dX9_comings_72 : decode cX9_comings 72 = .ok (.bipush 60, 2) := by decide +kernel
theorem dX9_comings_74 : decode cX9_comings 74 = .ok (.iload_n 1, 1) := by decide +kernel
theorem dX9_comings_75 : decode cX9_comings 75 = .ok (.iadd, 1) := by decide +kernel
theorem dX9_comings_76 : decode cX9_comings 76 = .ok (.if_icmp .gt 105, 3) := by decide +kernel
theorem dX9_comings_79 : decode cX9_comings 79 = .ok (.aload_n 0, 1) := by decide +kernel
theorem dX9_comings_80 : decode cX9_comings 80 = .ok (.getfield 48, 3) := by decide +kernel
theorem dX9_comings_83 : decode cX9_comings 83 = .ok (.iload 4, 2) := by decide +kernel
theorem dX9_comings_85 : decode cX9_comings 85 = .ok (.laload, 1) := by decide +kernel
theorem dX9_comings_86 : decode cX9_comings 86 = .ok (.lconst 0, 1) := by decide +kernel
theorem dX9_comings_87 : decode cX9_comings 87 = .ok (.lcmp, 1) := by decide +kernel
theorem dX9_comings_88 : decode cX9_comings 88 = .ok (.ifCond .eq 87, 3) := by decide +kernel
theorem dX9_comings_91 : decode cX9_comings 91 = .ok (.iload_n 2, 1) := by decide +kernel
theorem dX9_comings_92 : decode cX9_comings 92 = .ok (.ifCond .eq 13, 3) := by decide +kernel
theorem dX9_comings_95 : decode cX9_comings 95 = .ok (.iload 4, 2) := by decide +kernel
theorem dX9_comings_97 : decode cX9_comings 97 = .ok (.bipush 60, 2) := by decide +kernel
theorem dX9_comings_99 : decode cX9_comings 99 = .ok (.if_icmp .gt 6, 3) := by decide +kernel
theorem dX9_comings_102 : decode cX9_comings 102 = .ok (.goto 73, 3) := by decide +kernel
theorem dX9_comings_105 : decode cX9_comings 105 = .ok (.iconst 0, 1) := by decide +kernel
theorem dX9_comings_106 : decode cX9_comings 106 = .ok (.istore 5, 2) := by decide +kernel
theorem dX9_comings_108 : decode cX9_comings 108 = .ok (.iload 5, 2) := by decide +kernel
theorem dX9_comings_110 : decode cX9_comings 110 = .ok (.aload_n 0, 1) := by decide +kernel
theorem dX9_comings_111 : decode cX9_comings 111 = .ok (.getfield 19, 3) := by decide +kernel
theorem dX9_comings_114 : decode cX9_comings 114 = .ok (.if_icmp .ge 61, 3) := by decide +kernel
theorem dX9_comings_117 : decode cX9_comings 117 = .ok (.iload 4, 2) := by decide +kernel
theorem dX9_comings_119 : decode cX9_comings 119 = .ok (.aload_n 0, 1) := by decide +kernel
theorem dX9_comings_120 : decode cX9_comings 120 = .ok (.getfield 32, 3) := by decide +kernel
theorem dX9_comings_123 : decode cX9_comings 123 = .ok (.iload 5, 2) := by decide +kernel
theorem dX9_comings_125 : decode cX9_comings 125 = .ok (.iaload, 1) := by decide +kernel
theorem dX9_comings_126 : decode cX9_comings 126 = .ok (.iadd, 1) := by decide +kernel
theorem dX9_comings_127 : decode cX9_comings 127 = .ok (.istore 6, 2) := by decide +kernel
theorem dX9_comings_129 : decode cX9_comings 129 = .ok (.iload 6, 2) := by decide +kernel
theorem dX9_comings_131 : decode cX9_comings 131 = .ok (.ifCond .lt 38, 3) := by decide +kernel
theorem dX9_comings_134 : decode cX9_comings 134 = .ok (.iload 6, 2) := by decide +kernel
theorem dX9_comings_136 : decode cX9_comings 136 = .ok (.bipush 60, 2) := by decide +kernel
theorem dX9_comings_138 : decode cX9_comings 138 = .ok (.iload_n 1, 1) := by decide +kernel
theorem dX9_comings_139 : decode cX9_comings 139 = .ok (.iadd, 1) := by decide +kernel
theorem dX9_comings_140 : decode cX9_comings 140 = .ok (.iload_n 3, 1) := by decide +kernel
theorem dX9_comings_141 : decode cX9_comings 141 = .ok (.isub, 1) := by decide +kernel
theorem dX9_comings_142 : decode cX9_comings 142 = .ok (.if_icmp .gt 27, 3) := by decide +kernel
theorem dX9_comings_145 : decode cX9_comings 145 = .ok (.aload_n 0, 1) := by decide +kernel
theorem dX9_comings_146 : decode cX9_comings 146 = .ok (.getfield 51, 3) := by decide +kernel
theorem dX9_comings_149 : decode cX9_comings 149 = .ok (.iload 6, 2) := by decide +kernel
theorem dX9_comings_151 : decode cX9_comings 151 = .ok (.aload_n 0, 1) := by decide +kernel
theorem dX9_comings_152 : decode cX9_comings 152 = .ok (.getfield 51, 3) := by decide +kernel
theorem dX9_comings_155 : decode cX9_comings 155 = .ok (.iload 6, 2) := by decide +kernel
theorem dX9_comings_157 : decode cX9_comings 157 = .ok (.laload, 1) := by decide +kernel
theorem dX9_comings_158 : decode cX9_comings 158 = .ok (.aload_n 0, 1) := by decide +kernel
theorem dX9_comings_159 : decode cX9_comings 159 = .ok (.getfield 48, 3) := by decide +kernel
theorem dX9_comings_162 : decode cX9_comings 162 = .ok (.iload 4, 2) := by decide +kernel
theorem dX9_comings_164 : decode cX9_comings 164 = .ok (.laload, 1) := by decide +kernel
theorem dX9_comings_165 : decode cX9_comings 165 = .ok (.invokestatic 178, 3) := by decide +kernel
theorem dX9_comings_168 : decode cX9_comings 168 = .ok (.lastore, 1) := by decide +kernel
theorem dX9_comings_169 : decode cX9_comings 169 = .ok (.iinc 5 1, 3) := by decide +kernel
theorem dX9_comings_172 : decode cX9_comings 172 = .ok (.goto (-64), 3) := by decide +kernel
theorem dX9_comings_175 : decode cX9_comings 175 = .ok (.iinc 4 1, 3) := by decide +kernel
theorem dX9_comings_178 : decode cX9_comings 178 = .ok (.goto (-108), 3) := by decide +kernel
theorem dX9_comings_181 : decode cX9_comings 181 = .ok (.iconst 0, 1) := by decide +kernel
theorem dX9_comings_182 : decode cX9_comings 182 = .ok (.istore 4, 2) := by decide +kernel
theorem dX9_comings_184 : decode cX9_comings 184 = .ok (.iload 4, 2) := by decide +kernel
theorem dX9_comings_186 : decode cX9_comings 186 = .ok (.sipush 400, 3) := by decide +kernel
theorem dX9_comings_189 : decode cX9_comings 189 = .ok (.if_icmp .ge 23, 3) := by decide +kernel
theorem dX9_comings_192 : decode cX9_comings 192 = .ok (.aload_n 0, 1) := by decide +kernel
theorem dX9_comings_193 : decode cX9_comings 193 = .ok (.getfield 48, 3) := by decide +kernel
theorem dX9_comings_196 : decode cX9_comings 196 = .ok (.iload 4, 2) := by decide +kernel
theorem dX9_comings_198 : decode cX9_comings 198 = .ok (.aload_n 0, 1) := by decide +kernel
theorem dX9_comings_199 : decode cX9_comings 199 = .ok (.getfield 51, 3) := by decide +kernel
theorem dX9_comings_202 : decode cX9_comings 202 = .ok (.iload 4, 2) := by decide +kernel
theorem dX9_comings_204 : decode cX9_comings 204 = .ok (.laload, 1) := by decide +kernel
theorem dX9_comings_205 : decode cX9_comings 205 = .ok (.lastore, 1) := by decide +kernel
theorem dX9_comings_206 : decode cX9_comings 206 = .ok (.iinc 4 1, 3) := by decide +kernel
theorem dX9_comings_209 : decode cX9_comings 209 = .ok (.goto (-25), 3) := by decide +kernel
theorem dX9_comings_212 : decode cX9_comings 212 = .ok (.iinc 3 1, 3) := by decide +kernel
theorem dX9_comings_215 : decode cX9_comings 215 = .ok (.goto (-178), 3) := by decide +kernel
theorem dX9_comings_218 : decode cX9_comings 218 = .ok (.aload_n 0, 1) := by decide +kernel
theorem dX9_comings_219 : decode cX9_comings 219 = .ok (.getfield 48, 3) := by decide +kernel
theorem dX9_comings_222 : decode cX9_comings 222 = .ok (.bipush 60, 2) := by decide +kernel
theorem dX9_comings_224 : decode cX9_comings 224 = .ok (.laload, 1) := by decide +kernel
theorem dX9_comings_225 : decode cX9_comings 225 = .ok (.lreturn, 1) := by decide +kernel
set_option maxRecDepth 20000 in
theorem ggX9_first_X9_falls : GoodIn wsX9_first wsX9_falls := goodIn_r _ [9, 10, 11, 12, 26, 27, 28, 29, 30, 31, 32, 33, 34, 35, 36, 37, 38, 39, 40, 41, 42, 43, 44, 45, 46, 47, 48, 49, 50, 51, 52, 53, 54, 55, 56, 57, 58, 59, 60, 61, 62, 63, 64, 65, 66] (by decide +kernel) (by decide +kernel)
set_option maxRecDepth 20000 in
theorem gX9_first_X9_falls : GoodIn wsX9_first (wsV RX9 262 RX9 yX9_falls wsX9_falls) := goodIn_app (goodIn_of _ (by decide +kernel)) ggX9_first_X9_falls
set_option maxRecDepth 20000 in
theorem ggX9_first_X9_comings : GoodIn wsX9_first wsX9_comings := goodIn_r _ [16, 17, 12, 18, 10, 11, 19, 20, 8, 21, 4, 26, 27, 28, 29, 30, 31, 32, 33, 34, 35, 36, 37, 38, 39, 40, 41, 42, 43, 44, 45, 46, 47, 48, 49, 50, 51, 52, 53, 54, 55, 56, 57, 58, 59, 60, 61, 62, 63, 64, 65, 66] (by decide +kernel) (by decide +kernel)
set_option maxRecDepth 20000 in
theorem gX9_first_X9_comings : GoodIn wsX9_first (wsV RX9 265 RX9 yX9_comings wsX9_comings) := goodIn_app (goodIn_of _ (by decide +kernel)) ggX9_first_X9_comings
set_option maxRecDepth 20000 in
theorem ggX9_first_X9_refuse : GoodIn wsX9_first wsX9_refuse := goodIn_r _ [25, 2, 26, 27, 28, 29, 30, 31, 32, 33, 34, 35, 36, 37, 38, 39, 40, 41, 42, 43, 44, 45, 46, 47, 48, 49, 50, 51, 52, 53, 54, 55, 56, 57, 58, 59, 60, 61, 62, 63, 64, 65, 66] (by decide +kernel) (by decide +kernel)
set_option maxRecDepth 20000 in
theorem gX9_first_X9_refuse : GoodIn wsX9_first (wsV RX9 156 RX9 yX9_refuse wsX9_refuse) := goodIn_app (goodIn_of _ (by decide +kernel)) ggX9_first_X9_refuse
theorem dX9_first_0 : decode cX9_first 0 = .ok (.aload_n 0, 1) := by decide +kernel
theorem dX9_first_1 : decode cX9_first 1 = .ok (.iconst 0, 1) := by decide +kernel
theorem dX9_first_2 : decode cX9_first 2 = .ok (.putfield 112, 3) := by decide +kernel
theorem dX9_first_5 : decode cX9_first 5 = .ok (.aload_n 0, 1) := by decide +kernel
theorem dX9_first_6 : decode cX9_first 6 = .ok (.aload_n 0, 1) := by decide +kernel
theorem dX9_first_7 : decode cX9_first 7 = .ok (.iload_n 1, 1) := by decide +kernel
theorem dX9_first_8 : decode cX9_first 8 = .ok (.invokevirtual 262, 3) := by decide +kernel
theorem dX9_first_11 : decode cX9_first 11 = .ok (.putfield 115, 3) := by decide +kernel
theorem dX9_first_14 : decode cX9_first 14 = .ok (.aload_n 0, 1) := by decide +kernel
theorem dX9_first_15 : decode cX9_first 15 = .ok (.getfield 115, 3) := by decide +kernel
theorem dX9_first_18 : decode cX9_first 18 = .ok (.ifCond .le 7, 3) := by decide +kernel
theorem dX9_first_21 : decode cX9_first 21 = .ok (.ldc2_w 200, 3) := by decide +kernel
theorem dX9_first_24 : decode cX9_first 24 = .ok (.lreturn, 1) := by decide +kernel
theorem dX9_first_25 : decode cX9_first 25 = .ok (.aload_n 0, 1) := by decide +kernel
theorem dX9_first_26 : decode cX9_first 26 = .ok (.iload_n 1, 1) := by decide +kernel
theorem dX9_first_27 : decode cX9_first 27 = .ok (.iconst 1, 1) := by decide +kernel
theorem dX9_first_28 : decode cX9_first 28 = .ok (.invokevirtual 265, 3) := by decide +kernel
theorem dX9_first_31 : decode cX9_first 31 = .ok (.lstore_n 2, 1) := by decide +kernel
theorem dX9_first_32 : decode cX9_first 32 = .ok (.lload_n 2, 1) := by decide +kernel
theorem dX9_first_33 : decode cX9_first 33 = .ok (.ldc2_w 173, 3) := by decide +kernel
theorem dX9_first_36 : decode cX9_first 36 = .ok (.lcmp, 1) := by decide +kernel
theorem dX9_first_37 : decode cX9_first 37 = .ok (.ifCond .lt 13, 3) := by decide +kernel
theorem dX9_first_40 : decode cX9_first 40 = .ok (.aload_n 0, 1) := by decide +kernel
theorem dX9_first_41 : decode cX9_first 41 = .ok (.bipush 9, 2) := by decide +kernel
theorem dX9_first_43 : decode cX9_first 43 = .ok (.invokevirtual 156, 3) := by decide +kernel
theorem dX9_first_46 : decode cX9_first 46 = .ok (.i2l, 1) := by decide +kernel
theorem dX9_first_47 : decode cX9_first 47 = .ok (.goto 4, 3) := by decide +kernel
theorem dX9_first_50 : decode cX9_first 50 = .ok (.lload_n 2, 1) := by decide +kernel
theorem dX9_first_51 : decode cX9_first 51 = .ok (.lreturn, 1) := by decide +kernel
set_option maxRecDepth 20000 in
theorem ggX9_turnings_X9_falls : GoodIn wsX9_turnings wsX9_falls := goodIn_r _ [9, 10, 11, 12, 26, 27, 28, 29, 30, 31, 32, 33, 34, 35, 36, 37, 38, 39, 40, 41, 42, 43, 44, 45, 46, 47, 48, 49, 50, 51, 52, 53, 54, 55, 56, 57, 58, 59, 60, 61, 62, 63, 64, 65, 66] (by decide +kernel) (by decide +kernel)
set_option maxRecDepth 20000 in
theorem gX9_turnings_X9_falls : GoodIn wsX9_turnings (wsV RX9 262 RX9 yX9_falls wsX9_falls) := goodIn_app (goodIn_of _ (by decide +kernel)) ggX9_turnings_X9_falls
set_option maxRecDepth 20000 in
theorem ggX9_turnings_X9_comings : GoodIn wsX9_turnings wsX9_comings := goodIn_r _ [16, 17, 12, 18, 10, 11, 19, 20, 8, 21, 4, 26, 27, 28, 29, 30, 31, 32, 33, 34, 35, 36, 37, 38, 39, 40, 41, 42, 43, 44, 45, 46, 47, 48, 49, 50, 51, 52, 53, 54, 55, 56, 57, 58, 59, 60, 61, 62, 63, 64, 65, 66] (by decide +kernel) (by decide +kernel)
set_option maxRecDepth 20000 in
theorem gX9_turnings_X9_comings : GoodIn wsX9_turnings (wsV RX9 265 RX9 yX9_comings wsX9_comings) := goodIn_app (goodIn_of _ (by decide +kernel)) ggX9_turnings_X9_comings
set_option maxRecDepth 20000 in
theorem ggX9_turnings_X9_refuse : GoodIn wsX9_turnings wsX9_refuse := goodIn_r _ [25, 2, 26, 27, 28, 29, 30, 31, 32, 33, 34, 35, 36, 37, 38, 39, 40, 41, 42, 43, 44, 45, 46, 47, 48, 49, 50, 51, 52, 53, 54, 55, 56, 57, 58, 59, 60, 61, 62, 63, 64, 65, 66] (by decide +kernel) (by decide +kernel)
set_option maxRecDepth 20000 in
theorem gX9_turnings_X9_refuse : GoodIn wsX9_turnings (wsV RX9 156 RX9 yX9_refuse wsX9_refuse) := goodIn_app (goodIn_of _ (by decide +kernel)) ggX9_turnings_X9_refuse
theorem dX9_turnings_0 : decode cX9_turnings 0 = .ok (.aload_n 0, 1) := by decide +kernel
theorem dX9_turnings_1 : decode cX9_turnings 1 = .ok (.iconst 0, 1) := by decide +kernel
theorem dX9_turnings_2 : decode cX9_turnings 2 = .ok (.putfield 112, 3) := by decide +kernel
theorem dX9_turnings_5 : decode cX9_turnings 5 = .ok (.aload_n 0, 1) := by decide +kernel
theorem dX9_turnings_6 : decode cX9_turnings 6 = .ok (.aload_n 0, 1) := by decide +kernel
theorem dX9_turnings_7 : decode cX9_turnings 7 = .ok (.iload_n 1, 1) := by decide +kernel
theorem dX9_turnings_8 : decode cX9_turnings 8 = .ok (.invokevirtual 262, 3) := by decide +kernel
theorem dX9_turnings_11 : decode cX9_turnings 11 = .ok (.putfield 115, 3) := by decide +kernel
theorem dX9_turnings_14 : decode cX9_turnings 14 = .ok (.aload_n 0, 1) := by decide +kernel
theorem dX9_turnings_15 : decode cX9_turnings 15 = .ok (.getfield 115, 3) := by decide +kernel
theorem dX9_turnings_18 : decode cX9_turnings 18 = .ok (.ifCond .le 7, 3) := by decide +kernel
theorem dX9_turnings_21 : decode cX9_turnings 21 = .ok (.ldc2_w 200, 3) := by decide +kernel
theorem dX9_turnings_24 : decode cX9_turnings 24 = .ok (.lreturn, 1) := by decide +kernel
theorem dX9_turnings_25 : decode cX9_turnings 25 = .ok (.aload_n 0, 1) := by decide +kernel
theorem dX9_turnings_26 : decode cX9_turnings 26 = .ok (.iload_n 1, 1) := by decide +kernel
theorem dX9_turnings_27 : decode cX9_turnings 27 = .ok (.iconst 0, 1) := by decide +kernel
theorem dX9_turnings_28 : decode cX9_turnings 28 = .ok (.invokevirtual 265, 3) := by decide +kernel
theorem dX9_turnings_31 : decode cX9_turnings 31 = .ok (.lstore_n 2, 1) := by decide +kernel
theorem dX9_turnings_32 : decode cX9_turnings 32 = .ok (.lload_n 2, 1) := by decide +kernel
theorem dX9_turnings_33 : decode cX9_turnings 33 = .ok (.ldc2_w 173, 3) := by decide +kernel
theorem dX9_turnings_36 : decode cX9_turnings 36 = .ok (.lcmp, 1) := by decide +kernel
theorem dX9_turnings_37 : decode cX9_turnings 37 = .ok (.ifCond .lt 13, 3) := by decide +kernel
theorem dX9_turnings_40 : decode cX9_turnings 40 = .ok (.aload_n 0, 1) := by decide +kernel
theorem dX9_turnings_41 : decode cX9_turnings 41 = .ok (.bipush 9, 2) := by decide +kernel
theorem dX9_turnings_43 : decode cX9_turnings 43 = .ok (.invokevirtual 156, 3) := by decide +kernel
theorem dX9_turnings_46 : decode cX9_turnings 46 = .ok (.i2l, 1) := by decide +kernel
theorem dX9_turnings_47 : decode cX9_turnings 47 = .ok (.goto 4, 3) := by decide +kernel
theorem dX9_turnings_50 : decode cX9_turnings 50 = .ok (.lload_n 2, 1) := by decide +kernel
theorem dX9_turnings_51 : decode cX9_turnings 51 = .ok (.lreturn, 1) := by decide +kernel
set_option maxRecDepth 20000 in
theorem ggX9_family_X9_no : GoodIn wsX9_family wsX9_no := goodIn_r _ [12, 2, 13, 14, 15, 16, 17, 18, 19, 20, 21, 22, 23, 24, 25, 26, 27, 28, 29, 30, 31, 32, 33, 34, 35, 36, 37, 38, 39, 40, 41, 42, 43, 44, 45, 46, 47, 48, 49, 50, 51, 52, 53] (by decide +kernel) (by decide +kernel)
set_option maxRecDepth 20000 in
theorem gX9_family_X9_no : GoodIn wsX9_family (wsV RX9 118 RX9 yX9_no wsX9_no) := goodIn_app (goodIn_of _ (by decide +kernel)) ggX9_family_X9_no
theorem dX9_family_0 : decode cX9_family 0 = .ok (.aload_n 0, 1) := by decide +kernel
theorem dX9_family_1 : decode cX9_family 1 = .ok (.iconst 0, 1) := by decide +kernel
theorem dX9_family_2 : decode cX9_family 2 = .ok (.putfield 112, 3) := by decide +kernel
theorem dX9_family_5 : decode cX9_family 5 = .ok (.aload_n 0, 1) := by decide +kernel
theorem dX9_family_6 : decode cX9_family 6 = .ok (.iconst 0, 1) := by decide +kernel
theorem dX9_family_7 : decode cX9_family 7 = .ok (.putfield 115, 3) := by decide +kernel
theorem dX9_family_10 : decode cX9_family 10 = .ok (.iload_n 1, 1) := by decide +kernel
theorem dX9_family_11 : decode cX9_family 11 = .ok (.iconst 1, 1) := by decide +kernel
theorem dX9_family_12 : decode cX9_family 12 = .ok (.if_icmp .lt 8, 3) := by decide +kernel
theorem dX9_family_15 : decode cX9_family 15 = .ok (.iload_n 1, 1) := by decide +kernel
theorem dX9_family_16 : decode cX9_family 16 = .ok (.iconst 4, 1) := by decide +kernel
theorem dX9_family_17 : decode cX9_family 17 = .ok (.if_icmp .le 9, 3) := by decide +kernel
theorem dX9_family_20 : decode cX9_family 20 = .ok (.aload_n 0, 1) := by decide +kernel
theorem dX9_family_21 : decode cX9_family 21 = .ok (.iconst 2, 1) := by decide +kernel
theorem dX9_family_22 : decode cX9_family 22 = .ok (.invokevirtual 118, 3) := by decide +kernel
theorem dX9_family_25 : decode cX9_family 25 = .ok (.ireturn, 1) := by decide +kernel
theorem dX9_family_26 : decode cX9_family 26 = .ok (.aload_n 0, 1) := by decide +kernel
theorem dX9_family_27 : decode cX9_family 27 = .ok (.iload_n 1, 1) := by decide +kernel
theorem dX9_family_28 : decode cX9_family 28 = .ok (.putfield 269, 3) := by decide +kernel
theorem dX9_family_31 : decode cX9_family 31 = .ok (.iconst 0, 1) := by decide +kernel
theorem dX9_family_32 : decode cX9_family 32 = .ok (.istore_n 2, 1) := by decide +kernel
theorem dX9_family_33 : decode cX9_family 33 = .ok (.iload_n 2, 1) := by decide +kernel
theorem dX9_family_34 : decode cX9_family 34 = .ok (.iconst 4, 1) := by decide +kernel
theorem dX9_family_35 : decode cX9_family 35 = .ok (.if_icmp .ge 37, 3) := by decide +kernel
theorem dX9_family_38 : decode cX9_family 38 = .ok (.aload_n 0, 1) := by decide +kernel
theorem dX9_family_39 : decode cX9_family 39 = .ok (.getfield 60, 3) := by decide +kernel
theorem dX9_family_42 : decode cX9_family 42 = .ok (.iload_n 2, 1) := by decide +kernel
theorem dX9_family_43 : decode cX9_family 43 = .ok (.iconst 0, 1) := by decide +kernel
theorem dX9_family_44 : decode cX9_family 44 = .ok (.iastore, 1) := by decide +kernel
theorem dX9_family_45 : decode cX9_family 45 = .ok (.aload_n 0, 1) := by decide +kernel
theorem dX9_family_46 : decode cX9_family 46 = .ok (.getfield 63, 3) := by decide +kernel
theorem dX9_family_49 : decode cX9_family 49 = .ok (.iload_n 2, 1) := by decide +kernel
theorem dX9_family_50 : decode cX9_family 50 = .ok (.iconst 0, 1) := by decide +kernel
theorem dX9_family_51 : decode cX9_family 51 = .ok (.iastore, 1) := by decide +kernel
