theorem dX9_endsOf_0 : decode cX9_endsOf 0 = .ok (.iload_n 2, 1) := by decide +kernel
theorem dX9_endsOf_1 : decode cX9_endsOf 1 = .ok (.ifCond .lt 9, 3) := by decide +kernel
theorem dX9_endsOf_10 : decode cX9_endsOf 10 = .ok (.lconst 0, 1) := by decide +kernel
theorem dX9_endsOf_11 : decode cX9_endsOf 11 = .ok (.goto 14, 3) := by decide +kernel
theorem dX9_endsOf_25 : decode cX9_endsOf 25 = .ok (.lreturn, 1) := by decide +kernel
theorem dX9_endsOf_4 : decode cX9_endsOf 4 = .ok (.iload_n 2, 1) := by decide +kernel
theorem dX9_endsOf_5 : decode cX9_endsOf 5 = .ok (.bipush 61, 2) := by decide +kernel
theorem dX9_endsOf_7 : decode cX9_endsOf 7 = .ok (.if_icmp .le 7, 3) := by decide +kernel
theorem dX9_endsOf_14 : decode cX9_endsOf 14 = .ok (.aload_n 0, 1) := by decide +kernel
theorem dX9_endsOf_15 : decode cX9_endsOf 15 = .ok (.getfield 88, 3) := by decide +kernel
theorem dX9_endsOf_18 : decode cX9_endsOf 18 = .ok (.bipush 62, 2) := by decide +kernel
theorem dX9_endsOf_20 : decode cX9_endsOf 20 = .ok (.iload_n 1, 1) := by decide +kernel
theorem dX9_endsOf_21 : decode cX9_endsOf 21 = .ok (.imul, 1) := by decide +kernel
theorem dX9_endsOf_22 : decode cX9_endsOf 22 = .ok (.iload_n 2, 1) := by decide +kernel
theorem dX9_endsOf_23 : decode cX9_endsOf 23 = .ok (.iadd, 1) := by decide +kernel
theorem dX9_endsOf_24 : decode cX9_endsOf 24 = .ok (.laload, 1) := by decide +kernel
theorem dX9_fillEnds_0 : decode cX9_fillEnds 0 = .ok (.iconst 0, 1) := by decide +kernel
theorem dX9_fillEnds_1 : decode cX9_fillEnds 1 = .ok (.istore_n 2, 1) := by decide +kernel
theorem dX9_fillEnds_2 : decode cX9_fillEnds 2 = .ok (.iload_n 2, 1) := by decide +kernel
theorem dX9_fillEnds_3 : decode cX9_fillEnds 3 = .ok (.bipush 62, 2) := by decide +kernel
theorem dX9_fillEnds_5 : decode cX9_fillEnds 5 = .ok (.if_icmp .ge 24, 3) := by decide +kernel
theorem dX9_fillEnds_29 : decode cX9_fillEnds 29 = .ok (.iconst 1, 1) := by decide +kernel
theorem dX9_fillEnds_30 : decode cX9_fillEnds 30 = .ok (.istore_n 2, 1) := by decide +kernel
theorem dX9_fillEnds_31 : decode cX9_fillEnds 31 = .ok (.iload_n 2, 1) := by decide +kernel
theorem dX9_fillEnds_32 : decode cX9_fillEnds 32 = .ok (.iload_n 1, 1) := by decide +kernel
theorem dX9_fillEnds_33 : decode cX9_fillEnds 33 = .ok (.if_icmp .gt 64, 3) := by decide +kernel
theorem dX9_fillEnds_97 : decode cX9_fillEnds 97 = .ok (.return_, 1) := by decide +kernel
theorem dX9_fillEnds_36 : decode cX9_fillEnds 36 = .ok (.iconst 0, 1) := by decide +kernel
theorem dX9_fillEnds_37 : decode cX9_fillEnds 37 = .ok (.istore_n 3, 1) := by decide +kernel
theorem dX9_fillEnds_38 : decode cX9_fillEnds 38 = .ok (.iload_n 3, 1) := by decide +kernel
theorem dX9_fillEnds_39 : decode cX9_fillEnds 39 = .ok (.bipush 62, 2) := by decide +kernel
theorem dX9_fillEnds_41 : decode cX9_fillEnds 41 = .ok (.if_icmp .ge 50, 3) := by decide +kernel
theorem dX9_fillEnds_91 : decode cX9_fillEnds 91 = .ok (.iinc 2 1, 3) := by decide +kernel
theorem dX9_fillEnds_94 : decode cX9_fillEnds 94 = .ok (.goto (-63), 3) := by decide +kernel
theorem dX9_fillEnds_44 : decode cX9_fillEnds 44 = .ok (.aload_n 0, 1) := by decide +kernel
theorem dX9_fillEnds_45 : decode cX9_fillEnds 45 = .ok (.getfield 88, 3) := by decide +kernel
theorem dX9_fillEnds_48 : decode cX9_fillEnds 48 = .ok (.bipush 62, 2) := by decide +kernel
theorem dX9_fillEnds_50 : decode cX9_fillEnds 50 = .ok (.iload_n 2, 1) := by decide +kernel
theorem dX9_fillEnds_51 : decode cX9_fillEnds 51 = .ok (.imul, 1) := by decide +kernel
theorem dX9_fillEnds_52 : decode cX9_fillEnds 52 = .ok (.iload_n 3, 1) := by decide +kernel
theorem dX9_fillEnds_53 : decode cX9_fillEnds 53 = .ok (.iadd, 1) := by decide +kernel
theorem dX9_fillEnds_54 : decode cX9_fillEnds 54 = .ok (.iload_n 3, 1) := by decide +kernel
theorem dX9_fillEnds_55 : decode cX9_fillEnds 55 = .ok (.iload_n 2, 1) := by decide +kernel
theorem dX9_fillEnds_56 : decode cX9_fillEnds 56 = .ok (.if_icmp .le 7, 3) := by decide +kernel
theorem dX9_fillEnds_63 : decode cX9_fillEnds 63 = .ok (.aload_n 0, 1) := by decide +kernel
theorem dX9_fillEnds_64 : decode cX9_fillEnds 64 = .ok (.iload_n 2, 1) := by decide +kernel
theorem dX9_fillEnds_65 : decode cX9_fillEnds 65 = .ok (.iconst 1, 1) := by decide +kernel
theorem dX9_fillEnds_66 : decode cX9_fillEnds 66 = .ok (.isub, 1) := by decide +kernel
theorem dX9_fillEnds_67 : decode cX9_fillEnds 67 = .ok (.iload_n 3, 1) := by decide +kernel
theorem dX9_fillEnds_68 : decode cX9_fillEnds 68 = .ok (.iconst 1, 1) := by decide +kernel
theorem dX9_fillEnds_69 : decode cX9_fillEnds 69 = .ok (.iadd, 1) := by decide +kernel
theorem dX9_fillEnds_70 : decode cX9_fillEnds 70 = .ok (.invokevirtual 293, 3) := by decide +kernel
set_option maxRecDepth 20000 in
theorem ggX9_fillEnds_X9_endsOf : GoodIn wsX9_fillEnds wsX9_endsOf := goodIn_r _ [6, 1, 7, 8, 9, 10, 11, 12, 13, 14, 15, 16, 17, 18, 19, 20, 21, 22, 23, 24, 25, 26, 27, 28, 29, 30, 31, 32, 33, 34, 35, 36, 37, 38, 39, 40, 41, 42, 43, 44, 45, 46, 47] (by decide +kernel) (by decide +kernel)
set_option maxRecDepth 20000 in
theorem gX9_fillEnds_X9_endsOf : GoodIn wsX9_fillEnds (wsV RX9 293 RX9 yX9_endsOf wsX9_endsOf) := goodIn_app (goodIn_of _ (by decide +kernel)) ggX9_fillEnds_X9_endsOf
theorem dX9_fillEnds_73 : decode cX9_fillEnds 73 = .ok (.aload_n 0, 1) := by decide +kernel
theorem dX9_fillEnds_74 : decode cX9_fillEnds 74 = .ok (.iload_n 2, 1) := by decide +kernel
theorem dX9_fillEnds_75 : decode cX9_fillEnds 75 = .ok (.iconst 1, 1) := by decide +kernel
theorem dX9_fillEnds_76 : decode cX9_fillEnds 76 = .ok (.isub, 1) := by decide +kernel
theorem dX9_fillEnds_77 : decode cX9_fillEnds 77 = .ok (.iload_n 3, 1) := by decide +kernel
theorem dX9_fillEnds_78 : decode cX9_fillEnds 78 = .ok (.iconst 1, 1) := by decide +kernel
theorem dX9_fillEnds_79 : decode cX9_fillEnds 79 = .ok (.isub, 1) := by decide +kernel
theorem dX9_fillEnds_80 : decode cX9_fillEnds 80 = .ok (.invokevirtual 293, 3) := by decide +kernel
theorem dX9_fillEnds_83 : decode cX9_fillEnds 83 = .ok (.ladd, 1) := by decide +kernel
theorem dX9_fillEnds_84 : decode cX9_fillEnds 84 = .ok (.lastore, 1) := by decide +kernel
theorem dX9_fillEnds_85 : decode cX9_fillEnds 85 = .ok (.iinc 3 1, 3) := by decide +kernel
theorem dX9_fillEnds_88 : decode cX9_fillEnds 88 = .ok (.goto (-50), 3) := by decide +kernel
theorem dX9_fillEnds_59 : decode cX9_fillEnds 59 = .ok (.lconst 0, 1) := by decide +kernel
theorem dX9_fillEnds_60 : decode cX9_fillEnds 60 = .ok (.goto 24, 3) := by decide +kernel
theorem dX9_fillEnds_8 : decode cX9_fillEnds 8 = .ok (.aload_n 0, 1) := by decide +kernel
theorem dX9_fillEnds_9 : decode cX9_fillEnds 9 = .ok (.getfield 88, 3) := by decide +kernel
theorem dX9_fillEnds_12 : decode cX9_fillEnds 12 = .ok (.iload_n 2, 1) := by decide +kernel
theorem dX9_fillEnds_13 : decode cX9_fillEnds 13 = .ok (.iload_n 2, 1) := by decide +kernel
theorem dX9_fillEnds_14 : decode cX9_fillEnds 14 = .ok (.ifCond .ne 7, 3) := by decide +kernel
theorem dX9_fillEnds_21 : decode cX9_fillEnds 21 = .ok (.lconst 0, 1) := by decide +kernel
theorem dX9_fillEnds_22 : decode cX9_fillEnds 22 = .ok (.lastore, 1) := by decide +kernel
theorem dX9_fillEnds_23 : decode cX9_fillEnds 23 = .ok (.iinc 2 1, 3) := by decide +kernel
theorem dX9_fillEnds_26 : decode cX9_fillEnds 26 = .ok (.goto (-24), 3) := by decide +kernel
theorem dX9_fillEnds_17 : decode cX9_fillEnds 17 = .ok (.lconst 1, 1) := by decide +kernel
theorem dX9_fillEnds_18 : decode cX9_fillEnds 18 = .ok (.goto 4, 3) := by decide +kernel
theorem dX9_brackets_0 : decode cX9_brackets 0 = .ok (.aload_n 0, 1) := by decide +kernel
theorem dX9_brackets_1 : decode cX9_brackets 1 = .ok (.iconst 0, 1) := by decide +kernel
theorem dX9_brackets_2 : decode cX9_brackets 2 = .ok (.putfield 112, 3) := by decide +kernel
theorem dX9_brackets_5 : decode cX9_brackets 5 = .ok (.aload_n 0, 1) := by decide +kernel
theorem dX9_brackets_6 : decode cX9_brackets 6 = .ok (.iconst 0, 1) := by decide +kernel
theorem dX9_brackets_7 : decode cX9_brackets 7 = .ok (.putfield 115, 3) := by decide +kernel
theorem dX9_brackets_10 : decode cX9_brackets 10 = .ok (.iload_n 1, 1) := by decide +kernel
theorem dX9_brackets_11 : decode cX9_brackets 11 = .ok (.ifCond .lt 9, 3) := by decide +kernel
theorem dX9_brackets_20 : decode cX9_brackets 20 = .ok (.aload_n 0, 1) := by decide +kernel
theorem dX9_brackets_21 : decode cX9_brackets 21 = .ok (.iconst 2, 1) := by decide +kernel
theorem dX9_brackets_22 : decode cX9_brackets 22 = .ok (.invokevirtual 156, 3) := by decide +kernel
set_option maxRecDepth 20000 in
theorem ggX9_brackets_X9_refuse : GoodIn wsX9_brackets wsX9_refuse := goodIn_r _ [9, 2, 19, 20, 21, 22, 23, 24, 25, 26, 27, 28, 29, 30, 31, 32, 33, 34, 35, 36, 37, 38, 39, 40, 41, 42, 43, 44, 45, 46, 47, 48, 49, 50, 51, 52, 53, 54, 55, 56, 57, 58, 59] (by decide +kernel) (by decide +kernel)
set_option maxRecDepth 20000 in
theorem gX9_brackets_X9_refuse : GoodIn wsX9_brackets (wsV RX9 156 RX9 yX9_refuse wsX9_refuse) := goodIn_app (goodIn_of _ (by decide +kernel)) ggX9_brackets_X9_refuse
theorem dX9_brackets_25 : decode cX9_brackets 25 = .ok (.ireturn, 1) := by decide +kernel
theorem dX9_brackets_14 : decode cX9_brackets 14 = .ok (.iload_n 1, 1) := by decide +kernel
theorem dX9_brackets_15 : decode cX9_brackets 15 = .ok (.bipush 30, 2) := by decide +kernel
theorem dX9_brackets_17 : decode cX9_brackets 17 = .ok (.if_icmp .le 9, 3) := by decide +kernel
theorem dX9_brackets_26 : decode cX9_brackets 26 = .ok (.aload_n 0, 1) := by decide +kernel
theorem dX9_brackets_27 : decode cX9_brackets 27 = .ok (.iconst 2, 1) := by decide +kernel
theorem dX9_brackets_28 : decode cX9_brackets 28 = .ok (.iload_n 1, 1) := by decide +kernel
theorem dX9_brackets_29 : decode cX9_brackets 29 = .ok (.imul, 1) := by decide +kernel
theorem dX9_brackets_30 : decode cX9_brackets 30 = .ok (.invokevirtual 296, 3) := by decide +kernel
set_option maxRecDepth 20000 in
theorem ggX9_brackets_X9_fillEnds : GoodIn wsX9_brackets wsX9_fillEnds := goodIn_r _ [13, 14, 15, 16, 17, 8, 18, 19, 20, 21, 22, 23, 24, 25, 26, 27, 28, 29, 30, 31, 32, 33, 34, 35, 36, 37, 38, 39, 40, 41, 42, 43, 44, 45, 46, 47, 48, 49, 50, 51, 52, 53, 54, 55, 56, 57, 58, 59] (by decide +kernel) (by decide +kernel)
set_option maxRecDepth 20000 in
theorem gX9_brackets_X9_fillEnds : GoodIn wsX9_brackets (wsV RX9 296 RX9 yX9_fillEnds wsX9_fillEnds) := goodIn_app (goodIn_of _ (by decide +kernel)) ggX9_brackets_X9_fillEnds
theorem dX9_brackets_33 : decode cX9_brackets 33 = .ok (.lload_n 2, 1) := by decide +kernel
theorem dX9_brackets_34 : decode cX9_brackets 34 = .ok (.lconst 0, 1) := by decide +kernel
theorem dX9_brackets_35 : decode cX9_brackets 35 = .ok (.lcmp, 1) := by decide +kernel
theorem dX9_brackets_36 : decode cX9_brackets 36 = .ok (.ifCond .lt 16, 3) := by decide +kernel
theorem dX9_brackets_52 : decode cX9_brackets 52 = .ok (.aload_n 0, 1) := by decide +kernel
theorem dX9_brackets_53 : decode cX9_brackets 53 = .ok (.bipush 8, 2) := by decide +kernel
theorem dX9_brackets_55 : decode cX9_brackets 55 = .ok (.invokevirtual 156, 3) := by decide +kernel
theorem dX9_brackets_58 : decode cX9_brackets 58 = .ok (.ireturn, 1) := by decide +kernel
theorem dX9_brackets_39 : decode cX9_brackets 39 = .ok (.lload_n 2, 1) := by decide +kernel
theorem dX9_brackets_40 : decode cX9_brackets 40 = .ok (.aload_n 0, 1) := by decide +kernel
theorem dX9_brackets_41 : decode cX9_brackets 41 = .ok (.iconst 2, 1) := by decide +kernel
theorem dX9_brackets_42 : decode cX9_brackets 42 = .ok (.iload_n 1, 1) := by decide +kernel
theorem dX9_brackets_43 : decode cX9_brackets 43 = .ok (.imul, 1) := by decide +kernel
theorem dX9_brackets_44 : decode cX9_brackets 44 = .ok (.iconst 0, 1) := by decide +kernel
theorem dX9_brackets_45 : decode cX9_brackets 45 = .ok (.invokevirtual 293, 3) := by decide +kernel
set_option maxRecDepth 20000 in
theorem ggX9_brackets_X9_endsOf : GoodIn wsX9_brackets wsX9_endsOf := goodIn_r _ [18, 14, 19, 20, 21, 22, 23, 24, 25, 26, 27, 28, 29, 30, 31, 32, 33, 34, 35, 36, 37, 38, 39, 40, 41, 42, 43, 44, 45, 46, 47, 48, 49, 50, 51, 52, 53, 54, 55, 56, 57, 58, 59] (by decide +kernel) (by decide +kernel)
set_option maxRecDepth 20000 in
theorem gX9_brackets_X9_endsOf : GoodIn wsX9_brackets (wsV RX9 293 RX9 yX9_endsOf wsX9_endsOf) := goodIn_app (goodIn_of _ (by decide +kernel)) ggX9_brackets_X9_endsOf
theorem dX9_brackets_48 : decode cX9_brackets 48 = .ok (.lcmp, 1) := by decide +kernel
theorem dX9_brackets_49 : decode cX9_brackets 49 = .ok (.ifCond .lt 10, 3) := by decide +kernel
theorem dX9_brackets_59 : decode cX9_brackets 59 = .ok (.aload_n 0, 1) := by decide +kernel
theorem dX9_brackets_60 : decode cX9_brackets 60 = .ok (.iconst 2, 1) := by decide +kernel
theorem dX9_brackets_61 : decode cX9_brackets 61 = .ok (.iload_n 1, 1) := by decide +kernel
theorem dX9_brackets_62 : decode cX9_brackets 62 = .ok (.imul, 1) := by decide +kernel
theorem dX9_brackets_63 : decode cX9_brackets 63 = .ok (.putfield 234, 3) := by decide +kernel
theorem dX9_brackets_66 : decode cX9_brackets 66 = .ok (.lload_n 2, 1) := by decide +kernel
theorem dX9_brackets_67 : decode cX9_brackets 67 = .ok (.lstore 4, 2) := by decide +kernel
theorem dX9_brackets_69 : decode cX9_brackets 69 = .ok (.iconst 0, 1) := by decide +kernel
theorem dX9_brackets_70 : decode cX9_brackets 70 = .ok (.istore 6, 2) := by decide +kernel
theorem dX9_brackets_72 : decode cX9_brackets 72 = .ok (.iconst 0, 1) := by decide +kernel
theorem dX9_brackets_73 : decode cX9_brackets 73 = .ok (.istore 7, 2) := by decide +kernel
theorem dX9_brackets_75 : decode cX9_brackets 75 = .ok (.iload 7, 2) := by decide +kernel
theorem dX9_brackets_77 : decode cX9_brackets 77 = .ok (.iconst 2, 1) := by decide +kernel
theorem dX9_brackets_78 : decode cX9_brackets 78 = .ok (.iload_n 1, 1) := by decide +kernel
theorem dX9_brackets_79 : decode cX9_brackets 79 = .ok (.imul, 1) := by decide +kernel
theorem dX9_brackets_80 : decode cX9_brackets 80 = .ok (.if_icmp .ge 89, 3) := by decide +kernel
theorem dX9_brackets_169 : decode cX9_brackets 169 = .ok (.aload_n 0, 1) := by decide +kernel
theorem dX9_brackets_170 : decode cX9_brackets 170 = .ok (.getfield 234, 3) := by decide +kernel
theorem dX9_brackets_173 : decode cX9_brackets 173 = .ok (.ireturn, 1) := by decide +kernel
theorem dX9_brackets_83 : decode cX9_brackets 83 = .ok (.aload_n 0, 1) := by decide +kernel
theorem dX9_brackets_84 : decode cX9_brackets 84 = .ok (.iconst 2, 1) := by decide +kernel
theorem dX9_brackets_85 : decode cX9_brackets 85 = .ok (.iload_n 1, 1) := by decide +kernel
theorem dX9_brackets_86 : decode cX9_brackets 86 = .ok (.imul, 1) := by decide +kernel
theorem dX9_brackets_87 : decode cX9_brackets 87 = .ok (.iconst 1, 1) := by decide +kernel
theorem dX9_brackets_88 : decode cX9_brackets 88 = .ok (.isub, 1) := by decide +kernel
theorem dX9_brackets_89 : decode cX9_brackets 89 = .ok (.iload 7, 2) := by decide +kernel
theorem dX9_brackets_91 : decode cX9_brackets 91 = .ok (.isub, 1) := by decide +kernel
theorem dX9_brackets_92 : decode cX9_brackets 92 = .ok (.iload 6, 2) := by decide +kernel
theorem dX9_brackets_94 : decode cX9_brackets 94 = .ok (.iconst 1, 1) := by decide +kernel
theorem dX9_brackets_95 : decode cX9_brackets 95 = .ok (.iadd, 1) := by decide +kernel
theorem dX9_brackets_96 : decode cX9_brackets 96 = .ok (.invokevirtual 293, 3) := by decide +kernel
theorem dX9_brackets_99 : decode cX9_brackets 99 = .ok (.lstore 8, 2) := by decide +kernel
theorem dX9_brackets_101 : decode cX9_brackets 101 = .ok (.lload 4, 2) := by decide +kernel
theorem dX9_brackets_103 : decode cX9_brackets 103 = .ok (.lload 8, 2) := by decide +kernel
theorem dX9_brackets_105 : decode cX9_brackets 105 = .ok (.lcmp, 1) := by decide +kernel
theorem dX9_brackets_106 : decode cX9_brackets 106 = .ok (.ifCond .ge 7, 3) := by decide +kernel
theorem dX9_brackets_113 : decode cX9_brackets 113 = .ok (.iconst 0, 1) := by decide +kernel
theorem dX9_brackets_114 : decode cX9_brackets 114 = .ok (.istore 10, 2) := by decide +kernel
theorem dX9_brackets_116 : decode cX9_brackets 116 = .ok (.iload 10, 2) := by decide +kernel
theorem dX9_brackets_118 : decode cX9_brackets 118 = .ok (.ifCond .ne 10, 3) := by decide +kernel
theorem dX9_brackets_121 : decode cX9_brackets 121 = .ok (.lload 4, 2) := by decide +kernel
theorem dX9_brackets_123 : decode cX9_brackets 123 = .ok (.lload 8, 2) := by decide +kernel
theorem dX9_brackets_125 : decode cX9_brackets 125 = .ok (.lsub, 1) := by decide +kernel
theorem dX9_brackets_126 : decode cX9_brackets 126 = .ok (.lstore 4, 2) := by decide +kernel
theorem dX9_brackets_128 : decode cX9_brackets 128 = .ok (.aload_n 0, 1) := by decide +kernel
theorem dX9_brackets_129 : decode cX9_brackets 129 = .ok (.getfield 78, 3) := by decide +kernel
theorem dX9_brackets_132 : decode cX9_brackets 132 = .ok (.iload 7, 2) := by decide +kernel
theorem dX9_brackets_134 : decode cX9_brackets 134 = .ok (.iload 10, 2) := by decide +kernel
theorem dX9_brackets_136 : decode cX9_brackets 136 = .ok (.ifCond .eq 8, 3) := by decide +kernel
theorem dX9_brackets_144 : decode cX9_brackets 144 = .ok (.bipush 41, 2) := by decide +kernel
theorem dX9_brackets_146 : decode cX9_brackets 146 = .ok (.i2b, 1) := by decide +kernel
theorem dX9_brackets_147 : decode cX9_brackets 147 = .ok (.bastore, 1) := by decide +kernel
theorem dX9_brackets_148 : decode cX9_brackets 148 = .ok (.iload 6, 2) := by decide +kernel
theorem dX9_brackets_150 : decode cX9_brackets 150 = .ok (.iload 10, 2) := by decide +kernel
theorem dX9_brackets_152 : decode cX9_brackets 152 = .ok (.ifCond .eq 7, 3) := by decide +kernel
theorem dX9_brackets_159 : decode cX9_brackets 159 = .ok (.iconst (-1), 1) := by decide +kernel
theorem dX9_brackets_160 : decode cX9_brackets 160 = .ok (.iadd, 1) := by decide +kernel
theorem dX9_brackets_161 : decode cX9_brackets 161 = .ok (.istore 6, 2) := by decide +kernel
theorem dX9_brackets_163 : decode cX9_brackets 163 = .ok (.iinc 7 1, 3) := by decide +kernel
theorem dX9_brackets_166 : decode cX9_brackets 166 = .ok (.goto (-91), 3) := by decide +kernel
theorem dX9_brackets_109 : decode cX9_brackets 109 = .ok (.iconst 1, 1) := by decide +kernel
theorem dX9_brackets_110 : decode cX9_brackets 110 = .ok (.goto 4, 3) := by decide +kernel
theorem dX9_brackets_139 : decode cX9_brackets 139 = .ok (.bipush 40, 2) := by decide +kernel
theorem dX9_brackets_141 : decode cX9_brackets 141 = .ok (.goto 5, 3) := by decide +kernel
theorem dX9_brackets_155 : decode cX9_brackets 155 = .ok (.iconst 1, 1) := by decide +kernel
theorem dX9_brackets_156 : decode cX9_brackets 156 = .ok (.goto 4, 3) := by decide +kernel
