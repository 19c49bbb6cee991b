theorem dX9_draw_0 : decode cX9_draw 0 = .ok (.aload_n 0, 1) := by decide +kernel
theorem dX9_draw_1 : decode cX9_draw 1 = .ok (.iconst 0, 1) := by decide +kernel
theorem dX9_draw_2 : decode cX9_draw 2 = .ok (.putfield 112, 3) := by decide +kernel
theorem dX9_draw_5 : decode cX9_draw 5 = .ok (.aload_n 0, 1) := by decide +kernel
theorem dX9_draw_6 : decode cX9_draw 6 = .ok (.iconst 0, 1) := by decide +kernel
theorem dX9_draw_7 : decode cX9_draw 7 = .ok (.putfield 115, 3) := by decide +kernel
theorem dX9_draw_10 : decode cX9_draw 10 = .ok (.iload_n 1, 1) := by decide +kernel
theorem dX9_draw_11 : decode cX9_draw 11 = .ok (.ifCond .lt 13, 3) := by decide +kernel
theorem dX9_draw_24 : decode cX9_draw 24 = .ok (.aload_n 0, 1) := by decide +kernel
theorem dX9_draw_25 : decode cX9_draw 25 = .ok (.iconst 2, 1) := by decide +kernel
theorem dX9_draw_26 : decode cX9_draw 26 = .ok (.invokevirtual 156, 3) := by decide +kernel
set_option maxRecDepth 20000 in
theorem ggX9_draw_X9_refuse : GoodIn wsX9_draw wsX9_refuse := goodIn_r _ [12, 2, 70, 71, 72, 73, 74, 75, 76, 77, 78, 79, 80, 81, 82, 83, 84, 85, 86, 87, 88, 89, 90, 91, 92, 93, 94, 95, 96, 97, 98, 99, 100, 101, 102, 103, 104, 105, 106, 107, 108, 109, 110] (by decide +kernel) (by decide +kernel)
set_option maxRecDepth 20000 in
theorem gX9_draw_X9_refuse : GoodIn wsX9_draw (wsV RX9 156 RX9 yX9_refuse wsX9_refuse) := goodIn_app (goodIn_of _ (by decide +kernel)) ggX9_draw_X9_refuse
theorem dX9_draw_29 : decode cX9_draw 29 = .ok (.i2l, 1) := by decide +kernel
theorem dX9_draw_30 : decode cX9_draw 30 = .ok (.lreturn, 1) := by decide +kernel
theorem dX9_draw_14 : decode cX9_draw 14 = .ok (.iload_n 1, 1) := by decide +kernel
theorem dX9_draw_15 : decode cX9_draw 15 = .ok (.bipush 60, 2) := by decide +kernel
theorem dX9_draw_17 : decode cX9_draw 17 = .ok (.if_icmp .gt 7, 3) := by decide +kernel
theorem dX9_draw_20 : decode cX9_draw 20 = .ok (.iload_n 2, 1) := by decide +kernel
theorem dX9_draw_21 : decode cX9_draw 21 = .ok (.ifCond .ge 10, 3) := by decide +kernel
theorem dX9_draw_31 : decode cX9_draw 31 = .ok (.aload_n 0, 1) := by decide +kernel
theorem dX9_draw_32 : decode cX9_draw 32 = .ok (.invokevirtual 186, 3) := by decide +kernel
set_option maxRecDepth 20000 in
theorem ggX9_draw_X9_areOpen : GoodIn wsX9_draw wsX9_areOpen := goodIn_r _ [16, 17, 18, 19, 20, 21, 22, 23, 11, 24, 25, 26, 27, 28, 29, 30, 31, 32, 33, 34, 35, 36, 37, 38, 70, 71, 72, 73, 74, 75, 76, 77, 78, 79, 80, 81, 82, 83, 84, 85, 86, 87, 88, 89, 90, 91, 92, 93, 94, 95, 96, 97, 98, 99, 100, 101, 102, 103, 104, 105, 106, 107, 108, 109, 110] (by decide +kernel) (by decide +kernel)
set_option maxRecDepth 20000 in
theorem gX9_draw_X9_areOpen : GoodIn wsX9_draw (wsV RX9 186 RX9 yX9_areOpen wsX9_areOpen) := goodIn_app (goodIn_of _ (by decide +kernel)) ggX9_draw_X9_areOpen
theorem dX9_draw_35 : decode cX9_draw 35 = .ok (.ifCond .ne 11, 3) := by decide +kernel
theorem dX9_draw_46 : decode cX9_draw 46 = .ok (.aload_n 0, 1) := by decide +kernel
theorem dX9_draw_47 : decode cX9_draw 47 = .ok (.iload_n 1, 1) := by decide +kernel
theorem dX9_draw_48 : decode cX9_draw 48 = .ok (.invokevirtual 190, 3) := by decide +kernel
set_option maxRecDepth 20000 in
theorem ggX9_draw_X9_countOf : GoodIn wsX9_draw wsX9_countOf := goodIn_r _ [42, 43, 17, 18, 44, 45, 46, 11, 47, 19, 20, 48, 49, 50, 51, 52, 53, 54, 21, 22, 23, 24, 25, 26, 27, 28, 29, 30, 31, 32, 33, 34, 35, 36, 37, 38, 55, 56, 57, 58, 59, 60, 61, 62, 63, 3, 70, 71, 72, 73, 74, 75, 76, 77, 78, 79, 80, 81, 82, 83, 84, 85, 86, 87, 88, 89, 90, 91, 92, 93, 94, 95, 96, 97, 98, 99, 100, 101, 102, 103, 104, 105, 106, 107, 108, 109, 110] (by decide +kernel) (by decide +kernel)
set_option maxRecDepth 20000 in
theorem gX9_draw_X9_countOf : GoodIn wsX9_draw (wsV RX9 190 RX9 yX9_countOf wsX9_countOf) := goodIn_app (goodIn_of _ (by decide +kernel)) ggX9_draw_X9_countOf
theorem dX9_draw_51 : decode cX9_draw 51 = .ok (.lstore_n 3, 1) := by decide +kernel
theorem dX9_draw_52 : decode cX9_draw 52 = .ok (.lload_n 3, 1) := by decide +kernel
theorem dX9_draw_53 : decode cX9_draw 53 = .ok (.lconst 0, 1) := by decide +kernel
theorem dX9_draw_54 : decode cX9_draw 54 = .ok (.lcmp, 1) := by decide +kernel
theorem dX9_draw_55 : decode cX9_draw 55 = .ok (.ifCond .ne 11, 3) := by decide +kernel
theorem dX9_draw_66 : decode cX9_draw 66 = .ok (.lload_n 3, 1) := by decide +kernel
theorem dX9_draw_67 : decode cX9_draw 67 = .ok (.ldc2_w 173, 3) := by decide +kernel
theorem dX9_draw_70 : decode cX9_draw 70 = .ok (.lcmp, 1) := by decide +kernel
theorem dX9_draw_71 : decode cX9_draw 71 = .ok (.ifCond .lt 11, 3) := by decide +kernel
theorem dX9_draw_82 : decode cX9_draw 82 = .ok (.lconst 0, 1) := by decide +kernel
theorem dX9_draw_83 : decode cX9_draw 83 = .ok (.lstore 5, 2) := by decide +kernel
theorem dX9_draw_85 : decode cX9_draw 85 = .ok (.lload 5, 2) := by decide +kernel
theorem dX9_draw_87 : decode cX9_draw 87 = .ok (.lload_n 3, 1) := by decide +kernel
theorem dX9_draw_88 : decode cX9_draw 88 = .ok (.lconst 1, 1) := by decide +kernel
theorem dX9_draw_89 : decode cX9_draw 89 = .ok (.lsub, 1) := by decide +kernel
theorem dX9_draw_90 : decode cX9_draw 90 = .ok (.lcmp, 1) := by decide +kernel
theorem dX9_draw_91 : decode cX9_draw 91 = .ok (.ifCond .ge 16, 3) := by decide +kernel
theorem dX9_draw_107 : decode cX9_draw 107 = .ok (.iload_n 2, 1) := by decide +kernel
theorem dX9_draw_108 : decode cX9_draw 108 = .ok (.istore 7, 2) := by decide +kernel
theorem dX9_draw_110 : decode cX9_draw 110 = .ok (.lconst 0, 1) := by decide +kernel
theorem dX9_draw_111 : decode cX9_draw 111 = .ok (.lstore 8, 2) := by decide +kernel
theorem dX9_draw_113 : decode cX9_draw 113 = .ok (.iconst 0, 1) := by decide +kernel
theorem dX9_draw_114 : decode cX9_draw 114 = .ok (.istore 10, 2) := by decide +kernel
theorem dX9_draw_116 : decode cX9_draw 116 = .ok (.iload 10, 2) := by decide +kernel
theorem dX9_draw_118 : decode cX9_draw 118 = .ok (.bipush 64, 2) := by decide +kernel
theorem dX9_draw_120 : decode cX9_draw 120 = .ok (.if_icmp .ge 72, 3) := by decide +kernel
theorem dX9_draw_192 : decode cX9_draw 192 = .ok (.lload 8, 2) := by decide +kernel
theorem dX9_draw_194 : decode cX9_draw 194 = .ok (.lload_n 3, 1) := by decide +kernel
theorem dX9_draw_195 : decode cX9_draw 195 = .ok (.lrem, 1) := by decide +kernel
theorem dX9_draw_196 : decode cX9_draw 196 = .ok (.lreturn, 1) := by decide +kernel
theorem dX9_draw_123 : decode cX9_draw 123 = .ok (.lconst 0, 1) := by decide +kernel
theorem dX9_draw_124 : decode cX9_draw 124 = .ok (.lstore 8, 2) := by decide +kernel
theorem dX9_draw_126 : decode cX9_draw 126 = .ok (.iconst 0, 1) := by decide +kernel
theorem dX9_draw_127 : decode cX9_draw 127 = .ok (.istore 11, 2) := by decide +kernel
theorem dX9_draw_129 : decode cX9_draw 129 = .ok (.iload 11, 2) := by decide +kernel
theorem dX9_draw_131 : decode cX9_draw 131 = .ok (.iconst 5, 1) := by decide +kernel
theorem dX9_draw_132 : decode cX9_draw 132 = .ok (.if_icmp .ge 33, 3) := by decide +kernel
theorem dX9_draw_165 : decode cX9_draw 165 = .ok (.lload 8, 2) := by decide +kernel
theorem dX9_draw_167 : decode cX9_draw 167 = .ok (.ldc2_w 248, 3) := by decide +kernel
theorem dX9_draw_170 : decode cX9_draw 170 = .ok (.lload 5, 2) := by decide +kernel
theorem dX9_draw_172 : decode cX9_draw 172 = .ok (.land, 1) := by decide +kernel
theorem dX9_draw_173 : decode cX9_draw 173 = .ok (.land, 1) := by decide +kernel
theorem dX9_draw_174 : decode cX9_draw 174 = .ok (.lstore 8, 2) := by decide +kernel
theorem dX9_draw_176 : decode cX9_draw 176 = .ok (.lload 8, 2) := by decide +kernel
theorem dX9_draw_178 : decode cX9_draw 178 = .ok (.lload_n 3, 1) := by decide +kernel
theorem dX9_draw_179 : decode cX9_draw 179 = .ok (.lcmp, 1) := by decide +kernel
theorem dX9_draw_180 : decode cX9_draw 180 = .ok (.ifCond .ge 6, 3) := by decide +kernel
theorem dX9_draw_186 : decode cX9_draw 186 = .ok (.iinc 10 1, 3) := by decide +kernel
theorem dX9_draw_189 : decode cX9_draw 189 = .ok (.goto (-73), 3) := by decide +kernel
theorem dX9_draw_183 : decode cX9_draw 183 = .ok (.lload 8, 2) := by decide +kernel
theorem dX9_draw_185 : decode cX9_draw 185 = .ok (.lreturn, 1) := by decide +kernel
theorem dX9_draw_135 : decode cX9_draw 135 = .ok (.iload 7, 2) := by decide +kernel
theorem dX9_draw_137 : decode cX9_draw 137 = .ok (.invokestatic 243, 3) := by decide +kernel
set_option maxRecDepth 20000 in
theorem ggX9_draw_X9_drawn : GoodIn wsX9_draw wsX9_drawn := goodIn_r _ [66, 67, 68, 69] (by decide +kernel) (by decide +kernel)
set_option maxRecDepth 20000 in
theorem gX9_draw_X9_drawn : GoodIn wsX9_draw (va_wsS RX9 243 yX9_drawn wsX9_drawn) := goodIn_app (goodIn_of _ (by decide +kernel)) ggX9_draw_X9_drawn
theorem dX9_draw_140 : decode cX9_draw 140 = .ok (.istore 7, 2) := by decide +kernel
theorem dX9_draw_142 : decode cX9_draw 142 = .ok (.lload 8, 2) := by decide +kernel
theorem dX9_draw_144 : decode cX9_draw 144 = .ok (.bipush 15, 2) := by decide +kernel
theorem dX9_draw_146 : decode cX9_draw 146 = .ok (.lshl, 1) := by decide +kernel
theorem dX9_draw_147 : decode cX9_draw 147 = .ok (.iload 7, 2) := by decide +kernel
theorem dX9_draw_149 : decode cX9_draw 149 = .ok (.ldc 246, 2) := by decide +kernel
theorem dX9_draw_151 : decode cX9_draw 151 = .ok (.idiv, 1) := by decide +kernel
theorem dX9_draw_152 : decode cX9_draw 152 = .ok (.ldc 247, 2) := by decide +kernel
theorem dX9_draw_154 : decode cX9_draw 154 = .ok (.irem, 1) := by decide +kernel
theorem dX9_draw_155 : decode cX9_draw 155 = .ok (.i2l, 1) := by decide +kernel
theorem dX9_draw_156 : decode cX9_draw 156 = .ok (.lor, 1) := by decide +kernel
theorem dX9_draw_157 : decode cX9_draw 157 = .ok (.lstore 8, 2) := by decide +kernel
theorem dX9_draw_159 : decode cX9_draw 159 = .ok (.iinc 11 1, 3) := by decide +kernel
theorem dX9_draw_162 : decode cX9_draw 162 = .ok (.goto (-33), 3) := by decide +kernel
theorem dX9_draw_94 : decode cX9_draw 94 = .ok (.ldc2_w 159, 3) := by decide +kernel
theorem dX9_draw_97 : decode cX9_draw 97 = .ok (.lload 5, 2) := by decide +kernel
theorem dX9_draw_99 : decode cX9_draw 99 = .ok (.lmul, 1) := by decide +kernel
theorem dX9_draw_100 : decode cX9_draw 100 = .ok (.lconst 1, 1) := by decide +kernel
theorem dX9_draw_101 : decode cX9_draw 101 = .ok (.ladd, 1) := by decide +kernel
theorem dX9_draw_102 : decode cX9_draw 102 = .ok (.lstore 5, 2) := by decide +kernel
theorem dX9_draw_104 : decode cX9_draw 104 = .ok (.goto (-19), 3) := by decide +kernel
theorem dX9_draw_74 : decode cX9_draw 74 = .ok (.aload_n 0, 1) := by decide +kernel
theorem dX9_draw_75 : decode cX9_draw 75 = .ok (.bipush 9, 2) := by decide +kernel
theorem dX9_draw_77 : decode cX9_draw 77 = .ok (.invokevirtual 156, 3) := by decide +kernel
theorem dX9_draw_80 : decode cX9_draw 80 = .ok (.i2l, 1) := by decide +kernel
theorem dX9_draw_81 : decode cX9_draw 81 = .ok (.lreturn, 1) := by decide +kernel
theorem dX9_draw_58 : decode cX9_draw 58 = .ok (.aload_n 0, 1) := by decide +kernel
theorem dX9_draw_59 : decode cX9_draw 59 = .ok (.bipush 8, 2) := by decide +kernel
theorem dX9_draw_61 : decode cX9_draw 61 = .ok (.invokevirtual 156, 3) := by decide +kernel
theorem dX9_draw_64 : decode cX9_draw 64 = .ok (.i2l, 1) := by decide +kernel
theorem dX9_draw_65 : decode cX9_draw 65 = .ok (.lreturn, 1) := by decide +kernel
