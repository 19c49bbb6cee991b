theorem dX9_walk_0 : decode cX9_walk 0 = .ok (.aload_n 0, 1) := by decide +kernel
theorem dX9_walk_1 : decode cX9_walk 1 = .ok (.iconst 0, 1) := by decide +kernel
theorem dX9_walk_2 : decode cX9_walk 2 = .ok (.putfield 112, 3) := by decide +kernel
theorem dX9_walk_5 : decode cX9_walk 5 = .ok (.aload_n 0, 1) := by decide +kernel
theorem dX9_walk_6 : decode cX9_walk 6 = .ok (.iconst 0, 1) := by decide +kernel
theorem dX9_walk_7 : decode cX9_walk 7 = .ok (.putfield 115, 3) := by decide +kernel
theorem dX9_walk_10 : decode cX9_walk 10 = .ok (.iload_n 1, 1) := by decide +kernel
theorem dX9_walk_11 : decode cX9_walk 11 = .ok (.ifCond .lt 9, 3) := by decide +kernel
theorem dX9_walk_20 : decode cX9_walk 20 = .ok (.aload_n 0, 1) := by decide +kernel
theorem dX9_walk_21 : decode cX9_walk 21 = .ok (.iconst 2, 1) := by decide +kernel
theorem dX9_walk_22 : decode cX9_walk 22 = .ok (.invokevirtual 156, 3) := by decide +kernel
set_option maxRecDepth 20000 in
theorem ggX9_walk_X9_refuse : GoodIn wsX9_walk wsX9_refuse := goodIn_r _ [13, 2, 62, 63, 64, 65, 66, 67, 68, 69, 70, 71, 72, 73, 74, 75, 76, 77, 78, 79, 80, 81, 82, 83, 84, 85, 86, 87, 88, 89, 90, 91, 92, 93, 94, 95, 96, 97, 98, 99, 100, 101, 102] (by decide +kernel) (by decide +kernel)
set_option maxRecDepth 20000 in
theorem gX9_walk_X9_refuse : GoodIn wsX9_walk (wsV RX9 156 RX9 yX9_refuse wsX9_refuse) := goodIn_app (goodIn_of _ (by decide +kernel)) ggX9_walk_X9_refuse
theorem dX9_walk_25 : decode cX9_walk 25 = .ok (.ireturn, 1) := by decide +kernel
theorem dX9_walk_14 : decode cX9_walk 14 = .ok (.iload_n 1, 1) := by decide +kernel
theorem dX9_walk_15 : decode cX9_walk 15 = .ok (.bipush 60, 2) := by decide +kernel
theorem dX9_walk_17 : decode cX9_walk 17 = .ok (.if_icmp .le 9, 3) := by decide +kernel
theorem dX9_walk_26 : decode cX9_walk 26 = .ok (.aload_n 0, 1) := by decide +kernel
theorem dX9_walk_27 : decode cX9_walk 27 = .ok (.invokevirtual 186, 3) := by decide +kernel
set_option maxRecDepth 20000 in
theorem ggX9_walk_X9_areOpen : GoodIn wsX9_walk wsX9_areOpen := goodIn_r _ [17, 5, 6, 18, 19, 20, 21, 22, 12, 23, 24, 25, 26, 27, 28, 29, 30, 31, 32, 33, 34, 35, 36, 37, 62, 63, 64, 65, 66, 67, 68, 69, 70, 71, 72, 73, 74, 75, 76, 77, 78, 79, 80, 81, 82, 83, 84, 85, 86, 87, 88, 89, 90, 91, 92, 93, 94, 95, 96, 97, 98, 99, 100, 101, 102] (by decide +kernel) (by decide +kernel)
set_option maxRecDepth 20000 in
theorem gX9_walk_X9_areOpen : GoodIn wsX9_walk (wsV RX9 186 RX9 yX9_areOpen wsX9_areOpen) := goodIn_app (goodIn_of _ (by decide +kernel)) ggX9_walk_X9_areOpen
theorem dX9_walk_30 : decode cX9_walk 30 = .ok (.ifCond .ne 10, 3) := by decide +kernel
theorem dX9_walk_40 : decode cX9_walk 40 = .ok (.aload_n 0, 1) := by decide +kernel
theorem dX9_walk_41 : decode cX9_walk 41 = .ok (.iload_n 1, 1) := by decide +kernel
theorem dX9_walk_42 : decode cX9_walk 42 = .ok (.invokevirtual 190, 3) := by decide +kernel
set_option maxRecDepth 20000 in
theorem ggX9_walk_X9_countOf : GoodIn wsX9_walk wsX9_countOf := goodIn_r _ [41, 7, 5, 6, 42, 43, 44, 12, 45, 18, 19, 46, 47, 48, 49, 50, 51, 52, 20, 21, 22, 23, 24, 25, 26, 27, 28, 29, 30, 31, 32, 33, 34, 35, 36, 37, 53, 54, 55, 56, 57, 58, 59, 60, 61, 3, 62, 63, 64, 65, 66, 67, 68, 69, 70, 71, 72, 73, 74, 75, 76, 77, 78, 79, 80, 81, 82, 83, 84, 85, 86, 87, 88, 89, 90, 91, 92, 93, 94, 95, 96, 97, 98, 99, 100, 101, 102] (by decide +kernel) (by decide +kernel)
set_option maxRecDepth 20000 in
theorem gX9_walk_X9_countOf : GoodIn wsX9_walk (wsV RX9 190 RX9 yX9_countOf wsX9_countOf) := goodIn_app (goodIn_of _ (by decide +kernel)) ggX9_walk_X9_countOf
theorem dX9_walk_45 : decode cX9_walk 45 = .ok (.lstore 4, 2) := by decide +kernel
theorem dX9_walk_47 : decode cX9_walk 47 = .ok (.lload_n 2, 1) := by decide +kernel
theorem dX9_walk_48 : decode cX9_walk 48 = .ok (.lconst 0, 1) := by decide +kernel
theorem dX9_walk_49 : decode cX9_walk 49 = .ok (.lcmp, 1) := by decide +kernel
theorem dX9_walk_50 : decode cX9_walk 50 = .ok (.ifCond .lt 19, 3) := by decide +kernel
theorem dX9_walk_69 : decode cX9_walk 69 = .ok (.aload_n 0, 1) := by decide +kernel
theorem dX9_walk_70 : decode cX9_walk 70 = .ok (.bipush 8, 2) := by decide +kernel
theorem dX9_walk_72 : decode cX9_walk 72 = .ok (.invokevirtual 156, 3) := by decide +kernel
theorem dX9_walk_75 : decode cX9_walk 75 = .ok (.ireturn, 1) := by decide +kernel
theorem dX9_walk_53 : decode cX9_walk 53 = .ok (.lload 4, 2) := by decide +kernel
theorem dX9_walk_55 : decode cX9_walk 55 = .ok (.ldc2_w 173, 3) := by decide +kernel
theorem dX9_walk_58 : decode cX9_walk 58 = .ok (.lcmp, 1) := by decide +kernel
theorem dX9_walk_59 : decode cX9_walk 59 = .ok (.ifCond .ge 17, 3) := by decide +kernel
theorem dX9_walk_76 : decode cX9_walk 76 = .ok (.lload 4, 2) := by decide +kernel
theorem dX9_walk_78 : decode cX9_walk 78 = .ok (.ldc2_w 173, 3) := by decide +kernel
theorem dX9_walk_81 : decode cX9_walk 81 = .ok (.lcmp, 1) := by decide +kernel
theorem dX9_walk_82 : decode cX9_walk 82 = .ok (.ifCond .lt 10, 3) := by decide +kernel
theorem dX9_walk_85 : decode cX9_walk 85 = .ok (.aload_n 0, 1) := by decide +kernel
theorem dX9_walk_86 : decode cX9_walk 86 = .ok (.bipush 9, 2) := by decide +kernel
theorem dX9_walk_88 : decode cX9_walk 88 = .ok (.invokevirtual 156, 3) := by decide +kernel
theorem dX9_walk_91 : decode cX9_walk 91 = .ok (.ireturn, 1) := by decide +kernel
theorem dX9_walk_62 : decode cX9_walk 62 = .ok (.lload_n 2, 1) := by decide +kernel
theorem dX9_walk_63 : decode cX9_walk 63 = .ok (.lload 4, 2) := by decide +kernel
theorem dX9_walk_65 : decode cX9_walk 65 = .ok (.lcmp, 1) := by decide +kernel
theorem dX9_walk_66 : decode cX9_walk 66 = .ok (.ifCond .lt 10, 3) := by decide +kernel
theorem dX9_walk_92 : decode cX9_walk 92 = .ok (.aload_n 0, 1) := by decide +kernel
theorem dX9_walk_93 : decode cX9_walk 93 = .ok (.iload_n 1, 1) := by decide +kernel
theorem dX9_walk_94 : decode cX9_walk 94 = .ok (.putfield 234, 3) := by decide +kernel
theorem dX9_walk_97 : decode cX9_walk 97 = .ok (.lload_n 2, 1) := by decide +kernel
theorem dX9_walk_98 : decode cX9_walk 98 = .ok (.lstore 6, 2) := by decide +kernel
theorem dX9_walk_100 : decode cX9_walk 100 = .ok (.aload_n 0, 1) := by decide +kernel
theorem dX9_walk_101 : decode cX9_walk 101 = .ok (.getfield 161, 3) := by decide +kernel
theorem dX9_walk_104 : decode cX9_walk 104 = .ok (.aload_n 0, 1) := by decide +kernel
theorem dX9_walk_105 : decode cX9_walk 105 = .ok (.getfield 164, 3) := by decide +kernel
theorem dX9_walk_108 : decode cX9_walk 108 = .ok (.invokestatic 144, 3) := by decide +kernel
set_option maxRecDepth 20000 in
theorem ggX9_walk_X9_squareOf : GoodIn wsX9_walk wsX9_squareOf := goodIn_r _ [37] (by decide +kernel) (by decide +kernel)
set_option maxRecDepth 20000 in
theorem gX9_walk_X9_squareOf : GoodIn wsX9_walk (va_wsS RX9 144 yX9_squareOf wsX9_squareOf) := goodIn_app (goodIn_of _ (by decide +kernel)) ggX9_walk_X9_squareOf
theorem dX9_walk_111 : decode cX9_walk 111 = .ok (.istore 8, 2) := by decide +kernel
theorem dX9_walk_113 : decode cX9_walk 113 = .ok (.iload_n 1, 1) := by decide +kernel
theorem dX9_walk_114 : decode cX9_walk 114 = .ok (.iconst 1, 1) := by decide +kernel
theorem dX9_walk_115 : decode cX9_walk 115 = .ok (.isub, 1) := by decide +kernel
theorem dX9_walk_116 : decode cX9_walk 116 = .ok (.istore 9, 2) := by decide +kernel
theorem dX9_walk_118 : decode cX9_walk 118 = .ok (.iload 9, 2) := by decide +kernel
theorem dX9_walk_120 : decode cX9_walk 120 = .ok (.ifCond .lt 115, 3) := by decide +kernel
theorem dX9_walk_235 : decode cX9_walk 235 = .ok (.iload_n 1, 1) := by decide +kernel
theorem dX9_walk_236 : decode cX9_walk 236 = .ok (.ireturn, 1) := by decide +kernel
theorem dX9_walk_123 : decode cX9_walk 123 = .ok (.iconst 0, 1) := by decide +kernel
theorem dX9_walk_124 : decode cX9_walk 124 = .ok (.istore 10, 2) := by decide +kernel
theorem dX9_walk_126 : decode cX9_walk 126 = .ok (.iconst 1, 1) := by decide +kernel
theorem dX9_walk_127 : decode cX9_walk 127 = .ok (.istore 11, 2) := by decide +kernel
theorem dX9_walk_129 : decode cX9_walk 129 = .ok (.iload 11, 2) := by decide +kernel
theorem dX9_walk_131 : decode cX9_walk 131 = .ok (.ifCond .eq 71, 3) := by decide +kernel
theorem dX9_walk_202 : decode cX9_walk 202 = .ok (.aload_n 0, 1) := by decide +kernel
theorem dX9_walk_203 : decode cX9_walk 203 = .ok (.getfield 78, 3) := by decide +kernel
theorem dX9_walk_206 : decode cX9_walk 206 = .ok (.iload_n 1, 1) := by decide +kernel
theorem dX9_walk_207 : decode cX9_walk 207 = .ok (.iconst 1, 1) := by decide +kernel
theorem dX9_walk_208 : decode cX9_walk 208 = .ok (.isub, 1) := by decide +kernel
theorem dX9_walk_209 : decode cX9_walk 209 = .ok (.iload 9, 2) := by decide +kernel
theorem dX9_walk_211 : decode cX9_walk 211 = .ok (.isub, 1) := by decide +kernel
theorem dX9_walk_212 : decode cX9_walk 212 = .ok (.bipush 48, 2) := by decide +kernel
theorem dX9_walk_214 : decode cX9_walk 214 = .ok (.iload 10, 2) := by decide +kernel
theorem dX9_walk_216 : decode cX9_walk 216 = .ok (.iadd, 1) := by decide +kernel
theorem dX9_walk_217 : decode cX9_walk 217 = .ok (.i2b, 1) := by decide +kernel
theorem dX9_walk_218 : decode cX9_walk 218 = .ok (.bastore, 1) := by decide +kernel
theorem dX9_walk_219 : decode cX9_walk 219 = .ok (.aload_n 0, 1) := by decide +kernel
theorem dX9_walk_220 : decode cX9_walk 220 = .ok (.iload 8, 2) := by decide +kernel
theorem dX9_walk_222 : decode cX9_walk 222 = .ok (.iload 10, 2) := by decide +kernel
theorem dX9_walk_224 : decode cX9_walk 224 = .ok (.invokevirtual 175, 3) := by decide +kernel
set_option maxRecDepth 20000 in
theorem ggX9_walk_X9_next : GoodIn wsX9_walk wsX9_next := goodIn_r _ [56, 57, 58, 24, 34, 47, 48, 12, 49, 50, 51, 52, 20, 21, 22, 23, 25, 26, 27, 28, 29, 30, 31, 32, 33, 35, 36, 37, 62, 63, 64, 65, 66, 67, 68, 69, 70, 71, 72, 73, 74, 75, 76, 77, 78, 79, 80, 81, 82, 83, 84, 85, 86, 87, 88, 89, 90, 91, 92, 93, 94, 95, 96, 97, 98, 99, 100, 101, 102] (by decide +kernel) (by decide +kernel)
set_option maxRecDepth 20000 in
theorem gX9_walk_X9_next : GoodIn wsX9_walk (wsV RX9 175 RX9 yX9_next wsX9_next) := goodIn_app (goodIn_of _ (by decide +kernel)) ggX9_walk_X9_next
theorem dX9_walk_227 : decode cX9_walk 227 = .ok (.istore 8, 2) := by decide +kernel
theorem dX9_walk_229 : decode cX9_walk 229 = .ok (.iinc 9 (-1), 3) := by decide +kernel
theorem dX9_walk_232 : decode cX9_walk 232 = .ok (.goto (-114), 3) := by decide +kernel
theorem dX9_walk_134 : decode cX9_walk 134 = .ok (.aload_n 0, 1) := by decide +kernel
theorem dX9_walk_135 : decode cX9_walk 135 = .ok (.iload 8, 2) := by decide +kernel
theorem dX9_walk_137 : decode cX9_walk 137 = .ok (.iload 10, 2) := by decide +kernel
theorem dX9_walk_139 : decode cX9_walk 139 = .ok (.invokevirtual 175, 3) := by decide +kernel
theorem dX9_walk_142 : decode cX9_walk 142 = .ok (.istore 12, 2) := by decide +kernel
theorem dX9_walk_144 : decode cX9_walk 144 = .ok (.iload 12, 2) := by decide +kernel
theorem dX9_walk_146 : decode cX9_walk 146 = .ok (.ifCond .ge 7, 3) := by decide +kernel
theorem dX9_walk_153 : decode cX9_walk 153 = .ok (.aload_n 0, 1) := by decide +kernel
theorem dX9_walk_154 : decode cX9_walk 154 = .ok (.getfield 43, 3) := by decide +kernel
theorem dX9_walk_157 : decode cX9_walk 157 = .ok (.sipush 3721, 3) := by decide +kernel
theorem dX9_walk_160 : decode cX9_walk 160 = .ok (.iload 9, 2) := by decide +kernel
theorem dX9_walk_162 : decode cX9_walk 162 = .ok (.imul, 1) := by decide +kernel
theorem dX9_walk_163 : decode cX9_walk 163 = .ok (.iload 12, 2) := by decide +kernel
theorem dX9_walk_165 : decode cX9_walk 165 = .ok (.iadd, 1) := by decide +kernel
theorem dX9_walk_166 : decode cX9_walk 166 = .ok (.laload, 1) := by decide +kernel
theorem dX9_walk_167 : decode cX9_walk 167 = .ok (.lstore 13, 2) := by decide +kernel
theorem dX9_walk_169 : decode cX9_walk 169 = .ok (.lload 6, 2) := by decide +kernel
theorem dX9_walk_171 : decode cX9_walk 171 = .ok (.lload 13, 2) := by decide +kernel
theorem dX9_walk_173 : decode cX9_walk 173 = .ok (.lcmp, 1) := by decide +kernel
theorem dX9_walk_174 : decode cX9_walk 174 = .ok (.ifCond .lt 7, 3) := by decide +kernel
theorem dX9_walk_181 : decode cX9_walk 181 = .ok (.iconst 0, 1) := by decide +kernel
theorem dX9_walk_182 : decode cX9_walk 182 = .ok (.istore 11, 2) := by decide +kernel
theorem dX9_walk_184 : decode cX9_walk 184 = .ok (.iload 11, 2) := by decide +kernel
theorem dX9_walk_186 : decode cX9_walk 186 = .ok (.ifCond .eq 13, 3) := by decide +kernel
theorem dX9_walk_199 : decode cX9_walk 199 = .ok (.goto (-70), 3) := by decide +kernel
theorem dX9_walk_177 : decode cX9_walk 177 = .ok (.iconst 1, 1) := by decide +kernel
theorem dX9_walk_178 : decode cX9_walk 178 = .ok (.goto 4, 3) := by decide +kernel
theorem dX9_walk_189 : decode cX9_walk 189 = .ok (.lload 6, 2) := by decide +kernel
theorem dX9_walk_191 : decode cX9_walk 191 = .ok (.lload 13, 2) := by decide +kernel
theorem dX9_walk_193 : decode cX9_walk 193 = .ok (.lsub, 1) := by decide +kernel
theorem dX9_walk_194 : decode cX9_walk 194 = .ok (.lstore 6, 2) := by decide +kernel
theorem dX9_walk_196 : decode cX9_walk 196 = .ok (.iinc 10 1, 3) := by decide +kernel
theorem dX9_walk_149 : decode cX9_walk 149 = .ok (.lconst 0, 1) := by decide +kernel
theorem dX9_walk_150 : decode cX9_walk 150 = .ok (.goto 17, 3) := by decide +kernel
