theorem dX9_turns_37 : decode cX9_turns 37 = .ok (.lconst 0, 1) := by decide +kernel
theorem dX9_turns_38 : decode cX9_turns 38 = .ok (.lreturn, 1) := by decide +kernel
theorem dX9_turns_39 : decode cX9_turns 39 = .ok (.iload_n 2, 1) := by decide +kernel
theorem dX9_turns_40 : decode cX9_turns 40 = .ok (.bipush 14, 2) := by decide +kernel
theorem dX9_turns_42 : decode cX9_turns 42 = .ok (.if_icmp .le 5, 3) := by decide +kernel
theorem dX9_turns_45 : decode cX9_turns 45 = .ok (.lconst 0, 1) := by decide +kernel
theorem dX9_turns_46 : decode cX9_turns 46 = .ok (.lreturn, 1) := by decide +kernel
theorem dX9_turns_47 : decode cX9_turns 47 = .ok (.lconst 0, 1) := by decide +kernel
theorem dX9_turns_48 : decode cX9_turns 48 = .ok (.lstore_n 3, 1) := by decide +kernel
theorem dX9_turns_49 : decode cX9_turns 49 = .ok (.iconst 0, 1) := by decide +kernel
theorem dX9_turns_50 : decode cX9_turns 50 = .ok (.istore 5, 2) := by decide +kernel
theorem dX9_turns_52 : decode cX9_turns 52 = .ok (.iload 5, 2) := by decide +kernel
theorem dX9_turns_54 : decode cX9_turns 54 = .ok (.aload_n 0, 1) := by decide +kernel
theorem dX9_turns_55 : decode cX9_turns 55 = .ok (.getfield 48, 3) := by decide +kernel
theorem dX9_turns_58 : decode cX9_turns 58 = .ok (.arraylength, 1) := by decide +kernel
theorem dX9_turns_59 : decode cX9_turns 59 = .ok (.if_icmp .ge 17, 3) := by decide +kernel
theorem dX9_turns_62 : decode cX9_turns 62 = .ok (.aload_n 0, 1) := by decide +kernel
theorem dX9_turns_63 : decode cX9_turns 63 = .ok (.getfield 48, 3) := by decide +kernel
theorem dX9_turns_66 : decode cX9_turns 66 = .ok (.iload 5, 2) := by decide +kernel
theorem dX9_turns_68 : decode cX9_turns 68 = .ok (.lconst 0, 1) := by decide +kernel
theorem dX9_turns_69 : decode cX9_turns 69 = .ok (.lastore, 1) := by decide +kernel
theorem dX9_turns_70 : decode cX9_turns 70 = .ok (.iinc 5 1, 3) := by decide +kernel
theorem dX9_turns_73 : decode cX9_turns 73 = .ok (.goto (-21), 3) := by decide +kernel
theorem dX9_turns_76 : decode cX9_turns 76 = .ok (.iconst 0, 1) := by decide +kernel
theorem dX9_turns_77 : decode cX9_turns 77 = .ok (.istore 5, 2) := by decide +kernel
theorem dX9_turns_79 : decode cX9_turns 79 = .ok (.iload 5, 2) := by decide +kernel
theorem dX9_turns_81 : decode cX9_turns 81 = .ok (.aload_n 0, 1) := by decide +kernel
theorem dX9_turns_82 : decode cX9_turns 82 = .ok (.getfield 19, 3) := by decide +kernel
theorem dX9_turns_85 : decode cX9_turns 85 = .ok (.if_icmp .ge 53, 3) := by decide +kernel
theorem dX9_turns_88 : decode cX9_turns 88 = .ok (.aload_n 0, 1) := by decide +kernel
theorem dX9_turns_89 : decode cX9_turns 89 = .ok (.aload_n 0, 1) := by decide +kernel
theorem dX9_turns_90 : decode cX9_turns 90 = .ok (.getfield 161, 3) := by decide +kernel
theorem dX9_turns_93 : decode cX9_turns 93 = .ok (.aload_n 0, 1) := by decide +kernel
theorem dX9_turns_94 : decode cX9_turns 94 = .ok (.getfield 164, 3) := by decide +kernel
theorem dX9_turns_97 : decode cX9_turns 97 = .ok (.invokestatic 144, 3) := by decide +kernel
theorem dX9_turns_100 : decode cX9_turns 100 = .ok (.iload 5, 2) := by decide +kernel
theorem dX9_turns_102 : decode cX9_turns 102 = .ok (.invokevirtual 175, 3) := by decide +kernel
theorem dX9_turns_105 : decode cX9_turns 105 = .ok (.istore 6, 2) := by decide +kernel
theorem dX9_turns_107 : decode cX9_turns 107 = .ok (.iload 6, 2) := by decide +kernel
theorem dX9_turns_109 : decode cX9_turns 109 = .ok (.ifCond .lt 23, 3) := by decide +kernel
theorem dX9_turns_112 : decode cX9_turns 112 = .ok (.aload_n 0, 1) := by decide +kernel
theorem dX9_turns_113 : decode cX9_turns 113 = .ok (.getfield 48, 3) := by decide +kernel
theorem dX9_turns_116 : decode cX9_turns 116 = .ok (.bipush 120, 2) := by decide +kernel
theorem dX9_turns_118 : decode cX9_turns 118 = .ok (.iload 6, 2) := by decide +kernel
theorem dX9_turns_120 : decode cX9_turns 120 = .ok (.imul, 1) := by decide +kernel
theorem dX9_turns_121 : decode cX9_turns 121 = .ok (.bipush 15, 2) := by decide +kernel
theorem dX9_turns_123 : decode cX9_turns 123 = .ok (.iload 5, 2) := by decide +kernel
theorem dX9_turns_125 : decode cX9_turns 125 = .ok (.imul, 1) := by decide +kernel
theorem dX9_turns_126 : decode cX9_turns 126 = .ok (.iadd, 1) := by decide +kernel
theorem dX9_turns_127 : decode cX9_turns 127 = .ok (.dup2, 1) := by decide +kernel
theorem dX9_turns_128 : decode cX9_turns 128 = .ok (.laload, 1) := by decide +kernel
theorem dX9_turns_129 : decode cX9_turns 129 = .ok (.lconst 1, 1) := by decide +kernel
theorem dX9_turns_130 : decode cX9_turns 130 = .ok (.ladd, 1) := by decide +kernel
theorem dX9_turns_131 : decode cX9_turns 131 = .ok (.lastore, 1) := by decide +kernel
theorem dX9_turns_132 : decode cX9_turns 132 = .ok (.iinc 5 1, 3) := by decide +kernel
theorem dX9_turns_135 : decode cX9_turns 135 = .ok (.goto (-56), 3) := by decide +kernel
theorem dX9_turns_138 : decode cX9_turns 138 = .ok (.iconst 1, 1) := by decide +kernel
theorem dX9_turns_139 : decode cX9_turns 139 = .ok (.istore 5, 2) := by decide +kernel
theorem dX9_turns_141 : decode cX9_turns 141 = .ok (.iload 5, 2) := by decide +kernel
theorem dX9_turns_143 : decode cX9_turns 143 = .ok (.iload_n 1, 1) := by decide +kernel
theorem dX9_turns_144 : decode cX9_turns 144 = .ok (.if_icmp .ge 112, 3) := by decide +kernel
theorem dX9_turns_147 : decode cX9_turns 147 = .ok (.iconst 0, 1) := by decide +kernel
theorem dX9_turns_148 : decode cX9_turns 148 = .ok (.istore 6, 2) := by decide +kernel
theorem dX9_turns_150 : decode cX9_turns 150 = .ok (.iload 6, 2) := by decide +kernel
theorem dX9_turns_152 : decode cX9_turns 152 = .ok (.aload_n 0, 1) := by decide +kernel
theorem dX9_turns_153 : decode cX9_turns 153 = .ok (.getfield 51, 3) := by decide +kernel
theorem dX9_turns_156 : decode cX9_turns 156 = .ok (.arraylength, 1) := by decide +kernel
theorem dX9_turns_157 : decode cX9_turns 157 = .ok (.if_icmp .ge 17, 3) := by decide +kernel
theorem dX9_turns_160 : decode cX9_turns 160 = .ok (.aload_n 0, 1) := by decide +kernel
theorem dX9_turns_161 : decode cX9_turns 161 = .ok (.getfield 51, 3) := by decide +kernel
theorem dX9_turns_164 : decode cX9_turns 164 = .ok (.iload 6, 2) := by decide +kernel
theorem dX9_turns_166 : decode cX9_turns 166 = .ok (.lconst 0, 1) := by decide +kernel
theorem dX9_turns_167 : decode cX9_turns 167 = .ok (.lastore, 1) := by decide +kernel
theorem dX9_turns_168 : decode cX9_turns 168 = .ok (.iinc 6 1, 3) := by decide +kernel
theorem dX9_turns_171 : decode cX9_turns 171 = .ok (.goto (-21), 3) := by decide +kernel
theorem dX9_turns_174 : decode cX9_turns 174 = .ok (.iconst 0, 1) := by decide +kernel
theorem dX9_turns_175 : decode cX9_turns 175 = .ok (.istore 6, 2) := by decide +kernel
theorem dX9_turns_177 : decode cX9_turns 177 = .ok (.iload 6, 2) := by decide +kernel
theorem dX9_turns_179 : decode cX9_turns 179 = .ok (.sipush 3721, 3) := by decide +kernel
theorem dX9_turns_182 : decode cX9_turns 182 = .ok (.if_icmp .ge 35, 3) := by decide +kernel
theorem dX9_turns_185 : decode cX9_turns 185 = .ok (.iconst 0, 1) := by decide +kernel
theorem dX9_turns_186 : decode cX9_turns 186 = .ok (.istore 7, 2) := by decide +kernel
theorem dX9_turns_188 : decode cX9_turns 188 = .ok (.iload 7, 2) := by decide +kernel
theorem dX9_turns_190 : decode cX9_turns 190 = .ok (.aload_n 0, 1) := by decide +kernel
theorem dX9_turns_191 : decode cX9_turns 191 = .ok (.getfield 19, 3) := by decide +kernel
theorem dX9_turns_194 : decode cX9_turns 194 = .ok (.if_icmp .ge 17, 3) := by decide +kernel
theorem dX9_turns_197 : decode cX9_turns 197 = .ok (.aload_n 0, 1) := by decide +kernel
theorem dX9_turns_198 : decode cX9_turns 198 = .ok (.iload 6, 2) := by decide +kernel
theorem dX9_turns_200 : decode cX9_turns 200 = .ok (.iload 7, 2) := by decide +kernel
theorem dX9_turns_202 : decode cX9_turns 202 = .ok (.invokevirtual 214, 3) := by decide +kernel
theorem dX9_turns_205 : decode cX9_turns 205 = .ok (.iinc 7 1, 3) := by decide +kernel
theorem dX9_turns_208 : decode cX9_turns 208 = .ok (.goto (-20), 3) := by decide +kernel
theorem dX9_turns_211 : decode cX9_turns 211 = .ok (.iinc 6 1, 3) := by decide +kernel
theorem dX9_turns_214 : decode cX9_turns 214 = .ok (.goto (-37), 3) := by decide +kernel
theorem dX9_turns_217 : decode cX9_turns 217 = .ok (.iconst 0, 1) := by decide +kernel
theorem dX9_turns_218 : decode cX9_turns 218 = .ok (.istore 6, 2) := by decide +kernel
theorem dX9_turns_220 : decode cX9_turns 220 = .ok (.iload 6, 2) := by decide +kernel
theorem dX9_turns_222 : decode cX9_turns 222 = .ok (.aload_n 0, 1) := by decide +kernel
theorem dX9_turns_223 : decode cX9_turns 223 = .ok (.getfield 48, 3) := by decide +kernel
theorem dX9_turns_226 : decode cX9_turns 226 = .ok (.arraylength, 1) := by decide +kernel
theorem dX9_turns_227 : decode cX9_turns 227 = .ok (.if_icmp .ge 23, 3) := by decide +kernel
theorem dX9_turns_230 : decode cX9_turns 230 = .ok (.aload_n 0, 1) := by decide +kernel
theorem dX9_turns_231 : decode cX9_turns 231 = .ok (.getfield 48, 3) := by decide +kernel
theorem dX9_turns_234 : decode cX9_turns 234 = .ok (.iload 6, 2) := by decide +kernel
theorem dX9_turns_236 : decode cX9_turns 236 = .ok (.aload_n 0, 1) := by decide +kernel
theorem dX9_turns_237 : decode cX9_turns 237 = .ok (.getfield 51, 3) := by decide +kernel
theorem dX9_turns_240 : decode cX9_turns 240 = .ok (.iload 6, 2) := by decide +kernel
theorem dX9_turns_242 : decode cX9_turns 242 = .ok (.laload, 1) := by decide +kernel
theorem dX9_turns_243 : decode cX9_turns 243 = .ok (.lastore, 1) := by decide +kernel
theorem dX9_turns_244 : decode cX9_turns 244 = .ok (.iinc 6 1, 3) := by decide +kernel
theorem dX9_turns_247 : decode cX9_turns 247 = .ok (.goto (-27), 3) := by decide +kernel
theorem dX9_turns_250 : decode cX9_turns 250 = .ok (.iinc 5 1, 3) := by decide +kernel
theorem dX9_turns_253 : decode cX9_turns 253 = .ok (.goto (-112), 3) := by decide +kernel
theorem dX9_turns_256 : decode cX9_turns 256 = .ok (.iconst 0, 1) := by decide +kernel
theorem dX9_turns_257 : decode cX9_turns 257 = .ok (.istore 5, 2) := by decide +kernel
theorem dX9_turns_259 : decode cX9_turns 259 = .ok (.iload 5, 2) := by decide +kernel
theorem dX9_turns_261 : decode cX9_turns 261 = .ok (.aload_n 0, 1) := by decide +kernel
theorem dX9_turns_262 : decode cX9_turns 262 = .ok (.getfield 19, 3) := by decide +kernel
theorem dX9_turns_265 : decode cX9_turns 265 = .ok (.if_icmp .ge 39, 3) := by decide +kernel
theorem dX9_turns_268 : decode cX9_turns 268 = .ok (.lload_n 3, 1) := by decide +kernel
theorem dX9_turns_269 : decode cX9_turns 269 = .ok (.aload_n 0, 1) := by decide +kernel
theorem dX9_turns_270 : decode cX9_turns 270 = .ok (.getfield 48, 3) := by decide +kernel
theorem dX9_turns_273 : decode cX9_turns 273 = .ok (.bipush 120, 2) := by decide +kernel
theorem dX9_turns_275 : decode cX9_turns 275 = .ok (.aload_n 0, 1) := by decide +kernel
theorem dX9_turns_276 : decode cX9_turns 276 = .ok (.getfield 167, 3) := by decide +kernel
theorem dX9_turns_279 : decode cX9_turns 279 = .ok (.aload_n 0, 1) := by decide +kernel
theorem dX9_turns_280 : decode cX9_turns 280 = .ok (.getfield 170, 3) := by decide +kernel
theorem dX9_turns_283 : decode cX9_turns 283 = .ok (.invokestatic 144, 3) := by decide +kernel
theorem dX9_turns_286 : decode cX9_turns 286 = .ok (.imul, 1) := by decide +kernel
theorem dX9_turns_287 : decode cX9_turns 287 = .ok (.bipush 15, 2) := by decide +kernel
theorem dX9_turns_289 : decode cX9_turns 289 = .ok (.iload 5, 2) := by decide +kernel
theorem dX9_turns_291 : decode cX9_turns 291 = .ok (.imul, 1) := by decide +kernel
theorem dX9_turns_292 : decode cX9_turns 292 = .ok (.iadd, 1) := by decide +kernel
theorem dX9_turns_293 : decode cX9_turns 293 = .ok (.iload_n 2, 1) := by decide +kernel
theorem dX9_turns_294 : decode cX9_turns 294 = .ok (.iadd, 1) := by decide +kernel
theorem dX9_turns_295 : decode cX9_turns 295 = .ok (.laload, 1) := by decide +kernel
theorem dX9_turns_296 : decode cX9_turns 296 = .ok (.ladd, 1) := by decide +kernel
theorem dX9_turns_297 : decode cX9_turns 297 = .ok (.lstore_n 3, 1) := by decide +kernel
theorem dX9_turns_298 : decode cX9_turns 298 = .ok (.iinc 5 1, 3) := by decide +kernel
theorem dX9_turns_301 : decode cX9_turns 301 = .ok (.goto (-42), 3) := by decide +kernel
theorem dX9_turns_304 : decode cX9_turns 304 = .ok (.lload_n 3, 1) := by decide +kernel
theorem dX9_turns_305 : decode cX9_turns 305 = .ok (.lreturn, 1) := by decide +kernel
set_option maxRecDepth 20000 in
theorem ggX9_goesOn_X9_next : GoodIn wsX9_goesOn wsX9_next := goodIn_r _ [8, 9, 10, 11, 12, 13, 14, 7, 15, 16, 17, 18, 19, 20, 21, 22, 23, 24, 25, 26, 27, 28, 29, 30, 31, 32, 33, 34, 35, 36, 37, 38, 39, 40, 41, 42, 43, 44, 45, 46, 47, 48, 49, 50, 51, 52, 53, 54, 55, 56, 57, 58, 59, 60, 61, 62, 63, 64, 65, 66, 67, 68, 69, 70, 71, 72, 73, 74, 75] (by decide +kernel) (by decide +kernel)
set_option maxRecDepth 20000 in
theorem gX9_goesOn_X9_next : GoodIn wsX9_goesOn (wsV RX9 175 RX9 yX9_next wsX9_next) := goodIn_app (goodIn_of _ (by decide +kernel)) ggX9_goesOn_X9_next
theorem dX9_goesOn_0 : decode cX9_goesOn 0 = .ok (.aload_n 0, 1) := by decide +kernel
theorem dX9_goesOn_1 : decode cX9_goesOn 1 = .ok (.iload_n 1, 1) := by decide +kernel
theorem dX9_goesOn_2 : decode cX9_goesOn 2 = .ok (.iload_n 2, 1) := by decide +kernel
theorem dX9_goesOn_3 : decode cX9_goesOn 3 = .ok (.invokevirtual 175, 3) := by decide +kernel
theorem dX9_goesOn_6 : decode cX9_goesOn 6 = .ok (.istore_n 3, 1) := by decide +kernel
theorem dX9_goesOn_7 : decode cX9_goesOn 7 = .ok (.iload_n 3, 1) := by decide +kernel
theorem dX9_goesOn_8 : decode cX9_goesOn 8 = .ok (.ifCond .ge 4, 3) := by decide +kernel
theorem dX9_goesOn_11 : decode cX9_goesOn 11 = .ok (.return_, 1) := by decide +kernel
theorem dX9_goesOn_12 : decode cX9_goesOn 12 = .ok (.iconst 0, 1) := by decide +kernel
theorem dX9_goesOn_13 : decode cX9_goesOn 13 = .ok (.istore 4, 2) := by decide +kernel
theorem dX9_goesOn_15 : decode cX9_goesOn 15 = .ok (.iload 4, 2) := by decide +kernel
theorem dX9_goesOn_17 : decode cX9_goesOn 17 = .ok (.aload_n 0, 1) := by decide +kernel
theorem dX9_goesOn_18 : decode cX9_goesOn 18 = .ok (.getfield 19, 3) := by decide +kernel
theorem dX9_goesOn_21 : decode cX9_goesOn 21 = .ok (.if_icmp .ge 82, 3) := by decide +kernel
theorem dX9_goesOn_24 : decode cX9_goesOn 24 = .ok (.iload 4, 2) := by decide +kernel
theorem dX9_goesOn_26 : decode cX9_goesOn 26 = .ok (.iload_n 2, 1) := by decide +kernel
theorem dX9_goesOn_27 : decode cX9_goesOn 27 = .ok (.if_icmp .ne 7, 3) := by decide +kernel
theorem dX9_goesOn_30 : decode cX9_goesOn 30 = .ok (.iconst 0, 1) := by decide +kernel
theorem dX9_goesOn_31 : decode cX9_goesOn 31 = .ok (.goto 4, 3) := by decide +kernel
theorem dX9_goesOn_34 : decode cX9_goesOn 34 = .ok (.iconst 1, 1) := by decide +kernel
theorem dX9_goesOn_35 : decode cX9_goesOn 35 = .ok (.istore 5, 2) := by decide +kernel
theorem dX9_goesOn_37 : decode cX9_goesOn 37 = .ok (.iconst 0, 1) := by decide +kernel
theorem dX9_goesOn_38 : decode cX9_goesOn 38 = .ok (.istore 6, 2) := by decide +kernel
theorem dX9_goesOn_40 : decode cX9_goesOn 40 = .ok (.iload 6, 2) := by decide +kernel
theorem dX9_goesOn_42 : decode cX9_goesOn 42 = .ok (.iload 5, 2) := by decide +kernel
theorem dX9_goesOn_44 : decode cX9_goesOn 44 = .ok (.iadd, 1) := by decide +kernel
theorem dX9_goesOn_45 : decode cX9_goesOn 45 = .ok (.bipush 15, 2) := by decide +kernel
theorem dX9_goesOn_47 : decode cX9_goesOn 47 = .ok (.if_icmp .ge 50, 3) := by decide +kernel
theorem dX9_goesOn_50 : decode cX9_goesOn 50 = .ok (.aload_n 0, 1) := by decide +kernel
theorem dX9_goesOn_51 : decode cX9_goesOn 51 = .ok (.getfield 51, 3) := by decide +kernel
theorem dX9_goesOn_54 : decode cX9_goesOn 54 = .ok (.bipush 120, 2) := by decide +kernel
theorem dX9_goesOn_56 : decode cX9_goesOn 56 = .ok (.iload_n 3, 1) := by decide +kernel
theorem dX9_goesOn_57 : decode cX9_goesOn 57 = .ok (.imul, 1) := by decide +kernel
theorem dX9_goesOn_58 : decode cX9_goesOn 58 = .ok (.bipush 15, 2) := by decide +kernel
theorem dX9_goesOn_60 : decode cX9_goesOn 60 = .ok (.iload_n 2, 1) := by decide +kernel
theorem dX9_goesOn_61 : decode cX9_goesOn 61 = .ok (.imul, 1) := by decide +kernel
theorem dX9_goesOn_62 : decode cX9_goesOn 62 = .ok (.iadd, 1) := by decide +kernel
theorem dX9_goesOn_63 : decode cX9_goesOn 63 = .ok (.iload 6, 2) := by decide +kernel
theorem dX9_goesOn_65 : decode cX9_goesOn 65 = .ok (.iadd, 1) := by decide +kernel
theorem dX9_goesOn_66 : decode cX9_goesOn 66 = .ok (.iload 5, 2) := by decide +kernel
theorem dX9_goesOn_68 : decode cX9_goesOn 68 = .ok (.iadd, 1) := by decide +kernel
theorem dX9_goesOn_69 : decode cX9_goesOn 69 = .ok (.dup2, 1) := by decide +kernel
theorem dX9_goesOn_70 : decode cX9_goesOn 70 = .ok (.laload, 1) := by decide +kernel
theorem dX9_goesOn_71 : decode cX9_goesOn 71 = .ok (.aload_n 0, 1) := by decide +kernel
theorem dX9_goesOn_72 : decode cX9_goesOn 72 = .ok (.getfield 48, 3) := by decide +kernel
theorem dX9_goesOn_75 : decode cX9_goesOn 75 = .ok (.bipush 120, 2) := by decide +kernel
theorem dX9_goesOn_77 : decode cX9_goesOn 77 = .ok (.iload_n 1, 1) := by decide +kernel
theorem dX9_goesOn_78 : decode cX9_goesOn 78 = .ok (.imul, 1) := by decide +kernel
theorem dX9_goesOn_79 : decode cX9_goesOn 79 = .ok (.bipush 15, 2) := by decide +kernel
theorem dX9_goesOn_81 : decode cX9_goesOn 81 = .ok (.iload 4, 2) := by decide +kernel
theorem dX9_goesOn_83 : decode cX9_goesOn 83 = .ok (.imul, 1) := by decide +kernel
theorem dX9_goesOn_84 : decode cX9_goesOn 84 = .ok (.iadd, 1) := by decide +kernel
theorem dX9_goesOn_85 : decode cX9_goesOn 85 = .ok (.iload 6, 2) := by decide +kernel
theorem dX9_goesOn_87 : decode cX9_goesOn 87 = .ok (.iadd, 1) := by decide +kernel
theorem dX9_goesOn_88 : decode cX9_goesOn 88 = .ok (.laload, 1) := by decide +kernel
theorem dX9_goesOn_89 : decode cX9_goesOn 89 = .ok (.ladd, 1) := by decide +kernel
theorem dX9_goesOn_90 : decode cX9_goesOn 90 = .ok (.lastore, 1) := by decide +kernel
theorem dX9_goesOn_91 : decode cX9_goesOn 91 = .ok (.iinc 6 1, 3) := by decide +kernel
theorem dX9_goesOn_94 : decode cX9_goesOn 94 = .ok (.goto (-54), 3) := by decide +kernel
theorem dX9_goesOn_97 : decode cX9_goesOn 97 = .ok (.iinc 4 1, 3) := by decide +kernel
theorem dX9_goesOn_100 : decode cX9_goesOn 100 = .ok (.goto (-85), 3) := by decide +kernel
theorem dX9_goesOn_103 : decode cX9_goesOn 103 = .ok (.return_, 1) := by decide +kernel
set_option maxRecDepth 20000 in
theorem ggX9_best_X9_weighed : GoodIn wsX9_best wsX9_weighed := goodIn_r _ [13, 14, 15, 16, 12, 17, 18, 19, 20, 21, 22, 4, 5, 7, 8, 23, 24, 25, 26, 27, 28, 29, 30, 31, 32, 33, 34, 35, 36, 37, 38, 39, 76, 77, 78, 79, 80, 81, 82, 83, 84, 85, 86, 87, 88, 89, 90, 91, 92, 93, 94, 95, 96, 97, 98, 99, 100, 101, 102, 103, 104, 105, 106, 107, 108, 109, 110, 111, 112, 113, 114, 115, 116] (by decide +kernel) (by decide +kernel)
set_option maxRecDepth 20000 in
theorem gX9_best_X9_weighed : GoodIn wsX9_best (wsV RX9 197 RX9 yX9_weighed wsX9_weighed) := goodIn_app (goodIn_of _ (by decide +kernel)) ggX9_best_X9_weighed
set_option maxRecDepth 20000 in
theorem ggX9_best_X9_squareOf : GoodIn wsX9_best wsX9_squareOf := goodIn_r _ [39] (by decide +kernel) (by decide +kernel)
set_option maxRecDepth 20000 in
theorem gX9_best_X9_squareOf : GoodIn wsX9_best (va_wsS RX9 144 yX9_squareOf wsX9_squareOf) := goodIn_app (goodIn_of _ (by decide +kernel)) ggX9_best_X9_squareOf
set_option maxRecDepth 20000 in
theorem ggX9_best_X9_lightens : GoodIn wsX9_best wsX9_lightens := goodIn_r _ [43, 44, 3, 6, 45, 46, 47, 12, 48, 49, 50, 18, 36, 51, 52, 53, 54, 55, 56, 23, 24, 25, 26, 27, 28, 29, 30, 31, 32, 33, 34, 35, 37, 38, 39, 57, 58, 59, 60, 61, 62, 63, 64, 65, 66, 67, 68, 69, 70, 71, 76, 77, 78, 79, 80, 81, 82, 83, 84, 85, 86, 87, 88, 89, 90, 91, 92, 93, 94, 95, 96, 97, 98, 99, 100, 101, 102, 103, 104, 105, 106, 107, 108, 109, 110, 111, 112, 113, 114, 115, 116] (by decide +kernel) (by decide +kernel)
set_option maxRecDepth 20000 in
theorem gX9_best_X9_lightens : GoodIn wsX9_best (wsV RX9 218 RX9 yX9_lightens wsX9_lightens) := goodIn_app (goodIn_of _ (by decide +kernel)) ggX9_best_X9_lightens
set_option maxRecDepth 20000 in
theorem ggX9_best_X9_better : GoodIn wsX9_best wsX9_better := goodIn_r _ [64, 65, 66, 67, 68, 69, 70, 71] (by decide +kernel) (by decide +kernel)
set_option maxRecDepth 20000 in
theorem gX9_best_X9_better : GoodIn wsX9_best (va_wsS RX9 222 yX9_better wsX9_better) := goodIn_app (goodIn_of _ (by decide +kernel)) ggX9_best_X9_better
set_option maxRecDepth 20000 in
theorem ggX9_best_X9_refuse : GoodIn wsX9_best wsX9_refuse := goodIn_r _ [75, 2, 76, 77, 78, 79, 80, 81, 82, 83, 84, 85, 86, 87, 88, 89, 90, 91, 92, 93, 94, 95, 96, 97, 98, 99, 100, 101, 102, 103, 104, 105, 106, 107, 108, 109, 110, 111, 112, 113, 114, 115, 116] (by decide +kernel) (by decide +kernel)
set_option maxRecDepth 20000 in
theorem gX9_best_X9_refuse : GoodIn wsX9_best (wsV RX9 156 RX9 yX9_refuse wsX9_refuse) := goodIn_app (goodIn_of _ (by decide +kernel)) ggX9_best_X9_refuse
theorem dX9_best_0 : decode cX9_best 0 = .ok (.aload_n 0, 1) := by decide +kernel
theorem dX9_best_1 : decode cX9_best 1 = .ok (.iconst 0, 1) := by decide +kernel
theorem dX9_best_2 : decode cX9_best 2 = .ok (.putfield 112, 3) := by decide +kernel
theorem dX9_best_5 : decode cX9_best 5 = .ok (.aload_n 0, 1) := by decide +kernel
theorem dX9_best_6 : decode cX9_best 6 = .ok (.aload_n 0, 1) := by decide +kernel
theorem dX9_best_7 : decode cX9_best 7 = .ok (.iload_n 1, 1) := by decide +kernel
theorem dX9_best_8 : decode cX9_best 8 = .ok (.iload_n 2, 1) := by decide +kernel
theorem dX9_best_9 : decode cX9_best 9 = .ok (.invokevirtual 197, 3) := by decide +kernel
theorem dX9_best_12 : decode cX9_best 12 = .ok (.putfield 115, 3) := by decide +kernel
theorem dX9_best_15 : decode cX9_best 15 = .ok (.aload_n 0, 1) := by decide +kernel
theorem dX9_best_16 : decode cX9_best 16 = .ok (.getfield 115, 3) := by decide +kernel
theorem dX9_best_19 : decode cX9_best 19 = .ok (.ifCond .le 5, 3) := by decide +kernel
theorem dX9_best_22 : decode cX9_best 22 = .ok (.iconst (-1), 1) := by decide +kernel
theorem dX9_best_23 : decode cX9_best 23 = .ok (.ireturn, 1) := by decide +kernel
theorem dX9_best_24 : decode cX9_best 24 = .ok (.iconst 0, 1) := by decide +kernel
theorem dX9_best_25 : decode cX9_best 25 = .ok (.istore 4, 2) := by decide +kernel
theorem dX9_best_27 : decode cX9_best 27 = .ok (.iload 4, 2) := by decide +kernel
theorem dX9_best_29 : decode cX9_best 29 = .ok (.aload_n 0, 1) := by decide +kernel
theorem dX9_best_30 : decode cX9_best 30 = .ok (.getfield 54, 3) := by decide +kernel
theorem dX9_best_33 : decode cX9_best 33 = .ok (.arraylength, 1) := by decide +kernel
theorem dX9_best_34 : decode cX9_best 34 = .ok (.if_icmp .ge 17, 3) := by decide +kernel
theorem dX9_best_37 : decode cX9_best 37 = .ok (.aload_n 0, 1) := by decide +kernel
theorem dX9_best_38 : decode cX9_best 38 = .ok (.getfield 54, 3) := by decide +kernel
theorem dX9_best_41 : decode cX9_best 41 = .ok (.iload 4, 2) := by decide +kernel
theorem dX9_best_43 : decode cX9_best 43 = .ok (.iconst (-1), 1) := by decide +kernel
theorem dX9_best_44 : decode cX9_best 44 = .ok (.iastore, 1) := by decide +kernel
theorem dX9_best_45 : decode cX9_best 45 = .ok (.iinc 4 1, 3) := by decide +kernel
theorem dX9_best_48 : decode cX9_best 48 = .ok (.goto (-21), 3) := by decide +kernel
theorem dX9_best_51 : decode cX9_best 51 = .ok (.aload_n 0, 1) := by decide +kernel
theorem dX9_best_52 : decode cX9_best 52 = .ok (.getfield 54, 3) := by decide +kernel
theorem dX9_best_55 : decode cX9_best 55 = .ok (.bipush 8, 2) := by decide +kernel
theorem dX9_best_57 : decode cX9_best 57 = .ok (.aload_n 0, 1) := by decide +kernel
theorem dX9_best_58 : decode cX9_best 58 = .ok (.getfield 161, 3) := by decide +kernel
theorem dX9_best_61 : decode cX9_best 61 = .ok (.aload_n 0, 1) := by decide +kernel
theorem dX9_best_62 : decode cX9_best 62 = .ok (.getfield 164, 3) := by decide +kernel
theorem dX9_best_65 : decode cX9_best 65 = .ok (.invokestatic 144, 3) := by decide +kernel
theorem dX9_best_68 : decode cX9_best 68 = .ok (.imul, 1) := by decide +kernel
theorem dX9_best_69 : decode cX9_best 69 = .ok (.iconst 0, 1) := by decide +kernel
theorem dX9_best_70 : decode cX9_best 70 = .ok (.iastore, 1) := by decide +kernel
theorem dX9_best_71 : decode cX9_best 71 = .ok (.iconst 0, 1) := by decide +kernel
theorem dX9_best_72 : decode cX9_best 72 = .ok (.istore 4, 2) := by decide +kernel
theorem dX9_best_74 : decode cX9_best 74 = .ok (.iload 4, 2) := by decide +kernel
theorem dX9_best_76 : decode cX9_best 76 = .ok (.iload_n 2, 1) := by decide +kernel
theorem dX9_best_77 : decode cX9_best 77 = .ok (.if_icmp .ge 130, 3) := by decide +kernel
theorem dX9_best_80 : decode cX9_best 80 = .ok (.iconst 0, 1) := by decide +kernel
theorem dX9_best_81 : decode cX9_best 81 = .ok (.istore 5, 2) := by decide +kernel
theorem dX9_best_83 : decode cX9_best 83 = .ok (.iload 5, 2) := by decide +kernel
theorem dX9_best_85 : decode cX9_best 85 = .ok (.aload_n 0, 1) := by decide +kernel
theorem dX9_best_86 : decode cX9_best 86 = .ok (.getfield 54, 3) := by decide +kernel
theorem dX9_best_89 : decode cX9_best 89 = .ok (.arraylength, 1) := by decide +kernel
theorem dX9_best_90 : decode cX9_best 90 = .ok (.if_icmp .ge 17, 3) := by decide +kernel
theorem dX9_best_93 : decode cX9_best 93 = .ok (.aload_n 0, 1) := by decide +kernel
theorem dX9_best_94 : decode cX9_best 94 = .ok (.getfield 57, 3) := by decide +kernel
theorem dX9_best_97 : decode cX9_best 97 = .ok (.iload 5, 2) := by decide +kernel
theorem dX9_best_99 : decode cX9_best 99 = .ok (.iconst (-1), 1) := by decide +kernel
theorem dX9_best_100 : decode cX9_best 100 = .ok (.iastore, 1) := by decide +kernel
theorem dX9_best_101 : decode cX9_best 101 = .ok (.iinc 5 1, 3) := by decide +kernel
theorem dX9_best_104 : decode cX9_best 104 = .ok (.goto (-21), 3) := by decide +kernel
theorem dX9_best_107 : decode cX9_best 107 = .ok (.iconst 0, 1) := by decide +kernel
theorem dX9_best_108 : decode cX9_best 108 = .ok (.istore 5, 2) := by decide +kernel
theorem dX9_best_110 : decode cX9_best 110 = .ok (.iload 5, 2) := by decide +kernel
theorem dX9_best_112 : decode cX9_best 112 = .ok (.sipush 3721, 3) := by decide +kernel
theorem dX9_best_115 : decode cX9_best 115 = .ok (.if_icmp .ge 53, 3) := by decide +kernel
theorem dX9_best_118 : decode cX9_best 118 = .ok (.iconst 0, 1) := by decide +kernel
theorem dX9_best_119 : decode cX9_best 119 = .ok (.istore 6, 2) := by decide +kernel
theorem dX9_best_121 : decode cX9_best 121 = .ok (.iload 6, 2) := by decide +kernel
theorem dX9_best_123 : decode cX9_best 123 = .ok (.bipush 8, 2) := by decide +kernel
theorem dX9_best_125 : decode cX9_best 125 = .ok (.if_icmp .ge 37, 3) := by decide +kernel
theorem dX9_best_128 : decode cX9_best 128 = .ok (.aload_n 0, 1) := by decide +kernel
theorem dX9_best_129 : decode cX9_best 129 = .ok (.getfield 54, 3) := by decide +kernel
theorem dX9_best_132 : decode cX9_best 132 = .ok (.bipush 8, 2) := by decide +kernel
theorem dX9_best_134 : decode cX9_best 134 = .ok (.iload 5, 2) := by decide +kernel
theorem dX9_best_136 : decode cX9_best 136 = .ok (.imul, 1) := by decide +kernel
theorem dX9_best_137 : decode cX9_best 137 = .ok (.iload 6, 2) := by decide +kernel
theorem dX9_best_139 : decode cX9_best 139 = .ok (.iadd, 1) := by decide +kernel
theorem dX9_best_140 : decode cX9_best 140 = .ok (.iaload, 1) := by decide +kernel
theorem dX9_best_141 : decode cX9_best 141 = .ok (.ifCond .lt 15, 3) := by decide +kernel
theorem dX9_best_144 : decode cX9_best 144 = .ok (.aload_n 0, 1) := by decide +kernel
theorem dX9_best_145 : decode cX9_best 145 = .ok (.iload_n 1, 1) := by decide +kernel
theorem dX9_best_146 : decode cX9_best 146 = .ok (.iload 5, 2) := by decide +kernel
theorem dX9_best_148 : decode cX9_best 148 = .ok (.iload 6, 2) := by decide +kernel
theorem dX9_best_150 : decode cX9_best 150 = .ok (.iload 4, 2) := by decide +kernel
theorem dX9_best_152 : decode cX9_best 152 = .ok (.iload_n 3, 1) := by decide +kernel
theorem dX9_best_153 : decode cX9_best 153 = .ok (.invokevirtual 218, 3) := by decide +kernel
theorem dX9_best_156 : decode cX9_best 156 = .ok (.iinc 6 1, 3) := by decide +kernel
theorem dX9_best_159 : decode cX9_best 159 = .ok (.goto (-38), 3) := by decide +kernel
theorem dX9_best_162 : decode cX9_best 162 = .ok (.iinc 5 1, 3) := by decide +kernel
theorem dX9_best_165 : decode cX9_best 165 = .ok (.goto (-55), 3) := by decide +kernel
theorem dX9_best_168 : decode cX9_best 168 = .ok (.iconst 0, 1) := by decide +kernel
theorem dX9_best_169 : decode cX9_best 169 = .ok (.istore 5, 2) := by decide +kernel
theorem dX9_best_171 : decode cX9_best 171 = .ok (.iload 5, 2) := by decide +kernel
theorem dX9_best_173 : decode cX9_best 173 = .ok (.aload_n 0, 1) := by decide +kernel
theorem dX9_best_174 : decode cX9_best 174 = .ok (.getfield 54, 3) := by decide +kernel
theorem dX9_best_177 : decode cX9_best 177 = .ok (.arraylength, 1) := by decide +kernel
theorem dX9_best_178 : decode cX9_best 178 = .ok (.if_icmp .ge 23, 3) := by decide +kernel
theorem dX9_best_181 : decode cX9_best 181 = .ok (.aload_n 0, 1) := by decide +kernel
theorem dX9_best_182 : decode cX9_best 182 = .ok (.getfield 54, 3) := by decide +kernel
theorem dX9_best_185 : decode cX9_best 185 = .ok (.iload 5, 2) := by decide +kernel
theorem dX9_best_187 : decode cX9_best 187 = .ok (.aload_n 0, 1) := by decide +kernel
theorem dX9_best_188 : decode cX9_best 188 = .ok (.getfield 57, 3) := by decide +kernel
theorem dX9_best_191 : decode cX9_best 191 = .ok (.iload 5, 2) := by decide +kernel
theorem dX9_best_193 : decode cX9_best 193 = .ok (.iaload, 1) := by decide +kernel
theorem dX9_best_194 : decode cX9_best 194 = .ok (.iastore, 1) := by decide +kernel
theorem dX9_best_195 : decode cX9_best 195 = .ok (.iinc 5 1, 3) := by decide +kernel
theorem dX9_best_198 : decode cX9_best 198 = .ok (.goto (-27), 3) := by decide +kernel
theorem dX9_best_201 : decode cX9_best 201 = .ok (.iinc 4 1, 3) := by decide +kernel
theorem dX9_best_204 : decode cX9_best 204 = .ok (.goto (-130), 3) := by decide +kernel
theorem dX9_best_207 : decode cX9_best 207 = .ok (.iconst (-1), 1) := by decide +kernel
theorem dX9_best_208 : decode cX9_best 208 = .ok (.istore 4, 2) := by decide +kernel
theorem dX9_best_210 : decode cX9_best 210 = .ok (.iconst 0, 1) := by decide +kernel
theorem dX9_best_211 : decode cX9_best 211 = .ok (.istore 5, 2) := by decide +kernel
theorem dX9_best_213 : decode cX9_best 213 = .ok (.iload 5, 2) := by decide +kernel
theorem dX9_best_215 : decode cX9_best 215 = .ok (.bipush 8, 2) := by decide +kernel
theorem dX9_best_217 : decode cX9_best 217 = .ok (.if_icmp .ge 39, 3) := by decide +kernel
theorem dX9_best_220 : decode cX9_best 220 = .ok (.iload 4, 2) := by decide +kernel
theorem dX9_best_222 : decode cX9_best 222 = .ok (.aload_n 0, 1) := by decide +kernel
theorem dX9_best_223 : decode cX9_best 223 = .ok (.getfield 54, 3) := by decide +kernel
theorem dX9_best_226 : decode cX9_best 226 = .ok (.bipush 8, 2) := by decide +kernel
theorem dX9_best_228 : decode cX9_best 228 = .ok (.aload_n 0, 1) := by decide +kernel
theorem dX9_best_229 : decode cX9_best 229 = .ok (.getfield 167, 3) := by decide +kernel
theorem dX9_best_232 : decode cX9_best 232 = .ok (.aload_n 0, 1) := by decide +kernel
theorem dX9_best_233 : decode cX9_best 233 = .ok (.getfield 170, 3) := by decide +kernel
theorem dX9_best_236 : decode cX9_best 236 = .ok (.invokestatic 144, 3) := by decide +kernel
theorem dX9_best_239 : decode cX9_best 239 = .ok (.imul, 1) := by decide +kernel
theorem dX9_best_240 : decode cX9_best 240 = .ok (.iload 5, 2) := by decide +kernel
theorem dX9_best_242 : decode cX9_best 242 = .ok (.iadd, 1) := by decide +kernel
theorem dX9_best_243 : decode cX9_best 243 = .ok (.iaload, 1) := by decide +kernel
theorem dX9_best_244 : decode cX9_best 244 = .ok (.iload_n 3, 1) := by decide +kernel
theorem dX9_best_245 : decode cX9_best 245 = .ok (.invokestatic 222, 3) := by decide +kernel
theorem dX9_best_248 : decode cX9_best 248 = .ok (.istore 4, 2) := by decide +kernel
theorem dX9_best_250 : decode cX9_best 250 = .ok (.iinc 5 1, 3) := by decide +kernel
theorem dX9_best_253 : decode cX9_best 253 = .ok (.goto (-40), 3) := by decide +kernel
theorem dX9_best_256 : decode cX9_best 256 = .ok (.iload 4, 2) := by decide +kernel
theorem dX9_best_258 : decode cX9_best 258 = .ok (.ifCond .ge 12, 3) := by decide +kernel
theorem dX9_best_261 : decode cX9_best 261 = .ok (.aload_n 0, 1) := by decide +kernel
theorem dX9_best_262 : decode cX9_best 262 = .ok (.bipush 8, 2) := by decide +kernel
theorem dX9_best_264 : decode cX9_best 264 = .ok (.invokevirtual 156, 3) := by decide +kernel
theorem dX9_best_267 : decode cX9_best 267 = .ok (.goto 5, 3) := by decide +kernel
theorem dX9_best_270 : decode cX9_best 270 = .ok (.iload 4, 2) := by decide +kernel
theorem dX9_best_272 : decode cX9_best 272 = .ok (.ireturn, 1) := by decide +kernel
theorem dX9_better_0 : decode cX9_better 0 = .ok (.iload_n 0, 1) := by decide +kernel
theorem dX9_better_1 : decode cX9_better 1 = .ok (.ifCond .lt 7, 3) := by decide +kernel
theorem dX9_better_4 : decode cX9_better 4 = .ok (.iload_n 1, 1) := by decide +kernel
theorem dX9_better_5 : decode cX9_better 5 = .ok (.ifCond .ge 9, 3) := by decide +kernel
theorem dX9_better_8 : decode cX9_better 8 = .ok (.iload_n 0, 1) := by decide +kernel
theorem dX9_better_9 : decode cX9_better 9 = .ok (.iload_n 1, 1) := by decide +kernel
theorem dX9_better_10 : decode cX9_better 10 = .ok (.invokestatic 226, 3) := by decide +kernel
theorem dX9_better_13 : decode cX9_better 13 = .ok (.ireturn, 1) := by decide +kernel
theorem dX9_better_14 : decode cX9_better 14 = .ok (.iload_n 2, 1) := by decide +kernel
theorem dX9_better_15 : decode cX9_better 15 = .ok (.ifCond .eq 11, 3) := by decide +kernel
theorem dX9_better_18 : decode cX9_better 18 = .ok (.iload_n 0, 1) := by decide +kernel
theorem dX9_better_19 : decode cX9_better 19 = .ok (.iload_n 1, 1) := by decide +kernel
theorem dX9_better_20 : decode cX9_better 20 = .ok (.invokestatic 226, 3) := by decide +kernel
theorem dX9_better_23 : decode cX9_better 23 = .ok (.goto 8, 3) := by decide +kernel
theorem dX9_better_26 : decode cX9_better 26 = .ok (.iload_n 0, 1) := by decide +kernel
theorem dX9_better_27 : decode cX9_better 27 = .ok (.iload_n 1, 1) := by decide +kernel
theorem dX9_better_28 : decode cX9_better 28 = .ok (.invokestatic 231, 3) := by decide +kernel
theorem dX9_better_31 : decode cX9_better 31 = .ok (.ireturn, 1) := by decide +kernel
set_option maxRecDepth 20000 in
theorem ggX9_lightens_X9_next : GoodIn wsX9_lightens wsX9_next := goodIn_r _ [8, 9, 10, 11, 12, 13, 14, 7, 15, 16, 17, 18, 19, 20, 21, 22, 23, 24, 25, 26, 27, 28, 29, 30, 31, 32, 33, 34, 50, 51, 52, 53, 54, 55, 56, 57, 58, 59, 60, 61, 62, 63, 64, 65, 66, 67, 68, 69, 70, 71, 72, 73, 74, 75, 76, 77, 78, 79, 80, 81, 82, 83, 84, 85, 86, 87, 88, 89, 90] (by decide +kernel) (by decide +kernel)
set_option maxRecDepth 20000 in
theorem gX9_lightens_X9_next : GoodIn wsX9_lightens (wsV RX9 175 RX9 yX9_next wsX9_next) := goodIn_app (goodIn_of _ (by decide +kernel)) ggX9_lightens_X9_next
set_option maxRecDepth 20000 in
theorem ggX9_lightens_X9_adds : GoodIn wsX9_lightens wsX9_adds := goodIn_r _ [38, 39, 16, 17, 7, 18, 50, 51, 52, 53, 54, 55, 56, 57, 58, 59, 60, 61, 62, 63, 64, 65, 66, 67, 68, 69, 70, 71, 72, 73, 74, 75, 76, 77, 78, 79, 80, 81, 82, 83, 84, 85, 86, 87, 88, 89, 90] (by decide +kernel) (by decide +kernel)
set_option maxRecDepth 20000 in
theorem gX9_lightens_X9_adds : GoodIn wsX9_lightens (wsV RX9 210 RX9 yX9_adds wsX9_adds) := goodIn_app (goodIn_of _ (by decide +kernel)) ggX9_lightens_X9_adds
set_option maxRecDepth 20000 in
theorem ggX9_lightens_X9_better : GoodIn wsX9_lightens wsX9_better := goodIn_r _ [42, 43, 44, 45, 46, 47, 48, 49] (by decide +kernel) (by decide +kernel)
set_option maxRecDepth 20000 in
theorem gX9_lightens_X9_better : GoodIn wsX9_lightens (va_wsS RX9 222 yX9_better wsX9_better) := goodIn_app (goodIn_of _ (by decide +kernel)) ggX9_lightens_X9_better
theorem dX9_lightens_0 : decode cX9_lightens 0 = .ok (.iconst 0, 1) := by decide +kernel
theorem dX9_lightens_1 : decode cX9_lightens 1 = .ok (.istore 6, 2) := by decide +kernel
theorem dX9_lightens_3 : decode cX9_lightens 3 = .ok (.iload 6, 2) := by decide +kernel
theorem dX9_lightens_5 : decode cX9_lightens 5 = .ok (.aload_n 0, 1) := by decide +kernel
theorem dX9_lightens_6 : decode cX9_lightens 6 = .ok (.getfield 19, 3) := by decide +kernel
theorem dX9_lightens_9 : decode cX9_lightens 9 = .ok (.if_icmp .ge 92, 3) := by decide +kernel
theorem dX9_lightens_12 : decode cX9_lightens 12 = .ok (.aload_n 0, 1) := by decide +kernel
theorem dX9_lightens_13 : decode cX9_lightens 13 = .ok (.iload_n 2, 1) := by decide +kernel
theorem dX9_lightens_14 : decode cX9_lightens 14 = .ok (.iload 6, 2) := by decide +kernel
theorem dX9_lightens_16 : decode cX9_lightens 16 = .ok (.invokevirtual 175, 3) := by decide +kernel
theorem dX9_lightens_19 : decode cX9_lightens 19 = .ok (.istore 7, 2) := by decide +kernel
theorem dX9_lightens_21 : decode cX9_lightens 21 = .ok (.iload 7, 2) := by decide +kernel
theorem dX9_lightens_23 : decode cX9_lightens 23 = .ok (.ifCond .ge 6, 3) := by decide +kernel
theorem dX9_lightens_26 : decode cX9_lightens 26 = .ok (.goto 69, 3) := by decide +kernel
theorem dX9_lightens_29 : decode cX9_lightens 29 = .ok (.aload_n 0, 1) := by decide +kernel
theorem dX9_lightens_30 : decode cX9_lightens 30 = .ok (.getfield 54, 3) := by decide +kernel
theorem dX9_lightens_33 : decode cX9_lightens 33 = .ok (.bipush 8, 2) := by decide +kernel
theorem dX9_lightens_35 : decode cX9_lightens 35 = .ok (.iload_n 2, 1) := by decide +kernel
theorem dX9_lightens_36 : decode cX9_lightens 36 = .ok (.imul, 1) := by decide +kernel
theorem dX9_lightens_37 : decode cX9_lightens 37 = .ok (.iload_n 3, 1) := by decide +kernel
theorem dX9_lightens_38 : decode cX9_lightens 38 = .ok (.iadd, 1) := by decide +kernel
theorem dX9_lightens_39 : decode cX9_lightens 39 = .ok (.iaload, 1) := by decide +kernel
theorem dX9_lightens_40 : decode cX9_lightens 40 = .ok (.aload_n 0, 1) := by decide +kernel
theorem dX9_lightens_41 : decode cX9_lightens 41 = .ok (.iload_n 1, 1) := by decide +kernel
theorem dX9_lightens_42 : decode cX9_lightens 42 = .ok (.iload 6, 2) := by decide +kernel
theorem dX9_lightens_44 : decode cX9_lightens 44 = .ok (.iload 7, 2) := by decide +kernel
theorem dX9_lightens_46 : decode cX9_lightens 46 = .ok (.iload 4, 2) := by decide +kernel
theorem dX9_lightens_48 : decode cX9_lightens 48 = .ok (.ifCond .ne 7, 3) := by decide +kernel
theorem dX9_lightens_51 : decode cX9_lightens 51 = .ok (.iconst (-1), 1) := by decide +kernel
theorem dX9_lightens_52 : decode cX9_lightens 52 = .ok (.goto 4, 3) := by decide +kernel
theorem dX9_lightens_55 : decode cX9_lightens 55 = .ok (.iload_n 3, 1) := by decide +kernel
theorem dX9_lightens_56 : decode cX9_lightens 56 = .ok (.invokevirtual 210, 3) := by decide +kernel
theorem dX9_lightens_59 : decode cX9_lightens 59 = .ok (.iadd, 1) := by decide +kernel
theorem dX9_lightens_60 : decode cX9_lightens 60 = .ok (.istore 8, 2) := by decide +kernel
theorem dX9_lightens_62 : decode cX9_lightens 62 = .ok (.aload_n 0, 1) := by decide +kernel
theorem dX9_lightens_63 : decode cX9_lightens 63 = .ok (.getfield 57, 3) := by decide +kernel
theorem dX9_lightens_66 : decode cX9_lightens 66 = .ok (.bipush 8, 2) := by decide +kernel
theorem dX9_lightens_68 : decode cX9_lightens 68 = .ok (.iload 7, 2) := by decide +kernel
theorem dX9_lightens_70 : decode cX9_lightens 70 = .ok (.imul, 1) := by decide +kernel
theorem dX9_lightens_71 : decode cX9_lightens 71 = .ok (.iload 6, 2) := by decide +kernel
theorem dX9_lightens_73 : decode cX9_lightens 73 = .ok (.iadd, 1) := by decide +kernel
theorem dX9_lightens_74 : decode cX9_lightens 74 = .ok (.aload_n 0, 1) := by decide +kernel
theorem dX9_lightens_75 : decode cX9_lightens 75 = .ok (.getfield 57, 3) := by decide +kernel
theorem dX9_lightens_78 : decode cX9_lightens 78 = .ok (.bipush 8, 2) := by decide +kernel
theorem dX9_lightens_80 : decode cX9_lightens 80 = .ok (.iload 7, 2) := by decide +kernel
theorem dX9_lightens_82 : decode cX9_lightens 82 = .ok (.imul, 1) := by decide +kernel
theorem dX9_lightens_83 : decode cX9_lightens 83 = .ok (.iload 6, 2) := by decide +kernel
theorem dX9_lightens_85 : decode cX9_lightens 85 = .ok (.iadd, 1) := by decide +kernel
theorem dX9_lightens_86 : decode cX9_lightens 86 = .ok (.iaload, 1) := by decide +kernel
theorem dX9_lightens_87 : decode cX9_lightens 87 = .ok (.iload 8, 2) := by decide +kernel
theorem dX9_lightens_89 : decode cX9_lightens 89 = .ok (.iload 5, 2) := by decide +kernel
theorem dX9_lightens_91 : decode cX9_lightens 91 = .ok (.invokestatic 222, 3) := by decide +kernel
theorem dX9_lightens_94 : decode cX9_lightens 94 = .ok (.iastore, 1) := by decide +kernel
theorem dX9_lightens_95 : decode cX9_lightens 95 = .ok (.iinc 6 1, 3) := by decide +kernel
theorem dX9_lightens_98 : decode cX9_lightens 98 = .ok (.goto (-95), 3) := by decide +kernel
theorem dX9_lightens_101 : decode cX9_lightens 101 = .ok (.return_, 1) := by decide +kernel
set_option maxRecDepth 20000 in
theorem ggX9_boxes_X9_refuse : GoodIn wsX9_boxes wsX9_refuse := goodIn_r _ [10, 2, 15, 16, 17, 18, 19, 20, 21, 22, 23, 24, 25, 26, 27, 28, 29, 30, 31, 32, 33, 34, 35, 36, 37, 38, 39, 40, 41, 42, 43, 44, 45, 46, 47, 48, 49, 50, 51, 52, 53, 54, 55] (by decide +kernel) (by decide +kernel)
set_option maxRecDepth 20000 in
theorem gX9_boxes_X9_refuse : GoodIn wsX9_boxes (wsV RX9 156 RX9 yX9_refuse wsX9_refuse) := goodIn_app (goodIn_of _ (by decide +kernel)) ggX9_boxes_X9_refuse
set_option maxRecDepth 20000 in
theorem ggX9_boxes_X9_isUnder : GoodIn wsX9_boxes wsX9_isUnder := goodIn_r _ [14, 3, 15, 16, 17, 18, 19, 20, 21, 22, 23, 24, 25, 26, 27, 28, 29, 30, 31, 32, 33, 34, 35, 36, 37, 38, 39, 40, 41, 42, 43, 44, 45, 46, 47, 48, 49, 50, 51, 52, 53, 54, 55] (by decide +kernel) (by decide +kernel)
set_option maxRecDepth 20000 in
theorem gX9_boxes_X9_isUnder : GoodIn wsX9_boxes (wsV RX9 290 RX9 yX9_isUnder wsX9_isUnder) := goodIn_app (goodIn_of _ (by decide +kernel)) ggX9_boxes_X9_isUnder
theorem dX9_boxes_0 : decode cX9_boxes 0 = .ok (.aload_n 0, 1) := by decide +kernel
theorem dX9_boxes_1 : decode cX9_boxes 1 = .ok (.iconst 0, 1) := by decide +kernel
theorem dX9_boxes_2 : decode cX9_boxes 2 = .ok (.putfield 112, 3) := by decide +kernel
theorem dX9_boxes_5 : decode cX9_boxes 5 = .ok (.aload_n 0, 1) := by decide +kernel
theorem dX9_boxes_6 : decode cX9_boxes 6 = .ok (.iconst 0, 1) := by decide +kernel
theorem dX9_boxes_7 : decode cX9_boxes 7 = .ok (.putfield 115, 3) := by decide +kernel
theorem dX9_boxes_10 : decode cX9_boxes 10 = .ok (.iload_n 1, 1) := by decide +kernel
theorem dX9_boxes_11 : decode cX9_boxes 11 = .ok (.ifCond .lt 29, 3) := by decide +kernel
theorem dX9_boxes_14 : decode cX9_boxes 14 = .ok (.iload_n 1, 1) := by decide +kernel
theorem dX9_boxes_15 : decode cX9_boxes 15 = .ok (.bipush 6, 2) := by decide +kernel
theorem dX9_boxes_17 : decode cX9_boxes 17 = .ok (.if_icmp .gt 23, 3) := by decide +kernel
theorem dX9_boxes_20 : decode cX9_boxes 20 = .ok (.iload_n 2, 1) := by decide +kernel
theorem dX9_boxes_21 : decode cX9_boxes 21 = .ok (.ifCond .lt 19, 3) := by decide +kernel
theorem dX9_boxes_24 : decode cX9_boxes 24 = .ok (.iload_n 2, 1) := by decide +kernel
theorem dX9_boxes_25 : decode cX9_boxes 25 = .ok (.bipush 6, 2) := by decide +kernel
theorem dX9_boxes_27 : decode cX9_boxes 27 = .ok (.if_icmp .gt 13, 3) := by decide +kernel
theorem dX9_boxes_30 : decode cX9_boxes 30 = .ok (.iload_n 3, 1) := by decide +kernel
theorem dX9_boxes_31 : decode cX9_boxes 31 = .ok (.ifCond .lt 9, 3) := by decide +kernel
theorem dX9_boxes_34 : decode cX9_boxes 34 = .ok (.iload_n 3, 1) := by decide +kernel
theorem dX9_boxes_35 : decode cX9_boxes 35 = .ok (.bipush 6, 2) := by decide +kernel
theorem dX9_boxes_37 : decode cX9_boxes 37 = .ok (.if_icmp .le 10, 3) := by decide +kernel
theorem dX9_boxes_40 : decode cX9_boxes 40 = .ok (.aload_n 0, 1) := by decide +kernel
theorem dX9_boxes_41 : decode cX9_boxes 41 = .ok (.iconst 2, 1) := by decide +kernel
theorem dX9_boxes_42 : decode cX9_boxes 42 = .ok (.invokevirtual 156, 3) := by decide +kernel
theorem dX9_boxes_45 : decode cX9_boxes 45 = .ok (.i2l, 1) := by decide +kernel
theorem dX9_boxes_46 : decode cX9_boxes 46 = .ok (.lreturn, 1) := by decide +kernel
theorem dX9_boxes_47 : decode cX9_boxes 47 = .ok (.iconst 0, 1) := by decide +kernel
theorem dX9_boxes_48 : decode cX9_boxes 48 = .ok (.istore 4, 2) := by decide +kernel
theorem dX9_boxes_50 : decode cX9_boxes 50 = .ok (.iconst 1, 1) := by decide +kernel
theorem dX9_boxes_51 : decode cX9_boxes 51 = .ok (.istore 5, 2) := by decide +kernel
theorem dX9_boxes_53 : decode cX9_boxes 53 = .ok (.iconst 0, 1) := by decide +kernel
theorem dX9_boxes_54 : decode cX9_boxes 54 = .ok (.istore 6, 2) := by decide +kernel
theorem dX9_boxes_56 : decode cX9_boxes 56 = .ok (.iload 6, 2) := by decide +kernel
theorem dX9_boxes_58 : decode cX9_boxes 58 = .ok (.iload_n 2, 1) := by decide +kernel
theorem dX9_boxes_59 : decode cX9_boxes 59 = .ok (.if_icmp .ge 17, 3) := by decide +kernel
theorem dX9_boxes_62 : decode cX9_boxes 62 = .ok (.iload 5, 2) := by decide +kernel
theorem dX9_boxes_64 : decode cX9_boxes 64 = .ok (.iload_n 3, 1) := by decide +kernel
theorem dX9_boxes_65 : decode cX9_boxes 65 = .ok (.iconst 1, 1) := by decide +kernel
theorem dX9_boxes_66 : decode cX9_boxes 66 = .ok (.iadd, 1) := by decide +kernel
theorem dX9_boxes_67 : decode cX9_boxes 67 = .ok (.imul, 1) := by decide +kernel
theorem dX9_boxes_68 : decode cX9_boxes 68 = .ok (.istore 5, 2) := by decide +kernel
theorem dX9_boxes_70 : decode cX9_boxes 70 = .ok (.iinc 6 1, 3) := by decide +kernel
theorem dX9_boxes_73 : decode cX9_boxes 73 = .ok (.goto (-17), 3) := by decide +kernel
theorem dX9_boxes_76 : decode cX9_boxes 76 = .ok (.iconst 0, 1) := by decide +kernel
theorem dX9_boxes_77 : decode cX9_boxes 77 = .ok (.istore 6, 2) := by decide +kernel
theorem dX9_boxes_79 : decode cX9_boxes 79 = .ok (.iload 6, 2) := by decide +kernel
theorem dX9_boxes_81 : decode cX9_boxes 81 = .ok (.iload 5, 2) := by decide +kernel
theorem dX9_boxes_83 : decode cX9_boxes 83 = .ok (.if_icmp .ge 129, 3) := by decide +kernel
theorem dX9_boxes_86 : decode cX9_boxes 86 = .ok (.iload 6, 2) := by decide +kernel
theorem dX9_boxes_88 : decode cX9_boxes 88 = .ok (.istore 7, 2) := by decide +kernel
theorem dX9_boxes_90 : decode cX9_boxes 90 = .ok (.iconst 1, 1) := by decide +kernel
theorem dX9_boxes_91 : decode cX9_boxes 91 = .ok (.istore 8, 2) := by decide +kernel
theorem dX9_boxes_93 : decode cX9_boxes 93 = .ok (.iconst 0, 1) := by decide +kernel
theorem dX9_boxes_94 : decode cX9_boxes 94 = .ok (.istore 9, 2) := by decide +kernel
theorem dX9_boxes_96 : decode cX9_boxes 96 = .ok (.iload 9, 2) := by decide +kernel
theorem dX9_boxes_98 : decode cX9_boxes 98 = .ok (.iload_n 2, 1) := by decide +kernel
theorem dX9_boxes_99 : decode cX9_boxes 99 = .ok (.if_icmp .ge 92, 3) := by decide +kernel
theorem dX9_boxes_102 : decode cX9_boxes 102 = .ok (.aload_n 0, 1) := by decide +kernel
theorem dX9_boxes_103 : decode cX9_boxes 103 = .ok (.getfield 85, 3) := by decide +kernel
theorem dX9_boxes_106 : decode cX9_boxes 106 = .ok (.bipush 6, 2) := by decide +kernel
theorem dX9_boxes_108 : decode cX9_boxes 108 = .ok (.iload 4, 2) := by decide +kernel
theorem dX9_boxes_110 : decode cX9_boxes 110 = .ok (.imul, 1) := by decide +kernel
theorem dX9_boxes_111 : decode cX9_boxes 111 = .ok (.iload 9, 2) := by decide +kernel
theorem dX9_boxes_113 : decode cX9_boxes 113 = .ok (.iadd, 1) := by decide +kernel
theorem dX9_boxes_114 : decode cX9_boxes 114 = .ok (.iload 7, 2) := by decide +kernel
theorem dX9_boxes_116 : decode cX9_boxes 116 = .ok (.iload_n 3, 1) := by decide +kernel
theorem dX9_boxes_117 : decode cX9_boxes 117 = .ok (.iconst 1, 1) := by decide +kernel
theorem dX9_boxes_118 : decode cX9_boxes 118 = .ok (.iadd, 1) := by decide +kernel
theorem dX9_boxes_119 : decode cX9_boxes 119 = .ok (.irem, 1) := by decide +kernel
theorem dX9_boxes_120 : decode cX9_boxes 120 = .ok (.iastore, 1) := by decide +kernel
theorem dX9_boxes_121 : decode cX9_boxes 121 = .ok (.iload 7, 2) := by decide +kernel
theorem dX9_boxes_123 : decode cX9_boxes 123 = .ok (.iload_n 3, 1) := by decide +kernel
theorem dX9_boxes_124 : decode cX9_boxes 124 = .ok (.iconst 1, 1) := by decide +kernel
theorem dX9_boxes_125 : decode cX9_boxes 125 = .ok (.iadd, 1) := by decide +kernel
theorem dX9_boxes_126 : decode cX9_boxes 126 = .ok (.idiv, 1) := by decide +kernel
theorem dX9_boxes_127 : decode cX9_boxes 127 = .ok (.istore 7, 2) := by decide +kernel
theorem dX9_boxes_129 : decode cX9_boxes 129 = .ok (.iload 8, 2) := by decide +kernel
theorem dX9_boxes_131 : decode cX9_boxes 131 = .ok (.ifCond .eq 43, 3) := by decide +kernel
theorem dX9_boxes_134 : decode cX9_boxes 134 = .ok (.iload 9, 2) := by decide +kernel
theorem dX9_boxes_136 : decode cX9_boxes 136 = .ok (.ifCond .eq 34, 3) := by decide +kernel
theorem dX9_boxes_139 : decode cX9_boxes 139 = .ok (.aload_n 0, 1) := by decide +kernel
theorem dX9_boxes_140 : decode cX9_boxes 140 = .ok (.getfield 85, 3) := by decide +kernel
theorem dX9_boxes_143 : decode cX9_boxes 143 = .ok (.bipush 6, 2) := by decide +kernel
theorem dX9_boxes_145 : decode cX9_boxes 145 = .ok (.iload 4, 2) := by decide +kernel
theorem dX9_boxes_147 : decode cX9_boxes 147 = .ok (.imul, 1) := by decide +kernel
theorem dX9_boxes_148 : decode cX9_boxes 148 = .ok (.iload 9, 2) := by decide +kernel
theorem dX9_boxes_150 : decode cX9_boxes 150 = .ok (.iadd, 1) := by decide +kernel
theorem dX9_boxes_151 : decode cX9_boxes 151 = .ok (.iaload, 1) := by decide +kernel
theorem dX9_boxes_152 : decode cX9_boxes 152 = .ok (.aload_n 0, 1) := by decide +kernel
theorem dX9_boxes_153 : decode cX9_boxes 153 = .ok (.getfield 85, 3) := by decide +kernel
theorem dX9_boxes_156 : decode cX9_boxes 156 = .ok (.bipush 6, 2) := by decide +kernel
theorem dX9_boxes_158 : decode cX9_boxes 158 = .ok (.iload 4, 2) := by decide +kernel
theorem dX9_boxes_160 : decode cX9_boxes 160 = .ok (.imul, 1) := by decide +kernel
theorem dX9_boxes_161 : decode cX9_boxes 161 = .ok (.iload 9, 2) := by decide +kernel
theorem dX9_boxes_163 : decode cX9_boxes 163 = .ok (.iadd, 1) := by decide +kernel
theorem dX9_boxes_164 : decode cX9_boxes 164 = .ok (.iconst 1, 1) := by decide +kernel
theorem dX9_boxes_165 : decode cX9_boxes 165 = .ok (.isub, 1) := by decide +kernel
theorem dX9_boxes_166 : decode cX9_boxes 166 = .ok (.iaload, 1) := by decide +kernel
theorem dX9_boxes_167 : decode cX9_boxes 167 = .ok (.if_icmp .gt 7, 3) := by decide +kernel
theorem dX9_boxes_170 : decode cX9_boxes 170 = .ok (.iconst 1, 1) := by decide +kernel
theorem dX9_boxes_171 : decode cX9_boxes 171 = .ok (.goto 4, 3) := by decide +kernel
theorem dX9_boxes_174 : decode cX9_boxes 174 = .ok (.iconst 0, 1) := by decide +kernel
theorem dX9_boxes_175 : decode cX9_boxes 175 = .ok (.istore 8, 2) := by decide +kernel
theorem dX9_boxes_177 : decode cX9_boxes 177 = .ok (.iload 8, 2) := by decide +kernel
theorem dX9_boxes_179 : decode cX9_boxes 179 = .ok (.ifCond .ne 6, 3) := by decide +kernel
theorem dX9_boxes_182 : decode cX9_boxes 182 = .ok (.iload_n 2, 1) := by decide +kernel
theorem dX9_boxes_183 : decode cX9_boxes 183 = .ok (.istore 9, 2) := by decide +kernel
theorem dX9_boxes_185 : decode cX9_boxes 185 = .ok (.iinc 9 1, 3) := by decide +kernel
theorem dX9_boxes_188 : decode cX9_boxes 188 = .ok (.goto (-92), 3) := by decide +kernel
theorem dX9_boxes_191 : decode cX9_boxes 191 = .ok (.iload 4, 2) := by decide +kernel
theorem dX9_boxes_193 : decode cX9_boxes 193 = .ok (.iload 8, 2) := by decide +kernel
theorem dX9_boxes_195 : decode cX9_boxes 195 = .ok (.ifCond .eq 7, 3) := by decide +kernel
theorem dX9_boxes_198 : decode cX9_boxes 198 = .ok (.iconst 1, 1) := by decide +kernel
theorem dX9_boxes_199 : decode cX9_boxes 199 = .ok (.goto 4, 3) := by decide +kernel
theorem dX9_boxes_202 : decode cX9_boxes 202 = .ok (.iconst 0, 1) := by decide +kernel
theorem dX9_boxes_203 : decode cX9_boxes 203 = .ok (.iadd, 1) := by decide +kernel
theorem dX9_boxes_204 : decode cX9_boxes 204 = .ok (.istore 4, 2) := by decide +kernel
theorem dX9_boxes_206 : decode cX9_boxes 206 = .ok (.iinc 6 1, 3) := by decide +kernel
theorem dX9_boxes_209 : decode cX9_boxes 209 = .ok (.goto (-130), 3) := by decide +kernel
theorem dX9_boxes_212 : decode cX9_boxes 212 = .ok (.iconst 0, 1) := by decide +kernel
theorem dX9_boxes_213 : decode cX9_boxes 213 = .ok (.istore 6, 2) := by decide +kernel
theorem dX9_boxes_215 : decode cX9_boxes 215 = .ok (.iload 6, 2) := by decide +kernel
theorem dX9_boxes_217 : decode cX9_boxes 217 = .ok (.iload 4, 2) := by decide +kernel
theorem dX9_boxes_219 : decode cX9_boxes 219 = .ok (.if_icmp .ge 17, 3) := by decide +kernel
theorem dX9_boxes_222 : decode cX9_boxes 222 = .ok (.aload_n 0, 1) := by decide +kernel
theorem dX9_boxes_223 : decode cX9_boxes 223 = .ok (.getfield 48, 3) := by decide +kernel
theorem dX9_boxes_226 : decode cX9_boxes 226 = .ok (.iload 6, 2) := by decide +kernel
theorem dX9_boxes_228 : decode cX9_boxes 228 = .ok (.lconst 1, 1) := by decide +kernel
theorem dX9_boxes_229 : decode cX9_boxes 229 = .ok (.lastore, 1) := by decide +kernel
theorem dX9_boxes_230 : decode cX9_boxes 230 = .ok (.iinc 6 1, 3) := by decide +kernel
theorem dX9_boxes_233 : decode cX9_boxes 233 = .ok (.goto (-18), 3) := by decide +kernel
theorem dX9_boxes_236 : decode cX9_boxes 236 = .ok (.iconst 1, 1) := by decide +kernel
theorem dX9_boxes_237 : decode cX9_boxes 237 = .ok (.istore 6, 2) := by decide +kernel
theorem dX9_boxes_239 : decode cX9_boxes 239 = .ok (.iload 6, 2) := by decide +kernel
theorem dX9_boxes_241 : decode cX9_boxes 241 = .ok (.iload_n 1, 1) := by decide +kernel
theorem dX9_boxes_242 : decode cX9_boxes 242 = .ok (.if_icmp .ge 108, 3) := by decide +kernel
theorem dX9_boxes_245 : decode cX9_boxes 245 = .ok (.iconst 0, 1) := by decide +kernel
theorem dX9_boxes_246 : decode cX9_boxes 246 = .ok (.istore 7, 2) := by decide +kernel
theorem dX9_boxes_248 : decode cX9_boxes 248 = .ok (.iload 7, 2) := by decide +kernel
theorem dX9_boxes_250 : decode cX9_boxes 250 = .ok (.iload 4, 2) := by decide +kernel
theorem dX9_boxes_252 : decode cX9_boxes 252 = .ok (.if_icmp .ge 62, 3) := by decide +kernel
theorem dX9_boxes_255 : decode cX9_boxes 255 = .ok (.aload_n 0, 1) := by decide +kernel
theorem dX9_boxes_256 : decode cX9_boxes 256 = .ok (.getfield 51, 3) := by decide +kernel
theorem dX9_boxes_259 : decode cX9_boxes 259 = .ok (.iload 7, 2) := by decide +kernel
theorem dX9_boxes_261 : decode cX9_boxes 261 = .ok (.lconst 0, 1) := by decide +kernel
theorem dX9_boxes_262 : decode cX9_boxes 262 = .ok (.lastore, 1) := by decide +kernel
theorem dX9_boxes_263 : decode cX9_boxes 263 = .ok (.iconst 0, 1) := by decide +kernel
theorem dX9_boxes_264 : decode cX9_boxes 264 = .ok (.istore 8, 2) := by decide +kernel
theorem dX9_boxes_266 : decode cX9_boxes 266 = .ok (.iload 8, 2) := by decide +kernel
theorem dX9_boxes_268 : decode cX9_boxes 268 = .ok (.iload 4, 2) := by decide +kernel
theorem dX9_boxes_270 : decode cX9_boxes 270 = .ok (.if_icmp .ge 38, 3) := by decide +kernel
theorem dX9_boxes_273 : decode cX9_boxes 273 = .ok (.aload_n 0, 1) := by decide +kernel
theorem dX9_boxes_274 : decode cX9_boxes 274 = .ok (.iload 7, 2) := by decide +kernel
theorem dX9_boxes_276 : decode cX9_boxes 276 = .ok (.iload 8, 2) := by decide +kernel
theorem dX9_boxes_278 : decode cX9_boxes 278 = .ok (.iload_n 2, 1) := by decide +kernel
theorem dX9_boxes_279 : decode cX9_boxes 279 = .ok (.invokevirtual 290, 3) := by decide +kernel
theorem dX9_boxes_282 : decode cX9_boxes 282 = .ok (.ifCond .eq 20, 3) := by decide +kernel
theorem dX9_boxes_285 : decode cX9_boxes 285 = .ok (.aload_n 0, 1) := by decide +kernel
theorem dX9_boxes_286 : decode cX9_boxes 286 = .ok (.getfield 51, 3) := by decide +kernel
theorem dX9_boxes_289 : decode cX9_boxes 289 = .ok (.iload 7, 2) := by decide +kernel
theorem dX9_boxes_291 : decode cX9_boxes 291 = .ok (.dup2, 1) := by decide +kernel
theorem dX9_boxes_292 : decode cX9_boxes 292 = .ok (.laload, 1) := by decide +kernel
theorem dX9_boxes_293 : decode cX9_boxes 293 = .ok (.aload_n 0, 1) := by decide +kernel
theorem dX9_boxes_294 : decode cX9_boxes 294 = .ok (.getfield 48, 3) := by decide +kernel
theorem dX9_boxes_297 : decode cX9_boxes 297 = .ok (.iload 8, 2) := by decide +kernel
theorem dX9_boxes_299 : decode cX9_boxes 299 = .ok (.laload, 1) := by decide +kernel
theorem dX9_boxes_300 : decode cX9_boxes 300 = .ok (.ladd, 1) := by decide +kernel
theorem dX9_boxes_301 : decode cX9_boxes 301 = .ok (.lastore, 1) := by decide +kernel
theorem dX9_boxes_302 : decode cX9_boxes 302 = .ok (.iinc 8 1, 3) := by decide +kernel
theorem dX9_boxes_305 : decode cX9_boxes 305 = .ok (.goto (-39), 3) := by decide +kernel
theorem dX9_boxes_308 : decode cX9_boxes 308 = .ok (.iinc 7 1, 3) := by decide +kernel
theorem dX9_boxes_311 : decode cX9_boxes 311 = .ok (.goto (-63), 3) := by decide +kernel
theorem dX9_boxes_314 : decode cX9_boxes 314 = .ok (.iconst 0, 1) := by decide +kernel
theorem dX9_boxes_315 : decode cX9_boxes 315 = .ok (.istore 7, 2) := by decide +kernel
theorem dX9_boxes_317 : decode cX9_boxes 317 = .ok (.iload 7, 2) := by decide +kernel
theorem dX9_boxes_319 : decode cX9_boxes 319 = .ok (.iload 4, 2) := by decide +kernel
theorem dX9_boxes_321 : decode cX9_boxes 321 = .ok (.if_icmp .ge 23, 3) := by decide +kernel
theorem dX9_boxes_324 : decode cX9_boxes 324 = .ok (.aload_n 0, 1) := by decide +kernel
theorem dX9_boxes_325 : decode cX9_boxes 325 = .ok (.getfield 48, 3) := by decide +kernel
theorem dX9_boxes_328 : decode cX9_boxes 328 = .ok (.iload 7, 2) := by decide +kernel
theorem dX9_boxes_330 : decode cX9_boxes 330 = .ok (.aload_n 0, 1) := by decide +kernel
theorem dX9_boxes_331 : decode cX9_boxes 331 = .ok (.getfield 51, 3) := by decide +kernel
theorem dX9_boxes_334 : decode cX9_boxes 334 = .ok (.iload 7, 2) := by decide +kernel
theorem dX9_boxes_336 : decode cX9_boxes 336 = .ok (.laload, 1) := by decide +kernel
theorem dX9_boxes_337 : decode cX9_boxes 337 = .ok (.lastore, 1) := by decide +kernel
theorem dX9_boxes_338 : decode cX9_boxes 338 = .ok (.iinc 7 1, 3) := by decide +kernel
theorem dX9_boxes_341 : decode cX9_boxes 341 = .ok (.goto (-24), 3) := by decide +kernel
theorem dX9_boxes_344 : decode cX9_boxes 344 = .ok (.iinc 6 1, 3) := by decide +kernel
theorem dX9_boxes_347 : decode cX9_boxes 347 = .ok (.goto (-108), 3) := by decide +kernel
theorem dX9_boxes_350 : decode cX9_boxes 350 = .ok (.iload_n 1, 1) := by decide +kernel
theorem dX9_boxes_351 : decode cX9_boxes 351 = .ok (.ifCond .ne 5, 3) := by decide +kernel
theorem dX9_boxes_354 : decode cX9_boxes 354 = .ok (.lconst 1, 1) := by decide +kernel
theorem dX9_boxes_355 : decode cX9_boxes 355 = .ok (.lreturn, 1) := by decide +kernel
theorem dX9_boxes_356 : decode cX9_boxes 356 = .ok (.lconst 0, 1) := by decide +kernel
theorem dX9_boxes_357 : decode cX9_boxes 357 = .ok (.lstore 6, 2) := by decide +kernel
theorem dX9_boxes_359 : decode cX9_boxes 359 = .ok (.iconst 0, 1) := by decide +kernel
theorem dX9_boxes_360 : decode cX9_boxes 360 = .ok (.istore 8, 2) := by decide +kernel
theorem dX9_boxes_362 : decode cX9_boxes 362 = .ok (.iload 8, 2) := by decide +kernel
theorem dX9_boxes_364 : decode cX9_boxes 364 = .ok (.iload 4, 2) := by decide +kernel
theorem dX9_boxes_366 : decode cX9_boxes 366 = .ok (.if_icmp .ge 21, 3) := by decide +kernel
theorem dX9_boxes_369 : decode cX9_boxes 369 = .ok (.lload 6, 2) := by decide +kernel
theorem dX9_boxes_371 : decode cX9_boxes 371 = .ok (.aload_n 0, 1) := by decide +kernel
theorem dX9_boxes_372 : decode cX9_boxes 372 = .ok (.getfield 48, 3) := by decide +kernel
theorem dX9_boxes_375 : decode cX9_boxes 375 = .ok (.iload 8, 2) := by decide +kernel
theorem dX9_boxes_377 : decode cX9_boxes 377 = .ok (.laload, 1) := by decide +kernel
theorem dX9_boxes_378 : decode cX9_boxes 378 = .ok (.ladd, 1) := by decide +kernel
theorem dX9_boxes_379 : decode cX9_boxes 379 = .ok (.lstore 6, 2) := by decide +kernel
theorem dX9_boxes_381 : decode cX9_boxes 381 = .ok (.iinc 8 1, 3) := by decide +kernel
theorem dX9_boxes_384 : decode cX9_boxes 384 = .ok (.goto (-22), 3) := by decide +kernel
theorem dX9_boxes_387 : decode cX9_boxes 387 = .ok (.lload 6, 2) := by decide +kernel
theorem dX9_boxes_389 : decode cX9_boxes 389 = .ok (.lreturn, 1) := by decide +kernel
theorem dX9_isUnder_0 : decode cX9_isUnder 0 = .ok (.iconst 0, 1) := by decide +kernel
theorem dX9_isUnder_1 : decode cX9_isUnder 1 = .ok (.istore 4, 2) := by decide +kernel
theorem dX9_isUnder_3 : decode cX9_isUnder 3 = .ok (.iload 4, 2) := by decide +kernel
theorem dX9_isUnder_5 : decode cX9_isUnder 5 = .ok (.iload_n 3, 1) := by decide +kernel
theorem dX9_isUnder_6 : decode cX9_isUnder 6 = .ok (.if_icmp .ge 38, 3) := by decide +kernel
theorem dX9_isUnder_9 : decode cX9_isUnder 9 = .ok (.aload_n 0, 1) := by decide +kernel
theorem dX9_isUnder_10 : decode cX9_isUnder 10 = .ok (.getfield 85, 3) := by decide +kernel
theorem dX9_isUnder_13 : decode cX9_isUnder 13 = .ok (.bipush 6, 2) := by decide +kernel
theorem dX9_isUnder_15 : decode cX9_isUnder 15 = .ok (.iload_n 1, 1) := by decide +kernel
theorem dX9_isUnder_16 : decode cX9_isUnder 16 = .ok (.imul, 1) := by decide +kernel
theorem dX9_isUnder_17 : decode cX9_isUnder 17 = .ok (.iload 4, 2) := by decide +kernel
theorem dX9_isUnder_19 : decode cX9_isUnder 19 = .ok (.iadd, 1) := by decide +kernel
theorem dX9_isUnder_20 : decode cX9_isUnder 20 = .ok (.iaload, 1) := by decide +kernel
theorem dX9_isUnder_21 : decode cX9_isUnder 21 = .ok (.aload_n 0, 1) := by decide +kernel
theorem dX9_isUnder_22 : decode cX9_isUnder 22 = .ok (.getfield 85, 3) := by decide +kernel
theorem dX9_isUnder_25 : decode cX9_isUnder 25 = .ok (.bipush 6, 2) := by decide +kernel
theorem dX9_isUnder_27 : decode cX9_isUnder 27 = .ok (.iload_n 2, 1) := by decide +kernel
theorem dX9_isUnder_28 : decode cX9_isUnder 28 = .ok (.imul, 1) := by decide +kernel
theorem dX9_isUnder_29 : decode cX9_isUnder 29 = .ok (.iload 4, 2) := by decide +kernel
theorem dX9_isUnder_31 : decode cX9_isUnder 31 = .ok (.iadd, 1) := by decide +kernel
theorem dX9_isUnder_32 : decode cX9_isUnder 32 = .ok (.iaload, 1) := by decide +kernel
theorem dX9_isUnder_33 : decode cX9_isUnder 33 = .ok (.if_icmp .le 5, 3) := by decide +kernel
theorem dX9_isUnder_36 : decode cX9_isUnder 36 = .ok (.iconst 0, 1) := by decide +kernel
theorem dX9_isUnder_37 : decode cX9_isUnder 37 = .ok (.ireturn, 1) := by decide +kernel
theorem dX9_isUnder_38 : decode cX9_isUnder 38 = .ok (.iinc 4 1, 3) := by decide +kernel
theorem dX9_isUnder_41 : decode cX9_isUnder 41 = .ok (.goto (-38), 3) := by decide +kernel
theorem dX9_isUnder_44 : decode cX9_isUnder 44 = .ok (.iconst 1, 1) := by decide +kernel
theorem dX9_isUnder_45 : decode cX9_isUnder 45 = .ok (.ireturn, 1) := by decide +kernel
theorem dX9_isBetween_0 : decode cX9_isBetween 0 = .ok (.aload_n 0, 1) := by decide +kernel
theorem dX9_isBetween_1 : decode cX9_isBetween 1 = .ok (.getfield 164, 3) := by decide +kernel
theorem dX9_isBetween_4 : decode cX9_isBetween 4 = .ok (.ifCond .lt 36, 3) := by decide +kernel
theorem dX9_isBetween_7 : decode cX9_isBetween 7 = .ok (.aload_n 0, 1) := by decide +kernel
theorem dX9_isBetween_8 : decode cX9_isBetween 8 = .ok (.getfield 164, 3) := by decide +kernel
theorem dX9_isBetween_11 : decode cX9_isBetween 11 = .ok (.aload_n 0, 1) := by decide +kernel
theorem dX9_isBetween_12 : decode cX9_isBetween 12 = .ok (.getfield 23, 3) := by decide +kernel
theorem dX9_isBetween_15 : decode cX9_isBetween 15 = .ok (.if_icmp .gt 25, 3) := by decide +kernel
theorem dX9_isBetween_18 : decode cX9_isBetween 18 = .ok (.aload_n 0, 1) := by decide +kernel
theorem dX9_isBetween_19 : decode cX9_isBetween 19 = .ok (.getfield 170, 3) := by decide +kernel
theorem dX9_isBetween_22 : decode cX9_isBetween 22 = .ok (.ifCond .lt 18, 3) := by decide +kernel
theorem dX9_isBetween_25 : decode cX9_isBetween 25 = .ok (.aload_n 0, 1) := by decide +kernel
theorem dX9_isBetween_26 : decode cX9_isBetween 26 = .ok (.getfield 170, 3) := by decide +kernel
theorem dX9_isBetween_29 : decode cX9_isBetween 29 = .ok (.aload_n 0, 1) := by decide +kernel
theorem dX9_isBetween_30 : decode cX9_isBetween 30 = .ok (.getfield 23, 3) := by decide +kernel
theorem dX9_isBetween_33 : decode cX9_isBetween 33 = .ok (.if_icmp .gt 7, 3) := by decide +kernel
theorem dX9_isBetween_36 : decode cX9_isBetween 36 = .ok (.iconst 1, 1) := by decide +kernel
theorem dX9_isBetween_37 : decode cX9_isBetween 37 = .ok (.goto 4, 3) := by decide +kernel
theorem dX9_isBetween_40 : decode cX9_isBetween 40 = .ok (.iconst 0, 1) := by decide +kernel
theorem dX9_isBetween_41 : decode cX9_isBetween 41 = .ok (.ireturn, 1) := by decide +kernel
theorem dX9_multiply_0 : decode cX9_multiply 0 = .ok (.aload_n 0, 1) := by decide +kernel
theorem dX9_multiply_1 : decode cX9_multiply 1 = .ok (.getfield 23, 3) := by decide +kernel
theorem dX9_multiply_4 : decode cX9_multiply 4 = .ok (.iconst 1, 1) := by decide +kernel
theorem dX9_multiply_5 : decode cX9_multiply 5 = .ok (.iadd, 1) := by decide +kernel
theorem dX9_multiply_6 : decode cX9_multiply 6 = .ok (.istore 4, 2) := by decide +kernel
theorem dX9_multiply_8 : decode cX9_multiply 8 = .ok (.iconst 0, 1) := by decide +kernel
theorem dX9_multiply_9 : decode cX9_multiply 9 = .ok (.istore 5, 2) := by decide +kernel
theorem dX9_multiply_11 : decode cX9_multiply 11 = .ok (.iload 5, 2) := by decide +kernel
theorem dX9_multiply_13 : decode cX9_multiply 13 = .ok (.iload 4, 2) := by decide +kernel
theorem dX9_multiply_15 : decode cX9_multiply 15 = .ok (.if_icmp .ge 89, 3) := by decide +kernel
theorem dX9_multiply_18 : decode cX9_multiply 18 = .ok (.iconst 0, 1) := by decide +kernel
theorem dX9_multiply_19 : decode cX9_multiply 19 = .ok (.istore 6, 2) := by decide +kernel
theorem dX9_multiply_21 : decode cX9_multiply 21 = .ok (.iload 6, 2) := by decide +kernel
theorem dX9_multiply_23 : decode cX9_multiply 23 = .ok (.iload 4, 2) := by decide +kernel
theorem dX9_multiply_25 : decode cX9_multiply 25 = .ok (.if_icmp .ge 73, 3) := by decide +kernel
theorem dX9_multiply_28 : decode cX9_multiply 28 = .ok (.lconst 0, 1) := by decide +kernel
theorem dX9_multiply_29 : decode cX9_multiply 29 = .ok (.lstore 7, 2) := by decide +kernel
theorem dX9_multiply_31 : decode cX9_multiply 31 = .ok (.iconst 0, 1) := by decide +kernel
theorem dX9_multiply_32 : decode cX9_multiply 32 = .ok (.istore 9, 2) := by decide +kernel
theorem dX9_multiply_34 : decode cX9_multiply 34 = .ok (.iload 9, 2) := by decide +kernel
theorem dX9_multiply_36 : decode cX9_multiply 36 = .ok (.iload 4, 2) := by decide +kernel
theorem dX9_multiply_38 : decode cX9_multiply 38 = .ok (.if_icmp .ge 39, 3) := by decide +kernel
theorem dX9_multiply_41 : decode cX9_multiply 41 = .ok (.lload 7, 2) := by decide +kernel
theorem dX9_multiply_43 : decode cX9_multiply 43 = .ok (.aload_n 1, 1) := by decide +kernel
theorem dX9_multiply_44 : decode cX9_multiply 44 = .ok (.bipush 31, 2) := by decide +kernel
theorem dX9_multiply_46 : decode cX9_multiply 46 = .ok (.iload 5, 2) := by decide +kernel
theorem dX9_multiply_48 : decode cX9_multiply 48 = .ok (.imul, 1) := by decide +kernel
theorem dX9_multiply_49 : decode cX9_multiply 49 = .ok (.iload 9, 2) := by decide +kernel
theorem dX9_multiply_51 : decode cX9_multiply 51 = .ok (.iadd, 1) := by decide +kernel
theorem dX9_multiply_52 : decode cX9_multiply 52 = .ok (.laload, 1) := by decide +kernel
theorem dX9_multiply_53 : decode cX9_multiply 53 = .ok (.aload_n 2, 1) := by decide +kernel
theorem dX9_multiply_54 : decode cX9_multiply 54 = .ok (.bipush 31, 2) := by decide +kernel
theorem dX9_multiply_56 : decode cX9_multiply 56 = .ok (.iload 9, 2) := by decide +kernel
theorem dX9_multiply_58 : decode cX9_multiply 58 = .ok (.imul, 1) := by decide +kernel
theorem dX9_multiply_59 : decode cX9_multiply 59 = .ok (.iload 6, 2) := by decide +kernel
theorem dX9_multiply_61 : decode cX9_multiply 61 = .ok (.iadd, 1) := by decide +kernel
theorem dX9_multiply_62 : decode cX9_multiply 62 = .ok (.laload, 1) := by decide +kernel
theorem dX9_multiply_63 : decode cX9_multiply 63 = .ok (.lmul, 1) := by decide +kernel
theorem dX9_multiply_64 : decode cX9_multiply 64 = .ok (.ladd, 1) := by decide +kernel
theorem dX9_multiply_65 : decode cX9_multiply 65 = .ok (.ldc2_w 300, 3) := by decide +kernel
theorem dX9_multiply_68 : decode cX9_multiply 68 = .ok (.lrem, 1) := by decide +kernel
theorem dX9_multiply_69 : decode cX9_multiply 69 = .ok (.lstore 7, 2) := by decide +kernel
theorem dX9_multiply_71 : decode cX9_multiply 71 = .ok (.iinc 9 1, 3) := by decide +kernel
theorem dX9_multiply_74 : decode cX9_multiply 74 = .ok (.goto (-40), 3) := by decide +kernel
theorem dX9_multiply_77 : decode cX9_multiply 77 = .ok (.aload_n 0, 1) := by decide +kernel
theorem dX9_multiply_78 : decode cX9_multiply 78 = .ok (.getfield 97, 3) := by decide +kernel
theorem dX9_multiply_81 : decode cX9_multiply 81 = .ok (.bipush 31, 2) := by decide +kernel
theorem dX9_multiply_83 : decode cX9_multiply 83 = .ok (.iload 5, 2) := by decide +kernel
theorem dX9_multiply_85 : decode cX9_multiply 85 = .ok (.imul, 1) := by decide +kernel
theorem dX9_multiply_86 : decode cX9_multiply 86 = .ok (.iload 6, 2) := by decide +kernel
theorem dX9_multiply_88 : decode cX9_multiply 88 = .ok (.iadd, 1) := by decide +kernel
theorem dX9_multiply_89 : decode cX9_multiply 89 = .ok (.lload 7, 2) := by decide +kernel
theorem dX9_multiply_91 : decode cX9_multiply 91 = .ok (.lastore, 1) := by decide +kernel
theorem dX9_multiply_92 : decode cX9_multiply 92 = .ok (.iinc 6 1, 3) := by decide +kernel
theorem dX9_multiply_95 : decode cX9_multiply 95 = .ok (.goto (-74), 3) := by decide +kernel
theorem dX9_multiply_98 : decode cX9_multiply 98 = .ok (.iinc 5 1, 3) := by decide +kernel
theorem dX9_multiply_101 : decode cX9_multiply 101 = .ok (.goto (-90), 3) := by decide +kernel
theorem dX9_multiply_104 : decode cX9_multiply 104 = .ok (.iconst 0, 1) := by decide +kernel
theorem dX9_multiply_105 : decode cX9_multiply 105 = .ok (.istore 5, 2) := by decide +kernel
theorem dX9_multiply_107 : decode cX9_multiply 107 = .ok (.iload 5, 2) := by decide +kernel
theorem dX9_multiply_109 : decode cX9_multiply 109 = .ok (.sipush 961, 3) := by decide +kernel
theorem dX9_multiply_112 : decode cX9_multiply 112 = .ok (.if_icmp .ge 20, 3) := by decide +kernel
theorem dX9_multiply_115 : decode cX9_multiply 115 = .ok (.aload_n 3, 1) := by decide +kernel
theorem dX9_multiply_116 : decode cX9_multiply 116 = .ok (.iload 5, 2) := by decide +kernel
theorem dX9_multiply_118 : decode cX9_multiply 118 = .ok (.aload_n 0, 1) := by decide +kernel
theorem dX9_multiply_119 : decode cX9_multiply 119 = .ok (.getfield 97, 3) := by decide +kernel
theorem dX9_multiply_122 : decode cX9_multiply 122 = .ok (.iload 5, 2) := by decide +kernel
theorem dX9_multiply_124 : decode cX9_multiply 124 = .ok (.laload, 1) := by decide +kernel
theorem dX9_multiply_125 : decode cX9_multiply 125 = .ok (.lastore, 1) := by decide +kernel
theorem dX9_multiply_126 : decode cX9_multiply 126 = .ok (.iinc 5 1, 3) := by decide +kernel
theorem dX9_multiply_129 : decode cX9_multiply 129 = .ok (.goto (-22), 3) := by decide +kernel
theorem dX9_multiply_132 : decode cX9_multiply 132 = .ok (.return_, 1) := by decide +kernel
theorem dX9_fillLevels_0 : decode cX9_fillLevels 0 = .ok (.iconst 0, 1) := by decide +kernel
theorem dX9_fillLevels_1 : decode cX9_fillLevels 1 = .ok (.istore_n 1, 1) := by decide +kernel
theorem dX9_fillLevels_2 : decode cX9_fillLevels 2 = .ok (.iload_n 1, 1) := by decide +kernel
theorem dX9_fillLevels_3 : decode cX9_fillLevels 3 = .ok (.sipush 961, 3) := by decide +kernel
theorem dX9_fillLevels_6 : decode cX9_fillLevels 6 = .ok (.if_icmp .ge 34, 3) := by decide +kernel
theorem dX9_fillLevels_9 : decode cX9_fillLevels 9 = .ok (.aload_n 0, 1) := by decide +kernel
theorem dX9_fillLevels_10 : decode cX9_fillLevels 10 = .ok (.getfield 94, 3) := by decide +kernel
theorem dX9_fillLevels_13 : decode cX9_fillLevels 13 = .ok (.iload_n 1, 1) := by decide +kernel
theorem dX9_fillLevels_14 : decode cX9_fillLevels 14 = .ok (.lconst 0, 1) := by decide +kernel
theorem dX9_fillLevels_15 : decode cX9_fillLevels 15 = .ok (.lastore, 1) := by decide +kernel
theorem dX9_fillLevels_16 : decode cX9_fillLevels 16 = .ok (.aload_n 0, 1) := by decide +kernel
theorem dX9_fillLevels_17 : decode cX9_fillLevels 17 = .ok (.getfield 91, 3) := by decide +kernel
theorem dX9_fillLevels_20 : decode cX9_fillLevels 20 = .ok (.iload_n 1, 1) := by decide +kernel
theorem dX9_fillLevels_21 : decode cX9_fillLevels 21 = .ok (.iload_n 1, 1) := by decide +kernel
theorem dX9_fillLevels_22 : decode cX9_fillLevels 22 = .ok (.bipush 32, 2) := by decide +kernel
theorem dX9_fillLevels_24 : decode cX9_fillLevels 24 = .ok (.irem, 1) := by decide +kernel
theorem dX9_fillLevels_25 : decode cX9_fillLevels 25 = .ok (.ifCond .ne 7, 3) := by decide +kernel
theorem dX9_fillLevels_28 : decode cX9_fillLevels 28 = .ok (.lconst 1, 1) := by decide +kernel
theorem dX9_fillLevels_29 : decode cX9_fillLevels 29 = .ok (.goto 4, 3) := by decide +kernel
theorem dX9_fillLevels_32 : decode cX9_fillLevels 32 = .ok (.lconst 0, 1) := by decide +kernel
theorem dX9_fillLevels_33 : decode cX9_fillLevels 33 = .ok (.lastore, 1) := by decide +kernel
theorem dX9_fillLevels_34 : decode cX9_fillLevels 34 = .ok (.iinc 1 1, 3) := by decide +kernel
theorem dX9_fillLevels_37 : decode cX9_fillLevels 37 = .ok (.goto (-35), 3) := by decide +kernel
theorem dX9_fillLevels_40 : decode cX9_fillLevels 40 = .ok (.iconst 0, 1) := by decide +kernel
theorem dX9_fillLevels_41 : decode cX9_fillLevels 41 = .ok (.istore_n 1, 1) := by decide +kernel
theorem dX9_fillLevels_42 : decode cX9_fillLevels 42 = .ok (.iload_n 1, 1) := by decide +kernel
theorem dX9_fillLevels_43 : decode cX9_fillLevels 43 = .ok (.aload_n 0, 1) := by decide +kernel
theorem dX9_fillLevels_44 : decode cX9_fillLevels 44 = .ok (.getfield 23, 3) := by decide +kernel
theorem dX9_fillLevels_47 : decode cX9_fillLevels 47 = .ok (.if_icmp .gt 73, 3) := by decide +kernel
theorem dX9_fillLevels_50 : decode cX9_fillLevels 50 = .ok (.iconst 0, 1) := by decide +kernel
theorem dX9_fillLevels_51 : decode cX9_fillLevels 51 = .ok (.istore_n 2, 1) := by decide +kernel
theorem dX9_fillLevels_52 : decode cX9_fillLevels 52 = .ok (.iload_n 2, 1) := by decide +kernel
theorem dX9_fillLevels_53 : decode cX9_fillLevels 53 = .ok (.aload_n 0, 1) := by decide +kernel
theorem dX9_fillLevels_54 : decode cX9_fillLevels 54 = .ok (.getfield 19, 3) := by decide +kernel
theorem dX9_fillLevels_57 : decode cX9_fillLevels 57 = .ok (.if_icmp .ge 57, 3) := by decide +kernel
theorem dX9_fillLevels_60 : decode cX9_fillLevels 60 = .ok (.iload_n 1, 1) := by decide +kernel
theorem dX9_fillLevels_61 : decode cX9_fillLevels 61 = .ok (.aload_n 0, 1) := by decide +kernel
theorem dX9_fillLevels_62 : decode cX9_fillLevels 62 = .ok (.getfield 32, 3) := by decide +kernel
theorem dX9_fillLevels_65 : decode cX9_fillLevels 65 = .ok (.iload_n 2, 1) := by decide +kernel
theorem dX9_fillLevels_66 : decode cX9_fillLevels 66 = .ok (.iaload, 1) := by decide +kernel
theorem dX9_fillLevels_67 : decode cX9_fillLevels 67 = .ok (.iadd, 1) := by decide +kernel
theorem dX9_fillLevels_68 : decode cX9_fillLevels 68 = .ok (.ifCond .lt 40, 3) := by decide +kernel
theorem dX9_fillLevels_71 : decode cX9_fillLevels 71 = .ok (.iload_n 1, 1) := by decide +kernel
theorem dX9_fillLevels_72 : decode cX9_fillLevels 72 = .ok (.aload_n 0, 1) := by decide +kernel
theorem dX9_fillLevels_73 : decode cX9_fillLevels 73 = .ok (.getfield 32, 3) := by decide +kernel
theorem dX9_fillLevels_76 : decode cX9_fillLevels 76 = .ok (.iload_n 2, 1) := by decide +kernel
theorem dX9_fillLevels_77 : decode cX9_fillLevels 77 = .ok (.iaload, 1) := by decide +kernel
theorem dX9_fillLevels_78 : decode cX9_fillLevels 78 = .ok (.iadd, 1) := by decide +kernel
theorem dX9_fillLevels_79 : decode cX9_fillLevels 79 = .ok (.aload_n 0, 1) := by decide +kernel
theorem dX9_fillLevels_80 : decode cX9_fillLevels 80 = .ok (.getfield 23, 3) := by decide +kernel
theorem dX9_fillLevels_83 : decode cX9_fillLevels 83 = .ok (.if_icmp .gt 25, 3) := by decide +kernel
theorem dX9_fillLevels_86 : decode cX9_fillLevels 86 = .ok (.aload_n 0, 1) := by decide +kernel
theorem dX9_fillLevels_87 : decode cX9_fillLevels 87 = .ok (.getfield 94, 3) := by decide +kernel
theorem dX9_fillLevels_90 : decode cX9_fillLevels 90 = .ok (.bipush 31, 2) := by decide +kernel
theorem dX9_fillLevels_92 : decode cX9_fillLevels 92 = .ok (.iload_n 1, 1) := by decide +kernel
theorem dX9_fillLevels_93 : decode cX9_fillLevels 93 = .ok (.imul, 1) := by decide +kernel
theorem dX9_fillLevels_94 : decode cX9_fillLevels 94 = .ok (.iload_n 1, 1) := by decide +kernel
theorem dX9_fillLevels_95 : decode cX9_fillLevels 95 = .ok (.iadd, 1) := by decide +kernel
theorem dX9_fillLevels_96 : decode cX9_fillLevels 96 = .ok (.aload_n 0, 1) := by decide +kernel
theorem dX9_fillLevels_97 : decode cX9_fillLevels 97 = .ok (.getfield 32, 3) := by decide +kernel
theorem dX9_fillLevels_100 : decode cX9_fillLevels 100 = .ok (.iload_n 2, 1) := by decide +kernel
theorem dX9_fillLevels_101 : decode cX9_fillLevels 101 = .ok (.iaload, 1) := by decide +kernel
theorem dX9_fillLevels_102 : decode cX9_fillLevels 102 = .ok (.iadd, 1) := by decide +kernel
theorem dX9_fillLevels_103 : decode cX9_fillLevels 103 = .ok (.dup2, 1) := by decide +kernel
theorem dX9_fillLevels_104 : decode cX9_fillLevels 104 = .ok (.laload, 1) := by decide +kernel
theorem dX9_fillLevels_105 : decode cX9_fillLevels 105 = .ok (.lconst 1, 1) := by decide +kernel
theorem dX9_fillLevels_106 : decode cX9_fillLevels 106 = .ok (.ladd, 1) := by decide +kernel
theorem dX9_fillLevels_107 : decode cX9_fillLevels 107 = .ok (.lastore, 1) := by decide +kernel
theorem dX9_fillLevels_108 : decode cX9_fillLevels 108 = .ok (.iinc 2 1, 3) := by decide +kernel
theorem dX9_fillLevels_111 : decode cX9_fillLevels 111 = .ok (.goto (-59), 3) := by decide +kernel
theorem dX9_fillLevels_114 : decode cX9_fillLevels 114 = .ok (.iinc 1 1, 3) := by decide +kernel
theorem dX9_fillLevels_117 : decode cX9_fillLevels 117 = .ok (.goto (-75), 3) := by decide +kernel
theorem dX9_fillLevels_120 : decode cX9_fillLevels 120 = .ok (.return_, 1) := by decide +kernel
set_option maxRecDepth 20000 in
theorem ggX9_far_X9_refuse : GoodIn wsX9_far wsX9_refuse := goodIn_r _ [11, 2, 29, 30, 31, 32, 33, 34, 35, 36, 37, 38, 39, 40, 41, 42, 43, 44, 45, 46, 47, 48, 49, 50, 51, 52, 53, 54, 55, 56, 57, 58, 59, 60, 61, 62, 63, 64, 65, 66, 67, 68, 69] (by decide +kernel) (by decide +kernel)
set_option maxRecDepth 20000 in
theorem gX9_far_X9_refuse : GoodIn wsX9_far (wsV RX9 156 RX9 yX9_refuse wsX9_refuse) := goodIn_app (goodIn_of _ (by decide +kernel)) ggX9_far_X9_refuse
set_option maxRecDepth 20000 in
theorem ggX9_far_X9_isBetween : GoodIn wsX9_far wsX9_isBetween := goodIn_r _ [15, 5, 16, 6, 29, 30, 31, 32, 33, 34, 35, 36, 37, 38, 39, 40, 41, 42, 43, 44, 45, 46, 47, 48, 49, 50, 51, 52, 53, 54, 55, 56, 57, 58, 59, 60, 61, 62, 63, 64, 65, 66, 67, 68, 69] (by decide +kernel) (by decide +kernel)
set_option maxRecDepth 20000 in
theorem gX9_far_X9_isBetween : GoodIn wsX9_far (wsV RX9 302 RX9 yX9_isBetween wsX9_isBetween) := goodIn_app (goodIn_of _ (by decide +kernel)) ggX9_far_X9_isBetween
set_option maxRecDepth 20000 in
theorem ggX9_far_X9_fillLevels : GoodIn wsX9_far wsX9_fillLevels := goodIn_r _ [20, 4, 3, 16, 21, 22, 29, 30, 31, 32, 33, 34, 35, 36, 37, 38, 39, 40, 41, 42, 43, 44, 45, 46, 47, 48, 49, 50, 51, 52, 53, 54, 55, 56, 57, 58, 59, 60, 61, 62, 63, 64, 65, 66, 67, 68, 69] (by decide +kernel) (by decide +kernel)
set_option maxRecDepth 20000 in
theorem gX9_far_X9_fillLevels : GoodIn wsX9_far (wsV RX9 305 RX9 yX9_fillLevels wsX9_fillLevels) := goodIn_app (goodIn_of _ (by decide +kernel)) ggX9_far_X9_fillLevels
set_option maxRecDepth 20000 in
theorem ggX9_far_X9_multiply : GoodIn wsX9_far wsX9_multiply := goodIn_r _ [26, 16, 27, 28, 29, 30, 31, 32, 33, 34, 35, 36, 37, 38, 39, 40, 41, 42, 43, 44, 45, 46, 47, 48, 49, 50, 51, 52, 53, 54, 55, 56, 57, 58, 59, 60, 61, 62, 63, 64, 65, 66, 67, 68, 69] (by decide +kernel) (by decide +kernel)
set_option maxRecDepth 20000 in
theorem gX9_far_X9_multiply : GoodIn wsX9_far (wsV RX9 308 RX9 yX9_multiply wsX9_multiply) := goodIn_app (goodIn_of _ (by decide +kernel)) ggX9_far_X9_multiply
theorem dX9_far_0 : decode cX9_far 0 = .ok (.aload_n 0, 1) := by decide +kernel
theorem dX9_far_1 : decode cX9_far 1 = .ok (.iconst 0, 1) := by decide +kernel
theorem dX9_far_2 : decode cX9_far 2 = .ok (.putfield 112, 3) := by decide +kernel
theorem dX9_far_5 : decode cX9_far 5 = .ok (.aload_n 0, 1) := by decide +kernel
theorem dX9_far_6 : decode cX9_far 6 = .ok (.iconst 0, 1) := by decide +kernel
theorem dX9_far_7 : decode cX9_far 7 = .ok (.putfield 115, 3) := by decide +kernel
theorem dX9_far_10 : decode cX9_far 10 = .ok (.lload_n 1, 1) := by decide +kernel
theorem dX9_far_11 : decode cX9_far 11 = .ok (.lconst 0, 1) := by decide +kernel
theorem dX9_far_12 : decode cX9_far 12 = .ok (.lcmp, 1) := by decide +kernel
theorem dX9_far_13 : decode cX9_far 13 = .ok (.ifCond .ge 9, 3) := by decide +kernel
theorem dX9_far_16 : decode cX9_far 16 = .ok (.aload_n 0, 1) := by decide +kernel
theorem dX9_far_17 : decode cX9_far 17 = .ok (.iconst 2, 1) := by decide +kernel
theorem dX9_far_18 : decode cX9_far 18 = .ok (.invokevirtual 156, 3) := by decide +kernel
theorem dX9_far_21 : decode cX9_far 21 = .ok (.ireturn, 1) := by decide +kernel
theorem dX9_far_22 : decode cX9_far 22 = .ok (.aload_n 0, 1) := by decide +kernel
theorem dX9_far_23 : decode cX9_far 23 = .ok (.invokevirtual 302, 3) := by decide +kernel
theorem dX9_far_26 : decode cX9_far 26 = .ok (.ifCond .ne 10, 3) := by decide +kernel
theorem dX9_far_29 : decode cX9_far 29 = .ok (.aload_n 0, 1) := by decide +kernel
theorem dX9_far_30 : decode cX9_far 30 = .ok (.bipush 7, 2) := by decide +kernel
theorem dX9_far_32 : decode cX9_far 32 = .ok (.invokevirtual 156, 3) := by decide +kernel
theorem dX9_far_35 : decode cX9_far 35 = .ok (.ireturn, 1) := by decide +kernel
theorem dX9_far_36 : decode cX9_far 36 = .ok (.aload_n 0, 1) := by decide +kernel
theorem dX9_far_37 : decode cX9_far 37 = .ok (.invokevirtual 305, 3) := by decide +kernel
theorem dX9_far_40 : decode cX9_far 40 = .ok (.lload_n 1, 1) := by decide +kernel
theorem dX9_far_41 : decode cX9_far 41 = .ok (.lstore_n 3, 1) := by decide +kernel
theorem dX9_far_42 : decode cX9_far 42 = .ok (.lload_n 3, 1) := by decide +kernel
theorem dX9_far_43 : decode cX9_far 43 = .ok (.lconst 0, 1) := by decide +kernel
theorem dX9_far_44 : decode cX9_far 44 = .ok (.lcmp, 1) := by decide +kernel
theorem dX9_far_45 : decode cX9_far 45 = .ok (.ifCond .le 50, 3) := by decide +kernel
theorem dX9_far_48 : decode cX9_far 48 = .ok (.lload_n 3, 1) := by decide +kernel
theorem dX9_far_49 : decode cX9_far 49 = .ok (.lconst 1, 1) := by decide +kernel
theorem dX9_far_50 : decode cX9_far 50 = .ok (.land, 1) := by decide +kernel
theorem dX9_far_51 : decode cX9_far 51 = .ok (.lconst 1, 1) := by decide +kernel
theorem dX9_far_52 : decode cX9_far 52 = .ok (.lcmp, 1) := by decide +kernel
theorem dX9_far_53 : decode cX9_far 53 = .ok (.ifCond .ne 19, 3) := by decide +kernel
theorem dX9_far_56 : decode cX9_far 56 = .ok (.aload_n 0, 1) := by decide +kernel
theorem dX9_far_57 : decode cX9_far 57 = .ok (.aload_n 0, 1) := by decide +kernel
theorem dX9_far_58 : decode cX9_far 58 = .ok (.getfield 91, 3) := by decide +kernel
theorem dX9_far_61 : decode cX9_far 61 = .ok (.aload_n 0, 1) := by decide +kernel
theorem dX9_far_62 : decode cX9_far 62 = .ok (.getfield 94, 3) := by decide +kernel
theorem dX9_far_65 : decode cX9_far 65 = .ok (.aload_n 0, 1) := by decide +kernel
theorem dX9_far_66 : decode cX9_far 66 = .ok (.getfield 91, 3) := by decide +kernel
theorem dX9_far_69 : decode cX9_far 69 = .ok (.invokevirtual 308, 3) := by decide +kernel
theorem dX9_far_72 : decode cX9_far 72 = .ok (.aload_n 0, 1) := by decide +kernel
theorem dX9_far_73 : decode cX9_far 73 = .ok (.aload_n 0, 1) := by decide +kernel
theorem dX9_far_74 : decode cX9_far 74 = .ok (.getfield 94, 3) := by decide +kernel
theorem dX9_far_77 : decode cX9_far 77 = .ok (.aload_n 0, 1) := by decide +kernel
theorem dX9_far_78 : decode cX9_far 78 = .ok (.getfield 94, 3) := by decide +kernel
theorem dX9_far_81 : decode cX9_far 81 = .ok (.aload_n 0, 1) := by decide +kernel
theorem dX9_far_82 : decode cX9_far 82 = .ok (.getfield 94, 3) := by decide +kernel
theorem dX9_far_85 : decode cX9_far 85 = .ok (.invokevirtual 308, 3) := by decide +kernel
theorem dX9_far_88 : decode cX9_far 88 = .ok (.lload_n 3, 1) := by decide +kernel
theorem dX9_far_89 : decode cX9_far 89 = .ok (.iconst 1, 1) := by decide +kernel
theorem dX9_far_90 : decode cX9_far 90 = .ok (.lshr, 1) := by decide +kernel
theorem dX9_far_91 : decode cX9_far 91 = .ok (.lstore_n 3, 1) := by decide +kernel
theorem dX9_far_92 : decode cX9_far 92 = .ok (.goto (-50), 3) := by decide +kernel
theorem dX9_far_95 : decode cX9_far 95 = .ok (.aload_n 0, 1) := by decide +kernel
theorem dX9_far_96 : decode cX9_far 96 = .ok (.getfield 91, 3) := by decide +kernel
theorem dX9_far_99 : decode cX9_far 99 = .ok (.bipush 31, 2) := by decide +kernel
theorem dX9_far_101 : decode cX9_far 101 = .ok (.aload_n 0, 1) := by decide +kernel
theorem dX9_far_102 : decode cX9_far 102 = .ok (.getfield 164, 3) := by decide +kernel
theorem dX9_far_105 : decode cX9_far 105 = .ok (.imul, 1) := by decide +kernel
theorem dX9_far_106 : decode cX9_far 106 = .ok (.aload_n 0, 1) := by decide +kernel
theorem dX9_far_107 : decode cX9_far 107 = .ok (.getfield 170, 3) := by decide +kernel
theorem dX9_far_110 : decode cX9_far 110 = .ok (.iadd, 1) := by decide +kernel
theorem dX9_far_111 : decode cX9_far 111 = .ok (.laload, 1) := by decide +kernel
theorem dX9_far_112 : decode cX9_far 112 = .ok (.l2i, 1) := by decide +kernel
theorem dX9_far_113 : decode cX9_far 113 = .ok (.ireturn, 1) := by decide +kernel
set_option maxRecDepth 20000 in
theorem ggX9_fillRow_X9_fillLevels : GoodIn wsX9_fillRow wsX9_fillLevels := goodIn_r _ [13, 7, 14, 5, 15, 16, 17, 18, 19, 20, 21, 22, 23, 24, 25, 26, 27, 28, 29, 30, 31, 32, 33, 34, 35, 36, 37, 38, 39, 40, 41, 42, 43, 44, 45, 46, 47, 48, 49, 50, 51, 52, 53, 54, 55, 56, 57] (by decide +kernel) (by decide +kernel)
set_option maxRecDepth 20000 in
theorem gX9_fillRow_X9_fillLevels : GoodIn wsX9_fillRow (wsV RX9 305 RX9 yX9_fillLevels wsX9_fillLevels) := goodIn_app (goodIn_of _ (by decide +kernel)) ggX9_fillRow_X9_fillLevels
theorem dX9_fillRow_0 : decode cX9_fillRow 0 = .ok (.aload_n 0, 1) := by decide +kernel
theorem dX9_fillRow_1 : decode cX9_fillRow 1 = .ok (.invokevirtual 305, 3) := by decide +kernel
theorem dX9_fillRow_4 : decode cX9_fillRow 4 = .ok (.iconst 0, 1) := by decide +kernel
theorem dX9_fillRow_5 : decode cX9_fillRow 5 = .ok (.istore_n 1, 1) := by decide +kernel
theorem dX9_fillRow_6 : decode cX9_fillRow 6 = .ok (.iload_n 1, 1) := by decide +kernel
theorem dX9_fillRow_7 : decode cX9_fillRow 7 = .ok (.bipush 31, 2) := by decide +kernel
theorem dX9_fillRow_9 : decode cX9_fillRow 9 = .ok (.if_icmp .ge 28, 3) := by decide +kernel
theorem dX9_fillRow_12 : decode cX9_fillRow 12 = .ok (.aload_n 0, 1) := by decide +kernel
theorem dX9_fillRow_13 : decode cX9_fillRow 13 = .ok (.getfield 103, 3) := by decide +kernel
theorem dX9_fillRow_16 : decode cX9_fillRow 16 = .ok (.iload_n 1, 1) := by decide +kernel
theorem dX9_fillRow_17 : decode cX9_fillRow 17 = .ok (.iload_n 1, 1) := by decide +kernel
theorem dX9_fillRow_18 : decode cX9_fillRow 18 = .ok (.aload_n 0, 1) := by decide +kernel
theorem dX9_fillRow_19 : decode cX9_fillRow 19 = .ok (.getfield 164, 3) := by decide +kernel
theorem dX9_fillRow_22 : decode cX9_fillRow 22 = .ok (.if_icmp .ne 7, 3) := by decide +kernel
theorem dX9_fillRow_25 : decode cX9_fillRow 25 = .ok (.lconst 1, 1) := by decide +kernel
theorem dX9_fillRow_26 : decode cX9_fillRow 26 = .ok (.goto 4, 3) := by decide +kernel
theorem dX9_fillRow_29 : decode cX9_fillRow 29 = .ok (.lconst 0, 1) := by decide +kernel
theorem dX9_fillRow_30 : decode cX9_fillRow 30 = .ok (.lastore, 1) := by decide +kernel
theorem dX9_fillRow_31 : decode cX9_fillRow 31 = .ok (.iinc 1 1, 3) := by decide +kernel
theorem dX9_fillRow_34 : decode cX9_fillRow 34 = .ok (.goto (-28), 3) := by decide +kernel
theorem dX9_fillRow_37 : decode cX9_fillRow 37 = .ok (.iconst 0, 1) := by decide +kernel
theorem dX9_fillRow_38 : decode cX9_fillRow 38 = .ok (.istore_n 1, 1) := by decide +kernel
theorem dX9_fillRow_39 : decode cX9_fillRow 39 = .ok (.iload_n 1, 1) := by decide +kernel
theorem dX9_fillRow_40 : decode cX9_fillRow 40 = .ok (.sipush 128, 3) := by decide +kernel
theorem dX9_fillRow_43 : decode cX9_fillRow 43 = .ok (.if_icmp .ge 126, 3) := by decide +kernel
theorem dX9_fillRow_46 : decode cX9_fillRow 46 = .ok (.aload_n 0, 1) := by decide +kernel
theorem dX9_fillRow_47 : decode cX9_fillRow 47 = .ok (.getfield 100, 3) := by decide +kernel
theorem dX9_fillRow_50 : decode cX9_fillRow 50 = .ok (.iload_n 1, 1) := by decide +kernel
theorem dX9_fillRow_51 : decode cX9_fillRow 51 = .ok (.aload_n 0, 1) := by decide +kernel
theorem dX9_fillRow_52 : decode cX9_fillRow 52 = .ok (.getfield 103, 3) := by decide +kernel
theorem dX9_fillRow_55 : decode cX9_fillRow 55 = .ok (.aload_n 0, 1) := by decide +kernel
theorem dX9_fillRow_56 : decode cX9_fillRow 56 = .ok (.getfield 170, 3) := by decide +kernel
theorem dX9_fillRow_59 : decode cX9_fillRow 59 = .ok (.laload, 1) := by decide +kernel
theorem dX9_fillRow_60 : decode cX9_fillRow 60 = .ok (.lastore, 1) := by decide +kernel
theorem dX9_fillRow_61 : decode cX9_fillRow 61 = .ok (.iconst 0, 1) := by decide +kernel
theorem dX9_fillRow_62 : decode cX9_fillRow 62 = .ok (.istore_n 2, 1) := by decide +kernel
theorem dX9_fillRow_63 : decode cX9_fillRow 63 = .ok (.iload_n 2, 1) := by decide +kernel
theorem dX9_fillRow_64 : decode cX9_fillRow 64 = .ok (.aload_n 0, 1) := by decide +kernel
theorem dX9_fillRow_65 : decode cX9_fillRow 65 = .ok (.getfield 23, 3) := by decide +kernel
theorem dX9_fillRow_68 : decode cX9_fillRow 68 = .ok (.if_icmp .gt 67, 3) := by decide +kernel
theorem dX9_fillRow_71 : decode cX9_fillRow 71 = .ok (.aload_n 0, 1) := by decide +kernel
theorem dX9_fillRow_72 : decode cX9_fillRow 72 = .ok (.getfield 106, 3) := by decide +kernel
theorem dX9_fillRow_75 : decode cX9_fillRow 75 = .ok (.iload_n 2, 1) := by decide +kernel
theorem dX9_fillRow_76 : decode cX9_fillRow 76 = .ok (.lconst 0, 1) := by decide +kernel
theorem dX9_fillRow_77 : decode cX9_fillRow 77 = .ok (.lastore, 1) := by decide +kernel
theorem dX9_fillRow_78 : decode cX9_fillRow 78 = .ok (.iconst 0, 1) := by decide +kernel
theorem dX9_fillRow_79 : decode cX9_fillRow 79 = .ok (.istore_n 3, 1) := by decide +kernel
theorem dX9_fillRow_80 : decode cX9_fillRow 80 = .ok (.iload_n 3, 1) := by decide +kernel
theorem dX9_fillRow_81 : decode cX9_fillRow 81 = .ok (.aload_n 0, 1) := by decide +kernel
theorem dX9_fillRow_82 : decode cX9_fillRow 82 = .ok (.getfield 23, 3) := by decide +kernel
theorem dX9_fillRow_85 : decode cX9_fillRow 85 = .ok (.if_icmp .gt 44, 3) := by decide +kernel
theorem dX9_fillRow_88 : decode cX9_fillRow 88 = .ok (.aload_n 0, 1) := by decide +kernel
theorem dX9_fillRow_89 : decode cX9_fillRow 89 = .ok (.getfield 106, 3) := by decide +kernel
theorem dX9_fillRow_92 : decode cX9_fillRow 92 = .ok (.iload_n 2, 1) := by decide +kernel
theorem dX9_fillRow_93 : decode cX9_fillRow 93 = .ok (.aload_n 0, 1) := by decide +kernel
theorem dX9_fillRow_94 : decode cX9_fillRow 94 = .ok (.getfield 106, 3) := by decide +kernel
theorem dX9_fillRow_97 : decode cX9_fillRow 97 = .ok (.iload_n 2, 1) := by decide +kernel
theorem dX9_fillRow_98 : decode cX9_fillRow 98 = .ok (.laload, 1) := by decide +kernel
theorem dX9_fillRow_99 : decode cX9_fillRow 99 = .ok (.aload_n 0, 1) := by decide +kernel
theorem dX9_fillRow_100 : decode cX9_fillRow 100 = .ok (.getfield 103, 3) := by decide +kernel
theorem dX9_fillRow_103 : decode cX9_fillRow 103 = .ok (.iload_n 3, 1) := by decide +kernel
theorem dX9_fillRow_104 : decode cX9_fillRow 104 = .ok (.laload, 1) := by decide +kernel
theorem dX9_fillRow_105 : decode cX9_fillRow 105 = .ok (.aload_n 0, 1) := by decide +kernel
theorem dX9_fillRow_106 : decode cX9_fillRow 106 = .ok (.getfield 94, 3) := by decide +kernel
theorem dX9_fillRow_109 : decode cX9_fillRow 109 = .ok (.bipush 31, 2) := by decide +kernel
theorem dX9_fillRow_111 : decode cX9_fillRow 111 = .ok (.iload_n 3, 1) := by decide +kernel
theorem dX9_fillRow_112 : decode cX9_fillRow 112 = .ok (.imul, 1) := by decide +kernel
theorem dX9_fillRow_113 : decode cX9_fillRow 113 = .ok (.iload_n 2, 1) := by decide +kernel
theorem dX9_fillRow_114 : decode cX9_fillRow 114 = .ok (.iadd, 1) := by decide +kernel
theorem dX9_fillRow_115 : decode cX9_fillRow 115 = .ok (.laload, 1) := by decide +kernel
theorem dX9_fillRow_116 : decode cX9_fillRow 116 = .ok (.lmul, 1) := by decide +kernel
theorem dX9_fillRow_117 : decode cX9_fillRow 117 = .ok (.ladd, 1) := by decide +kernel
theorem dX9_fillRow_118 : decode cX9_fillRow 118 = .ok (.ldc2_w 300, 3) := by decide +kernel
theorem dX9_fillRow_121 : decode cX9_fillRow 121 = .ok (.lrem, 1) := by decide +kernel
theorem dX9_fillRow_122 : decode cX9_fillRow 122 = .ok (.lastore, 1) := by decide +kernel
theorem dX9_fillRow_123 : decode cX9_fillRow 123 = .ok (.iinc 3 1, 3) := by decide +kernel
theorem dX9_fillRow_126 : decode cX9_fillRow 126 = .ok (.goto (-46), 3) := by decide +kernel
theorem dX9_fillRow_129 : decode cX9_fillRow 129 = .ok (.iinc 2 1, 3) := by decide +kernel
theorem dX9_fillRow_132 : decode cX9_fillRow 132 = .ok (.goto (-69), 3) := by decide +kernel
theorem dX9_fillRow_135 : decode cX9_fillRow 135 = .ok (.iconst 0, 1) := by decide +kernel
theorem dX9_fillRow_136 : decode cX9_fillRow 136 = .ok (.istore_n 2, 1) := by decide +kernel
theorem dX9_fillRow_137 : decode cX9_fillRow 137 = .ok (.iload_n 2, 1) := by decide +kernel
theorem dX9_fillRow_138 : decode cX9_fillRow 138 = .ok (.aload_n 0, 1) := by decide +kernel
theorem dX9_fillRow_139 : decode cX9_fillRow 139 = .ok (.getfield 23, 3) := by decide +kernel
theorem dX9_fillRow_142 : decode cX9_fillRow 142 = .ok (.if_icmp .gt 21, 3) := by decide +kernel
theorem dX9_fillRow_145 : decode cX9_fillRow 145 = .ok (.aload_n 0, 1) := by decide +kernel
theorem dX9_fillRow_146 : decode cX9_fillRow 146 = .ok (.getfield 103, 3) := by decide +kernel
theorem dX9_fillRow_149 : decode cX9_fillRow 149 = .ok (.iload_n 2, 1) := by decide +kernel
theorem dX9_fillRow_150 : decode cX9_fillRow 150 = .ok (.aload_n 0, 1) := by decide +kernel
theorem dX9_fillRow_151 : decode cX9_fillRow 151 = .ok (.getfield 106, 3) := by decide +kernel
theorem dX9_fillRow_154 : decode cX9_fillRow 154 = .ok (.iload_n 2, 1) := by decide +kernel
theorem dX9_fillRow_155 : decode cX9_fillRow 155 = .ok (.laload, 1) := by decide +kernel
theorem dX9_fillRow_156 : decode cX9_fillRow 156 = .ok (.lastore, 1) := by decide +kernel
theorem dX9_fillRow_157 : decode cX9_fillRow 157 = .ok (.iinc 2 1, 3) := by decide +kernel
theorem dX9_fillRow_160 : decode cX9_fillRow 160 = .ok (.goto (-23), 3) := by decide +kernel
theorem dX9_fillRow_163 : decode cX9_fillRow 163 = .ok (.iinc 1 1, 3) := by decide +kernel
theorem dX9_fillRow_166 : decode cX9_fillRow 166 = .ok (.goto (-127), 3) := by decide +kernel
theorem dX9_fillRow_169 : decode cX9_fillRow 169 = .ok (.return_, 1) := by decide +kernel
theorem dX9_inverse_0 : decode cX9_inverse 0 = .ok (.lconst 1, 1) := by decide +kernel
theorem dX9_inverse_1 : decode cX9_inverse 1 = .ok (.lstore_n 2, 1) := by decide +kernel
theorem dX9_inverse_2 : decode cX9_inverse 2 = .ok (.lload_n 0, 1) := by decide +kernel
theorem dX9_inverse_3 : decode cX9_inverse 3 = .ok (.lstore 4, 2) := by decide +kernel
theorem dX9_inverse_5 : decode cX9_inverse 5 = .ok (.ldc_w 312, 3) := by decide +kernel
theorem dX9_inverse_8 : decode cX9_inverse 8 = .ok (.istore 6, 2) := by decide +kernel
theorem dX9_inverse_10 : decode cX9_inverse 10 = .ok (.iload 6, 2) := by decide +kernel
theorem dX9_inverse_12 : decode cX9_inverse 12 = .ok (.ifCond .le 40, 3) := by decide +kernel
theorem dX9_inverse_15 : decode cX9_inverse 15 = .ok (.iload 6, 2) := by decide +kernel
theorem dX9_inverse_17 : decode cX9_inverse 17 = .ok (.iconst 1, 1) := by decide +kernel
theorem dX9_inverse_18 : decode cX9_inverse 18 = .ok (.iand, 1) := by decide +kernel
theorem dX9_inverse_19 : decode cX9_inverse 19 = .ok (.iconst 1, 1) := by decide +kernel
theorem dX9_inverse_20 : decode cX9_inverse 20 = .ok (.if_icmp .ne 12, 3) := by decide +kernel
theorem dX9_inverse_23 : decode cX9_inverse 23 = .ok (.lload_n 2, 1) := by decide +kernel
theorem dX9_inverse_24 : decode cX9_inverse 24 = .ok (.lload 4, 2) := by decide +kernel
theorem dX9_inverse_26 : decode cX9_inverse 26 = .ok (.lmul, 1) := by decide +kernel
theorem dX9_inverse_27 : decode cX9_inverse 27 = .ok (.ldc2_w 300, 3) := by decide +kernel
theorem dX9_inverse_30 : decode cX9_inverse 30 = .ok (.lrem, 1) := by decide +kernel
theorem dX9_inverse_31 : decode cX9_inverse 31 = .ok (.lstore_n 2, 1) := by decide +kernel
theorem dX9_inverse_32 : decode cX9_inverse 32 = .ok (.lload 4, 2) := by decide +kernel
theorem dX9_inverse_34 : decode cX9_inverse 34 = .ok (.lload 4, 2) := by decide +kernel
theorem dX9_inverse_36 : decode cX9_inverse 36 = .ok (.lmul, 1) := by decide +kernel
theorem dX9_inverse_37 : decode cX9_inverse 37 = .ok (.ldc2_w 300, 3) := by decide +kernel
theorem dX9_inverse_40 : decode cX9_inverse 40 = .ok (.lrem, 1) := by decide +kernel
theorem dX9_inverse_41 : decode cX9_inverse 41 = .ok (.lstore 4, 2) := by decide +kernel
theorem dX9_inverse_43 : decode cX9_inverse 43 = .ok (.iload 6, 2) := by decide +kernel
theorem dX9_inverse_45 : decode cX9_inverse 45 = .ok (.iconst 1, 1) := by decide +kernel
theorem dX9_inverse_46 : decode cX9_inverse 46 = .ok (.ishr, 1) := by decide +kernel
theorem dX9_inverse_47 : decode cX9_inverse 47 = .ok (.istore 6, 2) := by decide +kernel
theorem dX9_inverse_49 : decode cX9_inverse 49 = .ok (.goto (-39), 3) := by decide +kernel
theorem dX9_inverse_52 : decode cX9_inverse 52 = .ok (.lload_n 2, 1) := by decide +kernel
theorem dX9_inverse_53 : decode cX9_inverse 53 = .ok (.lreturn, 1) := by decide +kernel
set_option maxRecDepth 20000 in
theorem ggX9_solves_X9_clears : GoodIn wsX9_solves wsX9_clears := goodIn_r _ [10, 2, 11, 12, 13, 9, 14, 15, 16, 17, 18, 19, 20, 21, 22, 23, 24, 25, 26, 27, 28, 29, 30, 31, 32, 33, 34, 35, 36, 37, 38, 39, 40, 41, 42, 43, 44, 45, 46, 47, 48, 49, 50, 51, 52, 53, 54, 55, 56] (by decide +kernel) (by decide +kernel)
set_option maxRecDepth 20000 in
theorem gX9_solves_X9_clears : GoodIn wsX9_solves (wsV RX9 313 RX9 yX9_clears wsX9_clears) := goodIn_app (goodIn_of _ (by decide +kernel)) ggX9_solves_X9_clears
theorem dX9_solves_0 : decode cX9_solves 0 = .ok (.aload_n 0, 1) := by decide +kernel
theorem dX9_solves_1 : decode cX9_solves 1 = .ok (.getfield 23, 3) := by decide +kernel
theorem dX9_solves_4 : decode cX9_solves 4 = .ok (.iconst 1, 1) := by decide +kernel
theorem dX9_solves_5 : decode cX9_solves 5 = .ok (.iadd, 1) := by decide +kernel
theorem dX9_solves_6 : decode cX9_solves 6 = .ok (.istore_n 2, 1) := by decide +kernel
theorem dX9_solves_7 : decode cX9_solves 7 = .ok (.iload_n 1, 1) := by decide +kernel
theorem dX9_solves_8 : decode cX9_solves 8 = .ok (.iconst 1, 1) := by decide +kernel
theorem dX9_solves_9 : decode cX9_solves 9 = .ok (.iadd, 1) := by decide +kernel
theorem dX9_solves_10 : decode cX9_solves 10 = .ok (.istore_n 3, 1) := by decide +kernel
theorem dX9_solves_11 : decode cX9_solves 11 = .ok (.iconst 0, 1) := by decide +kernel
theorem dX9_solves_12 : decode cX9_solves 12 = .ok (.istore 4, 2) := by decide +kernel
theorem dX9_solves_14 : decode cX9_solves 14 = .ok (.iload 4, 2) := by decide +kernel
theorem dX9_solves_16 : decode cX9_solves 16 = .ok (.iload_n 2, 1) := by decide +kernel
theorem dX9_solves_17 : decode cX9_solves 17 = .ok (.if_icmp .ge 70, 3) := by decide +kernel
theorem dX9_solves_20 : decode cX9_solves 20 = .ok (.iconst 0, 1) := by decide +kernel
theorem dX9_solves_21 : decode cX9_solves 21 = .ok (.istore 5, 2) := by decide +kernel
theorem dX9_solves_23 : decode cX9_solves 23 = .ok (.iload 5, 2) := by decide +kernel
theorem dX9_solves_25 : decode cX9_solves 25 = .ok (.iload_n 1, 1) := by decide +kernel
theorem dX9_solves_26 : decode cX9_solves 26 = .ok (.if_icmp .ge 35, 3) := by decide +kernel
theorem dX9_solves_29 : decode cX9_solves 29 = .ok (.aload_n 0, 1) := by decide +kernel
theorem dX9_solves_30 : decode cX9_solves 30 = .ok (.getfield 109, 3) := by decide +kernel
theorem dX9_solves_33 : decode cX9_solves 33 = .ok (.iload_n 3, 1) := by decide +kernel
theorem dX9_solves_34 : decode cX9_solves 34 = .ok (.iload 4, 2) := by decide +kernel
theorem dX9_solves_36 : decode cX9_solves 36 = .ok (.imul, 1) := by decide +kernel
theorem dX9_solves_37 : decode cX9_solves 37 = .ok (.iload 5, 2) := by decide +kernel
theorem dX9_solves_39 : decode cX9_solves 39 = .ok (.iadd, 1) := by decide +kernel
theorem dX9_solves_40 : decode cX9_solves 40 = .ok (.aload_n 0, 1) := by decide +kernel
theorem dX9_solves_41 : decode cX9_solves 41 = .ok (.getfield 100, 3) := by decide +kernel
theorem dX9_solves_44 : decode cX9_solves 44 = .ok (.iload_n 1, 1) := by decide +kernel
theorem dX9_solves_45 : decode cX9_solves 45 = .ok (.iload 4, 2) := by decide +kernel
theorem dX9_solves_47 : decode cX9_solves 47 = .ok (.iadd, 1) := by decide +kernel
theorem dX9_solves_48 : decode cX9_solves 48 = .ok (.iconst 1, 1) := by decide +kernel
theorem dX9_solves_49 : decode cX9_solves 49 = .ok (.isub, 1) := by decide +kernel
theorem dX9_solves_50 : decode cX9_solves 50 = .ok (.iload 5, 2) := by decide +kernel
theorem dX9_solves_52 : decode cX9_solves 52 = .ok (.isub, 1) := by decide +kernel
theorem dX9_solves_53 : decode cX9_solves 53 = .ok (.laload, 1) := by decide +kernel
theorem dX9_solves_54 : decode cX9_solves 54 = .ok (.lastore, 1) := by decide +kernel
theorem dX9_solves_55 : decode cX9_solves 55 = .ok (.iinc 5 1, 3) := by decide +kernel
theorem dX9_solves_58 : decode cX9_solves 58 = .ok (.goto (-35), 3) := by decide +kernel
theorem dX9_solves_61 : decode cX9_solves 61 = .ok (.aload_n 0, 1) := by decide +kernel
theorem dX9_solves_62 : decode cX9_solves 62 = .ok (.getfield 109, 3) := by decide +kernel
theorem dX9_solves_65 : decode cX9_solves 65 = .ok (.iload_n 3, 1) := by decide +kernel
theorem dX9_solves_66 : decode cX9_solves 66 = .ok (.iload 4, 2) := by decide +kernel
theorem dX9_solves_68 : decode cX9_solves 68 = .ok (.imul, 1) := by decide +kernel
theorem dX9_solves_69 : decode cX9_solves 69 = .ok (.iload_n 1, 1) := by decide +kernel
theorem dX9_solves_70 : decode cX9_solves 70 = .ok (.iadd, 1) := by decide +kernel
theorem dX9_solves_71 : decode cX9_solves 71 = .ok (.aload_n 0, 1) := by decide +kernel
theorem dX9_solves_72 : decode cX9_solves 72 = .ok (.getfield 100, 3) := by decide +kernel
theorem dX9_solves_75 : decode cX9_solves 75 = .ok (.iload_n 1, 1) := by decide +kernel
theorem dX9_solves_76 : decode cX9_solves 76 = .ok (.iload 4, 2) := by decide +kernel
theorem dX9_solves_78 : decode cX9_solves 78 = .ok (.iadd, 1) := by decide +kernel
theorem dX9_solves_79 : decode cX9_solves 79 = .ok (.laload, 1) := by decide +kernel
theorem dX9_solves_80 : decode cX9_solves 80 = .ok (.lastore, 1) := by decide +kernel
theorem dX9_solves_81 : decode cX9_solves 81 = .ok (.iinc 4 1, 3) := by decide +kernel
theorem dX9_solves_84 : decode cX9_solves 84 = .ok (.goto (-70), 3) := by decide +kernel
theorem dX9_solves_87 : decode cX9_solves 87 = .ok (.iconst 0, 1) := by decide +kernel
theorem dX9_solves_88 : decode cX9_solves 88 = .ok (.istore 4, 2) := by decide +kernel
theorem dX9_solves_90 : decode cX9_solves 90 = .ok (.iconst 0, 1) := by decide +kernel
theorem dX9_solves_91 : decode cX9_solves 91 = .ok (.istore 5, 2) := by decide +kernel
theorem dX9_solves_93 : decode cX9_solves 93 = .ok (.iload 5, 2) := by decide +kernel
theorem dX9_solves_95 : decode cX9_solves 95 = .ok (.iload_n 1, 1) := by decide +kernel
theorem dX9_solves_96 : decode cX9_solves 96 = .ok (.if_icmp .ge 65, 3) := by decide +kernel
theorem dX9_solves_99 : decode cX9_solves 99 = .ok (.iload 4, 2) := by decide +kernel
theorem dX9_solves_101 : decode cX9_solves 101 = .ok (.istore 6, 2) := by decide +kernel
theorem dX9_solves_103 : decode cX9_solves 103 = .ok (.iload 6, 2) := by decide +kernel
theorem dX9_solves_105 : decode cX9_solves 105 = .ok (.iload_n 2, 1) := by decide +kernel
theorem dX9_solves_106 : decode cX9_solves 106 = .ok (.if_icmp .ge 26, 3) := by decide +kernel
theorem dX9_solves_109 : decode cX9_solves 109 = .ok (.aload_n 0, 1) := by decide +kernel
theorem dX9_solves_110 : decode cX9_solves 110 = .ok (.getfield 109, 3) := by decide +kernel
theorem dX9_solves_113 : decode cX9_solves 113 = .ok (.iload_n 3, 1) := by decide +kernel
theorem dX9_solves_114 : decode cX9_solves 114 = .ok (.iload 6, 2) := by decide +kernel
theorem dX9_solves_116 : decode cX9_solves 116 = .ok (.imul, 1) := by decide +kernel
theorem dX9_solves_117 : decode cX9_solves 117 = .ok (.iload 5, 2) := by decide +kernel
theorem dX9_solves_119 : decode cX9_solves 119 = .ok (.iadd, 1) := by decide +kernel
theorem dX9_solves_120 : decode cX9_solves 120 = .ok (.laload, 1) := by decide +kernel
theorem dX9_solves_121 : decode cX9_solves 121 = .ok (.lconst 0, 1) := by decide +kernel
theorem dX9_solves_122 : decode cX9_solves 122 = .ok (.lcmp, 1) := by decide +kernel
theorem dX9_solves_123 : decode cX9_solves 123 = .ok (.ifCond .ne 9, 3) := by decide +kernel
theorem dX9_solves_126 : decode cX9_solves 126 = .ok (.iinc 6 1, 3) := by decide +kernel
theorem dX9_solves_129 : decode cX9_solves 129 = .ok (.goto (-26), 3) := by decide +kernel
theorem dX9_solves_132 : decode cX9_solves 132 = .ok (.iload 6, 2) := by decide +kernel
theorem dX9_solves_134 : decode cX9_solves 134 = .ok (.iload_n 2, 1) := by decide +kernel
theorem dX9_solves_135 : decode cX9_solves 135 = .ok (.if_icmp .ne 5, 3) := by decide +kernel
theorem dX9_solves_138 : decode cX9_solves 138 = .ok (.iconst 0, 1) := by decide +kernel
theorem dX9_solves_139 : decode cX9_solves 139 = .ok (.ireturn, 1) := by decide +kernel
theorem dX9_solves_140 : decode cX9_solves 140 = .ok (.aload_n 0, 1) := by decide +kernel
theorem dX9_solves_141 : decode cX9_solves 141 = .ok (.iload 4, 2) := by decide +kernel
theorem dX9_solves_143 : decode cX9_solves 143 = .ok (.iload 6, 2) := by decide +kernel
theorem dX9_solves_145 : decode cX9_solves 145 = .ok (.iload 5, 2) := by decide +kernel
theorem dX9_solves_147 : decode cX9_solves 147 = .ok (.iload_n 3, 1) := by decide +kernel
theorem dX9_solves_148 : decode cX9_solves 148 = .ok (.iload_n 2, 1) := by decide +kernel
theorem dX9_solves_149 : decode cX9_solves 149 = .ok (.invokevirtual 313, 3) := by decide +kernel
theorem dX9_solves_152 : decode cX9_solves 152 = .ok (.iinc 4 1, 3) := by decide +kernel
theorem dX9_solves_155 : decode cX9_solves 155 = .ok (.iinc 5 1, 3) := by decide +kernel
theorem dX9_solves_158 : decode cX9_solves 158 = .ok (.goto (-65), 3) := by decide +kernel
theorem dX9_solves_161 : decode cX9_solves 161 = .ok (.iload 4, 2) := by decide +kernel
theorem dX9_solves_163 : decode cX9_solves 163 = .ok (.istore 5, 2) := by decide +kernel
theorem dX9_solves_165 : decode cX9_solves 165 = .ok (.iload 5, 2) := by decide +kernel
theorem dX9_solves_167 : decode cX9_solves 167 = .ok (.iload_n 2, 1) := by decide +kernel
theorem dX9_solves_168 : decode cX9_solves 168 = .ok (.if_icmp .ge 27, 3) := by decide +kernel
theorem dX9_solves_171 : decode cX9_solves 171 = .ok (.aload_n 0, 1) := by decide +kernel
theorem dX9_solves_172 : decode cX9_solves 172 = .ok (.getfield 109, 3) := by decide +kernel
theorem dX9_solves_175 : decode cX9_solves 175 = .ok (.iload_n 3, 1) := by decide +kernel
theorem dX9_solves_176 : decode cX9_solves 176 = .ok (.iload 5, 2) := by decide +kernel
theorem dX9_solves_178 : decode cX9_solves 178 = .ok (.imul, 1) := by decide +kernel
theorem dX9_solves_179 : decode cX9_solves 179 = .ok (.iload_n 1, 1) := by decide +kernel
theorem dX9_solves_180 : decode cX9_solves 180 = .ok (.iadd, 1) := by decide +kernel
theorem dX9_solves_181 : decode cX9_solves 181 = .ok (.laload, 1) := by decide +kernel
theorem dX9_solves_182 : decode cX9_solves 182 = .ok (.lconst 0, 1) := by decide +kernel
theorem dX9_solves_183 : decode cX9_solves 183 = .ok (.lcmp, 1) := by decide +kernel
theorem dX9_solves_184 : decode cX9_solves 184 = .ok (.ifCond .eq 5, 3) := by decide +kernel
theorem dX9_solves_187 : decode cX9_solves 187 = .ok (.iconst 0, 1) := by decide +kernel
theorem dX9_solves_188 : decode cX9_solves 188 = .ok (.ireturn, 1) := by decide +kernel
theorem dX9_solves_189 : decode cX9_solves 189 = .ok (.iinc 5 1, 3) := by decide +kernel
theorem dX9_solves_192 : decode cX9_solves 192 = .ok (.goto (-27), 3) := by decide +kernel
theorem dX9_solves_195 : decode cX9_solves 195 = .ok (.aload_n 0, 1) := by decide +kernel
theorem dX9_solves_196 : decode cX9_solves 196 = .ok (.iload_n 1, 1) := by decide +kernel
theorem dX9_solves_197 : decode cX9_solves 197 = .ok (.putfield 72, 3) := by decide +kernel
theorem dX9_solves_200 : decode cX9_solves 200 = .ok (.iconst 0, 1) := by decide +kernel
theorem dX9_solves_201 : decode cX9_solves 201 = .ok (.istore 5, 2) := by decide +kernel
theorem dX9_solves_203 : decode cX9_solves 203 = .ok (.iload 5, 2) := by decide +kernel
theorem dX9_solves_205 : decode cX9_solves 205 = .ok (.iload_n 1, 1) := by decide +kernel
theorem dX9_solves_206 : decode cX9_solves 206 = .ok (.if_icmp .ge 27, 3) := by decide +kernel
theorem dX9_solves_209 : decode cX9_solves 209 = .ok (.aload_n 0, 1) := by decide +kernel
theorem dX9_solves_210 : decode cX9_solves 210 = .ok (.getfield 75, 3) := by decide +kernel
theorem dX9_solves_213 : decode cX9_solves 213 = .ok (.iload 5, 2) := by decide +kernel
theorem dX9_solves_215 : decode cX9_solves 215 = .ok (.aload_n 0, 1) := by decide +kernel
theorem dX9_solves_216 : decode cX9_solves 216 = .ok (.getfield 109, 3) := by decide +kernel
theorem dX9_solves_219 : decode cX9_solves 219 = .ok (.iload_n 3, 1) := by decide +kernel
theorem dX9_solves_220 : decode cX9_solves 220 = .ok (.iload 5, 2) := by decide +kernel
theorem dX9_solves_222 : decode cX9_solves 222 = .ok (.imul, 1) := by decide +kernel
theorem dX9_solves_223 : decode cX9_solves 223 = .ok (.iload_n 1, 1) := by decide +kernel
theorem dX9_solves_224 : decode cX9_solves 224 = .ok (.iadd, 1) := by decide +kernel
theorem dX9_solves_225 : decode cX9_solves 225 = .ok (.laload, 1) := by decide +kernel
theorem dX9_solves_226 : decode cX9_solves 226 = .ok (.lastore, 1) := by decide +kernel
theorem dX9_solves_227 : decode cX9_solves 227 = .ok (.iinc 5 1, 3) := by decide +kernel
theorem dX9_solves_230 : decode cX9_solves 230 = .ok (.goto (-27), 3) := by decide +kernel
theorem dX9_solves_233 : decode cX9_solves 233 = .ok (.iconst 1, 1) := by decide +kernel
theorem dX9_solves_234 : decode cX9_solves 234 = .ok (.ireturn, 1) := by decide +kernel
set_option maxRecDepth 20000 in
theorem ggX9_clears_X9_inverse : GoodIn wsX9_clears wsX9_inverse := goodIn_r _ [6, 7, 2] (by decide +kernel) (by decide +kernel)
set_option maxRecDepth 20000 in
theorem gX9_clears_X9_inverse : GoodIn wsX9_clears (va_wsS RX9 317 yX9_inverse wsX9_inverse) := goodIn_app (goodIn_of _ (by decide +kernel)) ggX9_clears_X9_inverse
theorem dX9_clears_0 : decode cX9_clears 0 = .ok (.aload_n 0, 1) := by decide +kernel
theorem dX9_clears_1 : decode cX9_clears 1 = .ok (.getfield 109, 3) := by decide +kernel
theorem dX9_clears_4 : decode cX9_clears 4 = .ok (.iload 4, 2) := by decide +kernel
theorem dX9_clears_6 : decode cX9_clears 6 = .ok (.iload_n 2, 1) := by decide +kernel
theorem dX9_clears_7 : decode cX9_clears 7 = .ok (.imul, 1) := by decide +kernel
theorem dX9_clears_8 : decode cX9_clears 8 = .ok (.iload_n 3, 1) := by decide +kernel
theorem dX9_clears_9 : decode cX9_clears 9 = .ok (.iadd, 1) := by decide +kernel
theorem dX9_clears_10 : decode cX9_clears 10 = .ok (.laload, 1) := by decide +kernel
theorem dX9_clears_11 : decode cX9_clears 11 = .ok (.invokestatic 317, 3) := by decide +kernel
theorem dX9_clears_14 : decode cX9_clears 14 = .ok (.lstore 6, 2) := by decide +kernel
theorem dX9_clears_16 : decode cX9_clears 16 = .ok (.iconst 0, 1) := by decide +kernel
theorem dX9_clears_17 : decode cX9_clears 17 = .ok (.istore 8, 2) := by decide +kernel
theorem dX9_clears_19 : decode cX9_clears 19 = .ok (.iload 8, 2) := by decide +kernel
theorem dX9_clears_21 : decode cX9_clears 21 = .ok (.iload 4, 2) := by decide +kernel
theorem dX9_clears_23 : decode cX9_clears 23 = .ok (.if_icmp .ge 68, 3) := by decide +kernel
theorem dX9_clears_26 : decode cX9_clears 26 = .ok (.aload_n 0, 1) := by decide +kernel
theorem dX9_clears_27 : decode cX9_clears 27 = .ok (.getfield 109, 3) := by decide +kernel
theorem dX9_clears_30 : decode cX9_clears 30 = .ok (.iload 4, 2) := by decide +kernel
theorem dX9_clears_32 : decode cX9_clears 32 = .ok (.iload_n 2, 1) := by decide +kernel
theorem dX9_clears_33 : decode cX9_clears 33 = .ok (.imul, 1) := by decide +kernel
theorem dX9_clears_34 : decode cX9_clears 34 = .ok (.iload 8, 2) := by decide +kernel
theorem dX9_clears_36 : decode cX9_clears 36 = .ok (.iadd, 1) := by decide +kernel
theorem dX9_clears_37 : decode cX9_clears 37 = .ok (.laload, 1) := by decide +kernel
theorem dX9_clears_38 : decode cX9_clears 38 = .ok (.lload 6, 2) := by decide +kernel
theorem dX9_clears_40 : decode cX9_clears 40 = .ok (.lmul, 1) := by decide +kernel
theorem dX9_clears_41 : decode cX9_clears 41 = .ok (.ldc2_w 300, 3) := by decide +kernel
theorem dX9_clears_44 : decode cX9_clears 44 = .ok (.lrem, 1) := by decide +kernel
theorem dX9_clears_45 : decode cX9_clears 45 = .ok (.lstore 9, 2) := by decide +kernel
theorem dX9_clears_47 : decode cX9_clears 47 = .ok (.aload_n 0, 1) := by decide +kernel
theorem dX9_clears_48 : decode cX9_clears 48 = .ok (.getfield 109, 3) := by decide +kernel
theorem dX9_clears_51 : decode cX9_clears 51 = .ok (.iload 4, 2) := by decide +kernel
theorem dX9_clears_53 : decode cX9_clears 53 = .ok (.iload_n 2, 1) := by decide +kernel
theorem dX9_clears_54 : decode cX9_clears 54 = .ok (.imul, 1) := by decide +kernel
theorem dX9_clears_55 : decode cX9_clears 55 = .ok (.iload 8, 2) := by decide +kernel
theorem dX9_clears_57 : decode cX9_clears 57 = .ok (.iadd, 1) := by decide +kernel
theorem dX9_clears_58 : decode cX9_clears 58 = .ok (.aload_n 0, 1) := by decide +kernel
theorem dX9_clears_59 : decode cX9_clears 59 = .ok (.getfield 109, 3) := by decide +kernel
theorem dX9_clears_62 : decode cX9_clears 62 = .ok (.iload 4, 2) := by decide +kernel
theorem dX9_clears_64 : decode cX9_clears 64 = .ok (.iload_n 1, 1) := by decide +kernel
theorem dX9_clears_65 : decode cX9_clears 65 = .ok (.imul, 1) := by decide +kernel
theorem dX9_clears_66 : decode cX9_clears 66 = .ok (.iload 8, 2) := by decide +kernel
theorem dX9_clears_68 : decode cX9_clears 68 = .ok (.iadd, 1) := by decide +kernel
theorem dX9_clears_69 : decode cX9_clears 69 = .ok (.laload, 1) := by decide +kernel
theorem dX9_clears_70 : decode cX9_clears 70 = .ok (.lastore, 1) := by decide +kernel
theorem dX9_clears_71 : decode cX9_clears 71 = .ok (.aload_n 0, 1) := by decide +kernel
theorem dX9_clears_72 : decode cX9_clears 72 = .ok (.getfield 109, 3) := by decide +kernel
theorem dX9_clears_75 : decode cX9_clears 75 = .ok (.iload 4, 2) := by decide +kernel
theorem dX9_clears_77 : decode cX9_clears 77 = .ok (.iload_n 1, 1) := by decide +kernel
theorem dX9_clears_78 : decode cX9_clears 78 = .ok (.imul, 1) := by decide +kernel
theorem dX9_clears_79 : decode cX9_clears 79 = .ok (.iload 8, 2) := by decide +kernel
theorem dX9_clears_81 : decode cX9_clears 81 = .ok (.iadd, 1) := by decide +kernel
theorem dX9_clears_82 : decode cX9_clears 82 = .ok (.lload 9, 2) := by decide +kernel
theorem dX9_clears_84 : decode cX9_clears 84 = .ok (.lastore, 1) := by decide +kernel
theorem dX9_clears_85 : decode cX9_clears 85 = .ok (.iinc 8 1, 3) := by decide +kernel
theorem dX9_clears_88 : decode cX9_clears 88 = .ok (.goto (-69), 3) := by decide +kernel
theorem dX9_clears_91 : decode cX9_clears 91 = .ok (.iconst 0, 1) := by decide +kernel
theorem dX9_clears_92 : decode cX9_clears 92 = .ok (.istore 8, 2) := by decide +kernel
theorem dX9_clears_94 : decode cX9_clears 94 = .ok (.iload 8, 2) := by decide +kernel
theorem dX9_clears_96 : decode cX9_clears 96 = .ok (.iload 5, 2) := by decide +kernel
theorem dX9_clears_98 : decode cX9_clears 98 = .ok (.if_icmp .ge 105, 3) := by decide +kernel
theorem dX9_clears_101 : decode cX9_clears 101 = .ok (.aload_n 0, 1) := by decide +kernel
theorem dX9_clears_102 : decode cX9_clears 102 = .ok (.getfield 109, 3) := by decide +kernel
theorem dX9_clears_105 : decode cX9_clears 105 = .ok (.iload 4, 2) := by decide +kernel
theorem dX9_clears_107 : decode cX9_clears 107 = .ok (.iload 8, 2) := by decide +kernel
theorem dX9_clears_109 : decode cX9_clears 109 = .ok (.imul, 1) := by decide +kernel
theorem dX9_clears_110 : decode cX9_clears 110 = .ok (.iload_n 3, 1) := by decide +kernel
theorem dX9_clears_111 : decode cX9_clears 111 = .ok (.iadd, 1) := by decide +kernel
theorem dX9_clears_112 : decode cX9_clears 112 = .ok (.laload, 1) := by decide +kernel
theorem dX9_clears_113 : decode cX9_clears 113 = .ok (.lstore 9, 2) := by decide +kernel
theorem dX9_clears_115 : decode cX9_clears 115 = .ok (.iload 8, 2) := by decide +kernel
theorem dX9_clears_117 : decode cX9_clears 117 = .ok (.iload_n 1, 1) := by decide +kernel
theorem dX9_clears_118 : decode cX9_clears 118 = .ok (.if_icmp .eq 79, 3) := by decide +kernel
theorem dX9_clears_121 : decode cX9_clears 121 = .ok (.lload 9, 2) := by decide +kernel
theorem dX9_clears_123 : decode cX9_clears 123 = .ok (.lconst 0, 1) := by decide +kernel
theorem dX9_clears_124 : decode cX9_clears 124 = .ok (.lcmp, 1) := by decide +kernel
theorem dX9_clears_125 : decode cX9_clears 125 = .ok (.ifCond .ne 6, 3) := by decide +kernel
theorem dX9_clears_128 : decode cX9_clears 128 = .ok (.goto 69, 3) := by decide +kernel
theorem dX9_clears_131 : decode cX9_clears 131 = .ok (.iconst 0, 1) := by decide +kernel
theorem dX9_clears_132 : decode cX9_clears 132 = .ok (.istore 11, 2) := by decide +kernel
theorem dX9_clears_134 : decode cX9_clears 134 = .ok (.iload 11, 2) := by decide +kernel
theorem dX9_clears_136 : decode cX9_clears 136 = .ok (.iload 4, 2) := by decide +kernel
theorem dX9_clears_138 : decode cX9_clears 138 = .ok (.if_icmp .ge 59, 3) := by decide +kernel
theorem dX9_clears_141 : decode cX9_clears 141 = .ok (.aload_n 0, 1) := by decide +kernel
theorem dX9_clears_142 : decode cX9_clears 142 = .ok (.getfield 109, 3) := by decide +kernel
theorem dX9_clears_145 : decode cX9_clears 145 = .ok (.iload 4, 2) := by decide +kernel
theorem dX9_clears_147 : decode cX9_clears 147 = .ok (.iload 8, 2) := by decide +kernel
theorem dX9_clears_149 : decode cX9_clears 149 = .ok (.imul, 1) := by decide +kernel
theorem dX9_clears_150 : decode cX9_clears 150 = .ok (.iload 11, 2) := by decide +kernel
theorem dX9_clears_152 : decode cX9_clears 152 = .ok (.iadd, 1) := by decide +kernel
theorem dX9_clears_153 : decode cX9_clears 153 = .ok (.aload_n 0, 1) := by decide +kernel
theorem dX9_clears_154 : decode cX9_clears 154 = .ok (.getfield 109, 3) := by decide +kernel
theorem dX9_clears_157 : decode cX9_clears 157 = .ok (.iload 4, 2) := by decide +kernel
theorem dX9_clears_159 : decode cX9_clears 159 = .ok (.iload 8, 2) := by decide +kernel
theorem dX9_clears_161 : decode cX9_clears 161 = .ok (.imul, 1) := by decide +kernel
theorem dX9_clears_162 : decode cX9_clears 162 = .ok (.iload 11, 2) := by decide +kernel
theorem dX9_clears_164 : decode cX9_clears 164 = .ok (.iadd, 1) := by decide +kernel
theorem dX9_clears_165 : decode cX9_clears 165 = .ok (.laload, 1) := by decide +kernel
theorem dX9_clears_166 : decode cX9_clears 166 = .ok (.ldc2_w 300, 3) := by decide +kernel
theorem dX9_clears_169 : decode cX9_clears 169 = .ok (.lload 9, 2) := by decide +kernel
theorem dX9_clears_171 : decode cX9_clears 171 = .ok (.lsub, 1) := by decide +kernel
theorem dX9_clears_172 : decode cX9_clears 172 = .ok (.aload_n 0, 1) := by decide +kernel
theorem dX9_clears_173 : decode cX9_clears 173 = .ok (.getfield 109, 3) := by decide +kernel
theorem dX9_clears_176 : decode cX9_clears 176 = .ok (.iload 4, 2) := by decide +kernel
theorem dX9_clears_178 : decode cX9_clears 178 = .ok (.iload_n 1, 1) := by decide +kernel
theorem dX9_clears_179 : decode cX9_clears 179 = .ok (.imul, 1) := by decide +kernel
theorem dX9_clears_180 : decode cX9_clears 180 = .ok (.iload 11, 2) := by decide +kernel
theorem dX9_clears_182 : decode cX9_clears 182 = .ok (.iadd, 1) := by decide +kernel
theorem dX9_clears_183 : decode cX9_clears 183 = .ok (.laload, 1) := by decide +kernel
theorem dX9_clears_184 : decode cX9_clears 184 = .ok (.lmul, 1) := by decide +kernel
theorem dX9_clears_185 : decode cX9_clears 185 = .ok (.ladd, 1) := by decide +kernel
theorem dX9_clears_186 : decode cX9_clears 186 = .ok (.ldc2_w 300, 3) := by decide +kernel
theorem dX9_clears_189 : decode cX9_clears 189 = .ok (.lrem, 1) := by decide +kernel
theorem dX9_clears_190 : decode cX9_clears 190 = .ok (.lastore, 1) := by decide +kernel
theorem dX9_clears_191 : decode cX9_clears 191 = .ok (.iinc 11 1, 3) := by decide +kernel
theorem dX9_clears_194 : decode cX9_clears 194 = .ok (.goto (-60), 3) := by decide +kernel
theorem dX9_clears_197 : decode cX9_clears 197 = .ok (.iinc 8 1, 3) := by decide +kernel
theorem dX9_clears_200 : decode cX9_clears 200 = .ok (.goto (-106), 3) := by decide +kernel
theorem dX9_clears_203 : decode cX9_clears 203 = .ok (.return_, 1) := by decide +kernel
set_option maxRecDepth 20000 in
theorem ggX9_rule_X9_isBetween : GoodIn wsX9_rule wsX9_isBetween := goodIn_r _ [7, 8, 9, 10, 46, 47, 48, 49, 50, 51, 52, 53, 54, 55, 56, 57, 58, 59, 60, 61, 62, 63, 64, 65, 66, 67, 68, 69, 70, 71, 72, 73, 74, 75, 76, 77, 78, 79, 80, 81, 82, 83, 84, 85, 86] (by decide +kernel) (by decide +kernel)
set_option maxRecDepth 20000 in
theorem gX9_rule_X9_isBetween : GoodIn wsX9_rule (wsV RX9 302 RX9 yX9_isBetween wsX9_isBetween) := goodIn_app (goodIn_of _ (by decide +kernel)) ggX9_rule_X9_isBetween
set_option maxRecDepth 20000 in
theorem ggX9_rule_X9_refuse : GoodIn wsX9_rule wsX9_refuse := goodIn_r _ [14, 2, 46, 47, 48, 49, 50, 51, 52, 53, 54, 55, 56, 57, 58, 59, 60, 61, 62, 63, 64, 65, 66, 67, 68, 69, 70, 71, 72, 73, 74, 75, 76, 77, 78, 79, 80, 81, 82, 83, 84, 85, 86] (by decide +kernel) (by decide +kernel)
set_option maxRecDepth 20000 in
theorem gX9_rule_X9_refuse : GoodIn wsX9_rule (wsV RX9 156 RX9 yX9_refuse wsX9_refuse) := goodIn_app (goodIn_of _ (by decide +kernel)) ggX9_rule_X9_refuse
set_option maxRecDepth 20000 in
theorem ggX9_rule_X9_fillRow : GoodIn wsX9_rule wsX9_fillRow := goodIn_r _ [18, 19, 8, 20, 10, 9, 21, 22, 23, 24, 25, 26, 6, 27, 28, 29, 30, 46, 47, 48, 49, 50, 51, 52, 53, 54, 55, 56, 57, 58, 59, 60, 61, 62, 63, 64, 65, 66, 67, 68, 69, 70, 71, 72, 73, 74, 75, 76, 77, 78, 79, 80, 81, 82, 83, 84, 85, 86] (by decide +kernel) (by decide +kernel)
set_option maxRecDepth 20000 in
theorem gX9_rule_X9_fillRow : GoodIn wsX9_rule (wsV RX9 321 RX9 yX9_fillRow wsX9_fillRow) := goodIn_app (goodIn_of _ (by decide +kernel)) ggX9_rule_X9_fillRow
set_option maxRecDepth 20000 in
theorem ggX9_rule_X9_solves : GoodIn wsX9_rule wsX9_solves := goodIn_r _ [34, 9, 35, 20, 36, 37, 38, 39, 40, 6, 41, 23, 42, 43, 44, 45, 46, 47, 48, 49, 50, 51, 52, 53, 54, 55, 56, 57, 58, 59, 60, 61, 62, 63, 64, 65, 66, 67, 68, 69, 70, 71, 72, 73, 74, 75, 76, 77, 78, 79, 80, 81, 82, 83, 84, 85, 86] (by decide +kernel) (by decide +kernel)
set_option maxRecDepth 20000 in
theorem gX9_rule_X9_solves : GoodIn wsX9_rule (wsV RX9 324 RX9 yX9_solves wsX9_solves) := goodIn_app (goodIn_of _ (by decide +kernel)) ggX9_rule_X9_solves
theorem dX9_rule_0 : decode cX9_rule 0 = .ok (.aload_n 0, 1) := by decide +kernel
theorem dX9_rule_1 : decode cX9_rule 1 = .ok (.iconst 0, 1) := by decide +kernel
theorem dX9_rule_2 : decode cX9_rule 2 = .ok (.putfield 112, 3) := by decide +kernel
theorem dX9_rule_5 : decode cX9_rule 5 = .ok (.aload_n 0, 1) := by decide +kernel
theorem dX9_rule_6 : decode cX9_rule 6 = .ok (.iconst 0, 1) := by decide +kernel
theorem dX9_rule_7 : decode cX9_rule 7 = .ok (.putfield 115, 3) := by decide +kernel
theorem dX9_rule_10 : decode cX9_rule 10 = .ok (.aload_n 0, 1) := by decide +kernel
theorem dX9_rule_11 : decode cX9_rule 11 = .ok (.invokevirtual 302, 3) := by decide +kernel
theorem dX9_rule_14 : decode cX9_rule 14 = .ok (.ifCond .ne 10, 3) := by decide +kernel
theorem dX9_rule_17 : decode cX9_rule 17 = .ok (.aload_n 0, 1) := by decide +kernel
theorem dX9_rule_18 : decode cX9_rule 18 = .ok (.bipush 7, 2) := by decide +kernel
theorem dX9_rule_20 : decode cX9_rule 20 = .ok (.invokevirtual 156, 3) := by decide +kernel
theorem dX9_rule_23 : decode cX9_rule 23 = .ok (.ireturn, 1) := by decide +kernel
theorem dX9_rule_24 : decode cX9_rule 24 = .ok (.aload_n 0, 1) := by decide +kernel
theorem dX9_rule_25 : decode cX9_rule 25 = .ok (.invokevirtual 321, 3) := by decide +kernel
theorem dX9_rule_28 : decode cX9_rule 28 = .ok (.iconst 0, 1) := by decide +kernel
theorem dX9_rule_29 : decode cX9_rule 29 = .ok (.istore_n 1, 1) := by decide +kernel
theorem dX9_rule_30 : decode cX9_rule 30 = .ok (.aload_n 0, 1) := by decide +kernel
theorem dX9_rule_31 : decode cX9_rule 31 = .ok (.iload_n 1, 1) := by decide +kernel
theorem dX9_rule_32 : decode cX9_rule 32 = .ok (.invokevirtual 324, 3) := by decide +kernel
theorem dX9_rule_35 : decode cX9_rule 35 = .ok (.ifCond .ne 9, 3) := by decide +kernel
theorem dX9_rule_38 : decode cX9_rule 38 = .ok (.iinc 1 1, 3) := by decide +kernel
theorem dX9_rule_41 : decode cX9_rule 41 = .ok (.goto (-11), 3) := by decide +kernel
theorem dX9_rule_44 : decode cX9_rule 44 = .ok (.iload_n 1, 1) := by decide +kernel
theorem dX9_rule_45 : decode cX9_rule 45 = .ok (.ireturn, 1) := by decide +kernel
set_option maxRecDepth 20000 in
theorem ggL_out_X8_out : GoodIn wsL_out wsX8_out := goodIn_ca (goodIn_r _ [6, 7, 8, 9, 10, 11, 12, 13, 14, 15, 16, 17, 18, 19, 20, 21, 22] (by decide +kernel) (by decide +kernel)) (goodIn_sub (fun _ h => List.mem_cons_of_mem _ (List.mem_append_right _ h)) (by decide +kernel))
set_option maxRecDepth 20000 in
theorem gL_out_X8_out : GoodIn wsL_out (wsV RL 7 RX8 yX8_out wsX8_out) := goodIn_app (goodIn_of _ (by decide +kernel)) ggL_out_X8_out
theorem dL_out_0 : decode cL_out 0 = .ok (.aload_n 2, 1) := by decide +kernel
theorem dL_out_1 : decode cL_out 1 = .ok (.iconst 0, 1) := by decide +kernel
theorem dL_out_2 : decode cL_out 2 = .ok (.aload_n 0, 1) := by decide +kernel
theorem dL_out_3 : decode cL_out 3 = .ok (.iload_n 1, 1) := by decide +kernel
theorem dL_out_4 : decode cL_out 4 = .ok (.invokevirtual 7, 3) := by decide +kernel
theorem dL_out_7 : decode cL_out 7 = .ok (.i2l, 1) := by decide +kernel
theorem dL_out_8 : decode cL_out 8 = .ok (.lastore, 1) := by decide +kernel
theorem dL_out_9 : decode cL_out 9 = .ok (.goto 6, 3) := by decide +kernel
theorem dL_out_12 : decode cL_out 12 = .ok (.astore_n 3, 1) := by decide +kernel
theorem dL_out_13 : decode cL_out 13 = .ok (.iconst 1, 1) := by decide +kernel
theorem dL_out_14 : decode cL_out 14 = .ok (.ireturn, 1) := by decide +kernel
theorem dL_out_15 : decode cL_out 15 = .ok (.iconst 0, 1) := by decide +kernel
theorem dL_out_16 : decode cL_out 16 = .ok (.ireturn, 1) := by decide +kernel
theorem dL_law_211 : decode cL_law 211 = .ok (.iconst 0, 1) := by decide +kernel
theorem dL_law_212 : decode cL_law 212 = .ok (.ireturn, 1) := by decide +kernel
theorem dL_law_260 : decode cL_law 260 = .ok (.iconst 0, 1) := by decide +kernel
theorem dL_law_261 : decode cL_law 261 = .ok (.ireturn, 1) := by decide +kernel
theorem dL_law_309 : decode cL_law 309 = .ok (.iconst 0, 1) := by decide +kernel
theorem dL_law_310 : decode cL_law 310 = .ok (.ireturn, 1) := by decide +kernel
theorem dL_law_346 : decode cL_law 346 = .ok (.iconst 0, 1) := by decide +kernel
theorem dL_law_347 : decode cL_law 347 = .ok (.ireturn, 1) := by decide +kernel
theorem dL_law_419 : decode cL_law 419 = .ok (.iconst 0, 1) := by decide +kernel
theorem dL_law_420 : decode cL_law 420 = .ok (.ireturn, 1) := by decide +kernel
theorem dL_law_456 : decode cL_law 456 = .ok (.iconst 0, 1) := by decide +kernel
theorem dL_law_457 : decode cL_law 457 = .ok (.ireturn, 1) := by decide +kernel
theorem dL_law_493 : decode cL_law 493 = .ok (.iconst 0, 1) := by decide +kernel
theorem dL_law_494 : decode cL_law 494 = .ok (.ireturn, 1) := by decide +kernel
theorem dL_law_530 : decode cL_law 530 = .ok (.iconst 0, 1) := by decide +kernel
theorem dL_law_531 : decode cL_law 531 = .ok (.ireturn, 1) := by decide +kernel
theorem dL_law_567 : decode cL_law 567 = .ok (.iconst 0, 1) := by decide +kernel
theorem dL_law_568 : decode cL_law 568 = .ok (.ireturn, 1) := by decide +kernel
theorem dL_law_632 : decode cL_law 632 = .ok (.iconst 0, 1) := by decide +kernel
theorem dL_law_633 : decode cL_law 633 = .ok (.ireturn, 1) := by decide +kernel
theorem dL_law_669 : decode cL_law 669 = .ok (.iconst 0, 1) := by decide +kernel
theorem dL_law_670 : decode cL_law 670 = .ok (.ireturn, 1) := by decide +kernel
theorem dL_law_706 : decode cL_law 706 = .ok (.iconst 0, 1) := by decide +kernel
theorem dL_law_707 : decode cL_law 707 = .ok (.ireturn, 1) := by decide +kernel
theorem dL_law_743 : decode cL_law 743 = .ok (.iconst 0, 1) := by decide +kernel
theorem dL_law_744 : decode cL_law 744 = .ok (.ireturn, 1) := by decide +kernel
theorem dL_law_780 : decode cL_law 780 = .ok (.iconst 0, 1) := by decide +kernel
theorem dL_law_781 : decode cL_law 781 = .ok (.ireturn, 1) := by decide +kernel
theorem dL_law_806 : decode cL_law 806 = .ok (.iconst 0, 1) := by decide +kernel
theorem dL_law_807 : decode cL_law 807 = .ok (.ireturn, 1) := by decide +kernel
theorem dL_law_832 : decode cL_law 832 = .ok (.iconst 0, 1) := by decide +kernel
theorem dL_law_833 : decode cL_law 833 = .ok (.ireturn, 1) := by decide +kernel
theorem dL_law_845 : decode cL_law 845 = .ok (.iconst 0, 1) := by decide +kernel
theorem dL_law_846 : decode cL_law 846 = .ok (.ireturn, 1) := by decide +kernel
theorem dL_law_895 : decode cL_law 895 = .ok (.iconst 0, 1) := by decide +kernel
theorem dL_law_896 : decode cL_law 896 = .ok (.ireturn, 1) := by decide +kernel
theorem dL_law_960 : decode cL_law 960 = .ok (.iconst 0, 1) := by decide +kernel
theorem dL_law_961 : decode cL_law 961 = .ok (.ireturn, 1) := by decide +kernel
theorem dL_law_1029 : decode cL_law 1029 = .ok (.iconst 0, 1) := by decide +kernel
theorem dL_law_1030 : decode cL_law 1030 = .ok (.ireturn, 1) := by decide +kernel
theorem dL_law_1067 : decode cL_law 1067 = .ok (.iconst 0, 1) := by decide +kernel
theorem dL_law_1068 : decode cL_law 1068 = .ok (.ireturn, 1) := by decide +kernel
theorem dL_law_1105 : decode cL_law 1105 = .ok (.iconst 0, 1) := by decide +kernel
theorem dL_law_1106 : decode cL_law 1106 = .ok (.ireturn, 1) := by decide +kernel
theorem dL_law_1143 : decode cL_law 1143 = .ok (.iconst 0, 1) := by decide +kernel
theorem dL_law_1144 : decode cL_law 1144 = .ok (.ireturn, 1) := by decide +kernel
theorem dL_law_1169 : decode cL_law 1169 = .ok (.iconst 0, 1) := by decide +kernel
theorem dL_law_1170 : decode cL_law 1170 = .ok (.ireturn, 1) := by decide +kernel
theorem dL_law_1195 : decode cL_law 1195 = .ok (.iconst 0, 1) := by decide +kernel
theorem dL_law_1196 : decode cL_law 1196 = .ok (.ireturn, 1) := by decide +kernel
theorem dL_law_1220 : decode cL_law 1220 = .ok (.iconst 0, 1) := by decide +kernel
theorem dL_law_1221 : decode cL_law 1221 = .ok (.ireturn, 1) := by decide +kernel
theorem dL_law_1297 : decode cL_law 1297 = .ok (.iconst 0, 1) := by decide +kernel
theorem dL_law_1298 : decode cL_law 1298 = .ok (.ireturn, 1) := by decide +kernel
theorem dL_law_1334 : decode cL_law 1334 = .ok (.iconst 0, 1) := by decide +kernel
theorem dL_law_1335 : decode cL_law 1335 = .ok (.ireturn, 1) := by decide +kernel
theorem dL_law_1348 : decode cL_law 1348 = .ok (.iconst 0, 1) := by decide +kernel
theorem dL_law_1349 : decode cL_law 1349 = .ok (.ireturn, 1) := by decide +kernel
theorem dL_law_1398 : decode cL_law 1398 = .ok (.iconst 0, 1) := by decide +kernel
theorem dL_law_1399 : decode cL_law 1399 = .ok (.ireturn, 1) := by decide +kernel
theorem dL_law_1467 : decode cL_law 1467 = .ok (.iconst 0, 1) := by decide +kernel
theorem dL_law_1468 : decode cL_law 1468 = .ok (.ireturn, 1) := by decide +kernel
theorem dL_law_1505 : decode cL_law 1505 = .ok (.iconst 0, 1) := by decide +kernel
theorem dL_law_1506 : decode cL_law 1506 = .ok (.ireturn, 1) := by decide +kernel
theorem dL_law_1562 : decode cL_law 1562 = .ok (.iconst 0, 1) := by decide +kernel
theorem dL_law_1563 : decode cL_law 1563 = .ok (.ireturn, 1) := by decide +kernel
theorem dL_law_1575 : decode cL_law 1575 = .ok (.iconst 0, 1) := by decide +kernel
theorem dL_law_1576 : decode cL_law 1576 = .ok (.ireturn, 1) := by decide +kernel
theorem dL_law_1600 : decode cL_law 1600 = .ok (.iconst 0, 1) := by decide +kernel
theorem dL_law_1601 : decode cL_law 1601 = .ok (.ireturn, 1) := by decide +kernel
theorem dL_law_1602 : decode cL_law 1602 = .ok (.aload_n 1, 1) := by decide +kernel
theorem dL_law_1603 : decode cL_law 1603 = .ok (.aload_n 0, 1) := by decide +kernel
theorem dL_law_1604 : decode cL_law 1604 = .ok (.iload 4, 2) := by decide +kernel
theorem dL_law_1606 : decode cL_law 1606 = .ok (.iconst 1, 1) := by decide +kernel
theorem dL_law_1607 : decode cL_law 1607 = .ok (.iadd, 1) := by decide +kernel
theorem dL_law_1608 : decode cL_law 1608 = .ok (.iaload, 1) := by decide +kernel
theorem dL_law_1609 : decode cL_law 1609 = .ok (.aload_n 3, 1) := by decide +kernel
theorem dL_law_1610 : decode cL_law 1610 = .ok (.invokestatic 176, 3) := by decide +kernel
theorem dL_law_1613 : decode cL_law 1613 = .ok (.istore 5, 2) := by decide +kernel
theorem dL_law_1615 : decode cL_law 1615 = .ok (.aload_n 2, 1) := by decide +kernel
theorem dL_law_1616 : decode cL_law 1616 = .ok (.aload_n 0, 1) := by decide +kernel
theorem dL_law_1617 : decode cL_law 1617 = .ok (.iload 4, 2) := by decide +kernel
theorem dL_law_1619 : decode cL_law 1619 = .ok (.iconst 1, 1) := by decide +kernel
theorem dL_law_1620 : decode cL_law 1620 = .ok (.iadd, 1) := by decide +kernel
theorem dL_law_1621 : decode cL_law 1621 = .ok (.iaload, 1) := by decide +kernel
theorem dL_law_1622 : decode cL_law 1622 = .ok (.invokevirtual 181, 3) := by decide +kernel
theorem dL_law_1625 : decode cL_law 1625 = .ok (.istore 6, 2) := by decide +kernel
theorem dL_law_1627 : decode cL_law 1627 = .ok (.aload_n 2, 1) := by decide +kernel
theorem dL_law_1628 : decode cL_law 1628 = .ok (.invokevirtual 182, 3) := by decide +kernel
theorem dL_law_1631 : decode cL_law 1631 = .ok (.iload 5, 2) := by decide +kernel
theorem dL_law_1633 : decode cL_law 1633 = .ok (.if_icmp .eq 5, 3) := by decide +kernel
theorem dL_law_1636 : decode cL_law 1636 = .ok (.iconst 0, 1) := by decide +kernel
theorem dL_law_1637 : decode cL_law 1637 = .ok (.ireturn, 1) := by decide +kernel
theorem dL_law_1638 : decode cL_law 1638 = .ok (.iload 5, 2) := by decide +kernel
theorem dL_law_1640 : decode cL_law 1640 = .ok (.ifCond .ne 15, 3) := by decide +kernel
theorem dL_law_1643 : decode cL_law 1643 = .ok (.aload_n 3, 1) := by decide +kernel
theorem dL_law_1644 : decode cL_law 1644 = .ok (.iconst 0, 1) := by decide +kernel
theorem dL_law_1645 : decode cL_law 1645 = .ok (.laload, 1) := by decide +kernel
theorem dL_law_1646 : decode cL_law 1646 = .ok (.iload 6, 2) := by decide +kernel
theorem dL_law_1648 : decode cL_law 1648 = .ok (.i2l, 1) := by decide +kernel
theorem dL_law_1649 : decode cL_law 1649 = .ok (.lcmp, 1) := by decide +kernel
theorem dL_law_1650 : decode cL_law 1650 = .ok (.ifCond .eq 5, 3) := by decide +kernel
theorem dL_law_1653 : decode cL_law 1653 = .ok (.iconst 0, 1) := by decide +kernel
theorem dL_law_1654 : decode cL_law 1654 = .ok (.ireturn, 1) := by decide +kernel
theorem dL_law_1655 : decode cL_law 1655 = .ok (.goto 3, 3) := by decide +kernel
