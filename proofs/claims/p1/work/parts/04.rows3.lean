theorem dX9_family_52 : decode cX9_family 52 = .ok (.aload_n 0, 1) := by decide +kernel
theorem dX9_family_53 : decode cX9_family 53 = .ok (.getfield 66, 3) := by decide +kernel
theorem dX9_family_56 : decode cX9_family 56 = .ok (.iload_n 2, 1) := by decide +kernel
theorem dX9_family_57 : decode cX9_family 57 = .ok (.iconst 0, 1) := by decide +kernel
theorem dX9_family_58 : decode cX9_family 58 = .ok (.iastore, 1) := by decide +kernel
theorem dX9_family_59 : decode cX9_family 59 = .ok (.aload_n 0, 1) := by decide +kernel
theorem dX9_family_60 : decode cX9_family 60 = .ok (.getfield 69, 3) := by decide +kernel
theorem dX9_family_63 : decode cX9_family 63 = .ok (.iload_n 2, 1) := by decide +kernel
theorem dX9_family_64 : decode cX9_family 64 = .ok (.iconst 0, 1) := by decide +kernel
theorem dX9_family_65 : decode cX9_family 65 = .ok (.iastore, 1) := by decide +kernel
theorem dX9_family_66 : decode cX9_family 66 = .ok (.iinc 2 1, 3) := by decide +kernel
theorem dX9_family_69 : decode cX9_family 69 = .ok (.goto (-36), 3) := by decide +kernel
theorem dX9_family_72 : decode cX9_family 72 = .ok (.iconst 1, 1) := by decide +kernel
theorem dX9_family_73 : decode cX9_family 73 = .ok (.ireturn, 1) := by decide +kernel
set_option maxRecDepth 20000 in
theorem ggX9_place_X9_isSquare : GoodIn wsX9_place wsX9_isSquare := goodIn_r _ [11] (by decide +kernel) (by decide +kernel)
set_option maxRecDepth 20000 in
theorem gX9_place_X9_isSquare : GoodIn wsX9_place (va_wsS RX9 133 yX9_isSquare wsX9_isSquare) := goodIn_app (goodIn_of _ (by decide +kernel)) ggX9_place_X9_isSquare
set_option maxRecDepth 20000 in
theorem ggX9_place_X9_no : GoodIn wsX9_place wsX9_no := goodIn_r _ [15, 2, 16, 17, 18, 19, 20, 21, 22, 23, 24, 25, 26, 27, 28, 29, 30, 31, 32, 33, 34, 35, 36, 37, 38, 39, 40, 41, 42, 43, 44, 45, 46, 47, 48, 49, 50, 51, 52, 53, 54, 55, 56] (by decide +kernel) (by decide +kernel)
set_option maxRecDepth 20000 in
theorem gX9_place_X9_no : GoodIn wsX9_place (wsV RX9 118 RX9 yX9_no wsX9_no) := goodIn_app (goodIn_of _ (by decide +kernel)) ggX9_place_X9_no
theorem dX9_place_0 : decode cX9_place 0 = .ok (.aload_n 0, 1) := by decide +kernel
theorem dX9_place_1 : decode cX9_place 1 = .ok (.iconst 0, 1) := by decide +kernel
theorem dX9_place_2 : decode cX9_place 2 = .ok (.putfield 112, 3) := by decide +kernel
theorem dX9_place_5 : decode cX9_place 5 = .ok (.aload_n 0, 1) := by decide +kernel
theorem dX9_place_6 : decode cX9_place 6 = .ok (.iconst 0, 1) := by decide +kernel
theorem dX9_place_7 : decode cX9_place 7 = .ok (.putfield 115, 3) := by decide +kernel
theorem dX9_place_10 : decode cX9_place 10 = .ok (.iload_n 3, 1) := by decide +kernel
theorem dX9_place_11 : decode cX9_place 11 = .ok (.iload 4, 2) := by decide +kernel
theorem dX9_place_13 : decode cX9_place 13 = .ok (.invokestatic 133, 3) := by decide +kernel
theorem dX9_place_16 : decode cX9_place 16 = .ok (.ifCond .ne 9, 3) := by decide +kernel
theorem dX9_place_19 : decode cX9_place 19 = .ok (.aload_n 0, 1) := by decide +kernel
theorem dX9_place_20 : decode cX9_place 20 = .ok (.iconst 2, 1) := by decide +kernel
theorem dX9_place_21 : decode cX9_place 21 = .ok (.invokevirtual 118, 3) := by decide +kernel
theorem dX9_place_24 : decode cX9_place 24 = .ok (.ireturn, 1) := by decide +kernel
theorem dX9_place_25 : decode cX9_place 25 = .ok (.iload_n 1, 1) := by decide +kernel
theorem dX9_place_26 : decode cX9_place 26 = .ok (.ifCond .lt 11, 3) := by decide +kernel
theorem dX9_place_29 : decode cX9_place 29 = .ok (.iload_n 1, 1) := by decide +kernel
theorem dX9_place_30 : decode cX9_place 30 = .ok (.aload_n 0, 1) := by decide +kernel
theorem dX9_place_31 : decode cX9_place 31 = .ok (.getfield 269, 3) := by decide +kernel
theorem dX9_place_34 : decode cX9_place 34 = .ok (.if_icmp .lt 10, 3) := by decide +kernel
theorem dX9_place_37 : decode cX9_place 37 = .ok (.aload_n 0, 1) := by decide +kernel
theorem dX9_place_38 : decode cX9_place 38 = .ok (.bipush 8, 2) := by decide +kernel
theorem dX9_place_40 : decode cX9_place 40 = .ok (.invokevirtual 118, 3) := by decide +kernel
theorem dX9_place_43 : decode cX9_place 43 = .ok (.ireturn, 1) := by decide +kernel
theorem dX9_place_44 : decode cX9_place 44 = .ok (.iload_n 2, 1) := by decide +kernel
theorem dX9_place_45 : decode cX9_place 45 = .ok (.ifCond .eq 21, 3) := by decide +kernel
theorem dX9_place_48 : decode cX9_place 48 = .ok (.aload_n 0, 1) := by decide +kernel
theorem dX9_place_49 : decode cX9_place 49 = .ok (.getfield 66, 3) := by decide +kernel
theorem dX9_place_52 : decode cX9_place 52 = .ok (.iload_n 1, 1) := by decide +kernel
theorem dX9_place_53 : decode cX9_place 53 = .ok (.iload_n 3, 1) := by decide +kernel
theorem dX9_place_54 : decode cX9_place 54 = .ok (.iastore, 1) := by decide +kernel
theorem dX9_place_55 : decode cX9_place 55 = .ok (.aload_n 0, 1) := by decide +kernel
theorem dX9_place_56 : decode cX9_place 56 = .ok (.getfield 69, 3) := by decide +kernel
theorem dX9_place_59 : decode cX9_place 59 = .ok (.iload_n 1, 1) := by decide +kernel
theorem dX9_place_60 : decode cX9_place 60 = .ok (.iload 4, 2) := by decide +kernel
theorem dX9_place_62 : decode cX9_place 62 = .ok (.iastore, 1) := by decide +kernel
theorem dX9_place_63 : decode cX9_place 63 = .ok (.goto 18, 3) := by decide +kernel
theorem dX9_place_66 : decode cX9_place 66 = .ok (.aload_n 0, 1) := by decide +kernel
theorem dX9_place_67 : decode cX9_place 67 = .ok (.getfield 60, 3) := by decide +kernel
theorem dX9_place_70 : decode cX9_place 70 = .ok (.iload_n 1, 1) := by decide +kernel
theorem dX9_place_71 : decode cX9_place 71 = .ok (.iload_n 3, 1) := by decide +kernel
theorem dX9_place_72 : decode cX9_place 72 = .ok (.iastore, 1) := by decide +kernel
theorem dX9_place_73 : decode cX9_place 73 = .ok (.aload_n 0, 1) := by decide +kernel
theorem dX9_place_74 : decode cX9_place 74 = .ok (.getfield 63, 3) := by decide +kernel
theorem dX9_place_77 : decode cX9_place 77 = .ok (.iload_n 1, 1) := by decide +kernel
theorem dX9_place_78 : decode cX9_place 78 = .ok (.iload 4, 2) := by decide +kernel
theorem dX9_place_80 : decode cX9_place 80 = .ok (.iastore, 1) := by decide +kernel
theorem dX9_place_81 : decode cX9_place 81 = .ok (.iconst 1, 1) := by decide +kernel
theorem dX9_place_82 : decode cX9_place 82 = .ok (.ireturn, 1) := by decide +kernel
set_option maxRecDepth 20000 in
theorem ggX9_isShut_X9_squareOf : GoodIn wsX9_isShut wsX9_squareOf := goodIn_r _ [5] (by decide +kernel) (by decide +kernel)
set_option maxRecDepth 20000 in
theorem gX9_isShut_X9_squareOf : GoodIn wsX9_isShut (va_wsS RX9 144 yX9_squareOf wsX9_squareOf) := goodIn_app (goodIn_of _ (by decide +kernel)) ggX9_isShut_X9_squareOf
theorem dX9_isShut_0 : decode cX9_isShut 0 = .ok (.aload_n 0, 1) := by decide +kernel
theorem dX9_isShut_1 : decode cX9_isShut 1 = .ok (.getfield 38, 3) := by decide +kernel
theorem dX9_isShut_4 : decode cX9_isShut 4 = .ok (.iload_n 1, 1) := by decide +kernel
theorem dX9_isShut_5 : decode cX9_isShut 5 = .ok (.iload_n 2, 1) := by decide +kernel
theorem dX9_isShut_6 : decode cX9_isShut 6 = .ok (.invokestatic 144, 3) := by decide +kernel
theorem dX9_isShut_9 : decode cX9_isShut 9 = .ok (.baload, 1) := by decide +kernel
theorem dX9_isShut_10 : decode cX9_isShut 10 = .ok (.ireturn, 1) := by decide +kernel
set_option maxRecDepth 20000 in
theorem ggX9_ways_X9_isShut : GoodIn wsX9_ways wsX9_isShut := goodIn_r _ [16, 17, 18, 19, 15, 20, 21, 22, 23, 24, 25, 26, 27, 28, 29, 30, 31, 32, 33, 34, 35, 36, 37, 38, 39, 40, 41, 42, 43, 44, 45, 46, 47, 48, 49, 50, 51, 52, 53, 54, 55, 56, 57, 58, 59, 60, 61] (by decide +kernel) (by decide +kernel)
set_option maxRecDepth 20000 in
theorem gX9_ways_X9_isShut : GoodIn wsX9_ways (wsV RX9 272 RX9 yX9_isShut wsX9_isShut) := goodIn_app (goodIn_of _ (by decide +kernel)) ggX9_ways_X9_isShut
theorem dX9_ways_0 : decode cX9_ways 0 = .ok (.aload_n 0, 1) := by decide +kernel
theorem dX9_ways_1 : decode cX9_ways 1 = .ok (.getfield 66, 3) := by decide +kernel
theorem dX9_ways_4 : decode cX9_ways 4 = .ok (.iload_n 2, 1) := by decide +kernel
theorem dX9_ways_5 : decode cX9_ways 5 = .ok (.iaload, 1) := by decide +kernel
theorem dX9_ways_6 : decode cX9_ways 6 = .ok (.aload_n 0, 1) := by decide +kernel
theorem dX9_ways_7 : decode cX9_ways 7 = .ok (.getfield 60, 3) := by decide +kernel
theorem dX9_ways_10 : decode cX9_ways 10 = .ok (.iload_n 1, 1) := by decide +kernel
theorem dX9_ways_11 : decode cX9_ways 11 = .ok (.iaload, 1) := by decide +kernel
theorem dX9_ways_12 : decode cX9_ways 12 = .ok (.if_icmp .lt 18, 3) := by decide +kernel
theorem dX9_ways_15 : decode cX9_ways 15 = .ok (.aload_n 0, 1) := by decide +kernel
theorem dX9_ways_16 : decode cX9_ways 16 = .ok (.getfield 69, 3) := by decide +kernel
theorem dX9_ways_19 : decode cX9_ways 19 = .ok (.iload_n 2, 1) := by decide +kernel
theorem dX9_ways_20 : decode cX9_ways 20 = .ok (.iaload, 1) := by decide +kernel
theorem dX9_ways_21 : decode cX9_ways 21 = .ok (.aload_n 0, 1) := by decide +kernel
theorem dX9_ways_22 : decode cX9_ways 22 = .ok (.getfield 63, 3) := by decide +kernel
theorem dX9_ways_25 : decode cX9_ways 25 = .ok (.iload_n 1, 1) := by decide +kernel
theorem dX9_ways_26 : decode cX9_ways 26 = .ok (.iaload, 1) := by decide +kernel
theorem dX9_ways_27 : decode cX9_ways 27 = .ok (.if_icmp .ge 5, 3) := by decide +kernel
theorem dX9_ways_30 : decode cX9_ways 30 = .ok (.iconst 0, 1) := by decide +kernel
theorem dX9_ways_31 : decode cX9_ways 31 = .ok (.ireturn, 1) := by decide +kernel
theorem dX9_ways_32 : decode cX9_ways 32 = .ok (.aload_n 0, 1) := by decide +kernel
theorem dX9_ways_33 : decode cX9_ways 33 = .ok (.getfield 63, 3) := by decide +kernel
theorem dX9_ways_36 : decode cX9_ways 36 = .ok (.iload_n 1, 1) := by decide +kernel
theorem dX9_ways_37 : decode cX9_ways 37 = .ok (.iaload, 1) := by decide +kernel
theorem dX9_ways_38 : decode cX9_ways 38 = .ok (.istore_n 3, 1) := by decide +kernel
theorem dX9_ways_39 : decode cX9_ways 39 = .ok (.iload_n 3, 1) := by decide +kernel
theorem dX9_ways_40 : decode cX9_ways 40 = .ok (.aload_n 0, 1) := by decide +kernel
theorem dX9_ways_41 : decode cX9_ways 41 = .ok (.getfield 69, 3) := by decide +kernel
theorem dX9_ways_44 : decode cX9_ways 44 = .ok (.iload_n 2, 1) := by decide +kernel
theorem dX9_ways_45 : decode cX9_ways 45 = .ok (.iaload, 1) := by decide +kernel
theorem dX9_ways_46 : decode cX9_ways 46 = .ok (.if_icmp .gt 19, 3) := by decide +kernel
theorem dX9_ways_49 : decode cX9_ways 49 = .ok (.aload_n 0, 1) := by decide +kernel
theorem dX9_ways_50 : decode cX9_ways 50 = .ok (.getfield 48, 3) := by decide +kernel
theorem dX9_ways_53 : decode cX9_ways 53 = .ok (.iload_n 3, 1) := by decide +kernel
theorem dX9_ways_54 : decode cX9_ways 54 = .ok (.bipush 30, 2) := by decide +kernel
theorem dX9_ways_56 : decode cX9_ways 56 = .ok (.iadd, 1) := by decide +kernel
theorem dX9_ways_57 : decode cX9_ways 57 = .ok (.lconst 0, 1) := by decide +kernel
theorem dX9_ways_58 : decode cX9_ways 58 = .ok (.lastore, 1) := by decide +kernel
theorem dX9_ways_59 : decode cX9_ways 59 = .ok (.iinc 3 1, 3) := by decide +kernel
theorem dX9_ways_62 : decode cX9_ways 62 = .ok (.goto (-23), 3) := by decide +kernel
theorem dX9_ways_65 : decode cX9_ways 65 = .ok (.aload_n 0, 1) := by decide +kernel
theorem dX9_ways_66 : decode cX9_ways 66 = .ok (.getfield 48, 3) := by decide +kernel
theorem dX9_ways_69 : decode cX9_ways 69 = .ok (.aload_n 0, 1) := by decide +kernel
theorem dX9_ways_70 : decode cX9_ways 70 = .ok (.getfield 63, 3) := by decide +kernel
theorem dX9_ways_73 : decode cX9_ways 73 = .ok (.iload_n 1, 1) := by decide +kernel
theorem dX9_ways_74 : decode cX9_ways 74 = .ok (.iaload, 1) := by decide +kernel
theorem dX9_ways_75 : decode cX9_ways 75 = .ok (.bipush 30, 2) := by decide +kernel
theorem dX9_ways_77 : decode cX9_ways 77 = .ok (.iadd, 1) := by decide +kernel
theorem dX9_ways_78 : decode cX9_ways 78 = .ok (.lconst 1, 1) := by decide +kernel
theorem dX9_ways_79 : decode cX9_ways 79 = .ok (.lastore, 1) := by decide +kernel
theorem dX9_ways_80 : decode cX9_ways 80 = .ok (.aload_n 0, 1) := by decide +kernel
theorem dX9_ways_81 : decode cX9_ways 81 = .ok (.getfield 60, 3) := by decide +kernel
theorem dX9_ways_84 : decode cX9_ways 84 = .ok (.iload_n 1, 1) := by decide +kernel
theorem dX9_ways_85 : decode cX9_ways 85 = .ok (.iaload, 1) := by decide +kernel
theorem dX9_ways_86 : decode cX9_ways 86 = .ok (.istore_n 3, 1) := by decide +kernel
theorem dX9_ways_87 : decode cX9_ways 87 = .ok (.iload_n 3, 1) := by decide +kernel
theorem dX9_ways_88 : decode cX9_ways 88 = .ok (.aload_n 0, 1) := by decide +kernel
theorem dX9_ways_89 : decode cX9_ways 89 = .ok (.getfield 66, 3) := by decide +kernel
theorem dX9_ways_92 : decode cX9_ways 92 = .ok (.iload_n 2, 1) := by decide +kernel
theorem dX9_ways_93 : decode cX9_ways 93 = .ok (.iaload, 1) := by decide +kernel
theorem dX9_ways_94 : decode cX9_ways 94 = .ok (.if_icmp .gt 106, 3) := by decide +kernel
theorem dX9_ways_97 : decode cX9_ways 97 = .ok (.aload_n 0, 1) := by decide +kernel
theorem dX9_ways_98 : decode cX9_ways 98 = .ok (.getfield 63, 3) := by decide +kernel
theorem dX9_ways_101 : decode cX9_ways 101 = .ok (.iload_n 1, 1) := by decide +kernel
theorem dX9_ways_102 : decode cX9_ways 102 = .ok (.iaload, 1) := by decide +kernel
theorem dX9_ways_103 : decode cX9_ways 103 = .ok (.istore 4, 2) := by decide +kernel
theorem dX9_ways_105 : decode cX9_ways 105 = .ok (.iload 4, 2) := by decide +kernel
theorem dX9_ways_107 : decode cX9_ways 107 = .ok (.aload_n 0, 1) := by decide +kernel
theorem dX9_ways_108 : decode cX9_ways 108 = .ok (.getfield 69, 3) := by decide +kernel
theorem dX9_ways_111 : decode cX9_ways 111 = .ok (.iload_n 2, 1) := by decide +kernel
theorem dX9_ways_112 : decode cX9_ways 112 = .ok (.iaload, 1) := by decide +kernel
theorem dX9_ways_113 : decode cX9_ways 113 = .ok (.if_icmp .gt 81, 3) := by decide +kernel
theorem dX9_ways_116 : decode cX9_ways 116 = .ok (.iload 4, 2) := by decide +kernel
theorem dX9_ways_118 : decode cX9_ways 118 = .ok (.aload_n 0, 1) := by decide +kernel
theorem dX9_ways_119 : decode cX9_ways 119 = .ok (.getfield 63, 3) := by decide +kernel
theorem dX9_ways_122 : decode cX9_ways 122 = .ok (.iload_n 1, 1) := by decide +kernel
theorem dX9_ways_123 : decode cX9_ways 123 = .ok (.iaload, 1) := by decide +kernel
theorem dX9_ways_124 : decode cX9_ways 124 = .ok (.if_icmp .le 18, 3) := by decide +kernel
theorem dX9_ways_127 : decode cX9_ways 127 = .ok (.aload_n 0, 1) := by decide +kernel
theorem dX9_ways_128 : decode cX9_ways 128 = .ok (.getfield 48, 3) := by decide +kernel
theorem dX9_ways_131 : decode cX9_ways 131 = .ok (.iload 4, 2) := by decide +kernel
theorem dX9_ways_133 : decode cX9_ways 133 = .ok (.bipush 30, 2) := by decide +kernel
theorem dX9_ways_135 : decode cX9_ways 135 = .ok (.iadd, 1) := by decide +kernel
theorem dX9_ways_136 : decode cX9_ways 136 = .ok (.iconst 1, 1) := by decide +kernel
theorem dX9_ways_137 : decode cX9_ways 137 = .ok (.isub, 1) := by decide +kernel
theorem dX9_ways_138 : decode cX9_ways 138 = .ok (.laload, 1) := by decide +kernel
theorem dX9_ways_139 : decode cX9_ways 139 = .ok (.goto 4, 3) := by decide +kernel
theorem dX9_ways_142 : decode cX9_ways 142 = .ok (.lconst 0, 1) := by decide +kernel
theorem dX9_ways_143 : decode cX9_ways 143 = .ok (.lstore 5, 2) := by decide +kernel
theorem dX9_ways_145 : decode cX9_ways 145 = .ok (.aload_n 0, 1) := by decide +kernel
theorem dX9_ways_146 : decode cX9_ways 146 = .ok (.getfield 48, 3) := by decide +kernel
theorem dX9_ways_149 : decode cX9_ways 149 = .ok (.iload 4, 2) := by decide +kernel
theorem dX9_ways_151 : decode cX9_ways 151 = .ok (.bipush 30, 2) := by decide +kernel
theorem dX9_ways_153 : decode cX9_ways 153 = .ok (.iadd, 1) := by decide +kernel
theorem dX9_ways_154 : decode cX9_ways 154 = .ok (.aload_n 0, 1) := by decide +kernel
theorem dX9_ways_155 : decode cX9_ways 155 = .ok (.iload_n 3, 1) := by decide +kernel
theorem dX9_ways_156 : decode cX9_ways 156 = .ok (.iload 4, 2) := by decide +kernel
theorem dX9_ways_158 : decode cX9_ways 158 = .ok (.invokevirtual 272, 3) := by decide +kernel
theorem dX9_ways_161 : decode cX9_ways 161 = .ok (.ifCond .eq 7, 3) := by decide +kernel
theorem dX9_ways_164 : decode cX9_ways 164 = .ok (.lconst 0, 1) := by decide +kernel
theorem dX9_ways_165 : decode cX9_ways 165 = .ok (.goto 22, 3) := by decide +kernel
theorem dX9_ways_168 : decode cX9_ways 168 = .ok (.ldc2_w 275, 3) := by decide +kernel
theorem dX9_ways_171 : decode cX9_ways 171 = .ok (.aload_n 0, 1) := by decide +kernel
theorem dX9_ways_172 : decode cX9_ways 172 = .ok (.getfield 48, 3) := by decide +kernel
theorem dX9_ways_175 : decode cX9_ways 175 = .ok (.iload 4, 2) := by decide +kernel
theorem dX9_ways_177 : decode cX9_ways 177 = .ok (.bipush 30, 2) := by decide +kernel
theorem dX9_ways_179 : decode cX9_ways 179 = .ok (.iadd, 1) := by decide +kernel
theorem dX9_ways_180 : decode cX9_ways 180 = .ok (.laload, 1) := by decide +kernel
theorem dX9_ways_181 : decode cX9_ways 181 = .ok (.lload 5, 2) := by decide +kernel
theorem dX9_ways_183 : decode cX9_ways 183 = .ok (.ladd, 1) := by decide +kernel
theorem dX9_ways_184 : decode cX9_ways 184 = .ok (.invokestatic 277, 3) := by decide +kernel
theorem dX9_ways_187 : decode cX9_ways 187 = .ok (.lastore, 1) := by decide +kernel
theorem dX9_ways_188 : decode cX9_ways 188 = .ok (.iinc 4 1, 3) := by decide +kernel
theorem dX9_ways_191 : decode cX9_ways 191 = .ok (.goto (-86), 3) := by decide +kernel
theorem dX9_ways_194 : decode cX9_ways 194 = .ok (.iinc 3 1, 3) := by decide +kernel
theorem dX9_ways_197 : decode cX9_ways 197 = .ok (.goto (-110), 3) := by decide +kernel
theorem dX9_ways_200 : decode cX9_ways 200 = .ok (.ldc2_w 279, 3) := by decide +kernel
theorem dX9_ways_203 : decode cX9_ways 203 = .ok (.aload_n 0, 1) := by decide +kernel
theorem dX9_ways_204 : decode cX9_ways 204 = .ok (.getfield 48, 3) := by decide +kernel
theorem dX9_ways_207 : decode cX9_ways 207 = .ok (.aload_n 0, 1) := by decide +kernel
theorem dX9_ways_208 : decode cX9_ways 208 = .ok (.getfield 69, 3) := by decide +kernel
theorem dX9_ways_211 : decode cX9_ways 211 = .ok (.iload_n 2, 1) := by decide +kernel
theorem dX9_ways_212 : decode cX9_ways 212 = .ok (.iaload, 1) := by decide +kernel
theorem dX9_ways_213 : decode cX9_ways 213 = .ok (.bipush 30, 2) := by decide +kernel
theorem dX9_ways_215 : decode cX9_ways 215 = .ok (.iadd, 1) := by decide +kernel
theorem dX9_ways_216 : decode cX9_ways 216 = .ok (.laload, 1) := by decide +kernel
theorem dX9_ways_217 : decode cX9_ways 217 = .ok (.invokestatic 277, 3) := by decide +kernel
theorem dX9_ways_220 : decode cX9_ways 220 = .ok (.l2i, 1) := by decide +kernel
theorem dX9_ways_221 : decode cX9_ways 221 = .ok (.ireturn, 1) := by decide +kernel
set_option maxRecDepth 20000 in
theorem ggX9_table_X9_refuse : GoodIn wsX9_table wsX9_refuse := goodIn_r _ [12, 2, 32, 33, 34, 35, 36, 37, 38, 39, 40, 41, 42, 43, 44, 45, 46, 47, 48, 49, 50, 51, 52, 53, 54, 55, 56, 57, 58, 59, 60, 61, 62, 63, 64, 65, 66, 67, 68, 69, 70, 71, 72] (by decide +kernel) (by decide +kernel)
set_option maxRecDepth 20000 in
theorem gX9_table_X9_refuse : GoodIn wsX9_table (wsV RX9 156 RX9 yX9_refuse wsX9_refuse) := goodIn_app (goodIn_of _ (by decide +kernel)) ggX9_table_X9_refuse
set_option maxRecDepth 20000 in
theorem ggX9_table_X9_isShut : GoodIn wsX9_table wsX9_isShut := goodIn_r _ [16, 17, 18, 19, 11, 20, 32, 33, 34, 35, 36, 37, 38, 39, 40, 41, 42, 43, 44, 45, 46, 47, 48, 49, 50, 51, 52, 53, 54, 55, 56, 57, 58, 59, 60, 61, 62, 63, 64, 65, 66, 67, 68, 69, 70, 71, 72] (by decide +kernel) (by decide +kernel)
set_option maxRecDepth 20000 in
theorem gX9_table_X9_isShut : GoodIn wsX9_table (wsV RX9 272 RX9 yX9_isShut wsX9_isShut) := goodIn_app (goodIn_of _ (by decide +kernel)) ggX9_table_X9_isShut
set_option maxRecDepth 20000 in
theorem ggX9_table_X9_ways : GoodIn wsX9_table wsX9_ways := goodIn_r _ [24, 6, 4, 7, 5, 25, 26, 27, 28, 29, 30, 31, 13, 14, 15, 11, 16, 17, 18, 19, 20, 32, 33, 34, 35, 36, 37, 38, 39, 40, 41, 42, 43, 44, 45, 46, 47, 48, 49, 50, 51, 52, 53, 54, 55, 56, 57, 58, 59, 60, 61, 62, 63, 64, 65, 66, 67, 68, 69, 70, 71, 72] (by decide +kernel) (by decide +kernel)
set_option maxRecDepth 20000 in
theorem gX9_table_X9_ways : GoodIn wsX9_table (wsV RX9 281 RX9 yX9_ways wsX9_ways) := goodIn_app (goodIn_of _ (by decide +kernel)) ggX9_table_X9_ways
theorem dX9_table_0 : decode cX9_table 0 = .ok (.aload_n 0, 1) := by decide +kernel
theorem dX9_table_1 : decode cX9_table 1 = .ok (.iconst 0, 1) := by decide +kernel
theorem dX9_table_2 : decode cX9_table 2 = .ok (.putfield 112, 3) := by decide +kernel
theorem dX9_table_5 : decode cX9_table 5 = .ok (.aload_n 0, 1) := by decide +kernel
theorem dX9_table_6 : decode cX9_table 6 = .ok (.iconst 0, 1) := by decide +kernel
theorem dX9_table_7 : decode cX9_table 7 = .ok (.putfield 115, 3) := by decide +kernel
theorem dX9_table_10 : decode cX9_table 10 = .ok (.iload_n 1, 1) := by decide +kernel
theorem dX9_table_11 : decode cX9_table 11 = .ok (.ifCond .lt 23, 3) := by decide +kernel
theorem dX9_table_14 : decode cX9_table 14 = .ok (.iload_n 1, 1) := by decide +kernel
theorem dX9_table_15 : decode cX9_table 15 = .ok (.aload_n 0, 1) := by decide +kernel
theorem dX9_table_16 : decode cX9_table 16 = .ok (.getfield 269, 3) := by decide +kernel
theorem dX9_table_19 : decode cX9_table 19 = .ok (.if_icmp .ge 15, 3) := by decide +kernel
theorem dX9_table_22 : decode cX9_table 22 = .ok (.iload_n 2, 1) := by decide +kernel
theorem dX9_table_23 : decode cX9_table 23 = .ok (.ifCond .lt 11, 3) := by decide +kernel
theorem dX9_table_26 : decode cX9_table 26 = .ok (.iload_n 2, 1) := by decide +kernel
theorem dX9_table_27 : decode cX9_table 27 = .ok (.aload_n 0, 1) := by decide +kernel
theorem dX9_table_28 : decode cX9_table 28 = .ok (.getfield 269, 3) := by decide +kernel
theorem dX9_table_31 : decode cX9_table 31 = .ok (.if_icmp .lt 10, 3) := by decide +kernel
theorem dX9_table_34 : decode cX9_table 34 = .ok (.aload_n 0, 1) := by decide +kernel
theorem dX9_table_35 : decode cX9_table 35 = .ok (.bipush 8, 2) := by decide +kernel
theorem dX9_table_37 : decode cX9_table 37 = .ok (.invokevirtual 156, 3) := by decide +kernel
theorem dX9_table_40 : decode cX9_table 40 = .ok (.ireturn, 1) := by decide +kernel
theorem dX9_table_41 : decode cX9_table 41 = .ok (.aload_n 0, 1) := by decide +kernel
theorem dX9_table_42 : decode cX9_table 42 = .ok (.aload_n 0, 1) := by decide +kernel
theorem dX9_table_43 : decode cX9_table 43 = .ok (.getfield 60, 3) := by decide +kernel
theorem dX9_table_46 : decode cX9_table 46 = .ok (.iload_n 1, 1) := by decide +kernel
theorem dX9_table_47 : decode cX9_table 47 = .ok (.iaload, 1) := by decide +kernel
theorem dX9_table_48 : decode cX9_table 48 = .ok (.aload_n 0, 1) := by decide +kernel
theorem dX9_table_49 : decode cX9_table 49 = .ok (.getfield 63, 3) := by decide +kernel
theorem dX9_table_52 : decode cX9_table 52 = .ok (.iload_n 1, 1) := by decide +kernel
theorem dX9_table_53 : decode cX9_table 53 = .ok (.iaload, 1) := by decide +kernel
theorem dX9_table_54 : decode cX9_table 54 = .ok (.invokevirtual 272, 3) := by decide +kernel
theorem dX9_table_57 : decode cX9_table 57 = .ok (.ifCond .ne 22, 3) := by decide +kernel
theorem dX9_table_60 : decode cX9_table 60 = .ok (.aload_n 0, 1) := by decide +kernel
theorem dX9_table_61 : decode cX9_table 61 = .ok (.aload_n 0, 1) := by decide +kernel
theorem dX9_table_62 : decode cX9_table 62 = .ok (.getfield 66, 3) := by decide +kernel
theorem dX9_table_65 : decode cX9_table 65 = .ok (.iload_n 2, 1) := by decide +kernel
theorem dX9_table_66 : decode cX9_table 66 = .ok (.iaload, 1) := by decide +kernel
theorem dX9_table_67 : decode cX9_table 67 = .ok (.aload_n 0, 1) := by decide +kernel
theorem dX9_table_68 : decode cX9_table 68 = .ok (.getfield 69, 3) := by decide +kernel
theorem dX9_table_71 : decode cX9_table 71 = .ok (.iload_n 2, 1) := by decide +kernel
theorem dX9_table_72 : decode cX9_table 72 = .ok (.iaload, 1) := by decide +kernel
theorem dX9_table_73 : decode cX9_table 73 = .ok (.invokevirtual 272, 3) := by decide +kernel
theorem dX9_table_76 : decode cX9_table 76 = .ok (.ifCond .eq 10, 3) := by decide +kernel
theorem dX9_table_79 : decode cX9_table 79 = .ok (.aload_n 0, 1) := by decide +kernel
theorem dX9_table_80 : decode cX9_table 80 = .ok (.bipush 7, 2) := by decide +kernel
theorem dX9_table_82 : decode cX9_table 82 = .ok (.invokevirtual 156, 3) := by decide +kernel
theorem dX9_table_85 : decode cX9_table 85 = .ok (.ireturn, 1) := by decide +kernel
theorem dX9_table_86 : decode cX9_table 86 = .ok (.aload_n 0, 1) := by decide +kernel
theorem dX9_table_87 : decode cX9_table 87 = .ok (.iload_n 1, 1) := by decide +kernel
theorem dX9_table_88 : decode cX9_table 88 = .ok (.iload_n 2, 1) := by decide +kernel
theorem dX9_table_89 : decode cX9_table 89 = .ok (.invokevirtual 281, 3) := by decide +kernel
theorem dX9_table_92 : decode cX9_table 92 = .ok (.istore_n 3, 1) := by decide +kernel
theorem dX9_table_93 : decode cX9_table 93 = .ok (.iload_n 3, 1) := by decide +kernel
theorem dX9_table_94 : decode cX9_table 94 = .ok (.sipush 20000, 3) := by decide +kernel
theorem dX9_table_97 : decode cX9_table 97 = .ok (.if_icmp .le 12, 3) := by decide +kernel
theorem dX9_table_100 : decode cX9_table 100 = .ok (.aload_n 0, 1) := by decide +kernel
theorem dX9_table_101 : decode cX9_table 101 = .ok (.bipush 9, 2) := by decide +kernel
theorem dX9_table_103 : decode cX9_table 103 = .ok (.invokevirtual 156, 3) := by decide +kernel
theorem dX9_table_106 : decode cX9_table 106 = .ok (.goto 4, 3) := by decide +kernel
theorem dX9_table_109 : decode cX9_table 109 = .ok (.iload_n 3, 1) := by decide +kernel
theorem dX9_table_110 : decode cX9_table 110 = .ok (.ireturn, 1) := by decide +kernel
set_option maxRecDepth 20000 in
theorem ggX9_worth_X9_refuse : GoodIn wsX9_worth wsX9_refuse := goodIn_r _ [14, 2, 38, 39, 40, 41, 42, 43, 44, 45, 46, 47, 48, 49, 50, 51, 52, 53, 54, 55, 56, 57, 58, 59, 60, 61, 62, 63, 64, 65, 66, 67, 68, 69, 70, 71, 72, 73, 74, 75, 76, 77, 78] (by decide +kernel) (by decide +kernel)
set_option maxRecDepth 20000 in
theorem gX9_worth_X9_refuse : GoodIn wsX9_worth (wsV RX9 156 RX9 yX9_refuse wsX9_refuse) := goodIn_app (goodIn_of _ (by decide +kernel)) ggX9_worth_X9_refuse
set_option maxRecDepth 20000 in
theorem ggX9_worth_X9_isShut : GoodIn wsX9_worth wsX9_isShut := goodIn_r _ [18, 19, 20, 21, 13, 22, 38, 39, 40, 41, 42, 43, 44, 45, 46, 47, 48, 49, 50, 51, 52, 53, 54, 55, 56, 57, 58, 59, 60, 61, 62, 63, 64, 65, 66, 67, 68, 69, 70, 71, 72, 73, 74, 75, 76, 77, 78] (by decide +kernel) (by decide +kernel)
set_option maxRecDepth 20000 in
theorem gX9_worth_X9_isShut : GoodIn wsX9_worth (wsV RX9 272 RX9 yX9_isShut wsX9_isShut) := goodIn_app (goodIn_of _ (by decide +kernel)) ggX9_worth_X9_isShut
set_option maxRecDepth 20000 in
theorem ggX9_worth_X9_ways : GoodIn wsX9_worth wsX9_ways := goodIn_r _ [26, 6, 4, 7, 5, 27, 28, 29, 30, 31, 32, 33, 15, 16, 17, 13, 18, 19, 20, 21, 22, 38, 39, 40, 41, 42, 43, 44, 45, 46, 47, 48, 49, 50, 51, 52, 53, 54, 55, 56, 57, 58, 59, 60, 61, 62, 63, 64, 65, 66, 67, 68, 69, 70, 71, 72, 73, 74, 75, 76, 77, 78] (by decide +kernel) (by decide +kernel)
set_option maxRecDepth 20000 in
theorem gX9_worth_X9_ways : GoodIn wsX9_worth (wsV RX9 281 RX9 yX9_ways wsX9_ways) := goodIn_app (goodIn_of _ (by decide +kernel)) ggX9_worth_X9_ways
set_option maxRecDepth 20000 in
theorem ggX9_worth_X9_signs : GoodIn wsX9_worth wsX9_signs := goodIn_r _ [37, 3, 8, 38, 39, 40, 41, 42, 43, 44, 45, 46, 47, 48, 49, 50, 51, 52, 53, 54, 55, 56, 57, 58, 59, 60, 61, 62, 63, 64, 65, 66, 67, 68, 69, 70, 71, 72, 73, 74, 75, 76, 77, 78] (by decide +kernel) (by decide +kernel)
set_option maxRecDepth 20000 in
theorem gX9_worth_X9_signs : GoodIn wsX9_worth (wsV RX9 286 RX9 yX9_signs wsX9_signs) := goodIn_app (goodIn_of _ (by decide +kernel)) ggX9_worth_X9_signs
theorem dX9_worth_0 : decode cX9_worth 0 = .ok (.aload_n 0, 1) := by decide +kernel
theorem dX9_worth_1 : decode cX9_worth 1 = .ok (.iconst 0, 1) := by decide +kernel
theorem dX9_worth_2 : decode cX9_worth 2 = .ok (.putfield 112, 3) := by decide +kernel
theorem dX9_worth_5 : decode cX9_worth 5 = .ok (.aload_n 0, 1) := by decide +kernel
theorem dX9_worth_6 : decode cX9_worth 6 = .ok (.iconst 0, 1) := by decide +kernel
theorem dX9_worth_7 : decode cX9_worth 7 = .ok (.putfield 115, 3) := by decide +kernel
theorem dX9_worth_10 : decode cX9_worth 10 = .ok (.aload_n 0, 1) := by decide +kernel
theorem dX9_worth_11 : decode cX9_worth 11 = .ok (.getfield 269, 3) := by decide +kernel
theorem dX9_worth_14 : decode cX9_worth 14 = .ok (.ifCond .ne 11, 3) := by decide +kernel
theorem dX9_worth_17 : decode cX9_worth 17 = .ok (.aload_n 0, 1) := by decide +kernel
theorem dX9_worth_18 : decode cX9_worth 18 = .ok (.bipush 8, 2) := by decide +kernel
theorem dX9_worth_20 : decode cX9_worth 20 = .ok (.invokevirtual 156, 3) := by decide +kernel
theorem dX9_worth_23 : decode cX9_worth 23 = .ok (.i2l, 1) := by decide +kernel
theorem dX9_worth_24 : decode cX9_worth 24 = .ok (.lreturn, 1) := by decide +kernel
theorem dX9_worth_25 : decode cX9_worth 25 = .ok (.iconst 0, 1) := by decide +kernel
theorem dX9_worth_26 : decode cX9_worth 26 = .ok (.istore_n 1, 1) := by decide +kernel
theorem dX9_worth_27 : decode cX9_worth 27 = .ok (.iload_n 1, 1) := by decide +kernel
theorem dX9_worth_28 : decode cX9_worth 28 = .ok (.aload_n 0, 1) := by decide +kernel
theorem dX9_worth_29 : decode cX9_worth 29 = .ok (.getfield 269, 3) := by decide +kernel
theorem dX9_worth_32 : decode cX9_worth 32 = .ok (.if_icmp .ge 55, 3) := by decide +kernel
theorem dX9_worth_35 : decode cX9_worth 35 = .ok (.aload_n 0, 1) := by decide +kernel
theorem dX9_worth_36 : decode cX9_worth 36 = .ok (.aload_n 0, 1) := by decide +kernel
theorem dX9_worth_37 : decode cX9_worth 37 = .ok (.getfield 60, 3) := by decide +kernel
theorem dX9_worth_40 : decode cX9_worth 40 = .ok (.iload_n 1, 1) := by decide +kernel
theorem dX9_worth_41 : decode cX9_worth 41 = .ok (.iaload, 1) := by decide +kernel
theorem dX9_worth_42 : decode cX9_worth 42 = .ok (.aload_n 0, 1) := by decide +kernel
theorem dX9_worth_43 : decode cX9_worth 43 = .ok (.getfield 63, 3) := by decide +kernel
theorem dX9_worth_46 : decode cX9_worth 46 = .ok (.iload_n 1, 1) := by decide +kernel
theorem dX9_worth_47 : decode cX9_worth 47 = .ok (.iaload, 1) := by decide +kernel
theorem dX9_worth_48 : decode cX9_worth 48 = .ok (.invokevirtual 272, 3) := by decide +kernel
theorem dX9_worth_51 : decode cX9_worth 51 = .ok (.ifCond .ne 22, 3) := by decide +kernel
theorem dX9_worth_54 : decode cX9_worth 54 = .ok (.aload_n 0, 1) := by decide +kernel
theorem dX9_worth_55 : decode cX9_worth 55 = .ok (.aload_n 0, 1) := by decide +kernel
theorem dX9_worth_56 : decode cX9_worth 56 = .ok (.getfield 66, 3) := by decide +kernel
theorem dX9_worth_59 : decode cX9_worth 59 = .ok (.iload_n 1, 1) := by decide +kernel
theorem dX9_worth_60 : decode cX9_worth 60 = .ok (.iaload, 1) := by decide +kernel
theorem dX9_worth_61 : decode cX9_worth 61 = .ok (.aload_n 0, 1) := by decide +kernel
theorem dX9_worth_62 : decode cX9_worth 62 = .ok (.getfield 69, 3) := by decide +kernel
theorem dX9_worth_65 : decode cX9_worth 65 = .ok (.iload_n 1, 1) := by decide +kernel
theorem dX9_worth_66 : decode cX9_worth 66 = .ok (.iaload, 1) := by decide +kernel
theorem dX9_worth_67 : decode cX9_worth 67 = .ok (.invokevirtual 272, 3) := by decide +kernel
theorem dX9_worth_70 : decode cX9_worth 70 = .ok (.ifCond .eq 11, 3) := by decide +kernel
theorem dX9_worth_73 : decode cX9_worth 73 = .ok (.aload_n 0, 1) := by decide +kernel
theorem dX9_worth_74 : decode cX9_worth 74 = .ok (.bipush 7, 2) := by decide +kernel
theorem dX9_worth_76 : decode cX9_worth 76 = .ok (.invokevirtual 156, 3) := by decide +kernel
theorem dX9_worth_79 : decode cX9_worth 79 = .ok (.i2l, 1) := by decide +kernel
theorem dX9_worth_80 : decode cX9_worth 80 = .ok (.lreturn, 1) := by decide +kernel
theorem dX9_worth_81 : decode cX9_worth 81 = .ok (.iinc 1 1, 3) := by decide +kernel
theorem dX9_worth_84 : decode cX9_worth 84 = .ok (.goto (-57), 3) := by decide +kernel
theorem dX9_worth_87 : decode cX9_worth 87 = .ok (.iconst 0, 1) := by decide +kernel
theorem dX9_worth_88 : decode cX9_worth 88 = .ok (.istore_n 1, 1) := by decide +kernel
theorem dX9_worth_89 : decode cX9_worth 89 = .ok (.iload_n 1, 1) := by decide +kernel
theorem dX9_worth_90 : decode cX9_worth 90 = .ok (.aload_n 0, 1) := by decide +kernel
theorem dX9_worth_91 : decode cX9_worth 91 = .ok (.getfield 269, 3) := by decide +kernel
theorem dX9_worth_94 : decode cX9_worth 94 = .ok (.if_icmp .ge 67, 3) := by decide +kernel
theorem dX9_worth_97 : decode cX9_worth 97 = .ok (.iconst 0, 1) := by decide +kernel
theorem dX9_worth_98 : decode cX9_worth 98 = .ok (.istore_n 2, 1) := by decide +kernel
theorem dX9_worth_99 : decode cX9_worth 99 = .ok (.iload_n 2, 1) := by decide +kernel
theorem dX9_worth_100 : decode cX9_worth 100 = .ok (.aload_n 0, 1) := by decide +kernel
theorem dX9_worth_101 : decode cX9_worth 101 = .ok (.getfield 269, 3) := by decide +kernel
theorem dX9_worth_104 : decode cX9_worth 104 = .ok (.if_icmp .ge 51, 3) := by decide +kernel
theorem dX9_worth_107 : decode cX9_worth 107 = .ok (.aload_n 0, 1) := by decide +kernel
theorem dX9_worth_108 : decode cX9_worth 108 = .ok (.getfield 82, 3) := by decide +kernel
theorem dX9_worth_111 : decode cX9_worth 111 = .ok (.iconst 4, 1) := by decide +kernel
theorem dX9_worth_112 : decode cX9_worth 112 = .ok (.iload_n 1, 1) := by decide +kernel
theorem dX9_worth_113 : decode cX9_worth 113 = .ok (.imul, 1) := by decide +kernel
theorem dX9_worth_114 : decode cX9_worth 114 = .ok (.iload_n 2, 1) := by decide +kernel
theorem dX9_worth_115 : decode cX9_worth 115 = .ok (.iadd, 1) := by decide +kernel
theorem dX9_worth_116 : decode cX9_worth 116 = .ok (.aload_n 0, 1) := by decide +kernel
theorem dX9_worth_117 : decode cX9_worth 117 = .ok (.iload_n 1, 1) := by decide +kernel
theorem dX9_worth_118 : decode cX9_worth 118 = .ok (.iload_n 2, 1) := by decide +kernel
theorem dX9_worth_119 : decode cX9_worth 119 = .ok (.invokevirtual 281, 3) := by decide +kernel
theorem dX9_worth_122 : decode cX9_worth 122 = .ok (.i2l, 1) := by decide +kernel
theorem dX9_worth_123 : decode cX9_worth 123 = .ok (.lastore, 1) := by decide +kernel
theorem dX9_worth_124 : decode cX9_worth 124 = .ok (.aload_n 0, 1) := by decide +kernel
theorem dX9_worth_125 : decode cX9_worth 125 = .ok (.getfield 82, 3) := by decide +kernel
theorem dX9_worth_128 : decode cX9_worth 128 = .ok (.iconst 4, 1) := by decide +kernel
theorem dX9_worth_129 : decode cX9_worth 129 = .ok (.iload_n 1, 1) := by decide +kernel
theorem dX9_worth_130 : decode cX9_worth 130 = .ok (.imul, 1) := by decide +kernel
theorem dX9_worth_131 : decode cX9_worth 131 = .ok (.iload_n 2, 1) := by decide +kernel
theorem dX9_worth_132 : decode cX9_worth 132 = .ok (.iadd, 1) := by decide +kernel
theorem dX9_worth_133 : decode cX9_worth 133 = .ok (.laload, 1) := by decide +kernel
theorem dX9_worth_134 : decode cX9_worth 134 = .ok (.ldc2_w 284, 3) := by decide +kernel
theorem dX9_worth_137 : decode cX9_worth 137 = .ok (.lcmp, 1) := by decide +kernel
theorem dX9_worth_138 : decode cX9_worth 138 = .ok (.ifCond .le 11, 3) := by decide +kernel
theorem dX9_worth_141 : decode cX9_worth 141 = .ok (.aload_n 0, 1) := by decide +kernel
theorem dX9_worth_142 : decode cX9_worth 142 = .ok (.bipush 9, 2) := by decide +kernel
theorem dX9_worth_144 : decode cX9_worth 144 = .ok (.invokevirtual 156, 3) := by decide +kernel
theorem dX9_worth_147 : decode cX9_worth 147 = .ok (.i2l, 1) := by decide +kernel
theorem dX9_worth_148 : decode cX9_worth 148 = .ok (.lreturn, 1) := by decide +kernel
theorem dX9_worth_149 : decode cX9_worth 149 = .ok (.iinc 2 1, 3) := by decide +kernel
theorem dX9_worth_152 : decode cX9_worth 152 = .ok (.goto (-53), 3) := by decide +kernel
theorem dX9_worth_155 : decode cX9_worth 155 = .ok (.iinc 1 1, 3) := by decide +kernel
theorem dX9_worth_158 : decode cX9_worth 158 = .ok (.goto (-69), 3) := by decide +kernel
theorem dX9_worth_161 : decode cX9_worth 161 = .ok (.aload_n 0, 1) := by decide +kernel
theorem dX9_worth_162 : decode cX9_worth 162 = .ok (.invokevirtual 286, 3) := by decide +kernel
theorem dX9_worth_165 : decode cX9_worth 165 = .ok (.lreturn, 1) := by decide +kernel
theorem dX9_signs_0 : decode cX9_signs 0 = .ok (.lconst 0, 1) := by decide +kernel
theorem dX9_signs_1 : decode cX9_signs 1 = .ok (.lstore_n 1, 1) := by decide +kernel
theorem dX9_signs_2 : decode cX9_signs 2 = .ok (.aload_n 0, 1) := by decide +kernel
theorem dX9_signs_3 : decode cX9_signs 3 = .ok (.getfield 269, 3) := by decide +kernel
theorem dX9_signs_6 : decode cX9_signs 6 = .ok (.istore_n 3, 1) := by decide +kernel
theorem dX9_signs_7 : decode cX9_signs 7 = .ok (.iload_n 3, 1) := by decide +kernel
theorem dX9_signs_8 : decode cX9_signs 8 = .ok (.iconst 1, 1) := by decide +kernel
theorem dX9_signs_9 : decode cX9_signs 9 = .ok (.if_icmp .ne 7, 3) := by decide +kernel
theorem dX9_signs_12 : decode cX9_signs 12 = .ok (.iconst 1, 1) := by decide +kernel
theorem dX9_signs_13 : decode cX9_signs 13 = .ok (.goto 25, 3) := by decide +kernel
theorem dX9_signs_16 : decode cX9_signs 16 = .ok (.iload_n 3, 1) := by decide +kernel
theorem dX9_signs_17 : decode cX9_signs 17 = .ok (.iconst 2, 1) := by decide +kernel
theorem dX9_signs_18 : decode cX9_signs 18 = .ok (.if_icmp .ne 7, 3) := by decide +kernel
theorem dX9_signs_21 : decode cX9_signs 21 = .ok (.iconst 4, 1) := by decide +kernel
theorem dX9_signs_22 : decode cX9_signs 22 = .ok (.goto 16, 3) := by decide +kernel
theorem dX9_signs_25 : decode cX9_signs 25 = .ok (.iload_n 3, 1) := by decide +kernel
theorem dX9_signs_26 : decode cX9_signs 26 = .ok (.iconst 3, 1) := by decide +kernel
theorem dX9_signs_27 : decode cX9_signs 27 = .ok (.if_icmp .ne 8, 3) := by decide +kernel
theorem dX9_signs_30 : decode cX9_signs 30 = .ok (.bipush 27, 2) := by decide +kernel
theorem dX9_signs_32 : decode cX9_signs 32 = .ok (.goto 6, 3) := by decide +kernel
theorem dX9_signs_35 : decode cX9_signs 35 = .ok (.sipush 256, 3) := by decide +kernel
theorem dX9_signs_38 : decode cX9_signs 38 = .ok (.istore 4, 2) := by decide +kernel
theorem dX9_signs_40 : decode cX9_signs 40 = .ok (.iconst 0, 1) := by decide +kernel
theorem dX9_signs_41 : decode cX9_signs 41 = .ok (.istore 5, 2) := by decide +kernel
theorem dX9_signs_43 : decode cX9_signs 43 = .ok (.iload 5, 2) := by decide +kernel
theorem dX9_signs_45 : decode cX9_signs 45 = .ok (.iload 4, 2) := by decide +kernel
theorem dX9_signs_47 : decode cX9_signs 47 = .ok (.if_icmp .ge 148, 3) := by decide +kernel
theorem dX9_signs_50 : decode cX9_signs 50 = .ok (.iload 5, 2) := by decide +kernel
theorem dX9_signs_52 : decode cX9_signs 52 = .ok (.istore 6, 2) := by decide +kernel
theorem dX9_signs_54 : decode cX9_signs 54 = .ok (.iconst 0, 1) := by decide +kernel
theorem dX9_signs_55 : decode cX9_signs 55 = .ok (.istore 7, 2) := by decide +kernel
theorem dX9_signs_57 : decode cX9_signs 57 = .ok (.iconst 0, 1) := by decide +kernel
theorem dX9_signs_58 : decode cX9_signs 58 = .ok (.istore 8, 2) := by decide +kernel
theorem dX9_signs_60 : decode cX9_signs 60 = .ok (.lconst 1, 1) := by decide +kernel
theorem dX9_signs_61 : decode cX9_signs 61 = .ok (.lstore 9, 2) := by decide +kernel
theorem dX9_signs_63 : decode cX9_signs 63 = .ok (.iconst 0, 1) := by decide +kernel
theorem dX9_signs_64 : decode cX9_signs 64 = .ok (.istore 11, 2) := by decide +kernel
theorem dX9_signs_66 : decode cX9_signs 66 = .ok (.iload 11, 2) := by decide +kernel
theorem dX9_signs_68 : decode cX9_signs 68 = .ok (.iload_n 3, 1) := by decide +kernel
theorem dX9_signs_69 : decode cX9_signs 69 = .ok (.if_icmp .ge 92, 3) := by decide +kernel
theorem dX9_signs_72 : decode cX9_signs 72 = .ok (.iload 6, 2) := by decide +kernel
theorem dX9_signs_74 : decode cX9_signs 74 = .ok (.iload_n 3, 1) := by decide +kernel
theorem dX9_signs_75 : decode cX9_signs 75 = .ok (.irem, 1) := by decide +kernel
theorem dX9_signs_76 : decode cX9_signs 76 = .ok (.istore 12, 2) := by decide +kernel
theorem dX9_signs_78 : decode cX9_signs 78 = .ok (.iload 6, 2) := by decide +kernel
theorem dX9_signs_80 : decode cX9_signs 80 = .ok (.iload_n 3, 1) := by decide +kernel
theorem dX9_signs_81 : decode cX9_signs 81 = .ok (.idiv, 1) := by decide +kernel
theorem dX9_signs_82 : decode cX9_signs 82 = .ok (.istore 6, 2) := by decide +kernel
theorem dX9_signs_84 : decode cX9_signs 84 = .ok (.iload 12, 2) := by decide +kernel
theorem dX9_signs_86 : decode cX9_signs 86 = .ok (.iconst 1, 1) := by decide +kernel
theorem dX9_signs_87 : decode cX9_signs 87 = .ok (.iadd, 1) := by decide +kernel
theorem dX9_signs_88 : decode cX9_signs 88 = .ok (.istore 13, 2) := by decide +kernel
theorem dX9_signs_90 : decode cX9_signs 90 = .ok (.iload 13, 2) := by decide +kernel
theorem dX9_signs_92 : decode cX9_signs 92 = .ok (.iload_n 3, 1) := by decide +kernel
theorem dX9_signs_93 : decode cX9_signs 93 = .ok (.if_icmp .ge 21, 3) := by decide +kernel
theorem dX9_signs_96 : decode cX9_signs 96 = .ok (.iload 8, 2) := by decide +kernel
theorem dX9_signs_98 : decode cX9_signs 98 = .ok (.iload 7, 2) := by decide +kernel
theorem dX9_signs_100 : decode cX9_signs 100 = .ok (.iload 13, 2) := by decide +kernel
theorem dX9_signs_102 : decode cX9_signs 102 = .ok (.ishr, 1) := by decide +kernel
theorem dX9_signs_103 : decode cX9_signs 103 = .ok (.iconst 1, 1) := by decide +kernel
theorem dX9_signs_104 : decode cX9_signs 104 = .ok (.iand, 1) := by decide +kernel
theorem dX9_signs_105 : decode cX9_signs 105 = .ok (.iadd, 1) := by decide +kernel
theorem dX9_signs_106 : decode cX9_signs 106 = .ok (.istore 8, 2) := by decide +kernel
theorem dX9_signs_108 : decode cX9_signs 108 = .ok (.iinc 13 1, 3) := by decide +kernel
theorem dX9_signs_111 : decode cX9_signs 111 = .ok (.goto (-21), 3) := by decide +kernel
theorem dX9_signs_114 : decode cX9_signs 114 = .ok (.iload 7, 2) := by decide +kernel
theorem dX9_signs_116 : decode cX9_signs 116 = .ok (.iload 12, 2) := by decide +kernel
theorem dX9_signs_118 : decode cX9_signs 118 = .ok (.ishr, 1) := by decide +kernel
theorem dX9_signs_119 : decode cX9_signs 119 = .ok (.iconst 1, 1) := by decide +kernel
theorem dX9_signs_120 : decode cX9_signs 120 = .ok (.iand, 1) := by decide +kernel
theorem dX9_signs_121 : decode cX9_signs 121 = .ok (.iconst 1, 1) := by decide +kernel
theorem dX9_signs_122 : decode cX9_signs 122 = .ok (.if_icmp .ne 7, 3) := by decide +kernel
theorem dX9_signs_125 : decode cX9_signs 125 = .ok (.lconst 0, 1) := by decide +kernel
theorem dX9_signs_126 : decode cX9_signs 126 = .ok (.goto 18, 3) := by decide +kernel
theorem dX9_signs_129 : decode cX9_signs 129 = .ok (.lload 9, 2) := by decide +kernel
theorem dX9_signs_131 : decode cX9_signs 131 = .ok (.aload_n 0, 1) := by decide +kernel
theorem dX9_signs_132 : decode cX9_signs 132 = .ok (.getfield 82, 3) := by decide +kernel
theorem dX9_signs_135 : decode cX9_signs 135 = .ok (.iconst 4, 1) := by decide +kernel
theorem dX9_signs_136 : decode cX9_signs 136 = .ok (.iload 11, 2) := by decide +kernel
theorem dX9_signs_138 : decode cX9_signs 138 = .ok (.imul, 1) := by decide +kernel
theorem dX9_signs_139 : decode cX9_signs 139 = .ok (.iload 12, 2) := by decide +kernel
theorem dX9_signs_141 : decode cX9_signs 141 = .ok (.iadd, 1) := by decide +kernel
theorem dX9_signs_142 : decode cX9_signs 142 = .ok (.laload, 1) := by decide +kernel
theorem dX9_signs_143 : decode cX9_signs 143 = .ok (.lmul, 1) := by decide +kernel
theorem dX9_signs_144 : decode cX9_signs 144 = .ok (.lstore 9, 2) := by decide +kernel
theorem dX9_signs_146 : decode cX9_signs 146 = .ok (.iload 7, 2) := by decide +kernel
theorem dX9_signs_148 : decode cX9_signs 148 = .ok (.iconst 1, 1) := by decide +kernel
theorem dX9_signs_149 : decode cX9_signs 149 = .ok (.iload 12, 2) := by decide +kernel
theorem dX9_signs_151 : decode cX9_signs 151 = .ok (.ishl, 1) := by decide +kernel
theorem dX9_signs_152 : decode cX9_signs 152 = .ok (.ior, 1) := by decide +kernel
theorem dX9_signs_153 : decode cX9_signs 153 = .ok (.istore 7, 2) := by decide +kernel
theorem dX9_signs_155 : decode cX9_signs 155 = .ok (.iinc 11 1, 3) := by decide +kernel
theorem dX9_signs_158 : decode cX9_signs 158 = .ok (.goto (-92), 3) := by decide +kernel
theorem dX9_signs_161 : decode cX9_signs 161 = .ok (.iload 7, 2) := by decide +kernel
theorem dX9_signs_163 : decode cX9_signs 163 = .ok (.iconst 1, 1) := by decide +kernel
theorem dX9_signs_164 : decode cX9_signs 164 = .ok (.iload_n 3, 1) := by decide +kernel
theorem dX9_signs_165 : decode cX9_signs 165 = .ok (.ishl, 1) := by decide +kernel
theorem dX9_signs_166 : decode cX9_signs 166 = .ok (.iconst 1, 1) := by decide +kernel
theorem dX9_signs_167 : decode cX9_signs 167 = .ok (.isub, 1) := by decide +kernel
theorem dX9_signs_168 : decode cX9_signs 168 = .ok (.if_icmp .ne 21, 3) := by decide +kernel
theorem dX9_signs_171 : decode cX9_signs 171 = .ok (.lload_n 1, 1) := by decide +kernel
theorem dX9_signs_172 : decode cX9_signs 172 = .ok (.iload 8, 2) := by decide +kernel
theorem dX9_signs_174 : decode cX9_signs 174 = .ok (.iconst 2, 1) := by decide +kernel
theorem dX9_signs_175 : decode cX9_signs 175 = .ok (.irem, 1) := by decide +kernel
theorem dX9_signs_176 : decode cX9_signs 176 = .ok (.ifCond .ne 8, 3) := by decide +kernel
theorem dX9_signs_179 : decode cX9_signs 179 = .ok (.lload 9, 2) := by decide +kernel
theorem dX9_signs_181 : decode cX9_signs 181 = .ok (.goto 6, 3) := by decide +kernel
theorem dX9_signs_184 : decode cX9_signs 184 = .ok (.lload 9, 2) := by decide +kernel
theorem dX9_signs_186 : decode cX9_signs 186 = .ok (.lneg, 1) := by decide +kernel
theorem dX9_signs_187 : decode cX9_signs 187 = .ok (.ladd, 1) := by decide +kernel
theorem dX9_signs_188 : decode cX9_signs 188 = .ok (.lstore_n 1, 1) := by decide +kernel
theorem dX9_signs_189 : decode cX9_signs 189 = .ok (.iinc 5 1, 3) := by decide +kernel
theorem dX9_signs_192 : decode cX9_signs 192 = .ok (.goto (-149), 3) := by decide +kernel
theorem dX9_signs_195 : decode cX9_signs 195 = .ok (.lload_n 1, 1) := by decide +kernel
theorem dX9_signs_196 : decode cX9_signs 196 = .ok (.lreturn, 1) := by decide +kernel
set_option maxRecDepth 20000 in
theorem ggX9_boxes_X9_refuse : GoodIn wsX9_boxes wsX9_refuse := goodIn_r _ [10, 2, 15, 16, 17, 18, 19, 20, 21, 22, 23, 24, 25, 26, 27, 28, 29, 30, 31, 32, 33, 34, 35, 36, 37, 38, 39, 40, 41, 42, 43, 44, 45, 46, 47, 48, 49, 50, 51, 52, 53, 54, 55] (by decide +kernel) (by decide +kernel)
set_option maxRecDepth 20000 in
theorem gX9_boxes_X9_refuse : GoodIn wsX9_boxes (wsV RX9 156 RX9 yX9_refuse wsX9_refuse) := goodIn_app (goodIn_of _ (by decide +kernel)) ggX9_boxes_X9_refuse
set_option maxRecDepth 20000 in
theorem ggX9_boxes_X9_isUnder : GoodIn wsX9_boxes wsX9_isUnder := goodIn_r _ [14, 3, 15, 16, 17, 18, 19, 20, 21, 22, 23, 24, 25, 26, 27, 28, 29, 30, 31, 32, 33, 34, 35, 36, 37, 38, 39, 40, 41, 42, 43, 44, 45, 46, 47, 48, 49, 50, 51, 52, 53, 54, 55] (by decide +kernel) (by decide +kernel)
set_option maxRecDepth 20000 in
theorem gX9_boxes_X9_isUnder : GoodIn wsX9_boxes (wsV RX9 290 RX9 yX9_isUnder wsX9_isUnder) := goodIn_app (goodIn_of _ (by decide +kernel)) ggX9_boxes_X9_isUnder
theorem dX9_boxes_0 : decode cX9_boxes 0 = .ok (.aload_n 0, 1) := by decide +kernel
theorem dX9_boxes_1 : decode cX9_boxes 1 = .ok (.iconst 0, 1) := by decide +kernel
theorem dX9_boxes_2 : decode cX9_boxes 2 = .ok (.putfield 112, 3) := by decide +kernel
theorem dX9_boxes_5 : decode cX9_boxes 5 = .ok (.aload_n 0, 1) := by decide +kernel
theorem dX9_boxes_6 : decode cX9_boxes 6 = .ok (.iconst 0, 1) := by decide +kernel
theorem dX9_boxes_7 : decode cX9_boxes 7 = .ok (.putfield 115, 3) := by decide +kernel
theorem dX9_boxes_10 : decode cX9_boxes 10 = .ok (.iload_n 1, 1) := by decide +kernel
theorem dX9_boxes_11 : decode cX9_boxes 11 = .ok (.ifCond .lt 29, 3) := by decide +kernel
theorem dX9_boxes_14 : decode cX9_boxes 14 = .ok (.iload_n 1, 1) := by decide +kernel
theorem dX9_boxes_15 : decode cX9_boxes 15 = .ok (.bipush 6, 2) := by decide +kernel
theorem dX9_boxes_17 : decode cX9_boxes 17 = .ok (.if_icmp .gt 23, 3) := by decide +kernel
theorem dX9_boxes_20 : decode cX9_boxes 20 = .ok (.iload_n 2, 1) := by decide +kernel
theorem dX9_boxes_21 : decode cX9_boxes 21 = .ok (.ifCond .lt 19, 3) := by decide +kernel
theorem dX9_boxes_24 : decode cX9_boxes 24 = .ok (.iload_n 2, 1) := by decide +kernel
theorem dX9_boxes_25 : decode cX9_boxes 25 = .ok (.bipush 6, 2) := by decide +kernel
theorem dX9_boxes_27 : decode cX9_boxes 27 = .ok (.if_icmp .gt 13, 3) := by decide +kernel
theorem dX9_boxes_30 : decode cX9_boxes 30 = .ok (.iload_n 3, 1) := by decide +kernel
theorem dX9_boxes_31 : decode cX9_boxes 31 = .ok (.ifCond .lt 9, 3) := by decide +kernel
theorem dX9_boxes_34 : decode cX9_boxes 34 = .ok (.iload_n 3, 1) := by decide +kernel
theorem dX9_boxes_35 : decode cX9_boxes 35 = .ok (.bipush 6, 2) := by decide +kernel
theorem dX9_boxes_37 : decode cX9_boxes 37 = .ok (.if_icmp .le 10, 3) := by decide +kernel
theorem dX9_boxes_40 : decode cX9_boxes 40 = .ok (.aload_n 0, 1) := by decide +kernel
theorem dX9_boxes_41 : decode cX9_boxes 41 = .ok (.iconst 2, 1) := by decide +kernel
theorem dX9_boxes_42 : decode cX9_boxes 42 = .ok (.invokevirtual 156, 3) := by decide +kernel
theorem dX9_boxes_45 : decode cX9_boxes 45 = .ok (.i2l, 1) := by decide +kernel
theorem dX9_boxes_46 : decode cX9_boxes 46 = .ok (.lreturn, 1) := by decide +kernel
theorem dX9_boxes_47 : decode cX9_boxes 47 = .ok (.iconst 0, 1) := by decide +kernel
theorem dX9_boxes_48 : decode cX9_boxes 48 = .ok (.istore 4, 2) := by decide +kernel
theorem dX9_boxes_50 : decode cX9_boxes 50 = .ok (.iconst 1, 1) := by decide +kernel
theorem dX9_boxes_51 : decode cX9_boxes 51 = .ok (.istore 5, 2) := by decide +kernel
theorem dX9_boxes_53 : decode cX9_boxes 53 = .ok (.iconst 0, 1) := by decide +kernel
theorem dX9_boxes_54 : decode cX9_boxes 54 = .ok (.istore 6, 2) := by decide +kernel
theorem dX9_boxes_56 : decode cX9_boxes 56 = .ok (.iload 6, 2) := by decide +kernel
theorem dX9_boxes_58 : decode cX9_boxes 58 = .ok (.iload_n 2, 1) := by decide +kernel
theorem dX9_boxes_59 : decode cX9_boxes 59 = .ok (.if_icmp .ge 17, 3) := by decide +kernel
theorem dX9_boxes_62 : decode cX9_boxes 62 = .ok (.iload 5, 2) := by decide +kernel
theorem dX9_boxes_64 : decode cX9_boxes 64 = .ok (.iload_n 3, 1) := by decide +kernel
theorem dX9_boxes_65 : decode cX9_boxes 65 = .ok (.iconst 1, 1) := by decide +kernel
theorem dX9_boxes_66 : decode cX9_boxes 66 = .ok (.iadd, 1) := by decide +kernel
theorem dX9_boxes_67 : decode cX9_boxes 67 = .ok (.imul, 1) := by decide +kernel
theorem dX9_boxes_68 : decode cX9_boxes 68 = .ok (.istore 5, 2) := by decide +kernel
theorem dX9_boxes_70 : decode cX9_boxes 70 = .ok (.iinc 6 1, 3) := by decide +kernel
theorem dX9_boxes_73 : decode cX9_boxes 73 = .ok (.goto (-17), 3) := by decide +kernel
theorem dX9_boxes_76 : decode cX9_boxes 76 = .ok (.iconst 0, 1) := by decide +kernel
theorem dX9_boxes_77 : decode cX9_boxes 77 = .ok (.istore 6, 2) := by decide +kernel
theorem dX9_boxes_79 : decode cX9_boxes 79 = .ok (.iload 6, 2) := by decide +kernel
theorem dX9_boxes_81 : decode cX9_boxes 81 = .ok (.iload 5, 2) := by decide +kernel
theorem dX9_boxes_83 : decode cX9_boxes 83 = .ok (.if_icmp .ge 129, 3) := by decide +kernel
theorem dX9_boxes_86 : decode cX9_boxes 86 = .ok (.iload 6, 2) := by decide +kernel
theorem dX9_boxes_88 : decode cX9_boxes 88 = .ok (.istore 7, 2) := by decide +kernel
theorem dX9_boxes_90 : decode cX9_boxes 90 = .ok (.iconst 1, 1) := by decide +kernel
theorem dX9_boxes_91 : decode cX9_boxes 91 = .ok (.istore 8, 2) := by decide +kernel
theorem dX9_boxes_93 : decode cX9_boxes 93 = .ok (.iconst 0, 1) := by decide +kernel
theorem dX9_boxes_94 : decode cX9_boxes 94 = .ok (.istore 9, 2) := by decide +kernel
theorem dX9_boxes_96 : decode cX9_boxes 96 = .ok (.iload 9, 2) := by decide +kernel
theorem dX9_boxes_98 : decode cX9_boxes 98 = .ok (.iload_n 2, 1) := by decide +kernel
theorem dX9_boxes_99 : decode cX9_boxes 99 = .ok (.if_icmp .ge 92, 3) := by decide +kernel
theorem dX9_boxes_102 : decode cX9_boxes 102 = .ok (.aload_n 0, 1) := by decide +kernel
theorem dX9_boxes_103 : decode cX9_boxes 103 = .ok (.getfield 85, 3) := by decide +kernel
theorem dX9_boxes_106 : decode cX9_boxes 106 = .ok (.bipush 6, 2) := by decide +kernel
theorem dX9_boxes_108 : decode cX9_boxes 108 = .ok (.iload 4, 2) := by decide +kernel
theorem dX9_boxes_110 : decode cX9_boxes 110 = .ok (.imul, 1) := by decide +kernel
theorem dX9_boxes_111 : decode cX9_boxes 111 = .ok (.iload 9, 2) := by decide +kernel
theorem dX9_boxes_113 : decode cX9_boxes 113 = .ok (.iadd, 1) := by decide +kernel
theorem dX9_boxes_114 : decode cX9_boxes 114 = .ok (.iload 7, 2) := by decide +kernel
theorem dX9_boxes_116 : decode cX9_boxes 116 = .ok (.iload_n 3, 1) := by decide +kernel
theorem dX9_boxes_117 : decode cX9_boxes 117 = .ok (.iconst 1, 1) := by decide +kernel
theorem dX9_boxes_118 : decode cX9_boxes 118 = .ok (.iadd, 1) := by decide +kernel
theorem dX9_boxes_119 : decode cX9_boxes 119 = .ok (.irem, 1) := by decide +kernel
theorem dX9_boxes_120 : decode cX9_boxes 120 = .ok (.iastore, 1) := by decide +kernel
theorem dX9_boxes_121 : decode cX9_boxes 121 = .ok (.iload 7, 2) := by decide +kernel
theorem dX9_boxes_123 : decode cX9_boxes 123 = .ok (.iload_n 3, 1) := by decide +kernel
theorem dX9_boxes_124 : decode cX9_boxes 124 = .ok (.iconst 1, 1) := by decide +kernel
theorem dX9_boxes_125 : decode cX9_boxes 125 = .ok (.iadd, 1) := by decide +kernel
theorem dX9_boxes_126 : decode cX9_boxes 126 = .ok (.idiv, 1) := by decide +kernel
theorem dX9_boxes_127 : decode cX9_boxes 127 = .ok (.istore 7, 2) := by decide +kernel
theorem dX9_boxes_129 : decode cX9_boxes 129 = .ok (.iload 8, 2) := by decide +kernel
theorem dX9_boxes_131 : decode cX9_boxes 131 = .ok (.ifCond .eq 43, 3) := by decide +kernel
theorem dX9_boxes_134 : decode cX9_boxes 134 = .ok (.iload 9, 2) := by decide +kernel
theorem dX9_boxes_136 : decode cX9_boxes 136 = .ok (.ifCond .eq 34, 3) := by decide +kernel
theorem dX9_boxes_139 : decode cX9_boxes 139 = .ok (.aload_n 0, 1) := by decide +kernel
theorem dX9_boxes_140 : decode cX9_boxes 140 = .ok (.getfield 85, 3) := by decide +kernel
theorem dX9_boxes_143 : decode cX9_boxes 143 = .ok (.bipush 6, 2) := by decide +kernel
theorem dX9_boxes_145 : decode cX9_boxes 145 = .ok (.iload 4, 2) := by decide +kernel
theorem dX9_boxes_147 : decode cX9_boxes 147 = .ok (.imul, 1) := by decide +kernel
theorem dX9_boxes_148 : decode cX9_boxes 148 = .ok (.iload 9, 2) := by decide +kernel
theorem dX9_boxes_150 : decode cX9_boxes 150 = .ok (.iadd, 1) := by decide +kernel
theorem dX9_boxes_151 : decode cX9_boxes 151 = .ok (.iaload, 1) := by decide +kernel
theorem dX9_boxes_152 : decode cX9_boxes 152 = .ok (.aload_n 0, 1) := by decide +kernel
theorem dX9_boxes_153 : decode cX9_boxes 153 = .ok (.getfield 85, 3) := by decide +kernel
theorem dX9_boxes_156 : decode cX9_boxes 156 = .ok (.bipush 6, 2) := by decide +kernel
theorem dX9_boxes_158 : decode cX9_boxes 158 = .ok (.iload 4, 2) := by decide +kernel
theorem dX9_boxes_160 : decode cX9_boxes 160 = .ok (.imul, 1) := by decide +kernel
theorem dX9_boxes_161 : decode cX9_boxes 161 = .ok (.iload 9, 2) := by decide +kernel
theorem dX9_boxes_163 : decode cX9_boxes 163 = .ok (.iadd, 1) := by decide +kernel
theorem dX9_boxes_164 : decode cX9_boxes 164 = .ok (.iconst 1, 1) := by decide +kernel
theorem dX9_boxes_165 : decode cX9_boxes 165 = .ok (.isub, 1) := by decide +kernel
theorem dX9_boxes_166 : decode cX9_boxes 166 = .ok (.iaload, 1) := by decide +kernel
theorem dX9_boxes_167 : decode cX9_boxes 167 = .ok (.if_icmp .gt 7, 3) := by decide +kernel
theorem dX9_boxes_170 : decode cX9_boxes 170 = .ok (.iconst 1, 1) := by decide +kernel
theorem dX9_boxes_171 : decode cX9_boxes 171 = .ok (.goto 4, 3) := by decide +kernel
theorem dX9_boxes_174 : decode cX9_boxes 174 = .ok (.iconst 0, 1) := by decide +kernel
theorem dX9_boxes_175 : decode cX9_boxes 175 = .ok (.istore 8, 2) := by decide +kernel
theorem dX9_boxes_177 : decode cX9_boxes 177 = .ok (.iload 8, 2) := by decide +kernel
theorem dX9_boxes_179 : decode cX9_boxes 179 = .ok (.ifCond .ne 6, 3) := by decide +kernel
theorem dX9_boxes_182 : decode cX9_boxes 182 = .ok (.iload_n 2, 1) := by decide +kernel
theorem dX9_boxes_183 : decode cX9_boxes 183 = .ok (.istore 9, 2) := by decide +kernel
theorem dX9_boxes_185 : decode cX9_boxes 185 = .ok (.iinc 9 1, 3) := by decide +kernel
theorem dX9_boxes_188 : decode cX9_boxes 188 = .ok (.goto (-92), 3) := by decide +kernel
theorem dX9_boxes_191 : decode cX9_boxes 191 = .ok (.iload 4, 2) := by decide +kernel
theorem dX9_boxes_193 : decode cX9_boxes 193 = .ok (.iload 8, 2) := by decide +kernel
theorem dX9_boxes_195 : decode cX9_boxes 195 = .ok (.ifCond .eq 7, 3) := by decide +kernel
theorem dX9_boxes_198 : decode cX9_boxes 198 = .ok (.iconst 1, 1) := by decide +kernel
theorem dX9_boxes_199 : decode cX9_boxes 199 = .ok (.goto 4, 3) := by decide +kernel
theorem dX9_boxes_202 : decode cX9_boxes 202 = .ok (.iconst 0, 1) := by decide +kernel
theorem dX9_boxes_203 : decode cX9_boxes 203 = .ok (.iadd, 1) := by decide +kernel
theorem dX9_boxes_204 : decode cX9_boxes 204 = .ok (.istore 4, 2) := by decide +kernel
theorem dX9_boxes_206 : decode cX9_boxes 206 = .ok (.iinc 6 1, 3) := by decide +kernel
theorem dX9_boxes_209 : decode cX9_boxes 209 = .ok (.goto (-130), 3) := by decide +kernel
theorem dX9_boxes_212 : decode cX9_boxes 212 = .ok (.iconst 0, 1) := by decide +kernel
theorem dX9_boxes_213 : decode cX9_boxes 213 = .ok (.istore 6, 2) := by decide +kernel
theorem dX9_boxes_215 : decode cX9_boxes 215 = .ok (.iload 6, 2) := by decide +kernel
theorem dX9_boxes_217 : decode cX9_boxes 217 = .ok (.iload 4, 2) := by decide +kernel
theorem dX9_boxes_219 : decode cX9_boxes 219 = .ok (.if_icmp .ge 17, 3) := by decide +kernel
theorem dX9_boxes_222 : decode cX9_boxes 222 = .ok (.aload_n 0, 1) := by decide +kernel
theorem dX9_boxes_223 : decode cX9_boxes 223 = .ok (.getfield 48, 3) := by decide +kernel
theorem dX9_boxes_226 : decode cX9_boxes 226 = .ok (.iload 6, 2) := by decide +kernel
theorem dX9_boxes_228 : decode cX9_boxes 228 = .ok (.lconst 1, 1) := by decide +kernel
theorem dX9_boxes_229 : decode cX9_boxes 229 = .ok (.lastore, 1) := by decide +kernel
theorem dX9_boxes_230 : decode cX9_boxes 230 = .ok (.iinc 6 1, 3) := by decide +kernel
theorem dX9_boxes_233 : decode cX9_boxes 233 = .ok (.goto (-18), 3) := by decide +kernel
theorem dX9_boxes_236 : decode cX9_boxes 236 = .ok (.iconst 1, 1) := by decide +kernel
theorem dX9_boxes_237 : decode cX9_boxes 237 = .ok (.istore 6, 2) := by decide +kernel
theorem dX9_boxes_239 : decode cX9_boxes 239 = .ok (.iload 6, 2) := by decide +kernel
theorem dX9_boxes_241 : decode cX9_boxes 241 = .ok (.iload_n 1, 1) := by decide +kernel
theorem dX9_boxes_242 : decode cX9_boxes 242 = .ok (.if_icmp .ge 108, 3) := by decide +kernel
theorem dX9_boxes_245 : decode cX9_boxes 245 = .ok (.iconst 0, 1) := by decide +kernel
theorem dX9_boxes_246 : decode cX9_boxes 246 = .ok (.istore 7, 2) := by decide +kernel
theorem dX9_boxes_248 : decode cX9_boxes 248 = .ok (.iload 7, 2) := by decide +kernel
theorem dX9_boxes_250 : decode cX9_boxes 250 = .ok (.iload 4, 2) := by decide +kernel
theorem dX9_boxes_252 : decode cX9_boxes 252 = .ok (.if_icmp .ge 62, 3) := by decide +kernel
theorem dX9_boxes_255 : decode cX9_boxes 255 = .ok (.aload_n 0, 1) := by decide +kernel
theorem dX9_boxes_256 : decode cX9_boxes 256 = .ok (.getfield 51, 3) := by decide +kernel
theorem dX9_boxes_259 : decode cX9_boxes 259 = .ok (.iload 7, 2) := by decide +kernel
theorem dX9_boxes_261 : decode cX9_boxes 261 = .ok (.lconst 0, 1) := by decide +kernel
theorem dX9_boxes_262 : decode cX9_boxes 262 = .ok (.lastore, 1) := by decide +kernel
theorem dX9_boxes_263 : decode cX9_boxes 263 = .ok (.iconst 0, 1) := by decide +kernel
theorem dX9_boxes_264 : decode cX9_boxes 264 = .ok (.istore 8, 2) := by decide +kernel
theorem dX9_boxes_266 : decode cX9_boxes 266 = .ok (.iload 8, 2) := by decide +kernel
theorem dX9_boxes_268 : decode cX9_boxes 268 = .ok (.iload 4, 2) := by decide +kernel
theorem dX9_boxes_270 : decode cX9_boxes 270 = .ok (.if_icmp .ge 38, 3) := by decide +kernel
theorem dX9_boxes_273 : decode cX9_boxes 273 = .ok (.aload_n 0, 1) := by decide +kernel
theorem dX9_boxes_274 : decode cX9_boxes 274 = .ok (.iload 7, 2) := by decide +kernel
theorem dX9_boxes_276 : decode cX9_boxes 276 = .ok (.iload 8, 2) := by decide +kernel
theorem dX9_boxes_278 : decode cX9_boxes 278 = .ok (.iload_n 2, 1) := by decide +kernel
theorem dX9_boxes_279 : decode cX9_boxes 279 = .ok (.invokevirtual 290, 3) := by decide +kernel
theorem dX9_boxes_282 : decode cX9_boxes 282 = .ok (.ifCond .eq 20, 3) := by decide +kernel
theorem dX9_boxes_285 : decode cX9_boxes 285 = .ok (.aload_n 0, 1) := by decide +kernel
theorem dX9_boxes_286 : decode cX9_boxes 286 = .ok (.getfield 51, 3) := by decide +kernel
theorem dX9_boxes_289 : decode cX9_boxes 289 = .ok (.iload 7, 2) := by decide +kernel
theorem dX9_boxes_291 : decode cX9_boxes 291 = .ok (.dup2, 1) := by decide +kernel
theorem dX9_boxes_292 : decode cX9_boxes 292 = .ok (.laload, 1) := by decide +kernel
theorem dX9_boxes_293 : decode cX9_boxes 293 = .ok (.aload_n 0, 1) := by decide +kernel
theorem dX9_boxes_294 : decode cX9_boxes 294 = .ok (.getfield 48, 3) := by decide +kernel
theorem dX9_boxes_297 : decode cX9_boxes 297 = .ok (.iload 8, 2) := by decide +kernel
theorem dX9_boxes_299 : decode cX9_boxes 299 = .ok (.laload, 1) := by decide +kernel
theorem dX9_boxes_300 : decode cX9_boxes 300 = .ok (.ladd, 1) := by decide +kernel
theorem dX9_boxes_301 : decode cX9_boxes 301 = .ok (.lastore, 1) := by decide +kernel
theorem dX9_boxes_302 : decode cX9_boxes 302 = .ok (.iinc 8 1, 3) := by decide +kernel
theorem dX9_boxes_305 : decode cX9_boxes 305 = .ok (.goto (-39), 3) := by decide +kernel
theorem dX9_boxes_308 : decode cX9_boxes 308 = .ok (.iinc 7 1, 3) := by decide +kernel
theorem dX9_boxes_311 : decode cX9_boxes 311 = .ok (.goto (-63), 3) := by decide +kernel
theorem dX9_boxes_314 : decode cX9_boxes 314 = .ok (.iconst 0, 1) := by decide +kernel
theorem dX9_boxes_315 : decode cX9_boxes 315 = .ok (.istore 7, 2) := by decide +kernel
theorem dX9_boxes_317 : decode cX9_boxes 317 = .ok (.iload 7, 2) := by decide +kernel
theorem dX9_boxes_319 : decode cX9_boxes 319 = .ok (.iload 4, 2) := by decide +kernel
theorem dX9_boxes_321 : decode cX9_boxes 321 = .ok (.if_icmp .ge 23, 3) := by decide +kernel
theorem dX9_boxes_324 : decode cX9_boxes 324 = .ok (.aload_n 0, 1) := by decide +kernel
theorem dX9_boxes_325 : decode cX9_boxes 325 = .ok (.getfield 48, 3) := by decide +kernel
theorem dX9_boxes_328 : decode cX9_boxes 328 = .ok (.iload 7, 2) := by decide +kernel
theorem dX9_boxes_330 : decode cX9_boxes 330 = .ok (.aload_n 0, 1) := by decide +kernel
theorem dX9_boxes_331 : decode cX9_boxes 331 = .ok (.getfield 51, 3) := by decide +kernel
theorem dX9_boxes_334 : decode cX9_boxes 334 = .ok (.iload 7, 2) := by decide +kernel
theorem dX9_boxes_336 : decode cX9_boxes 336 = .ok (.laload, 1) := by decide +kernel
theorem dX9_boxes_337 : decode cX9_boxes 337 = .ok (.lastore, 1) := by decide +kernel
theorem dX9_boxes_338 : decode cX9_boxes 338 = .ok (.iinc 7 1, 3) := by decide +kernel
theorem dX9_boxes_341 : decode cX9_boxes 341 = .ok (.goto (-24), 3) := by decide +kernel
theorem dX9_boxes_344 : decode cX9_boxes 344 = .ok (.iinc 6 1, 3) := by decide +kernel
theorem dX9_boxes_347 : decode cX9_boxes 347 = .ok (.goto (-108), 3) := by decide +kernel
theorem dX9_boxes_350 : decode cX9_boxes 350 = .ok (.iload_n 1, 1) := by decide +kernel
theorem dX9_boxes_351 : decode cX9_boxes 351 = .ok (.ifCond .ne 5, 3) := by decide +kernel
theorem dX9_boxes_354 : decode cX9_boxes 354 = .ok (.lconst 1, 1) := by decide +kernel
theorem dX9_boxes_355 : decode cX9_boxes 355 = .ok (.lreturn, 1) := by decide +kernel
theorem dX9_boxes_356 : decode cX9_boxes 356 = .ok (.lconst 0, 1) := by decide +kernel
theorem dX9_boxes_357 : decode cX9_boxes 357 = .ok (.lstore 6, 2) := by decide +kernel
theorem dX9_boxes_359 : decode cX9_boxes 359 = .ok (.iconst 0, 1) := by decide +kernel
theorem dX9_boxes_360 : decode cX9_boxes 360 = .ok (.istore 8, 2) := by decide +kernel
theorem dX9_boxes_362 : decode cX9_boxes 362 = .ok (.iload 8, 2) := by decide +kernel
theorem dX9_boxes_364 : decode cX9_boxes 364 = .ok (.iload 4, 2) := by decide +kernel
theorem dX9_boxes_366 : decode cX9_boxes 366 = .ok (.if_icmp .ge 21, 3) := by decide +kernel
theorem dX9_boxes_369 : decode cX9_boxes 369 = .ok (.lload 6, 2) := by decide +kernel
theorem dX9_boxes_371 : decode cX9_boxes 371 = .ok (.aload_n 0, 1) := by decide +kernel
theorem dX9_boxes_372 : decode cX9_boxes 372 = .ok (.getfield 48, 3) := by decide +kernel
theorem dX9_boxes_375 : decode cX9_boxes 375 = .ok (.iload 8, 2) := by decide +kernel
theorem dX9_boxes_377 : decode cX9_boxes 377 = .ok (.laload, 1) := by decide +kernel
theorem dX9_boxes_378 : decode cX9_boxes 378 = .ok (.ladd, 1) := by decide +kernel
theorem dX9_boxes_379 : decode cX9_boxes 379 = .ok (.lstore 6, 2) := by decide +kernel
theorem dX9_boxes_381 : decode cX9_boxes 381 = .ok (.iinc 8 1, 3) := by decide +kernel
theorem dX9_boxes_384 : decode cX9_boxes 384 = .ok (.goto (-22), 3) := by decide +kernel
theorem dX9_boxes_387 : decode cX9_boxes 387 = .ok (.lload 6, 2) := by decide +kernel
theorem dX9_boxes_389 : decode cX9_boxes 389 = .ok (.lreturn, 1) := by decide +kernel
theorem dX9_isUnder_0 : decode cX9_isUnder 0 = .ok (.iconst 0, 1) := by decide +kernel
theorem dX9_isUnder_1 : decode cX9_isUnder 1 = .ok (.istore 4, 2) := by decide +kernel
theorem dX9_isUnder_3 : decode cX9_isUnder 3 = .ok (.iload 4, 2) := by decide +kernel
theorem dX9_isUnder_5 : decode cX9_isUnder 5 = .ok (.iload_n 3, 1) := by decide +kernel
theorem dX9_isUnder_6 : decode cX9_isUnder 6 = .ok (.if_icmp .ge 38, 3) := by decide +kernel
theorem dX9_isUnder_9 : decode cX9_isUnder 9 = .ok (.aload_n 0, 1) := by decide +kernel
theorem dX9_isUnder_10 : decode cX9_isUnder 10 = .ok (.getfield 85, 3) := by decide +kernel
theorem dX9_isUnder_13 : decode cX9_isUnder 13 = .ok (.bipush 6, 2) := by decide +kernel
theorem dX9_isUnder_15 : decode cX9_isUnder 15 = .ok (.iload_n 1, 1) := by decide +kernel
theorem dX9_isUnder_16 : decode cX9_isUnder 16 = .ok (.imul, 1) := by decide +kernel
theorem dX9_isUnder_17 : decode cX9_isUnder 17 = .ok (.iload 4, 2) := by decide +kernel
theorem dX9_isUnder_19 : decode cX9_isUnder 19 = .ok (.iadd, 1) := by decide +kernel
theorem dX9_isUnder_20 : decode cX9_isUnder 20 = .ok (.iaload, 1) := by decide +kernel
theorem dX9_isUnder_21 : decode cX9_isUnder 21 = .ok (.aload_n 0, 1) := by decide +kernel
theorem dX9_isUnder_22 : decode cX9_isUnder 22 = .ok (.getfield 85, 3) := by decide +kernel
theorem dX9_isUnder_25 : decode cX9_isUnder 25 = .ok (.bipush 6, 2) := by decide +kernel
theorem dX9_isUnder_27 : decode cX9_isUnder 27 = .ok (.iload_n 2, 1) := by decide +kernel
theorem dX9_isUnder_28 : decode cX9_isUnder 28 = .ok (.imul, 1) := by decide +kernel
theorem dX9_isUnder_29 : decode cX9_isUnder 29 = .ok (.iload 4, 2) := by decide +kernel
theorem dX9_isUnder_31 : decode cX9_isUnder 31 = .ok (.iadd, 1) := by decide +kernel
theorem dX9_isUnder_32 : decode cX9_isUnder 32 = .ok (.iaload, 1) := by decide +kernel
theorem dX9_isUnder_33 : decode cX9_isUnder 33 = .ok (.if_icmp .le 5, 3) := by decide +kernel
theorem dX9_isUnder_36 : decode cX9_isUnder 36 = .ok (.iconst 0, 1) := by decide +kernel
theorem dX9_isUnder_37 : decode cX9_isUnder 37 = .ok (.ireturn, 1) := by decide +kernel
theorem dX9_isUnder_38 : decode cX9_isUnder 38 = .ok (.iinc 4 1, 3) := by decide +kernel
theorem dX9_isUnder_41 : decode cX9_isUnder 41 = .ok (.goto (-38), 3) := by decide +kernel
theorem dX9_isUnder_44 : decode cX9_isUnder 44 = .ok (.iconst 1, 1) := by decide +kernel
theorem dX9_isUnder_45 : decode cX9_isUnder 45 = .ok (.ireturn, 1) := by decide +kernel
theorem dX9_endsOf_0 : decode cX9_endsOf 0 = .ok (.iload_n 2, 1) := by decide +kernel
theorem dX9_endsOf_1 : decode cX9_endsOf 1 = .ok (.ifCond .lt 9, 3) := by decide +kernel
theorem dX9_endsOf_4 : decode cX9_endsOf 4 = .ok (.iload_n 2, 1) := by decide +kernel
theorem dX9_endsOf_5 : decode cX9_endsOf 5 = .ok (.bipush 61, 2) := by decide +kernel
theorem dX9_endsOf_7 : decode cX9_endsOf 7 = .ok (.if_icmp .le 7, 3) := by decide +kernel
theorem dX9_endsOf_10 : decode cX9_endsOf 10 = .ok (.lconst 0, 1) := by decide +kernel
theorem dX9_endsOf_11 : decode cX9_endsOf 11 = .ok (.goto 14, 3) := by decide +kernel
theorem dX9_endsOf_14 : decode cX9_endsOf 14 = .ok (.aload_n 0, 1) := by decide +kernel
theorem dX9_endsOf_15 : decode cX9_endsOf 15 = .ok (.getfield 88, 3) := by decide +kernel
theorem dX9_endsOf_18 : decode cX9_endsOf 18 = .ok (.bipush 62, 2) := by decide +kernel
theorem dX9_endsOf_20 : decode cX9_endsOf 20 = .ok (.iload_n 1, 1) := by decide +kernel
theorem dX9_endsOf_21 : decode cX9_endsOf 21 = .ok (.imul, 1) := by decide +kernel
theorem dX9_endsOf_22 : decode cX9_endsOf 22 = .ok (.iload_n 2, 1) := by decide +kernel
theorem dX9_endsOf_23 : decode cX9_endsOf 23 = .ok (.iadd, 1) := by decide +kernel
theorem dX9_endsOf_24 : decode cX9_endsOf 24 = .ok (.laload, 1) := by decide +kernel
theorem dX9_endsOf_25 : decode cX9_endsOf 25 = .ok (.lreturn, 1) := by decide +kernel
set_option maxRecDepth 20000 in
theorem ggX9_fillEnds_X9_endsOf : GoodIn wsX9_fillEnds wsX9_endsOf := goodIn_r _ [6, 1, 7, 8, 9, 10, 11, 12, 13, 14, 15, 16, 17, 18, 19, 20, 21, 22, 23, 24, 25, 26, 27, 28, 29, 30, 31, 32, 33, 34, 35, 36, 37, 38, 39, 40, 41, 42, 43, 44, 45, 46, 47] (by decide +kernel) (by decide +kernel)
set_option maxRecDepth 20000 in
theorem gX9_fillEnds_X9_endsOf : GoodIn wsX9_fillEnds (wsV RX9 293 RX9 yX9_endsOf wsX9_endsOf) := goodIn_app (goodIn_of _ (by decide +kernel)) ggX9_fillEnds_X9_endsOf
theorem dX9_fillEnds_0 : decode cX9_fillEnds 0 = .ok (.iconst 0, 1) := by decide +kernel
theorem dX9_fillEnds_1 : decode cX9_fillEnds 1 = .ok (.istore_n 2, 1) := by decide +kernel
theorem dX9_fillEnds_2 : decode cX9_fillEnds 2 = .ok (.iload_n 2, 1) := by decide +kernel
theorem dX9_fillEnds_3 : decode cX9_fillEnds 3 = .ok (.bipush 62, 2) := by decide +kernel
theorem dX9_fillEnds_5 : decode cX9_fillEnds 5 = .ok (.if_icmp .ge 24, 3) := by decide +kernel
theorem dX9_fillEnds_8 : decode cX9_fillEnds 8 = .ok (.aload_n 0, 1) := by decide +kernel
theorem dX9_fillEnds_9 : decode cX9_fillEnds 9 = .ok (.getfield 88, 3) := by decide +kernel
theorem dX9_fillEnds_12 : decode cX9_fillEnds 12 = .ok (.iload_n 2, 1) := by decide +kernel
theorem dX9_fillEnds_13 : decode cX9_fillEnds 13 = .ok (.iload_n 2, 1) := by decide +kernel
theorem dX9_fillEnds_14 : decode cX9_fillEnds 14 = .ok (.ifCond .ne 7, 3) := by decide +kernel
theorem dX9_fillEnds_17 : decode cX9_fillEnds 17 = .ok (.lconst 1, 1) := by decide +kernel
theorem dX9_fillEnds_18 : decode cX9_fillEnds 18 = .ok (.goto 4, 3) := by decide +kernel
theorem dX9_fillEnds_21 : decode cX9_fillEnds 21 = .ok (.lconst 0, 1) := by decide +kernel
theorem dX9_fillEnds_22 : decode cX9_fillEnds 22 = .ok (.lastore, 1) := by decide +kernel
theorem dX9_fillEnds_23 : decode cX9_fillEnds 23 = .ok (.iinc 2 1, 3) := by decide +kernel
theorem dX9_fillEnds_26 : decode cX9_fillEnds 26 = .ok (.goto (-24), 3) := by decide +kernel
theorem dX9_fillEnds_29 : decode cX9_fillEnds 29 = .ok (.iconst 1, 1) := by decide +kernel
theorem dX9_fillEnds_30 : decode cX9_fillEnds 30 = .ok (.istore_n 2, 1) := by decide +kernel
theorem dX9_fillEnds_31 : decode cX9_fillEnds 31 = .ok (.iload_n 2, 1) := by decide +kernel
theorem dX9_fillEnds_32 : decode cX9_fillEnds 32 = .ok (.iload_n 1, 1) := by decide +kernel
theorem dX9_fillEnds_33 : decode cX9_fillEnds 33 = .ok (.if_icmp .gt 64, 3) := by decide +kernel
theorem dX9_fillEnds_36 : decode cX9_fillEnds 36 = .ok (.iconst 0, 1) := by decide +kernel
theorem dX9_fillEnds_37 : decode cX9_fillEnds 37 = .ok (.istore_n 3, 1) := by decide +kernel
theorem dX9_fillEnds_38 : decode cX9_fillEnds 38 = .ok (.iload_n 3, 1) := by decide +kernel
theorem dX9_fillEnds_39 : decode cX9_fillEnds 39 = .ok (.bipush 62, 2) := by decide +kernel
theorem dX9_fillEnds_41 : decode cX9_fillEnds 41 = .ok (.if_icmp .ge 50, 3) := by decide +kernel
theorem dX9_fillEnds_44 : decode cX9_fillEnds 44 = .ok (.aload_n 0, 1) := by decide +kernel
theorem dX9_fillEnds_45 : decode cX9_fillEnds 45 = .ok (.getfield 88, 3) := by decide +kernel
theorem dX9_fillEnds_48 : decode cX9_fillEnds 48 = .ok (.bipush 62, 2) := by decide +kernel
theorem dX9_fillEnds_50 : decode cX9_fillEnds 50 = .ok (.iload_n 2, 1) := by decide +kernel
theorem dX9_fillEnds_51 : decode cX9_fillEnds 51 = .ok (.imul, 1) := by decide +kernel
theorem dX9_fillEnds_52 : decode cX9_fillEnds 52 = .ok (.iload_n 3, 1) := by decide +kernel
theorem dX9_fillEnds_53 : decode cX9_fillEnds 53 = .ok (.iadd, 1) := by decide +kernel
theorem dX9_fillEnds_54 : decode cX9_fillEnds 54 = .ok (.iload_n 3, 1) := by decide +kernel
theorem dX9_fillEnds_55 : decode cX9_fillEnds 55 = .ok (.iload_n 2, 1) := by decide +kernel
theorem dX9_fillEnds_56 : decode cX9_fillEnds 56 = .ok (.if_icmp .le 7, 3) := by decide +kernel
theorem dX9_fillEnds_59 : decode cX9_fillEnds 59 = .ok (.lconst 0, 1) := by decide +kernel
theorem dX9_fillEnds_60 : decode cX9_fillEnds 60 = .ok (.goto 24, 3) := by decide +kernel
theorem dX9_fillEnds_63 : decode cX9_fillEnds 63 = .ok (.aload_n 0, 1) := by decide +kernel
theorem dX9_fillEnds_64 : decode cX9_fillEnds 64 = .ok (.iload_n 2, 1) := by decide +kernel
theorem dX9_fillEnds_65 : decode cX9_fillEnds 65 = .ok (.iconst 1, 1) := by decide +kernel
theorem dX9_fillEnds_66 : decode cX9_fillEnds 66 = .ok (.isub, 1) := by decide +kernel
theorem dX9_fillEnds_67 : decode cX9_fillEnds 67 = .ok (.iload_n 3, 1) := by decide +kernel
theorem dX9_fillEnds_68 : decode cX9_fillEnds 68 = .ok (.iconst 1, 1) := by decide +kernel
theorem dX9_fillEnds_69 : decode cX9_fillEnds 69 = .ok (.iadd, 1) := by decide +kernel
theorem dX9_fillEnds_70 : decode cX9_fillEnds 70 = .ok (.invokevirtual 293, 3) := by decide +kernel
theorem dX9_fillEnds_73 : decode cX9_fillEnds 73 = .ok (.aload_n 0, 1) := by decide +kernel
theorem dX9_fillEnds_74 : decode cX9_fillEnds 74 = .ok (.iload_n 2, 1) := by decide +kernel
theorem dX9_fillEnds_75 : decode cX9_fillEnds 75 = .ok (.iconst 1, 1) := by decide +kernel
theorem dX9_fillEnds_76 : decode cX9_fillEnds 76 = .ok (.isub, 1) := by decide +kernel
theorem dX9_fillEnds_77 : decode cX9_fillEnds 77 = .ok (.iload_n 3, 1) := by decide +kernel
theorem dX9_fillEnds_78 : decode cX9_fillEnds 78 = .ok (.iconst 1, 1) := by decide +kernel
theorem dX9_fillEnds_79 : decode cX9_fillEnds 79 = .ok (.isub, 1) := by decide +kernel
theorem dX9_fillEnds_80 : decode cX9_fillEnds 80 = .ok (.invokevirtual 293, 3) := by decide +kernel
theorem dX9_fillEnds_83 : decode cX9_fillEnds 83 = .ok (.ladd, 1) := by decide +kernel
theorem dX9_fillEnds_84 : decode cX9_fillEnds 84 = .ok (.lastore, 1) := by decide +kernel
theorem dX9_fillEnds_85 : decode cX9_fillEnds 85 = .ok (.iinc 3 1, 3) := by decide +kernel
theorem dX9_fillEnds_88 : decode cX9_fillEnds 88 = .ok (.goto (-50), 3) := by decide +kernel
theorem dX9_fillEnds_91 : decode cX9_fillEnds 91 = .ok (.iinc 2 1, 3) := by decide +kernel
theorem dX9_fillEnds_94 : decode cX9_fillEnds 94 = .ok (.goto (-63), 3) := by decide +kernel
theorem dX9_fillEnds_97 : decode cX9_fillEnds 97 = .ok (.return_, 1) := by decide +kernel
set_option maxRecDepth 20000 in
theorem ggX9_brackets_X9_refuse : GoodIn wsX9_brackets wsX9_refuse := goodIn_r _ [9, 2, 19, 20, 21, 22, 23, 24, 25, 26, 27, 28, 29, 30, 31, 32, 33, 34, 35, 36, 37, 38, 39, 40, 41, 42, 43, 44, 45, 46, 47, 48, 49, 50, 51, 52, 53, 54, 55, 56, 57, 58, 59] (by decide +kernel) (by decide +kernel)
set_option maxRecDepth 20000 in
theorem gX9_brackets_X9_refuse : GoodIn wsX9_brackets (wsV RX9 156 RX9 yX9_refuse wsX9_refuse) := goodIn_app (goodIn_of _ (by decide +kernel)) ggX9_brackets_X9_refuse
set_option maxRecDepth 20000 in
theorem ggX9_brackets_X9_fillEnds : GoodIn wsX9_brackets wsX9_fillEnds := goodIn_r _ [13, 14, 15, 16, 17, 8, 18, 19, 20, 21, 22, 23, 24, 25, 26, 27, 28, 29, 30, 31, 32, 33, 34, 35, 36, 37, 38, 39, 40, 41, 42, 43, 44, 45, 46, 47, 48, 49, 50, 51, 52, 53, 54, 55, 56, 57, 58, 59] (by decide +kernel) (by decide +kernel)
set_option maxRecDepth 20000 in
theorem gX9_brackets_X9_fillEnds : GoodIn wsX9_brackets (wsV RX9 296 RX9 yX9_fillEnds wsX9_fillEnds) := goodIn_app (goodIn_of _ (by decide +kernel)) ggX9_brackets_X9_fillEnds
set_option maxRecDepth 20000 in
theorem ggX9_brackets_X9_endsOf : GoodIn wsX9_brackets wsX9_endsOf := goodIn_r _ [18, 14, 19, 20, 21, 22, 23, 24, 25, 26, 27, 28, 29, 30, 31, 32, 33, 34, 35, 36, 37, 38, 39, 40, 41, 42, 43, 44, 45, 46, 47, 48, 49, 50, 51, 52, 53, 54, 55, 56, 57, 58, 59] (by decide +kernel) (by decide +kernel)
set_option maxRecDepth 20000 in
theorem gX9_brackets_X9_endsOf : GoodIn wsX9_brackets (wsV RX9 293 RX9 yX9_endsOf wsX9_endsOf) := goodIn_app (goodIn_of _ (by decide +kernel)) ggX9_brackets_X9_endsOf
theorem dX9_brackets_0 : decode cX9_brackets 0 = .ok (.aload_n 0, 1) := by decide +kernel
theorem dX9_brackets_1 : decode cX9_brackets 1 = .ok (.iconst 0, 1) := by decide +kernel
theorem dX9_brackets_2 : decode cX9_brackets 2 = .ok (.putfield 112, 3) := by decide +kernel
theorem dX9_brackets_5 : decode cX9_brackets 5 = .ok (.aload_n 0, 1) := by decide +kernel
theorem dX9_brackets_6 : decode cX9_brackets 6 = .ok (.iconst 0, 1) := by decide +kernel
theorem dX9_brackets_7 : decode cX9_brackets 7 = .ok (.putfield 115, 3) := by decide +kernel
theorem dX9_brackets_10 : decode cX9_brackets 10 = .ok (.iload_n 1, 1) := by decide +kernel
theorem dX9_brackets_11 : decode cX9_brackets 11 = .ok (.ifCond .lt 9, 3) := by decide +kernel
theorem dX9_brackets_14 : decode cX9_brackets 14 = .ok (.iload_n 1, 1) := by decide +kernel
theorem dX9_brackets_15 : decode cX9_brackets 15 = .ok (.bipush 30, 2) := by decide +kernel
theorem dX9_brackets_17 : decode cX9_brackets 17 = .ok (.if_icmp .le 9, 3) := by decide +kernel
theorem dX9_brackets_20 : decode cX9_brackets 20 = .ok (.aload_n 0, 1) := by decide +kernel
theorem dX9_brackets_21 : decode cX9_brackets 21 = .ok (.iconst 2, 1) := by decide +kernel
theorem dX9_brackets_22 : decode cX9_brackets 22 = .ok (.invokevirtual 156, 3) := by decide +kernel
theorem dX9_brackets_25 : decode cX9_brackets 25 = .ok (.ireturn, 1) := by decide +kernel
theorem dX9_brackets_26 : decode cX9_brackets 26 = .ok (.aload_n 0, 1) := by decide +kernel
theorem dX9_brackets_27 : decode cX9_brackets 27 = .ok (.iconst 2, 1) := by decide +kernel
theorem dX9_brackets_28 : decode cX9_brackets 28 = .ok (.iload_n 1, 1) := by decide +kernel
theorem dX9_brackets_29 : decode cX9_brackets 29 = .ok (.imul, 1) := by decide +kernel
theorem dX9_brackets_30 : decode cX9_brackets 30 = .ok (.invokevirtual 296, 3) := by decide +kernel
theorem dX9_brackets_33 : decode cX9_brackets 33 = .ok (.lload_n 2, 1) := by decide +kernel
theorem dX9_brackets_34 : decode cX9_brackets 34 = .ok (.lconst 0, 1) := by decide +kernel
theorem dX9_brackets_35 : decode cX9_brackets 35 = .ok (.lcmp, 1) := by decide +kernel
theorem dX9_brackets_36 : decode cX9_brackets 36 = .ok (.ifCond .lt 16, 3) := by decide +kernel
theorem dX9_brackets_39 : decode cX9_brackets 39 = .ok (.lload_n 2, 1) := by decide +kernel
theorem dX9_brackets_40 : decode cX9_brackets 40 = .ok (.aload_n 0, 1) := by decide +kernel
theorem dX9_brackets_41 : decode cX9_brackets 41 = .ok (.iconst 2, 1) := by decide +kernel
theorem dX9_brackets_42 : decode cX9_brackets 42 = .ok (.iload_n 1, 1) := by decide +kernel
theorem dX9_brackets_43 : decode cX9_brackets 43 = .ok (.imul, 1) := by decide +kernel
theorem dX9_brackets_44 : decode cX9_brackets 44 = .ok (.iconst 0, 1) := by decide +kernel
theorem dX9_brackets_45 : decode cX9_brackets 45 = .ok (.invokevirtual 293, 3) := by decide +kernel
theorem dX9_brackets_48 : decode cX9_brackets 48 = .ok (.lcmp, 1) := by decide +kernel
theorem dX9_brackets_49 : decode cX9_brackets 49 = .ok (.ifCond .lt 10, 3) := by decide +kernel
theorem dX9_brackets_52 : decode cX9_brackets 52 = .ok (.aload_n 0, 1) := by decide +kernel
theorem dX9_brackets_53 : decode cX9_brackets 53 = .ok (.bipush 8, 2) := by decide +kernel
theorem dX9_brackets_55 : decode cX9_brackets 55 = .ok (.invokevirtual 156, 3) := by decide +kernel
theorem dX9_brackets_58 : decode cX9_brackets 58 = .ok (.ireturn, 1) := by decide +kernel
theorem dX9_brackets_59 : decode cX9_brackets 59 = .ok (.aload_n 0, 1) := by decide +kernel
theorem dX9_brackets_60 : decode cX9_brackets 60 = .ok (.iconst 2, 1) := by decide +kernel
theorem dX9_brackets_61 : decode cX9_brackets 61 = .ok (.iload_n 1, 1) := by decide +kernel
theorem dX9_brackets_62 : decode cX9_brackets 62 = .ok (.imul, 1) := by decide +kernel
theorem dX9_brackets_63 : decode cX9_brackets 63 = .ok (.putfield 234, 3) := by decide +kernel
theorem dX9_brackets_66 : decode cX9_brackets 66 = .ok (.lload_n 2, 1) := by decide +kernel
theorem dX9_brackets_67 : decode cX9_brackets 67 = .ok (.lstore 4, 2) := by decide +kernel
theorem dX9_brackets_69 : decode cX9_brackets 69 = .ok (.iconst 0, 1) := by decide +kernel
theorem dX9_brackets_70 : decode cX9_brackets 70 = .ok (.istore 6, 2) := by decide +kernel
theorem dX9_brackets_72 : decode cX9_brackets 72 = .ok (.iconst 0, 1) := by decide +kernel
theorem dX9_brackets_73 : decode cX9_brackets 73 = .ok (.istore 7, 2) := by decide +kernel
theorem dX9_brackets_75 : decode cX9_brackets 75 = .ok (.iload 7, 2) := by decide +kernel
theorem dX9_brackets_77 : decode cX9_brackets 77 = .ok (.iconst 2, 1) := by decide +kernel
theorem dX9_brackets_78 : decode cX9_brackets 78 = .ok (.iload_n 1, 1) := by decide +kernel
theorem dX9_brackets_79 : decode cX9_brackets 79 = .ok (.imul, 1) := by decide +kernel
theorem dX9_brackets_80 : decode cX9_brackets 80 = .ok (.if_icmp .ge 89, 3) := by decide +kernel
theorem dX9_brackets_83 : decode cX9_brackets 83 = .ok (.aload_n 0, 1) := by decide +kernel
theorem dX9_brackets_84 : decode cX9_brackets 84 = .ok (.iconst 2, 1) := by decide +kernel
theorem dX9_brackets_85 : decode cX9_brackets 85 = .ok (.iload_n 1, 1) := by decide +kernel
theorem dX9_brackets_86 : decode cX9_brackets 86 = .ok (.imul, 1) := by decide +kernel
theorem dX9_brackets_87 : decode cX9_brackets 87 = .ok (.iconst 1, 1) := by decide +kernel
theorem dX9_brackets_88 : decode cX9_brackets 88 = .ok (.isub, 1) := by decide +kernel
theorem dX9_brackets_89 : decode cX9_brackets 89 = .ok (.iload 7, 2) := by decide +kernel
theorem dX9_brackets_91 : decode cX9_brackets 91 = .ok (.isub, 1) := by decide +kernel
theorem dX9_brackets_92 : decode cX9_brackets 92 = .ok (.iload 6, 2) := by decide +kernel
theorem dX9_brackets_94 : decode cX9_brackets 94 = .ok (.iconst 1, 1) := by decide +kernel
theorem dX9_brackets_95 : decode cX9_brackets 95 = .ok (.iadd, 1) := by decide +kernel
theorem dX9_brackets_96 : decode cX9_brackets 96 = .ok (.invokevirtual 293, 3) := by decide +kernel
theorem dX9_brackets_99 : decode cX9_brackets 99 = .ok (.lstore 8, 2) := by decide +kernel
theorem dX9_brackets_101 : decode cX9_brackets 101 = .ok (.lload 4, 2) := by decide +kernel
theorem dX9_brackets_103 : decode cX9_brackets 103 = .ok (.lload 8, 2) := by decide +kernel
theorem dX9_brackets_105 : decode cX9_brackets 105 = .ok (.lcmp, 1) := by decide +kernel
theorem dX9_brackets_106 : decode cX9_brackets 106 = .ok (.ifCond .ge 7, 3) := by decide +kernel
theorem dX9_brackets_109 : decode cX9_brackets 109 = .ok (.iconst 1, 1) := by decide +kernel
theorem dX9_brackets_110 : decode cX9_brackets 110 = .ok (.goto 4, 3) := by decide +kernel
theorem dX9_brackets_113 : decode cX9_brackets 113 = .ok (.iconst 0, 1) := by decide +kernel
theorem dX9_brackets_114 : decode cX9_brackets 114 = .ok (.istore 10, 2) := by decide +kernel
theorem dX9_brackets_116 : decode cX9_brackets 116 = .ok (.iload 10, 2) := by decide +kernel
theorem dX9_brackets_118 : decode cX9_brackets 118 = .ok (.ifCond .ne 10, 3) := by decide +kernel
theorem dX9_brackets_121 : decode cX9_brackets 121 = .ok (.lload 4, 2) := by decide +kernel
theorem dX9_brackets_123 : decode cX9_brackets 123 = .ok (.lload 8, 2) := by decide +kernel
theorem dX9_brackets_125 : decode cX9_brackets 125 = .ok (.lsub, 1) := by decide +kernel
theorem dX9_brackets_126 : decode cX9_brackets 126 = .ok (.lstore 4, 2) := by decide +kernel
theorem dX9_brackets_128 : decode cX9_brackets 128 = .ok (.aload_n 0, 1) := by decide +kernel
theorem dX9_brackets_129 : decode cX9_brackets 129 = .ok (.getfield 78, 3) := by decide +kernel
theorem dX9_brackets_132 : decode cX9_brackets 132 = .ok (.iload 7, 2) := by decide +kernel
theorem dX9_brackets_134 : decode cX9_brackets 134 = .ok (.iload 10, 2) := by decide +kernel
theorem dX9_brackets_136 : decode cX9_brackets 136 = .ok (.ifCond .eq 8, 3) := by decide +kernel
theorem dX9_brackets_139 : decode cX9_brackets 139 = .ok (.bipush 40, 2) := by decide +kernel
theorem dX9_brackets_141 : decode cX9_brackets 141 = .ok (.goto 5, 3) := by decide +kernel
theorem dX9_brackets_144 : decode cX9_brackets 144 = .ok (.bipush 41, 2) := by decide +kernel
theorem dX9_brackets_146 : decode cX9_brackets 146 = .ok (.i2b, 1) := by decide +kernel
theorem dX9_brackets_147 : decode cX9_brackets 147 = .ok (.bastore, 1) := by decide +kernel
theorem dX9_brackets_148 : decode cX9_brackets 148 = .ok (.iload 6, 2) := by decide +kernel
theorem dX9_brackets_150 : decode cX9_brackets 150 = .ok (.iload 10, 2) := by decide +kernel
theorem dX9_brackets_152 : decode cX9_brackets 152 = .ok (.ifCond .eq 7, 3) := by decide +kernel
theorem dX9_brackets_155 : decode cX9_brackets 155 = .ok (.iconst 1, 1) := by decide +kernel
theorem dX9_brackets_156 : decode cX9_brackets 156 = .ok (.goto 4, 3) := by decide +kernel
theorem dX9_brackets_159 : decode cX9_brackets 159 = .ok (.iconst (-1), 1) := by decide +kernel
theorem dX9_brackets_160 : decode cX9_brackets 160 = .ok (.iadd, 1) := by decide +kernel
theorem dX9_brackets_161 : decode cX9_brackets 161 = .ok (.istore 6, 2) := by decide +kernel
theorem dX9_brackets_163 : decode cX9_brackets 163 = .ok (.iinc 7 1, 3) := by decide +kernel
theorem dX9_brackets_166 : decode cX9_brackets 166 = .ok (.goto (-91), 3) := by decide +kernel
theorem dX9_brackets_169 : decode cX9_brackets 169 = .ok (.aload_n 0, 1) := by decide +kernel
theorem dX9_brackets_170 : decode cX9_brackets 170 = .ok (.getfield 234, 3) := by decide +kernel
theorem dX9_brackets_173 : decode cX9_brackets 173 = .ok (.ireturn, 1) := by decide +kernel
set_option maxRecDepth 20000 in
theorem ggX9_order_X9_refuse : GoodIn wsX9_order wsX9_refuse := goodIn_r _ [9, 2, 19, 20, 21, 22, 23, 24, 25, 26, 27, 28, 29, 30, 31, 32, 33, 34, 35, 36, 37, 38, 39, 40, 41, 42, 43, 44, 45, 46, 47, 48, 49, 50, 51, 52, 53, 54, 55, 56, 57, 58, 59] (by decide +kernel) (by decide +kernel)
set_option maxRecDepth 20000 in
theorem gX9_order_X9_refuse : GoodIn wsX9_order (wsV RX9 156 RX9 yX9_refuse wsX9_refuse) := goodIn_app (goodIn_of _ (by decide +kernel)) ggX9_order_X9_refuse
set_option maxRecDepth 20000 in
theorem ggX9_order_X9_fillEnds : GoodIn wsX9_order wsX9_fillEnds := goodIn_r _ [13, 14, 15, 16, 17, 8, 18, 19, 20, 21, 22, 23, 24, 25, 26, 27, 28, 29, 30, 31, 32, 33, 34, 35, 36, 37, 38, 39, 40, 41, 42, 43, 44, 45, 46, 47, 48, 49, 50, 51, 52, 53, 54, 55, 56, 57, 58, 59] (by decide +kernel) (by decide +kernel)
set_option maxRecDepth 20000 in
theorem gX9_order_X9_fillEnds : GoodIn wsX9_order (wsV RX9 296 RX9 yX9_fillEnds wsX9_fillEnds) := goodIn_app (goodIn_of _ (by decide +kernel)) ggX9_order_X9_fillEnds
set_option maxRecDepth 20000 in
theorem ggX9_order_X9_endsOf : GoodIn wsX9_order wsX9_endsOf := goodIn_r _ [18, 14, 19, 20, 21, 22, 23, 24, 25, 26, 27, 28, 29, 30, 31, 32, 33, 34, 35, 36, 37, 38, 39, 40, 41, 42, 43, 44, 45, 46, 47, 48, 49, 50, 51, 52, 53, 54, 55, 56, 57, 58, 59] (by decide +kernel) (by decide +kernel)
set_option maxRecDepth 20000 in
theorem gX9_order_X9_endsOf : GoodIn wsX9_order (wsV RX9 293 RX9 yX9_endsOf wsX9_endsOf) := goodIn_app (goodIn_of _ (by decide +kernel)) ggX9_order_X9_endsOf
theorem dX9_order_0 : decode cX9_order 0 = .ok (.aload_n 0, 1) := by decide +kernel
theorem dX9_order_1 : decode cX9_order 1 = .ok (.iconst 0, 1) := by decide +kernel
theorem dX9_order_2 : decode cX9_order 2 = .ok (.putfield 112, 3) := by decide +kernel
theorem dX9_order_5 : decode cX9_order 5 = .ok (.aload_n 0, 1) := by decide +kernel
theorem dX9_order_6 : decode cX9_order 6 = .ok (.iconst 0, 1) := by decide +kernel
theorem dX9_order_7 : decode cX9_order 7 = .ok (.putfield 115, 3) := by decide +kernel
theorem dX9_order_10 : decode cX9_order 10 = .ok (.iload_n 1, 1) := by decide +kernel
theorem dX9_order_11 : decode cX9_order 11 = .ok (.ifCond .lt 8, 3) := by decide +kernel
theorem dX9_order_14 : decode cX9_order 14 = .ok (.iload_n 1, 1) := by decide +kernel
theorem dX9_order_15 : decode cX9_order 15 = .ok (.iconst 4, 1) := by decide +kernel
theorem dX9_order_16 : decode cX9_order 16 = .ok (.if_icmp .lt 10, 3) := by decide +kernel
theorem dX9_order_19 : decode cX9_order 19 = .ok (.aload_n 0, 1) := by decide +kernel
theorem dX9_order_20 : decode cX9_order 20 = .ok (.iconst 1, 1) := by decide +kernel
theorem dX9_order_21 : decode cX9_order 21 = .ok (.invokevirtual 156, 3) := by decide +kernel
theorem dX9_order_24 : decode cX9_order 24 = .ok (.i2l, 1) := by decide +kernel
theorem dX9_order_25 : decode cX9_order 25 = .ok (.lreturn, 1) := by decide +kernel
theorem dX9_order_26 : decode cX9_order 26 = .ok (.iload_n 2, 1) := by decide +kernel
theorem dX9_order_27 : decode cX9_order 27 = .ok (.ifCond .lt 15, 3) := by decide +kernel
theorem dX9_order_30 : decode cX9_order 30 = .ok (.iload_n 2, 1) := by decide +kernel
theorem dX9_order_31 : decode cX9_order 31 = .ok (.bipush 60, 2) := by decide +kernel
theorem dX9_order_33 : decode cX9_order 33 = .ok (.if_icmp .gt 9, 3) := by decide +kernel
theorem dX9_order_36 : decode cX9_order 36 = .ok (.iload_n 2, 1) := by decide +kernel
theorem dX9_order_37 : decode cX9_order 37 = .ok (.iconst 2, 1) := by decide +kernel
theorem dX9_order_38 : decode cX9_order 38 = .ok (.irem, 1) := by decide +kernel
theorem dX9_order_39 : decode cX9_order 39 = .ok (.ifCond .eq 10, 3) := by decide +kernel
theorem dX9_order_42 : decode cX9_order 42 = .ok (.aload_n 0, 1) := by decide +kernel
theorem dX9_order_43 : decode cX9_order 43 = .ok (.iconst 2, 1) := by decide +kernel
theorem dX9_order_44 : decode cX9_order 44 = .ok (.invokevirtual 156, 3) := by decide +kernel
theorem dX9_order_47 : decode cX9_order 47 = .ok (.i2l, 1) := by decide +kernel
theorem dX9_order_48 : decode cX9_order 48 = .ok (.lreturn, 1) := by decide +kernel
theorem dX9_order_49 : decode cX9_order 49 = .ok (.aload_n 0, 1) := by decide +kernel
theorem dX9_order_50 : decode cX9_order 50 = .ok (.getfield 13, 3) := by decide +kernel
theorem dX9_order_53 : decode cX9_order 53 = .ok (.iload_n 1, 1) := by decide +kernel
theorem dX9_order_54 : decode cX9_order 54 = .ok (.iaload, 1) := by decide +kernel
theorem dX9_order_55 : decode cX9_order 55 = .ok (.ifCond .ge 10, 3) := by decide +kernel
theorem dX9_order_58 : decode cX9_order 58 = .ok (.aload_n 0, 1) := by decide +kernel
theorem dX9_order_59 : decode cX9_order 59 = .ok (.iconst 3, 1) := by decide +kernel
theorem dX9_order_60 : decode cX9_order 60 = .ok (.invokevirtual 156, 3) := by decide +kernel
theorem dX9_order_63 : decode cX9_order 63 = .ok (.i2l, 1) := by decide +kernel
theorem dX9_order_64 : decode cX9_order 64 = .ok (.lreturn, 1) := by decide +kernel
theorem dX9_order_65 : decode cX9_order 65 = .ok (.iload_n 2, 1) := by decide +kernel
theorem dX9_order_66 : decode cX9_order 66 = .ok (.aload_n 0, 1) := by decide +kernel
theorem dX9_order_67 : decode cX9_order 67 = .ok (.getfield 13, 3) := by decide +kernel
theorem dX9_order_70 : decode cX9_order 70 = .ok (.iload_n 1, 1) := by decide +kernel
theorem dX9_order_71 : decode cX9_order 71 = .ok (.iaload, 1) := by decide +kernel
theorem dX9_order_72 : decode cX9_order 72 = .ok (.if_icmp .le 10, 3) := by decide +kernel
theorem dX9_order_75 : decode cX9_order 75 = .ok (.aload_n 0, 1) := by decide +kernel
theorem dX9_order_76 : decode cX9_order 76 = .ok (.iconst 4, 1) := by decide +kernel
theorem dX9_order_77 : decode cX9_order 77 = .ok (.invokevirtual 156, 3) := by decide +kernel
theorem dX9_order_80 : decode cX9_order 80 = .ok (.i2l, 1) := by decide +kernel
theorem dX9_order_81 : decode cX9_order 81 = .ok (.lreturn, 1) := by decide +kernel
theorem dX9_order_82 : decode cX9_order 82 = .ok (.aload_n 0, 1) := by decide +kernel
theorem dX9_order_83 : decode cX9_order 83 = .ok (.iload_n 2, 1) := by decide +kernel
theorem dX9_order_84 : decode cX9_order 84 = .ok (.invokevirtual 296, 3) := by decide +kernel
theorem dX9_order_87 : decode cX9_order 87 = .ok (.lconst 0, 1) := by decide +kernel
theorem dX9_order_88 : decode cX9_order 88 = .ok (.lstore_n 3, 1) := by decide +kernel
theorem dX9_order_89 : decode cX9_order 89 = .ok (.iconst 0, 1) := by decide +kernel
theorem dX9_order_90 : decode cX9_order 90 = .ok (.istore 5, 2) := by decide +kernel
theorem dX9_order_92 : decode cX9_order 92 = .ok (.iconst 0, 1) := by decide +kernel
theorem dX9_order_93 : decode cX9_order 93 = .ok (.istore 6, 2) := by decide +kernel
theorem dX9_order_95 : decode cX9_order 95 = .ok (.iload 6, 2) := by decide +kernel
theorem dX9_order_97 : decode cX9_order 97 = .ok (.iload_n 2, 1) := by decide +kernel
theorem dX9_order_98 : decode cX9_order 98 = .ok (.if_icmp .ge 93, 3) := by decide +kernel
theorem dX9_order_101 : decode cX9_order 101 = .ok (.aload_n 0, 1) := by decide +kernel
theorem dX9_order_102 : decode cX9_order 102 = .ok (.getfield 16, 3) := by decide +kernel
theorem dX9_order_105 : decode cX9_order 105 = .ok (.bipush 64, 2) := by decide +kernel
theorem dX9_order_107 : decode cX9_order 107 = .ok (.iload_n 1, 1) := by decide +kernel
theorem dX9_order_108 : decode cX9_order 108 = .ok (.imul, 1) := by decide +kernel
theorem dX9_order_109 : decode cX9_order 109 = .ok (.iload 6, 2) := by decide +kernel
theorem dX9_order_111 : decode cX9_order 111 = .ok (.iadd, 1) := by decide +kernel
theorem dX9_order_112 : decode cX9_order 112 = .ok (.iaload, 1) := by decide +kernel
theorem dX9_order_113 : decode cX9_order 113 = .ok (.istore 7, 2) := by decide +kernel
theorem dX9_order_115 : decode cX9_order 115 = .ok (.iload 7, 2) := by decide +kernel
theorem dX9_order_117 : decode cX9_order 117 = .ok (.ifCond .lt 9, 3) := by decide +kernel
theorem dX9_order_120 : decode cX9_order 120 = .ok (.iload 7, 2) := by decide +kernel
theorem dX9_order_122 : decode cX9_order 122 = .ok (.iconst 1, 1) := by decide +kernel
theorem dX9_order_123 : decode cX9_order 123 = .ok (.if_icmp .le 11, 3) := by decide +kernel
theorem dX9_order_126 : decode cX9_order 126 = .ok (.aload_n 0, 1) := by decide +kernel
theorem dX9_order_127 : decode cX9_order 127 = .ok (.bipush 8, 2) := by decide +kernel
theorem dX9_order_129 : decode cX9_order 129 = .ok (.invokevirtual 156, 3) := by decide +kernel
theorem dX9_order_132 : decode cX9_order 132 = .ok (.i2l, 1) := by decide +kernel
theorem dX9_order_133 : decode cX9_order 133 = .ok (.lreturn, 1) := by decide +kernel
theorem dX9_order_134 : decode cX9_order 134 = .ok (.iload 7, 2) := by decide +kernel
theorem dX9_order_136 : decode cX9_order 136 = .ok (.iconst 1, 1) := by decide +kernel
theorem dX9_order_137 : decode cX9_order 137 = .ok (.if_icmp .ne 20, 3) := by decide +kernel
theorem dX9_order_140 : decode cX9_order 140 = .ok (.lload_n 3, 1) := by decide +kernel
theorem dX9_order_141 : decode cX9_order 141 = .ok (.aload_n 0, 1) := by decide +kernel
theorem dX9_order_142 : decode cX9_order 142 = .ok (.iload_n 2, 1) := by decide +kernel
theorem dX9_order_143 : decode cX9_order 143 = .ok (.iconst 1, 1) := by decide +kernel
theorem dX9_order_144 : decode cX9_order 144 = .ok (.isub, 1) := by decide +kernel
theorem dX9_order_145 : decode cX9_order 145 = .ok (.iload 6, 2) := by decide +kernel
theorem dX9_order_147 : decode cX9_order 147 = .ok (.isub, 1) := by decide +kernel
theorem dX9_order_148 : decode cX9_order 148 = .ok (.iload 5, 2) := by decide +kernel
theorem dX9_order_150 : decode cX9_order 150 = .ok (.iconst 1, 1) := by decide +kernel
theorem dX9_order_151 : decode cX9_order 151 = .ok (.iadd, 1) := by decide +kernel
theorem dX9_order_152 : decode cX9_order 152 = .ok (.invokevirtual 293, 3) := by decide +kernel
theorem dX9_order_155 : decode cX9_order 155 = .ok (.ladd, 1) := by decide +kernel
theorem dX9_order_156 : decode cX9_order 156 = .ok (.lstore_n 3, 1) := by decide +kernel
theorem dX9_order_157 : decode cX9_order 157 = .ok (.iload 5, 2) := by decide +kernel
theorem dX9_order_159 : decode cX9_order 159 = .ok (.iload 7, 2) := by decide +kernel
theorem dX9_order_161 : decode cX9_order 161 = .ok (.ifCond .ne 7, 3) := by decide +kernel
theorem dX9_order_164 : decode cX9_order 164 = .ok (.iconst 1, 1) := by decide +kernel
theorem dX9_order_165 : decode cX9_order 165 = .ok (.goto 4, 3) := by decide +kernel
theorem dX9_order_168 : decode cX9_order 168 = .ok (.iconst (-1), 1) := by decide +kernel
theorem dX9_order_169 : decode cX9_order 169 = .ok (.iadd, 1) := by decide +kernel
theorem dX9_order_170 : decode cX9_order 170 = .ok (.istore 5, 2) := by decide +kernel
theorem dX9_order_172 : decode cX9_order 172 = .ok (.iload 5, 2) := by decide +kernel
theorem dX9_order_174 : decode cX9_order 174 = .ok (.ifCond .ge 11, 3) := by decide +kernel
theorem dX9_order_177 : decode cX9_order 177 = .ok (.aload_n 0, 1) := by decide +kernel
theorem dX9_order_178 : decode cX9_order 178 = .ok (.bipush 8, 2) := by decide +kernel
theorem dX9_order_180 : decode cX9_order 180 = .ok (.invokevirtual 156, 3) := by decide +kernel
theorem dX9_order_183 : decode cX9_order 183 = .ok (.i2l, 1) := by decide +kernel
theorem dX9_order_184 : decode cX9_order 184 = .ok (.lreturn, 1) := by decide +kernel
theorem dX9_order_185 : decode cX9_order 185 = .ok (.iinc 6 1, 3) := by decide +kernel
theorem dX9_order_188 : decode cX9_order 188 = .ok (.goto (-93), 3) := by decide +kernel
theorem dX9_order_191 : decode cX9_order 191 = .ok (.iload 5, 2) := by decide +kernel
theorem dX9_order_193 : decode cX9_order 193 = .ok (.ifCond .ne 7, 3) := by decide +kernel
theorem dX9_order_196 : decode cX9_order 196 = .ok (.lload_n 3, 1) := by decide +kernel
theorem dX9_order_197 : decode cX9_order 197 = .ok (.goto 10, 3) := by decide +kernel
theorem dX9_order_200 : decode cX9_order 200 = .ok (.aload_n 0, 1) := by decide +kernel
theorem dX9_order_201 : decode cX9_order 201 = .ok (.bipush 8, 2) := by decide +kernel
theorem dX9_order_203 : decode cX9_order 203 = .ok (.invokevirtual 156, 3) := by decide +kernel
theorem dX9_order_206 : decode cX9_order 206 = .ok (.i2l, 1) := by decide +kernel
theorem dX9_order_207 : decode cX9_order 207 = .ok (.lreturn, 1) := by decide +kernel
theorem dX9_isBetween_0 : decode cX9_isBetween 0 = .ok (.aload_n 0, 1) := by decide +kernel
theorem dX9_isBetween_1 : decode cX9_isBetween 1 = .ok (.getfield 164, 3) := by decide +kernel
theorem dX9_isBetween_4 : decode cX9_isBetween 4 = .ok (.ifCond .lt 36, 3) := by decide +kernel
theorem dX9_isBetween_7 : decode cX9_isBetween 7 = .ok (.aload_n 0, 1) := by decide +kernel
theorem dX9_isBetween_8 : decode cX9_isBetween 8 = .ok (.getfield 164, 3) := by decide +kernel
theorem dX9_isBetween_11 : decode cX9_isBetween 11 = .ok (.aload_n 0, 1) := by decide +kernel
theorem dX9_isBetween_12 : decode cX9_isBetween 12 = .ok (.getfield 23, 3) := by decide +kernel
theorem dX9_isBetween_15 : decode cX9_isBetween 15 = .ok (.if_icmp .gt 25, 3) := by decide +kernel
theorem dX9_isBetween_18 : decode cX9_isBetween 18 = .ok (.aload_n 0, 1) := by decide +kernel
theorem dX9_isBetween_19 : decode cX9_isBetween 19 = .ok (.getfield 170, 3) := by decide +kernel
theorem dX9_isBetween_22 : decode cX9_isBetween 22 = .ok (.ifCond .lt 18, 3) := by decide +kernel
theorem dX9_isBetween_25 : decode cX9_isBetween 25 = .ok (.aload_n 0, 1) := by decide +kernel
theorem dX9_isBetween_26 : decode cX9_isBetween 26 = .ok (.getfield 170, 3) := by decide +kernel
theorem dX9_isBetween_29 : decode cX9_isBetween 29 = .ok (.aload_n 0, 1) := by decide +kernel
theorem dX9_isBetween_30 : decode cX9_isBetween 30 = .ok (.getfield 23, 3) := by decide +kernel
theorem dX9_isBetween_33 : decode cX9_isBetween 33 = .ok (.if_icmp .gt 7, 3) := by decide +kernel
theorem dX9_isBetween_36 : decode cX9_isBetween 36 = .ok (.iconst 1, 1) := by decide +kernel
theorem dX9_isBetween_37 : decode cX9_isBetween 37 = .ok (.goto 4, 3) := by decide +kernel
theorem dX9_isBetween_40 : decode cX9_isBetween 40 = .ok (.iconst 0, 1) := by decide +kernel
theorem dX9_isBetween_41 : decode cX9_isBetween 41 = .ok (.ireturn, 1) := by decide +kernel
theorem dX9_multiply_0 : decode cX9_multiply 0 = .ok (.aload_n 0, 1) := by decide +kernel
theorem dX9_multiply_1 : decode cX9_multiply 1 = .ok (.getfield 23, 3) := by decide +kernel
theorem dX9_multiply_4 : decode cX9_multiply 4 = .ok (.iconst 1, 1) := by decide +kernel
theorem dX9_multiply_5 : decode cX9_multiply 5 = .ok (.iadd, 1) := by decide +kernel
theorem dX9_multiply_6 : decode cX9_multiply 6 = .ok (.istore 4, 2) := by decide +kernel
theorem dX9_multiply_8 : decode cX9_multiply 8 = .ok (.iconst 0, 1) := by decide +kernel
theorem dX9_multiply_9 : decode cX9_multiply 9 = .ok (.istore 5, 2) := by decide +kernel
theorem dX9_multiply_11 : decode cX9_multiply 11 = .ok (.iload 5, 2) := by decide +kernel
theorem dX9_multiply_13 : decode cX9_multiply 13 = .ok (.iload 4, 2) := by decide +kernel
theorem dX9_multiply_15 : decode cX9_multiply 15 = .ok (.if_icmp .ge 89, 3) := by decide +kernel
theorem dX9_multiply_18 : decode cX9_multiply 18 = .ok (.iconst 0, 1) := by decide +kernel
theorem dX9_multiply_19 : decode cX9_multiply 19 = .ok (.istore 6, 2) := by decide +kernel
theorem dX9_multiply_21 : decode cX9_multiply 21 = .ok (.iload 6, 2) := by decide +kernel
theorem dX9_multiply_23 : decode cX9_multiply 23 = .ok (.iload 4, 2) := by decide +kernel
theorem dX9_multiply_25 : decode cX9_multiply 25 = .ok (.if_icmp .ge 73, 3) := by decide +kernel
theorem dX9_multiply_28 : decode cX9_multiply 28 = .ok (.lconst 0, 1) := by decide +kernel
theorem dX9_multiply_29 : decode cX9_multiply 29 = .ok (.lstore 7, 2) := by decide +kernel
theorem dX9_multiply_31 : decode cX9_multiply 31 = .ok (.iconst 0, 1) := by decide +kernel
theorem dX9_multiply_32 : decode cX9_multiply 32 = .ok (.istore 9, 2) := by decide +kernel
theorem dX9_multiply_34 : decode cX9_multiply 34 = .ok (.iload 9, 2) := by decide +kernel
theorem dX9_multiply_36 : decode cX9_multiply 36 = .ok (.iload 4, 2) := by decide +kernel
theorem dX9_multiply_38 : decode cX9_multiply 38 = .ok (.if_icmp .ge 39, 3) := by decide +kernel
theorem dX9_multiply_41 : decode cX9_multiply 41 = .ok (.lload 7, 2) := by decide +kernel
theorem dX9_multiply_43 : decode cX9_multiply 43 = .ok (.aload_n 1, 1) := by decide +kernel
theorem dX9_multiply_44 : decode cX9_multiply 44 = .ok (.bipush 31, 2) := by decide +kernel
theorem dX9_multiply_46 : decode cX9_multiply 46 = .ok (.iload 5, 2) := by decide +kernel
theorem dX9_multiply_48 : decode cX9_multiply 48 = .ok (.imul, 1) := by decide +kernel
theorem dX9_multiply_49 : decode cX9_multiply 49 = .ok (.iload 9, 2) := by decide +kernel
theorem dX9_multiply_51 : decode cX9_multiply 51 = .ok (.iadd, 1) := by decide +kernel
theorem dX9_multiply_52 : decode cX9_multiply 52 = .ok (.laload, 1) := by decide +kernel
theorem dX9_multiply_53 : decode cX9_multiply 53 = .ok (.aload_n 2, 1) := by decide +kernel
theorem dX9_multiply_54 : decode cX9_multiply 54 = .ok (.bipush 31, 2) := by decide +kernel
theorem dX9_multiply_56 : decode cX9_multiply 56 = .ok (.iload 9, 2) := by decide +kernel
theorem dX9_multiply_58 : decode cX9_multiply 58 = .ok (.imul, 1) := by decide +kernel
theorem dX9_multiply_59 : decode cX9_multiply 59 = .ok (.iload 6, 2) := by decide +kernel
theorem dX9_multiply_61 : decode cX9_multiply 61 = .ok (.iadd, 1) := by decide +kernel
theorem dX9_multiply_62 : decode cX9_multiply 62 = .ok (.laload, 1) := by decide +kernel
theorem dX9_multiply_63 : decode cX9_multiply 63 = .ok (.lmul, 1) := by decide +kernel
theorem dX9_multiply_64 : decode cX9_multiply 64 = .ok (.ladd, 1) := by decide +kernel
theorem dX9_multiply_65 : decode cX9_multiply 65 = .ok (.ldc2_w 300, 3) := by decide +kernel
theorem dX9_multiply_68 : decode cX9_multiply 68 = .ok (.lrem, 1) := by decide +kernel
theorem dX9_multiply_69 : decode cX9_multiply 69 = .ok (.lstore 7, 2) := by decide +kernel
theorem dX9_multiply_71 : decode cX9_multiply 71 = .ok (.iinc 9 1, 3) := by decide +kernel
theorem dX9_multiply_74 : decode cX9_multiply 74 = .ok (.goto (-40), 3) := by decide +kernel
theorem dX9_multiply_77 : decode cX9_multiply 77 = .ok (.aload_n 0, 1) := by decide +kernel
theorem dX9_multiply_78 : decode cX9_multiply 78 = .ok (.getfield 97, 3) := by decide +kernel
theorem dX9_multiply_81 : decode cX9_multiply 81 = .ok (.bipush 31, 2) := by decide +kernel
theorem dX9_multiply_83 : decode cX9_multiply 83 = .ok (.iload 5, 2) := by decide +kernel
theorem dX9_multiply_85 : decode cX9_multiply 85 = .ok (.imul, 1) := by decide +kernel
theorem dX9_multiply_86 : decode cX9_multiply 86 = .ok (.iload 6, 2) := by decide +kernel
theorem dX9_multiply_88 : decode cX9_multiply 88 = .ok (.iadd, 1) := by decide +kernel
theorem dX9_multiply_89 : decode cX9_multiply 89 = .ok (.lload 7, 2) := by decide +kernel
theorem dX9_multiply_91 : decode cX9_multiply 91 = .ok (.lastore, 1) := by decide +kernel
theorem dX9_multiply_92 : decode cX9_multiply 92 = .ok (.iinc 6 1, 3) := by decide +kernel
theorem dX9_multiply_95 : decode cX9_multiply 95 = .ok (.goto (-74), 3) := by decide +kernel
theorem dX9_multiply_98 : decode cX9_multiply 98 = .ok (.iinc 5 1, 3) := by decide +kernel
theorem dX9_multiply_101 : decode cX9_multiply 101 = .ok (.goto (-90), 3) := by decide +kernel
theorem dX9_multiply_104 : decode cX9_multiply 104 = .ok (.iconst 0, 1) := by decide +kernel
theorem dX9_multiply_105 : decode cX9_multiply 105 = .ok (.istore 5, 2) := by decide +kernel
theorem dX9_multiply_107 : decode cX9_multiply 107 = .ok (.iload 5, 2) := by decide +kernel
theorem dX9_multiply_109 : decode cX9_multiply 109 = .ok (.sipush 961, 3) := by decide +kernel
theorem dX9_multiply_112 : decode cX9_multiply 112 = .ok (.if_icmp .ge 20, 3) := by decide +kernel
theorem dX9_multiply_115 : decode cX9_multiply 115 = .ok (.aload_n 3, 1) := by decide +kernel
theorem dX9_multiply_116 : decode cX9_multiply 116 = .ok (.iload 5, 2) := by decide +kernel
theorem dX9_multiply_118 : decode cX9_multiply 118 = .ok (.aload_n 0, 1) := by decide +kernel
theorem dX9_multiply_119 : decode cX9_multiply 119 = .ok (.getfield 97, 3) := by decide +kernel
theorem dX9_multiply_122 : decode cX9_multiply 122 = .ok (.iload 5, 2) := by decide +kernel
theorem dX9_multiply_124 : decode cX9_multiply 124 = .ok (.laload, 1) := by decide +kernel
theorem dX9_multiply_125 : decode cX9_multiply 125 = .ok (.lastore, 1) := by decide +kernel
theorem dX9_multiply_126 : decode cX9_multiply 126 = .ok (.iinc 5 1, 3) := by decide +kernel
theorem dX9_multiply_129 : decode cX9_multiply 129 = .ok (.goto (-22), 3) := by decide +kernel
theorem dX9_multiply_132 : decode cX9_multiply 132 = .ok (.return_, 1) := by decide +kernel
theorem dX9_fillLevels_0 : decode cX9_fillLevels 0 = .ok (.iconst 0, 1) := by decide +kernel
theorem dX9_fillLevels_1 : decode cX9_fillLevels 1 = .ok (.istore_n 1, 1) := by decide +kernel
theorem dX9_fillLevels_2 : decode cX9_fillLevels 2 = .ok (.iload_n 1, 1) := by decide +kernel
theorem dX9_fillLevels_3 : decode cX9_fillLevels 3 = .ok (.sipush 961, 3) := by decide +kernel
theorem dX9_fillLevels_6 : decode cX9_fillLevels 6 = .ok (.if_icmp .ge 34, 3) := by decide +kernel
theorem dX9_fillLevels_9 : decode cX9_fillLevels 9 = .ok (.aload_n 0, 1) := by decide +kernel
theorem dX9_fillLevels_10 : decode cX9_fillLevels 10 = .ok (.getfield 94, 3) := by decide +kernel
theorem dX9_fillLevels_13 : decode cX9_fillLevels 13 = .ok (.iload_n 1, 1) := by decide +kernel
theorem dX9_fillLevels_14 : decode cX9_fillLevels 14 = .ok (.lconst 0, 1) := by decide +kernel
theorem dX9_fillLevels_15 : decode cX9_fillLevels 15 = .ok (.lastore, 1) := by decide +kernel
theorem dX9_fillLevels_16 : decode cX9_fillLevels 16 = .ok (.aload_n 0, 1) := by decide +kernel
theorem dX9_fillLevels_17 : decode cX9_fillLevels 17 = .ok (.getfield 91, 3) := by decide +kernel
theorem dX9_fillLevels_20 : decode cX9_fillLevels 20 = .ok (.iload_n 1, 1) := by decide +kernel
theorem dX9_fillLevels_21 : decode cX9_fillLevels 21 = .ok (.iload_n 1, 1) := by decide +kernel
theorem dX9_fillLevels_22 : decode cX9_fillLevels 22 = .ok (.bipush 32, 2) := by decide +kernel
theorem dX9_fillLevels_24 : decode cX9_fillLevels 24 = .ok (.irem, 1) := by decide +kernel
theorem dX9_fillLevels_25 : decode cX9_fillLevels 25 = .ok (.ifCond .ne 7, 3) := by decide +kernel
theorem dX9_fillLevels_28 : decode cX9_fillLevels 28 = .ok (.lconst 1, 1) := by decide +kernel
theorem dX9_fillLevels_29 : decode cX9_fillLevels 29 = .ok (.goto 4, 3) := by decide +kernel
theorem dX9_fillLevels_32 : decode cX9_fillLevels 32 = .ok (.lconst 0, 1) := by decide +kernel
theorem dX9_fillLevels_33 : decode cX9_fillLevels 33 = .ok (.lastore, 1) := by decide +kernel
theorem dX9_fillLevels_34 : decode cX9_fillLevels 34 = .ok (.iinc 1 1, 3) := by decide +kernel
theorem dX9_fillLevels_37 : decode cX9_fillLevels 37 = .ok (.goto (-35), 3) := by decide +kernel
theorem dX9_fillLevels_40 : decode cX9_fillLevels 40 = .ok (.iconst 0, 1) := by decide +kernel
theorem dX9_fillLevels_41 : decode cX9_fillLevels 41 = .ok (.istore_n 1, 1) := by decide +kernel
theorem dX9_fillLevels_42 : decode cX9_fillLevels 42 = .ok (.iload_n 1, 1) := by decide +kernel
theorem dX9_fillLevels_43 : decode cX9_fillLevels 43 = .ok (.aload_n 0, 1) := by decide +kernel
theorem dX9_fillLevels_44 : decode cX9_fillLevels 44 = .ok (.getfield 23, 3) := by decide +kernel
theorem dX9_fillLevels_47 : decode cX9_fillLevels 47 = .ok (.if_icmp .gt 73, 3) := by decide +kernel
theorem dX9_fillLevels_50 : decode cX9_fillLevels 50 = .ok (.iconst 0, 1) := by decide +kernel
theorem dX9_fillLevels_51 : decode cX9_fillLevels 51 = .ok (.istore_n 2, 1) := by decide +kernel
theorem dX9_fillLevels_52 : decode cX9_fillLevels 52 = .ok (.iload_n 2, 1) := by decide +kernel
theorem dX9_fillLevels_53 : decode cX9_fillLevels 53 = .ok (.aload_n 0, 1) := by decide +kernel
theorem dX9_fillLevels_54 : decode cX9_fillLevels 54 = .ok (.getfield 19, 3) := by decide +kernel
theorem dX9_fillLevels_57 : decode cX9_fillLevels 57 = .ok (.if_icmp .ge 57, 3) := by decide +kernel
theorem dX9_fillLevels_60 : decode cX9_fillLevels 60 = .ok (.iload_n 1, 1) := by decide +kernel
theorem dX9_fillLevels_61 : decode cX9_fillLevels 61 = .ok (.aload_n 0, 1) := by decide +kernel
theorem dX9_fillLevels_62 : decode cX9_fillLevels 62 = .ok (.getfield 32, 3) := by decide +kernel
theorem dX9_fillLevels_65 : decode cX9_fillLevels 65 = .ok (.iload_n 2, 1) := by decide +kernel
theorem dX9_fillLevels_66 : decode cX9_fillLevels 66 = .ok (.iaload, 1) := by decide +kernel
theorem dX9_fillLevels_67 : decode cX9_fillLevels 67 = .ok (.iadd, 1) := by decide +kernel
theorem dX9_fillLevels_68 : decode cX9_fillLevels 68 = .ok (.ifCond .lt 40, 3) := by decide +kernel
theorem dX9_fillLevels_71 : decode cX9_fillLevels 71 = .ok (.iload_n 1, 1) := by decide +kernel
theorem dX9_fillLevels_72 : decode cX9_fillLevels 72 = .ok (.aload_n 0, 1) := by decide +kernel
theorem dX9_fillLevels_73 : decode cX9_fillLevels 73 = .ok (.getfield 32, 3) := by decide +kernel
theorem dX9_fillLevels_76 : decode cX9_fillLevels 76 = .ok (.iload_n 2, 1) := by decide +kernel
theorem dX9_fillLevels_77 : decode cX9_fillLevels 77 = .ok (.iaload, 1) := by decide +kernel
theorem dX9_fillLevels_78 : decode cX9_fillLevels 78 = .ok (.iadd, 1) := by decide +kernel
theorem dX9_fillLevels_79 : decode cX9_fillLevels 79 = .ok (.aload_n 0, 1) := by decide +kernel
theorem dX9_fillLevels_80 : decode cX9_fillLevels 80 = .ok (.getfield 23, 3) := by decide +kernel
theorem dX9_fillLevels_83 : decode cX9_fillLevels 83 = .ok (.if_icmp .gt 25, 3) := by decide +kernel
theorem dX9_fillLevels_86 : decode cX9_fillLevels 86 = .ok (.aload_n 0, 1) := by decide +kernel
theorem dX9_fillLevels_87 : decode cX9_fillLevels 87 = .ok (.getfield 94, 3) := by decide +kernel
theorem dX9_fillLevels_90 : decode cX9_fillLevels 90 = .ok (.bipush 31, 2) := by decide +kernel
theorem dX9_fillLevels_92 : decode cX9_fillLevels 92 = .ok (.iload_n 1, 1) := by decide +kernel
theorem dX9_fillLevels_93 : decode cX9_fillLevels 93 = .ok (.imul, 1) := by decide +kernel
theorem dX9_fillLevels_94 : decode cX9_fillLevels 94 = .ok (.iload_n 1, 1) := by decide +kernel
theorem dX9_fillLevels_95 : decode cX9_fillLevels 95 = .ok (.iadd, 1) := by decide +kernel
theorem dX9_fillLevels_96 : decode cX9_fillLevels 96 = .ok (.aload_n 0, 1) := by decide +kernel
theorem dX9_fillLevels_97 : decode cX9_fillLevels 97 = .ok (.getfield 32, 3) := by decide +kernel
theorem dX9_fillLevels_100 : decode cX9_fillLevels 100 = .ok (.iload_n 2, 1) := by decide +kernel
theorem dX9_fillLevels_101 : decode cX9_fillLevels 101 = .ok (.iaload, 1) := by decide +kernel
theorem dX9_fillLevels_102 : decode cX9_fillLevels 102 = .ok (.iadd, 1) := by decide +kernel
theorem dX9_fillLevels_103 : decode cX9_fillLevels 103 = .ok (.dup2, 1) := by decide +kernel
theorem dX9_fillLevels_104 : decode cX9_fillLevels 104 = .ok (.laload, 1) := by decide +kernel
theorem dX9_fillLevels_105 : decode cX9_fillLevels 105 = .ok (.lconst 1, 1) := by decide +kernel
theorem dX9_fillLevels_106 : decode cX9_fillLevels 106 = .ok (.ladd, 1) := by decide +kernel
theorem dX9_fillLevels_107 : decode cX9_fillLevels 107 = .ok (.lastore, 1) := by decide +kernel
theorem dX9_fillLevels_108 : decode cX9_fillLevels 108 = .ok (.iinc 2 1, 3) := by decide +kernel
theorem dX9_fillLevels_111 : decode cX9_fillLevels 111 = .ok (.goto (-59), 3) := by decide +kernel
theorem dX9_fillLevels_114 : decode cX9_fillLevels 114 = .ok (.iinc 1 1, 3) := by decide +kernel
theorem dX9_fillLevels_117 : decode cX9_fillLevels 117 = .ok (.goto (-75), 3) := by decide +kernel
theorem dX9_fillLevels_120 : decode cX9_fillLevels 120 = .ok (.return_, 1) := by decide +kernel
set_option maxRecDepth 20000 in
theorem ggX9_far_X9_refuse : GoodIn wsX9_far wsX9_refuse := goodIn_r _ [11, 2, 29, 30, 31, 32, 33, 34, 35, 36, 37, 38, 39, 40, 41, 42, 43, 44, 45, 46, 47, 48, 49, 50, 51, 52, 53, 54, 55, 56, 57, 58, 59, 60, 61, 62, 63, 64, 65, 66, 67, 68, 69] (by decide +kernel) (by decide +kernel)
set_option maxRecDepth 20000 in
theorem gX9_far_X9_refuse : GoodIn wsX9_far (wsV RX9 156 RX9 yX9_refuse wsX9_refuse) := goodIn_app (goodIn_of _ (by decide +kernel)) ggX9_far_X9_refuse
set_option maxRecDepth 20000 in
theorem ggX9_far_X9_isBetween : GoodIn wsX9_far wsX9_isBetween := goodIn_r _ [15, 5, 16, 6, 29, 30, 31, 32, 33, 34, 35, 36, 37, 38, 39, 40, 41, 42, 43, 44, 45, 46, 47, 48, 49, 50, 51, 52, 53, 54, 55, 56, 57, 58, 59, 60, 61, 62, 63, 64, 65, 66, 67, 68, 69] (by decide +kernel) (by decide +kernel)
set_option maxRecDepth 20000 in
theorem gX9_far_X9_isBetween : GoodIn wsX9_far (wsV RX9 302 RX9 yX9_isBetween wsX9_isBetween) := goodIn_app (goodIn_of _ (by decide +kernel)) ggX9_far_X9_isBetween
set_option maxRecDepth 20000 in
theorem ggX9_far_X9_fillLevels : GoodIn wsX9_far wsX9_fillLevels := goodIn_r _ [20, 4, 3, 16, 21, 22, 29, 30, 31, 32, 33, 34, 35, 36, 37, 38, 39, 40, 41, 42, 43, 44, 45, 46, 47, 48, 49, 50, 51, 52, 53, 54, 55, 56, 57, 58, 59, 60, 61, 62, 63, 64, 65, 66, 67, 68, 69] (by decide +kernel) (by decide +kernel)
set_option maxRecDepth 20000 in
theorem gX9_far_X9_fillLevels : GoodIn wsX9_far (wsV RX9 305 RX9 yX9_fillLevels wsX9_fillLevels) := goodIn_app (goodIn_of _ (by decide +kernel)) ggX9_far_X9_fillLevels
set_option maxRecDepth 20000 in
theorem ggX9_far_X9_multiply : GoodIn wsX9_far wsX9_multiply := goodIn_r _ [26, 16, 27, 28, 29, 30, 31, 32, 33, 34, 35, 36, 37, 38, 39, 40, 41, 42, 43, 44, 45, 46, 47, 48, 49, 50, 51, 52, 53, 54, 55, 56, 57, 58, 59, 60, 61, 62, 63, 64, 65, 66, 67, 68, 69] (by decide +kernel) (by decide +kernel)
set_option maxRecDepth 20000 in
theorem gX9_far_X9_multiply : GoodIn wsX9_far (wsV RX9 308 RX9 yX9_multiply wsX9_multiply) := goodIn_app (goodIn_of _ (by decide +kernel)) ggX9_far_X9_multiply
theorem dX9_far_0 : decode cX9_far 0 = .ok (.aload_n 0, 1) := by decide +kernel
theorem dX9_far_1 : decode cX9_far 1 = .ok (.iconst 0, 1) := by decide +kernel
theorem dX9_far_2 : decode cX9_far 2 = .ok (.putfield 112, 3) := by decide +kernel
theorem dX9_far_5 : decode cX9_far 5 = .ok (.aload_n 0, 1) := by decide +kernel
theorem dX9_far_6 : decode cX9_far 6 = .ok (.iconst 0, 1) := by decide +kernel
theorem dX9_far_7 : decode cX9_far 7 = .ok (.putfield 115, 3) := by decide +kernel
theorem dX9_far_10 : decode cX9_far 10 = .ok (.lload_n 1, 1) := by decide +kernel
theorem dX9_far_11 : decode cX9_far 11 = .ok (.lconst 0, 1) := by decide +kernel
theorem dX9_far_12 : decode cX9_far 12 = .ok (.lcmp, 1) := by decide +kernel
theorem dX9_far_13 : decode cX9_far 13 = .ok (.ifCond .ge 9, 3) := by decide +kernel
theorem dX9_far_16 : decode cX9_far 16 = .ok (.aload_n 0, 1) := by decide +kernel
theorem dX9_far_17 : decode cX9_far 17 = .ok (.iconst 2, 1) := by decide +kernel
theorem dX9_far_18 : decode cX9_far 18 = .ok (.invokevirtual 156, 3) := by decide +kernel
theorem dX9_far_21 : decode cX9_far 21 = .ok (.ireturn, 1) := by decide +kernel
theorem dX9_far_22 : decode cX9_far 22 = .ok (.aload_n 0, 1) := by decide +kernel
theorem dX9_far_23 : decode cX9_far 23 = .ok (.invokevirtual 302, 3) := by decide +kernel
theorem dX9_far_26 : decode cX9_far 26 = .ok (.ifCond .ne 10, 3) := by decide +kernel
theorem dX9_far_29 : decode cX9_far 29 = .ok (.aload_n 0, 1) := by decide +kernel
theorem dX9_far_30 : decode cX9_far 30 = .ok (.bipush 7, 2) := by decide +kernel
theorem dX9_far_32 : decode cX9_far 32 = .ok (.invokevirtual 156, 3) := by decide +kernel
theorem dX9_far_35 : decode cX9_far 35 = .ok (.ireturn, 1) := by decide +kernel
theorem dX9_far_36 : decode cX9_far 36 = .ok (.aload_n 0, 1) := by decide +kernel
theorem dX9_far_37 : decode cX9_far 37 = .ok (.invokevirtual 305, 3) := by decide +kernel
theorem dX9_far_40 : decode cX9_far 40 = .ok (.lload_n 1, 1) := by decide +kernel
theorem dX9_far_41 : decode cX9_far 41 = .ok (.lstore_n 3, 1) := by decide +kernel
theorem dX9_far_42 : decode cX9_far 42 = .ok (.lload_n 3, 1) := by decide +kernel
theorem dX9_far_43 : decode cX9_far 43 = .ok (.lconst 0, 1) := by decide +kernel
theorem dX9_far_44 : decode cX9_far 44 = .ok (.lcmp, 1) := by decide +kernel
theorem dX9_far_45 : decode cX9_far 45 = .ok (.ifCond .le 50, 3) := by decide +kernel
theorem dX9_far_48 : decode cX9_far 48 = .ok (.lload_n 3, 1) := by decide +kernel
theorem dX9_far_49 : decode cX9_far 49 = .ok (.lconst 1, 1) := by decide +kernel
theorem dX9_far_50 : decode cX9_far 50 = .ok (.land, 1) := by decide +kernel
theorem dX9_far_51 : decode cX9_far 51 = .ok (.lconst 1, 1) := by decide +kernel
theorem dX9_far_52 : decode cX9_far 52 = .ok (.lcmp, 1) := by decide +kernel
theorem dX9_far_53 : decode cX9_far 53 = .ok (.ifCond .ne 19, 3) := by decide +kernel
theorem dX9_far_56 : decode cX9_far 56 = .ok (.aload_n 0, 1) := by decide +kernel
theorem dX9_far_57 : decode cX9_far 57 = .ok (.aload_n 0, 1) := by decide +kernel
theorem dX9_far_58 : decode cX9_far 58 = .ok (.getfield 91, 3) := by decide +kernel
theorem dX9_far_61 : decode cX9_far 61 = .ok (.aload_n 0, 1) := by decide +kernel
theorem dX9_far_62 : decode cX9_far 62 = .ok (.getfield 94, 3) := by decide +kernel
theorem dX9_far_65 : decode cX9_far 65 = .ok (.aload_n 0, 1) := by decide +kernel
theorem dX9_far_66 : decode cX9_far 66 = .ok (.getfield 91, 3) := by decide +kernel
theorem dX9_far_69 : decode cX9_far 69 = .ok (.invokevirtual 308, 3) := by decide +kernel
theorem dX9_far_72 : decode cX9_far 72 = .ok (.aload_n 0, 1) := by decide +kernel
theorem dX9_far_73 : decode cX9_far 73 = .ok (.aload_n 0, 1) := by decide +kernel
theorem dX9_far_74 : decode cX9_far 74 = .ok (.getfield 94, 3) := by decide +kernel
theorem dX9_far_77 : decode cX9_far 77 = .ok (.aload_n 0, 1) := by decide +kernel
theorem dX9_far_78 : decode cX9_far 78 = .ok (.getfield 94, 3) := by decide +kernel
theorem dX9_far_81 : decode cX9_far 81 = .ok (.aload_n 0, 1) := by decide +kernel
theorem dX9_far_82 : decode cX9_far 82 = .ok (.getfield 94, 3) := by decide +kernel
theorem dX9_far_85 : decode cX9_far 85 = .ok (.invokevirtual 308, 3) := by decide +kernel
theorem dX9_far_88 : decode cX9_far 88 = .ok (.lload_n 3, 1) := by decide +kernel
theorem dX9_far_89 : decode cX9_far 89 = .ok (.iconst 1, 1) := by decide +kernel
theorem dX9_far_90 : decode cX9_far 90 = .ok (.lshr, 1) := by decide +kernel
theorem dX9_far_91 : decode cX9_far 91 = .ok (.lstore_n 3, 1) := by decide +kernel
theorem dX9_far_92 : decode cX9_far 92 = .ok (.goto (-50), 3) := by decide +kernel
theorem dX9_far_95 : decode cX9_far 95 = .ok (.aload_n 0, 1) := by decide +kernel
theorem dX9_far_96 : decode cX9_far 96 = .ok (.getfield 91, 3) := by decide +kernel
theorem dX9_far_99 : decode cX9_far 99 = .ok (.bipush 31, 2) := by decide +kernel
theorem dX9_far_101 : decode cX9_far 101 = .ok (.aload_n 0, 1) := by decide +kernel
theorem dX9_far_102 : decode cX9_far 102 = .ok (.getfield 164, 3) := by decide +kernel
theorem dX9_far_105 : decode cX9_far 105 = .ok (.imul, 1) := by decide +kernel
theorem dX9_far_106 : decode cX9_far 106 = .ok (.aload_n 0, 1) := by decide +kernel
theorem dX9_far_107 : decode cX9_far 107 = .ok (.getfield 170, 3) := by decide +kernel
theorem dX9_far_110 : decode cX9_far 110 = .ok (.iadd, 1) := by decide +kernel
theorem dX9_far_111 : decode cX9_far 111 = .ok (.laload, 1) := by decide +kernel
theorem dX9_far_112 : decode cX9_far 112 = .ok (.l2i, 1) := by decide +kernel
theorem dX9_far_113 : decode cX9_far 113 = .ok (.ireturn, 1) := by decide +kernel
set_option maxRecDepth 20000 in
theorem ggX9_fillRow_X9_fillLevels : GoodIn wsX9_fillRow wsX9_fillLevels := goodIn_r _ [13, 7, 14, 5, 15, 16, 17, 18, 19, 20, 21, 22, 23, 24, 25, 26, 27, 28, 29, 30, 31, 32, 33, 34, 35, 36, 37, 38, 39, 40, 41, 42, 43, 44, 45, 46, 47, 48, 49, 50, 51, 52, 53, 54, 55, 56, 57] (by decide +kernel) (by decide +kernel)
set_option maxRecDepth 20000 in
theorem gX9_fillRow_X9_fillLevels : GoodIn wsX9_fillRow (wsV RX9 305 RX9 yX9_fillLevels wsX9_fillLevels) := goodIn_app (goodIn_of _ (by decide +kernel)) ggX9_fillRow_X9_fillLevels
theorem dX9_fillRow_0 : decode cX9_fillRow 0 = .ok (.aload_n 0, 1) := by decide +kernel
theorem dX9_fillRow_1 : decode cX9_fillRow 1 = .ok (.invokevirtual 305, 3) := by decide +kernel
theorem dX9_fillRow_4 : decode cX9_fillRow 4 = .ok (.iconst 0, 1) := by decide +kernel
theorem dX9_fillRow_5 : decode cX9_fillRow 5 = .ok (.istore_n 1, 1) := by decide +kernel
theorem dX9_fillRow_6 : decode cX9_fillRow 6 = .ok (.iload_n 1, 1) := by decide +kernel
theorem dX9_fillRow_7 : decode cX9_fillRow 7 = .ok (.bipush 31, 2) := by decide +kernel
theorem dX9_fillRow_9 : decode cX9_fillRow 9 = .ok (.if_icmp .ge 28, 3) := by decide +kernel
theorem dX9_fillRow_12 : decode cX9_fillRow 12 = .ok (.aload_n 0, 1) := by decide +kernel
theorem dX9_fillRow_13 : decode cX9_fillRow 13 = .ok (.getfield 103, 3) := by decide +kernel
theorem dX9_fillRow_16 : decode cX9_fillRow 16 = .ok (.iload_n 1, 1) := by decide +kernel
theorem dX9_fillRow_17 : decode cX9_fillRow 17 = .ok (.iload_n 1, 1) := by decide +kernel
theorem dX9_fillRow_18 : decode cX9_fillRow 18 = .ok (.aload_n 0, 1) := by decide +kernel
theorem dX9_fillRow_19 : decode cX9_fillRow 19 = .ok (.getfield 164, 3) := by decide +kernel
theorem dX9_fillRow_22 : decode cX9_fillRow 22 = .ok (.if_icmp .ne 7, 3) := by decide +kernel
theorem dX9_fillRow_25 : decode cX9_fillRow 25 = .ok (.lconst 1, 1) := by decide +kernel
theorem dX9_fillRow_26 : decode cX9_fillRow 26 = .ok (.goto 4, 3) := by decide +kernel
theorem dX9_fillRow_29 : decode cX9_fillRow 29 = .ok (.lconst 0, 1) := by decide +kernel
theorem dX9_fillRow_30 : decode cX9_fillRow 30 = .ok (.lastore, 1) := by decide +kernel
theorem dX9_fillRow_31 : decode cX9_fillRow 31 = .ok (.iinc 1 1, 3) := by decide +kernel
theorem dX9_fillRow_34 : decode cX9_fillRow 34 = .ok (.goto (-28), 3) := by decide +kernel
theorem dX9_fillRow_37 : decode cX9_fillRow 37 = .ok (.iconst 0, 1) := by decide +kernel
theorem dX9_fillRow_38 : decode cX9_fillRow 38 = .ok (.istore_n 1, 1) := by decide +kernel
theorem dX9_fillRow_39 : decode cX9_fillRow 39 = .ok (.iload_n 1, 1) := by decide +kernel
theorem dX9_fillRow_40 : decode cX9_fillRow 40 = .ok (.sipush 128, 3) := by decide +kernel
theorem dX9_fillRow_43 : decode cX9_fillRow 43 = .ok (.if_icmp .ge 126, 3) := by decide +kernel
theorem dX9_fillRow_46 : decode cX9_fillRow 46 = .ok (.aload_n 0, 1) := by decide +kernel
theorem dX9_fillRow_47 : decode cX9_fillRow 47 = .ok (.getfield 100, 3) := by decide +kernel
theorem dX9_fillRow_50 : decode cX9_fillRow 50 = .ok (.iload_n 1, 1) := by decide +kernel
theorem dX9_fillRow_51 : decode cX9_fillRow 51 = .ok (.aload_n 0, 1) := by decide +kernel
theorem dX9_fillRow_52 : decode cX9_fillRow 52 = .ok (.getfield 103, 3) := by decide +kernel
theorem dX9_fillRow_55 : decode cX9_fillRow 55 = .ok (.aload_n 0, 1) := by decide +kernel
theorem dX9_fillRow_56 : decode cX9_fillRow 56 = .ok (.getfield 170, 3) := by decide +kernel
theorem dX9_fillRow_59 : decode cX9_fillRow 59 = .ok (.laload, 1) := by decide +kernel
theorem dX9_fillRow_60 : decode cX9_fillRow 60 = .ok (.lastore, 1) := by decide +kernel
theorem dX9_fillRow_61 : decode cX9_fillRow 61 = .ok (.iconst 0, 1) := by decide +kernel
theorem dX9_fillRow_62 : decode cX9_fillRow 62 = .ok (.istore_n 2, 1) := by decide +kernel
theorem dX9_fillRow_63 : decode cX9_fillRow 63 = .ok (.iload_n 2, 1) := by decide +kernel
theorem dX9_fillRow_64 : decode cX9_fillRow 64 = .ok (.aload_n 0, 1) := by decide +kernel
theorem dX9_fillRow_65 : decode cX9_fillRow 65 = .ok (.getfield 23, 3) := by decide +kernel
theorem dX9_fillRow_68 : decode cX9_fillRow 68 = .ok (.if_icmp .gt 67, 3) := by decide +kernel
theorem dX9_fillRow_71 : decode cX9_fillRow 71 = .ok (.aload_n 0, 1) := by decide +kernel
theorem dX9_fillRow_72 : decode cX9_fillRow 72 = .ok (.getfield 106, 3) := by decide +kernel
theorem dX9_fillRow_75 : decode cX9_fillRow 75 = .ok (.iload_n 2, 1) := by decide +kernel
theorem dX9_fillRow_76 : decode cX9_fillRow 76 = .ok (.lconst 0, 1) := by decide +kernel
theorem dX9_fillRow_77 : decode cX9_fillRow 77 = .ok (.lastore, 1) := by decide +kernel
theorem dX9_fillRow_78 : decode cX9_fillRow 78 = .ok (.iconst 0, 1) := by decide +kernel
theorem dX9_fillRow_79 : decode cX9_fillRow 79 = .ok (.istore_n 3, 1) := by decide +kernel
theorem dX9_fillRow_80 : decode cX9_fillRow 80 = .ok (.iload_n 3, 1) := by decide +kernel
theorem dX9_fillRow_81 : decode cX9_fillRow 81 = .ok (.aload_n 0, 1) := by decide +kernel
theorem dX9_fillRow_82 : decode cX9_fillRow 82 = .ok (.getfield 23, 3) := by decide +kernel
theorem dX9_fillRow_85 : decode cX9_fillRow 85 = .ok (.if_icmp .gt 44, 3) := by decide +kernel
theorem dX9_fillRow_88 : decode cX9_fillRow 88 = .ok (.aload_n 0, 1) := by decide +kernel
theorem dX9_fillRow_89 : decode cX9_fillRow 89 = .ok (.getfield 106, 3) := by decide +kernel
theorem dX9_fillRow_92 : decode cX9_fillRow 92 = .ok (.iload_n 2, 1) := by decide +kernel
theorem dX9_fillRow_93 : decode cX9_fillRow 93 = .ok (.aload_n 0, 1) := by decide +kernel
theorem dX9_fillRow_94 : decode cX9_fillRow 94 = .ok (.getfield 106, 3) := by decide +kernel
theorem dX9_fillRow_97 : decode cX9_fillRow 97 = .ok (.iload_n 2, 1) := by decide +kernel
theorem dX9_fillRow_98 : decode cX9_fillRow 98 = .ok (.laload, 1) := by decide +kernel
theorem dX9_fillRow_99 : decode cX9_fillRow 99 = .ok (.aload_n 0, 1) := by decide +kernel
theorem dX9_fillRow_100 : decode cX9_fillRow 100 = .ok (.getfield 103, 3) := by decide +kernel
theorem dX9_fillRow_103 : decode cX9_fillRow 103 = .ok (.iload_n 3, 1) := by decide +kernel
theorem dX9_fillRow_104 : decode cX9_fillRow 104 = .ok (.laload, 1) := by decide +kernel
theorem dX9_fillRow_105 : decode cX9_fillRow 105 = .ok (.aload_n 0, 1) := by decide +kernel
theorem dX9_fillRow_106 : decode cX9_fillRow 106 = .ok (.getfield 94, 3) := by decide +kernel
theorem dX9_fillRow_109 : decode cX9_fillRow 109 = .ok (.bipush 31, 2) := by decide +kernel
theorem dX9_fillRow_111 : decode cX9_fillRow 111 = .ok (.iload_n 3, 1) := by decide +kernel
theorem dX9_fillRow_112 : decode cX9_fillRow 112 = .ok (.imul, 1) := by decide +kernel
theorem dX9_fillRow_113 : decode cX9_fillRow 113 = .ok (.iload_n 2, 1) := by decide +kernel
theorem dX9_fillRow_114 : decode cX9_fillRow 114 = .ok (.iadd, 1) := by decide +kernel
theorem dX9_fillRow_115 : decode cX9_fillRow 115 = .ok (.laload, 1) := by decide +kernel
theorem dX9_fillRow_116 : decode cX9_fillRow 116 = .ok (.lmul, 1) := by decide +kernel
theorem dX9_fillRow_117 : decode cX9_fillRow 117 = .ok (.ladd, 1) := by decide +kernel
theorem dX9_fillRow_118 : decode cX9_fillRow 118 = .ok (.ldc2_w 300, 3) := by decide +kernel
theorem dX9_fillRow_121 : decode cX9_fillRow 121 = .ok (.lrem, 1) := by decide +kernel
theorem dX9_fillRow_122 : decode cX9_fillRow 122 = .ok (.lastore, 1) := by decide +kernel
theorem dX9_fillRow_123 : decode cX9_fillRow 123 = .ok (.iinc 3 1, 3) := by decide +kernel
theorem dX9_fillRow_126 : decode cX9_fillRow 126 = .ok (.goto (-46), 3) := by decide +kernel
theorem dX9_fillRow_129 : decode cX9_fillRow 129 = .ok (.iinc 2 1, 3) := by decide +kernel
theorem dX9_fillRow_132 : decode cX9_fillRow 132 = .ok (.goto (-69), 3) := by decide +kernel
theorem dX9_fillRow_135 : decode cX9_fillRow 135 = .ok (.iconst 0, 1) := by decide +kernel
theorem dX9_fillRow_136 : decode cX9_fillRow 136 = .ok (.istore_n 2, 1) := by decide +kernel
theorem dX9_fillRow_137 : decode cX9_fillRow 137 = .ok (.iload_n 2, 1) := by decide +kernel
theorem dX9_fillRow_138 : decode cX9_fillRow 138 = .ok (.aload_n 0, 1) := by decide +kernel
theorem dX9_fillRow_139 : decode cX9_fillRow 139 = .ok (.getfield 23, 3) := by decide +kernel
theorem dX9_fillRow_142 : decode cX9_fillRow 142 = .ok (.if_icmp .gt 21, 3) := by decide +kernel
theorem dX9_fillRow_145 : decode cX9_fillRow 145 = .ok (.aload_n 0, 1) := by decide +kernel
theorem dX9_fillRow_146 : decode cX9_fillRow 146 = .ok (.getfield 103, 3) := by decide +kernel
theorem dX9_fillRow_149 : decode cX9_fillRow 149 = .ok (.iload_n 2, 1) := by decide +kernel
theorem dX9_fillRow_150 : decode cX9_fillRow 150 = .ok (.aload_n 0, 1) := by decide +kernel
theorem dX9_fillRow_151 : decode cX9_fillRow 151 = .ok (.getfield 106, 3) := by decide +kernel
theorem dX9_fillRow_154 : decode cX9_fillRow 154 = .ok (.iload_n 2, 1) := by decide +kernel
theorem dX9_fillRow_155 : decode cX9_fillRow 155 = .ok (.laload, 1) := by decide +kernel
theorem dX9_fillRow_156 : decode cX9_fillRow 156 = .ok (.lastore, 1) := by decide +kernel
theorem dX9_fillRow_157 : decode cX9_fillRow 157 = .ok (.iinc 2 1, 3) := by decide +kernel
theorem dX9_fillRow_160 : decode cX9_fillRow 160 = .ok (.goto (-23), 3) := by decide +kernel
theorem dX9_fillRow_163 : decode cX9_fillRow 163 = .ok (.iinc 1 1, 3) := by decide +kernel
theorem dX9_fillRow_166 : decode cX9_fillRow 166 = .ok (.goto (-127), 3) := by decide +kernel
theorem dX9_fillRow_169 : decode cX9_fillRow 169 = .ok (.return_, 1) := by decide +kernel
theorem dX9_inverse_0 : decode cX9_inverse 0 = .ok (.lconst 1, 1) := by decide +kernel
theorem dX9_inverse_1 : decode cX9_inverse 1 = .ok (.lstore_n 2, 1) := by decide +kernel
theorem dX9_inverse_2 : decode cX9_inverse 2 = .ok (.lload_n 0, 1) := by decide +kernel
theorem dX9_inverse_3 : decode cX9_inverse 3 = .ok (.lstore 4, 2) := by decide +kernel
theorem dX9_inverse_5 : decode cX9_inverse 5 = .ok (.ldc_w 312, 3) := by decide +kernel
theorem dX9_inverse_8 : decode cX9_inverse 8 = .ok (.istore 6, 2) := by decide +kernel
theorem dX9_inverse_10 : decode cX9_inverse 10 = .ok (.iload 6, 2) := by decide +kernel
theorem dX9_inverse_12 : decode cX9_inverse 12 = .ok (.ifCond .le 40, 3) := by decide +kernel
theorem dX9_inverse_15 : decode cX9_inverse 15 = .ok (.iload 6, 2) := by decide +kernel
theorem dX9_inverse_17 : decode cX9_inverse 17 = .ok (.iconst 1, 1) := by decide +kernel
theorem dX9_inverse_18 : decode cX9_inverse 18 = .ok (.iand, 1) := by decide +kernel
theorem dX9_inverse_19 : decode cX9_inverse 19 = .ok (.iconst 1, 1) := by decide +kernel
theorem dX9_inverse_20 : decode cX9_inverse 20 = .ok (.if_icmp .ne 12, 3) := by decide +kernel
theorem dX9_inverse_23 : decode cX9_inverse 23 = .ok (.lload_n 2, 1) := by decide +kernel
theorem dX9_inverse_24 : decode cX9_inverse 24 = .ok (.lload 4, 2) := by decide +kernel
theorem dX9_inverse_26 : decode cX9_inverse 26 = .ok (.lmul, 1) := by decide +kernel
theorem dX9_inverse_27 : decode cX9_inverse 27 = .ok (.ldc2_w 300, 3) := by decide +kernel
theorem dX9_inverse_30 : decode cX9_inverse 30 = .ok (.lrem, 1) := by decide +kernel
theorem dX9_inverse_31 : decode cX9_inverse 31 = .ok (.lstore_n 2, 1) := by decide +kernel
theorem dX9_inverse_32 : decode cX9_inverse 32 = .ok (.lload 4, 2) := by decide +kernel
theorem dX9_inverse_34 : decode cX9_inverse 34 = .ok (.lload 4, 2) := by decide +kernel
theorem dX9_inverse_36 : decode cX9_inverse 36 = .ok (.lmul, 1) := by decide +kernel
theorem dX9_inverse_37 : decode cX9_inverse 37 = .ok (.ldc2_w 300, 3) := by decide +kernel
theorem dX9_inverse_40 : decode cX9_inverse 40 = .ok (.lrem, 1) := by decide +kernel
theorem dX9_inverse_41 : decode cX9_inverse 41 = .ok (.lstore 4, 2) := by decide +kernel
theorem dX9_inverse_43 : decode cX9_inverse 43 = .ok (.iload 6, 2) := by decide +kernel
theorem dX9_inverse_45 : decode cX9_inverse 45 = .ok (.iconst 1, 1) := by decide +kernel
theorem dX9_inverse_46 : decode cX9_inverse 46 = .ok (.ishr, 1) := by decide +kernel
theorem dX9_inverse_47 : decode cX9_inverse 47 = .ok (.istore 6, 2) := by decide +kernel
theorem dX9_inverse_49 : decode cX9_inverse 49 = .ok (.goto (-39), 3) := by decide +kernel
theorem dX9_inverse_52 : decode cX9_inverse 52 = .ok (.lload_n 2, 1) := by decide +kernel
theorem dX9_inverse_53 : decode cX9_inverse 53 = .ok (.lreturn, 1) := by decide +kernel
set_option maxRecDepth 20000 in
theorem ggX9_solves_X9_clears : GoodIn wsX9_solves wsX9_clears := goodIn_r _ [10, 2, 11, 12, 13, 9, 14, 15, 16, 17, 18, 19, 20, 21, 22, 23, 24, 25, 26, 27, 28, 29, 30, 31, 32, 33, 34, 35, 36, 37, 38, 39, 40, 41, 42, 43, 44, 45, 46, 47, 48, 49, 50, 51, 52, 53, 54, 55, 56] (by decide +kernel) (by decide +kernel)
set_option maxRecDepth 20000 in
theorem gX9_solves_X9_clears : GoodIn wsX9_solves (wsV RX9 313 RX9 yX9_clears wsX9_clears) := goodIn_app (goodIn_of _ (by decide +kernel)) ggX9_solves_X9_clears
theorem dX9_solves_0 : decode cX9_solves 0 = .ok (.aload_n 0, 1) := by decide +kernel
theorem dX9_solves_1 : decode cX9_solves 1 = .ok (.getfield 23, 3) := by decide +kernel
theorem dX9_solves_4 : decode cX9_solves 4 = .ok (.iconst 1, 1) := by decide +kernel
theorem dX9_solves_5 : decode cX9_solves 5 = .ok (.iadd, 1) := by decide +kernel
theorem dX9_solves_6 : decode cX9_solves 6 = .ok (.istore_n 2, 1) := by decide +kernel
theorem dX9_solves_7 : decode cX9_solves 7 = .ok (.iload_n 1, 1) := by decide +kernel
theorem dX9_solves_8 : decode cX9_solves 8 = .ok (.iconst 1, 1) := by decide +kernel
theorem dX9_solves_9 : decode cX9_solves 9 = .ok (.iadd, 1) := by decide +kernel
theorem dX9_solves_10 : decode cX9_solves 10 = .ok (.istore_n 3, 1) := by decide +kernel
theorem dX9_solves_11 : decode cX9_solves 11 = .ok (.iconst 0, 1) := by decide +kernel
theorem dX9_solves_12 : decode cX9_solves 12 = .ok (.istore 4, 2) := by decide +kernel
theorem dX9_solves_14 : decode cX9_solves 14 = .ok (.iload 4, 2) := by decide +kernel
theorem dX9_solves_16 : decode cX9_solves 16 = .ok (.iload_n 2, 1) := by decide +kernel
theorem dX9_solves_17 : decode cX9_solves 17 = .ok (.if_icmp .ge 70, 3) := by decide +kernel
theorem dX9_solves_20 : decode cX9_solves 20 = .ok (.iconst 0, 1) := by decide +kernel
theorem dX9_solves_21 : decode cX9_solves 21 = .ok (.istore 5, 2) := by decide +kernel
theorem dX9_solves_23 : decode cX9_solves 23 = .ok (.iload 5, 2) := by decide +kernel
theorem dX9_solves_25 : decode cX9_solves 25 = .ok (.iload_n 1, 1) := by decide +kernel
theorem dX9_solves_26 : decode cX9_solves 26 = .ok (.if_icmp .ge 35, 3) := by decide +kernel
theorem dX9_solves_29 : decode cX9_solves 29 = .ok (.aload_n 0, 1) := by decide +kernel
theorem dX9_solves_30 : decode cX9_solves 30 = .ok (.getfield 109, 3) := by decide +kernel
theorem dX9_solves_33 : decode cX9_solves 33 = .ok (.iload_n 3, 1) := by decide +kernel
theorem dX9_solves_34 : decode cX9_solves 34 = .ok (.iload 4, 2) := by decide +kernel
theorem dX9_solves_36 : decode cX9_solves 36 = .ok (.imul, 1) := by decide +kernel
theorem dX9_solves_37 : decode cX9_solves 37 = .ok (.iload 5, 2) := by decide +kernel
theorem dX9_solves_39 : decode cX9_solves 39 = .ok (.iadd, 1) := by decide +kernel
theorem dX9_solves_40 : decode cX9_solves 40 = .ok (.aload_n 0, 1) := by decide +kernel
theorem dX9_solves_41 : decode cX9_solves 41 = .ok (.getfield 100, 3) := by decide +kernel
theorem dX9_solves_44 : decode cX9_solves 44 = .ok (.iload_n 1, 1) := by decide +kernel
theorem dX9_solves_45 : decode cX9_solves 45 = .ok (.iload 4, 2) := by decide +kernel
theorem dX9_solves_47 : decode cX9_solves 47 = .ok (.iadd, 1) := by decide +kernel
theorem dX9_solves_48 : decode cX9_solves 48 = .ok (.iconst 1, 1) := by decide +kernel
theorem dX9_solves_49 : decode cX9_solves 49 = .ok (.isub, 1) := by decide +kernel
theorem dX9_solves_50 : decode cX9_solves 50 = .ok (.iload 5, 2) := by decide +kernel
theorem dX9_solves_52 : decode cX9_solves 52 = .ok (.isub, 1) := by decide +kernel
theorem dX9_solves_53 : decode cX9_solves 53 = .ok (.laload, 1) := by decide +kernel
theorem dX9_solves_54 : decode cX9_solves 54 = .ok (.lastore, 1) := by decide +kernel
theorem dX9_solves_55 : decode cX9_solves 55 = .ok (.iinc 5 1, 3) := by decide +kernel
theorem dX9_solves_58 : decode cX9_solves 58 = .ok (.goto (-35), 3) := by decide +kernel
theorem dX9_solves_61 : decode cX9_solves 61 = .ok (.aload_n 0, 1) := by decide +kernel
theorem dX9_solves_62 : decode cX9_solves 62 = .ok (.getfield 109, 3) := by decide +kernel
theorem dX9_solves_65 : decode cX9_solves 65 = .ok (.iload_n 3, 1) := by decide +kernel
theorem dX9_solves_66 : decode cX9_solves 66 = .ok (.iload 4, 2) := by decide +kernel
theorem dX9_solves_68 : decode cX9_solves 68 = .ok (.imul, 1) := by decide +kernel
theorem dX9_solves_69 : decode cX9_solves 69 = .ok (.iload_n 1, 1) := by decide +kernel
theorem dX9_solves_70 : decode cX9_solves 70 = .ok (.iadd, 1) := by decide +kernel
theorem dX9_solves_71 : decode cX9_solves 71 = .ok (.aload_n 0, 1) := by decide +kernel
theorem dX9_solves_72 : decode cX9_solves 72 = .ok (.getfield 100, 3) := by decide +kernel
theorem dX9_solves_75 : decode cX9_solves 75 = .ok (.iload_n 1, 1) := by decide +kernel
theorem dX9_solves_76 : decode cX9_solves 76 = .ok (.iload 4, 2) := by decide +kernel
theorem dX9_solves_78 : decode cX9_solves 78 = .ok (.iadd, 1) := by decide +kernel
theorem dX9_solves_79 : decode cX9_solves 79 = .ok (.laload, 1) := by decide +kernel
theorem dX9_solves_80 : decode cX9_solves 80 = .ok (.lastore, 1) := by decide +kernel
theorem dX9_solves_81 : decode cX9_solves 81 = .ok (.iinc 4 1, 3) := by decide +kernel
theorem dX9_solves_84 : decode cX9_solves 84 = .ok (.goto (-70), 3) := by decide +kernel
theorem dX9_solves_87 : decode cX9_solves 87 = .ok (.iconst 0, 1) := by decide +kernel
theorem dX9_solves_88 : decode cX9_solves 88 = .ok (.istore 4, 2) := by decide +kernel
theorem dX9_solves_90 : decode cX9_solves 90 = .ok (.iconst 0, 1) := by decide +kernel
theorem dX9_solves_91 : decode cX9_solves 91 = .ok (.istore 5, 2) := by decide +kernel
theorem dX9_solves_93 : decode cX9_solves 93 = .ok (.iload 5, 2) := by decide +kernel
theorem dX9_solves_95 : decode cX9_solves 95 = .ok (.iload_n 1, 1) := by decide +kernel
theorem dX9_solves_96 : decode cX9_solves 96 = .ok (.if_icmp .ge 65, 3) := by decide +kernel
theorem dX9_solves_99 : decode cX9_solves 99 = .ok (.iload 4, 2) := by decide +kernel
theorem dX9_solves_101 : decode cX9_solves 101 = .ok (.istore 6, 2) := by decide +kernel
theorem dX9_solves_103 : decode cX9_solves 103 = .ok (.iload 6, 2) := by decide +kernel
theorem dX9_solves_105 : decode cX9_solves 105 = .ok (.iload_n 2, 1) := by decide +kernel
theorem dX9_solves_106 : decode cX9_solves 106 = .ok (.if_icmp .ge 26, 3) := by decide +kernel
theorem dX9_solves_109 : decode cX9_solves 109 = .ok (.aload_n 0, 1) := by decide +kernel
theorem dX9_solves_110 : decode cX9_solves 110 = .ok (.getfield 109, 3) := by decide +kernel
theorem dX9_solves_113 : decode cX9_solves 113 = .ok (.iload_n 3, 1) := by decide +kernel
theorem dX9_solves_114 : decode cX9_solves 114 = .ok (.iload 6, 2) := by decide +kernel
theorem dX9_solves_116 : decode cX9_solves 116 = .ok (.imul, 1) := by decide +kernel
theorem dX9_solves_117 : decode cX9_solves 117 = .ok (.iload 5, 2) := by decide +kernel
theorem dX9_solves_119 : decode cX9_solves 119 = .ok (.iadd, 1) := by decide +kernel
theorem dX9_solves_120 : decode cX9_solves 120 = .ok (.laload, 1) := by decide +kernel
theorem dX9_solves_121 : decode cX9_solves 121 = .ok (.lconst 0, 1) := by decide +kernel
theorem dX9_solves_122 : decode cX9_solves 122 = .ok (.lcmp, 1) := by decide +kernel
theorem dX9_solves_123 : decode cX9_solves 123 = .ok (.ifCond .ne 9, 3) := by decide +kernel
theorem dX9_solves_126 : decode cX9_solves 126 = .ok (.iinc 6 1, 3) := by decide +kernel
theorem dX9_solves_129 : decode cX9_solves 129 = .ok (.goto (-26), 3) := by decide +kernel
theorem dX9_solves_132 : decode cX9_solves 132 = .ok (.iload 6, 2) := by decide +kernel
theorem dX9_solves_134 : decode cX9_solves 134 = .ok (.iload_n 2, 1) := by decide +kernel
theorem dX9_solves_135 : decode cX9_solves 135 = .ok (.if_icmp .ne 5, 3) := by decide +kernel
theorem dX9_solves_138 : decode cX9_solves 138 = .ok (.iconst 0, 1) := by decide +kernel
theorem dX9_solves_139 : decode cX9_solves 139 = .ok (.ireturn, 1) := by decide +kernel
theorem dX9_solves_140 : decode cX9_solves 140 = .ok (.aload_n 0, 1) := by decide +kernel
theorem dX9_solves_141 : decode cX9_solves 141 = .ok (.iload 4, 2) := by decide +kernel
theorem dX9_solves_143 : decode cX9_solves 143 = .ok (.iload 6, 2) := by decide +kernel
theorem dX9_solves_145 : decode cX9_solves 145 = .ok (.iload 5, 2) := by decide +kernel
theorem dX9_solves_147 : decode cX9_solves 147 = .ok (.iload_n 3, 1) := by decide +kernel
theorem dX9_solves_148 : decode cX9_solves 148 = .ok (.iload_n 2, 1) := by decide +kernel
theorem dX9_solves_149 : decode cX9_solves 149 = .ok (.invokevirtual 313, 3) := by decide +kernel
theorem dX9_solves_152 : decode cX9_solves 152 = .ok (.iinc 4 1, 3) := by decide +kernel
theorem dX9_solves_155 : decode cX9_solves 155 = .ok (.iinc 5 1, 3) := by decide +kernel
theorem dX9_solves_158 : decode cX9_solves 158 = .ok (.goto (-65), 3) := by decide +kernel
theorem dX9_solves_161 : decode cX9_solves 161 = .ok (.iload 4, 2) := by decide +kernel
theorem dX9_solves_163 : decode cX9_solves 163 = .ok (.istore 5, 2) := by decide +kernel
theorem dX9_solves_165 : decode cX9_solves 165 = .ok (.iload 5, 2) := by decide +kernel
theorem dX9_solves_167 : decode cX9_solves 167 = .ok (.iload_n 2, 1) := by decide +kernel
theorem dX9_solves_168 : decode cX9_solves 168 = .ok (.if_icmp .ge 27, 3) := by decide +kernel
theorem dX9_solves_171 : decode cX9_solves 171 = .ok (.aload_n 0, 1) := by decide +kernel
theorem dX9_solves_172 : decode cX9_solves 172 = .ok (.getfield 109, 3) := by decide +kernel
theorem dX9_solves_175 : decode cX9_solves 175 = .ok (.iload_n 3, 1) := by decide +kernel
theorem dX9_solves_176 : decode cX9_solves 176 = .ok (.iload 5, 2) := by decide +kernel
theorem dX9_solves_178 : decode cX9_solves 178 = .ok (.imul, 1) := by decide +kernel
theorem dX9_solves_179 : decode cX9_solves 179 = .ok (.iload_n 1, 1) := by decide +kernel
theorem dX9_solves_180 : decode cX9_solves 180 = .ok (.iadd, 1) := by decide +kernel
theorem dX9_solves_181 : decode cX9_solves 181 = .ok (.laload, 1) := by decide +kernel
theorem dX9_solves_182 : decode cX9_solves 182 = .ok (.lconst 0, 1) := by decide +kernel
theorem dX9_solves_183 : decode cX9_solves 183 = .ok (.lcmp, 1) := by decide +kernel
theorem dX9_solves_184 : decode cX9_solves 184 = .ok (.ifCond .eq 5, 3) := by decide +kernel
theorem dX9_solves_187 : decode cX9_solves 187 = .ok (.iconst 0, 1) := by decide +kernel
theorem dX9_solves_188 : decode cX9_solves 188 = .ok (.ireturn, 1) := by decide +kernel
theorem dX9_solves_189 : decode cX9_solves 189 = .ok (.iinc 5 1, 3) := by decide +kernel
theorem dX9_solves_192 : decode cX9_solves 192 = .ok (.goto (-27), 3) := by decide +kernel
theorem dX9_solves_195 : decode cX9_solves 195 = .ok (.aload_n 0, 1) := by decide +kernel
theorem dX9_solves_196 : decode cX9_solves 196 = .ok (.iload_n 1, 1) := by decide +kernel
theorem dX9_solves_197 : decode cX9_solves 197 = .ok (.putfield 72, 3) := by decide +kernel
theorem dX9_solves_200 : decode cX9_solves 200 = .ok (.iconst 0, 1) := by decide +kernel
theorem dX9_solves_201 : decode cX9_solves 201 = .ok (.istore 5, 2) := by decide +kernel
theorem dX9_solves_203 : decode cX9_solves 203 = .ok (.iload 5, 2) := by decide +kernel
theorem dX9_solves_205 : decode cX9_solves 205 = .ok (.iload_n 1, 1) := by decide +kernel
theorem dX9_solves_206 : decode cX9_solves 206 = .ok (.if_icmp .ge 27, 3) := by decide +kernel
theorem dX9_solves_209 : decode cX9_solves 209 = .ok (.aload_n 0, 1) := by decide +kernel
theorem dX9_solves_210 : decode cX9_solves 210 = .ok (.getfield 75, 3) := by decide +kernel
theorem dX9_solves_213 : decode cX9_solves 213 = .ok (.iload 5, 2) := by decide +kernel
theorem dX9_solves_215 : decode cX9_solves 215 = .ok (.aload_n 0, 1) := by decide +kernel
theorem dX9_solves_216 : decode cX9_solves 216 = .ok (.getfield 109, 3) := by decide +kernel
theorem dX9_solves_219 : decode cX9_solves 219 = .ok (.iload_n 3, 1) := by decide +kernel
theorem dX9_solves_220 : decode cX9_solves 220 = .ok (.iload 5, 2) := by decide +kernel
theorem dX9_solves_222 : decode cX9_solves 222 = .ok (.imul, 1) := by decide +kernel
theorem dX9_solves_223 : decode cX9_solves 223 = .ok (.iload_n 1, 1) := by decide +kernel
theorem dX9_solves_224 : decode cX9_solves 224 = .ok (.iadd, 1) := by decide +kernel
theorem dX9_solves_225 : decode cX9_solves 225 = .ok (.laload, 1) := by decide +kernel
theorem dX9_solves_226 : decode cX9_solves 226 = .ok (.lastore, 1) := by decide +kernel
theorem dX9_solves_227 : decode cX9_solves 227 = .ok (.iinc 5 1, 3) := by decide +kernel
theorem dX9_solves_230 : decode cX9_solves 230 = .ok (.goto (-27), 3) := by decide +kernel
theorem dX9_solves_233 : decode cX9_solves 233 = .ok (.iconst 1, 1) := by decide +kernel
theorem dX9_solves_234 : decode cX9_solves 234 = .ok (.ireturn, 1) := by decide +kernel
set_option maxRecDepth 20000 in
theorem ggX9_clears_X9_inverse : GoodIn wsX9_clears wsX9_inverse := goodIn_r _ [6, 7, 2] (by decide +kernel) (by decide +kernel)
set_option maxRecDepth 20000 in
theorem gX9_clears_X9_inverse : GoodIn wsX9_clears (va_wsS RX9 317 yX9_inverse wsX9_inverse) := goodIn_app (goodIn_of _ (by decide +kernel)) ggX9_clears_X9_inverse
theorem dX9_clears_0 : decode cX9_clears 0 = .ok (.aload_n 0, 1) := by decide +kernel
theorem dX9_clears_1 : decode cX9_clears 1 = .ok (.getfield 109, 3) := by decide +kernel
theorem dX9_clears_4 : decode cX9_clears 4 = .ok (.iload 4, 2) := by decide +kernel
theorem dX9_clears_6 : decode cX9_clears 6 = .ok (.iload_n 2, 1) := by decide +kernel
theorem dX9_clears_7 : decode cX9_clears 7 = .ok (.imul, 1) := by decide +kernel
theorem dX9_clears_8 : decode cX9_clears 8 = .ok (.iload_n 3, 1) := by decide +kernel
theorem dX9_clears_9 : decode cX9_clears 9 = .ok (.iadd, 1) := by decide +kernel
theorem dX9_clears_10 : decode cX9_clears 10 = .ok (.laload, 1) := by decide +kernel
theorem dX9_clears_11 : decode cX9_clears 11 = .ok (.invokestatic 317, 3) := by decide +kernel
theorem dX9_clears_14 : decode cX9_clears 14 = .ok (.lstore 6, 2) := by decide +kernel
theorem dX9_clears_16 : decode cX9_clears 16 = .ok (.iconst 0, 1) := by decide +kernel
theorem dX9_clears_17 : decode cX9_clears 17 = .ok (.istore 8, 2) := by decide +kernel
theorem dX9_clears_19 : decode cX9_clears 19 = .ok (.iload 8, 2) := by decide +kernel
theorem dX9_clears_21 : decode cX9_clears 21 = .ok (.iload 4, 2) := by decide +kernel
theorem dX9_clears_23 : decode cX9_clears 23 = .ok (.if_icmp .ge 68, 3) := by decide +kernel
theorem dX9_clears_26 : decode cX9_clears 26 = .ok (.aload_n 0, 1) := by decide +kernel
theorem dX9_clears_27 : decode cX9_clears 27 = .ok (.getfield 109, 3) := by decide +kernel
theorem dX9_clears_30 : decode cX9_clears 30 = .ok (.iload 4, 2) := by decide +kernel
theorem dX9_clears_32 : decode cX9_clears 32 = .ok (.iload_n 2, 1) := by decide +kernel
theorem dX9_clears_33 : decode cX9_clears 33 = .ok (.imul, 1) := by decide +kernel
theorem dX9_clears_34 : decode cX9_clears 34 = .ok (.iload 8, 2) := by decide +kernel
theorem dX9_clears_36 : decode cX9_clears 36 = .ok (.iadd, 1) := by decide +kernel
theorem dX9_clears_37 : decode cX9_clears 37 = .ok (.laload, 1) := by decide +kernel
theorem dX9_clears_38 : decode cX9_clears 38 = .ok (.lload 6, 2) := by decide +kernel
theorem dX9_clears_40 : decode cX9_clears 40 = .ok (.lmul, 1) := by decide +kernel
theorem dX9_clears_41 : decode cX9_clears 41 = .ok (.ldc2_w 300, 3) := by decide +kernel
theorem dX9_clears_44 : decode cX9_clears 44 = .ok (.lrem, 1) := by decide +kernel
theorem dX9_clears_45 : decode cX9_clears 45 = .ok (.lstore 9, 2) := by decide +kernel
theorem dX9_clears_47 : decode cX9_clears 47 = .ok (.aload_n 0, 1) := by decide +kernel
theorem dX9_clears_48 : decode cX9_clears 48 = .ok (.getfield 109, 3) := by decide +kernel
theorem dX9_clears_51 : decode cX9_clears 51 = .ok (.iload 4, 2) := by decide +kernel
theorem dX9_clears_53 : decode cX9_clears 53 = .ok (.iload_n 2, 1) := by decide +kernel
theorem dX9_clears_54 : decode cX9_clears 54 = .ok (.imul, 1) := by decide +kernel
theorem dX9_clears_55 : decode cX9_clears 55 = .ok (.iload 8, 2) := by decide +kernel
theorem dX9_clears_57 : decode cX9_clears 57 = .ok (.iadd, 1) := by decide +kernel
theorem dX9_clears_58 : decode cX9_clears 58 = .ok (.aload_n 0, 1) := by decide +kernel
theorem dX9_clears_59 : decode cX9_clears 59 = .ok (.getfield 109, 3) := by decide +kernel
theorem dX9_clears_62 : decode cX9_clears 62 = .ok (.iload 4, 2) := by decide +kernel
theorem dX9_clears_64 : decode cX9_clears 64 = .ok (.iload_n 1, 1) := by decide +kernel
theorem dX9_clears_65 : decode cX9_clears 65 = .ok (.imul, 1) := by decide +kernel
theorem dX9_clears_66 : decode cX9_clears 66 = .ok (.iload 8, 2) := by decide +kernel
theorem dX9_clears_68 : decode cX9_clears 68 = .ok (.iadd, 1) := by decide +kernel
theorem dX9_clears_69 : decode cX9_clears 69 = .ok (.laload, 1) := by decide +kernel
theorem dX9_clears_70 : decode cX9_clears 70 = .ok (.lastore, 1) := by decide +kernel
theorem dX9_clears_71 : decode cX9_clears 71 = .ok (.aload_n 0, 1) := by decide +kernel
theorem dX9_clears_72 : decode cX9_clears 72 = .ok (.getfield 109, 3) := by decide +kernel
theorem dX9_clears_75 : decode cX9_clears 75 = .ok (.iload 4, 2) := by decide +kernel
theorem dX9_clears_77 : decode cX9_clears 77 = .ok (.iload_n 1, 1) := by decide +kernel
theorem dX9_clears_78 : decode cX9_clears 78 = .ok (.imul, 1) := by decide +kernel
theorem dX9_clears_79 : decode cX9_clears 79 = .ok (.iload 8, 2) := by decide +kernel
theorem dX9_clears_81 : decode cX9_clears 81 = .ok (.iadd, 1) := by decide +kernel
theorem dX9_clears_82 : decode cX9_clears 82 = .ok (.lload 9, 2) := by decide +kernel
theorem dX9_clears_84 : decode cX9_clears 84 = .ok (.lastore, 1) := by decide +kernel
theorem dX9_clears_85 : decode cX9_clears 85 = .ok (.iinc 8 1, 3) := by decide +kernel
theorem dX9_clears_88 : decode cX9_clears 88 = .ok (.goto (-69), 3) := by decide +kernel
theorem dX9_clears_91 : decode cX9_clears 91 = .ok (.iconst 0, 1) := by decide +kernel
theorem dX9_clears_92 : decode cX9_clears 92 = .ok (.istore 8, 2) := by decide +kernel
theorem dX9_clears_94 : decode cX9_clears 94 = .ok (.iload 8, 2) := by decide +kernel
theorem dX9_clears_96 : decode cX9_clears 96 = .ok (.iload 5, 2) := by decide +kernel
theorem dX9_clears_98 : decode cX9_clears 98 = .ok (.if_icmp .ge 105, 3) := by decide +kernel
theorem dX9_clears_101 : decode cX9_clears 101 = .ok (.aload_n 0, 1) := by decide +kernel
theorem dX9_clears_102 : decode cX9_clears 102 = .ok (.getfield 109, 3) := by decide +kernel
theorem dX9_clears_105 : decode cX9_clears 105 = .ok (.iload 4, 2) := by decide +kernel
theorem dX9_clears_107 : decode cX9_clears 107 = .ok (.iload 8, 2) := by decide +kernel
theorem dX9_clears_109 : decode cX9_clears 109 = .ok (.imul, 1) := by decide +kernel
theorem dX9_clears_110 : decode cX9_clears 110 = .ok (.iload_n 3, 1) := by decide +kernel
theorem dX9_clears_111 : decode cX9_clears 111 = .ok (.iadd, 1) := by decide +kernel
theorem dX9_clears_112 : decode cX9_clears 112 = .ok (.laload, 1) := by decide +kernel
theorem dX9_clears_113 : decode cX9_clears 113 = .ok (.lstore 9, 2) := by decide +kernel
theorem dX9_clears_115 : decode cX9_clears 115 = .ok (.iload 8, 2) := by decide +kernel
theorem dX9_clears_117 : decode cX9_clears 117 = .ok (.iload_n 1, 1) := by decide +kernel
theorem dX9_clears_118 : decode cX9_clears 118 = .ok (.if_icmp .eq 79, 3) := by decide +kernel
theorem dX9_clears_121 : decode cX9_clears 121 = .ok (.lload 9, 2) := by decide +kernel
theorem dX9_clears_123 : decode cX9_clears 123 = .ok (.lconst 0, 1) := by decide +kernel
theorem dX9_clears_124 : decode cX9_clears 124 = .ok (.lcmp, 1) := by decide +kernel
theorem dX9_clears_125 : decode cX9_clears 125 = .ok (.ifCond .ne 6, 3) := by decide +kernel
theorem dX9_clears_128 : decode cX9_clears 128 = .ok (.goto 69, 3) := by decide +kernel
theorem dX9_clears_131 : decode cX9_clears 131 = .ok (.iconst 0, 1) := by decide +kernel
theorem dX9_clears_132 : decode cX9_clears 132 = .ok (.istore 11, 2) := by decide +kernel
theorem dX9_clears_134 : decode cX9_clears 134 = .ok (.iload 11, 2) := by decide +kernel
theorem dX9_clears_136 : decode cX9_clears 136 = .ok (.iload 4, 2) := by decide +kernel
theorem dX9_clears_138 : decode cX9_clears 138 = .ok (.if_icmp .ge 59, 3) := by decide +kernel
theorem dX9_clears_141 : decode cX9_clears 141 = .ok (.aload_n 0, 1) := by decide +kernel
theorem dX9_clears_142 : decode cX9_clears 142 = .ok (.getfield 109, 3) := by decide +kernel
theorem dX9_clears_145 : decode cX9_clears 145 = .ok (.iload 4, 2) := by decide +kernel
theorem dX9_clears_147 : decode cX9_clears 147 = .ok (.iload 8, 2) := by decide +kernel
theorem dX9_clears_149 : decode cX9_clears 149 = .ok (.imul, 1) := by decide +kernel
theorem dX9_clears_150 : decode cX9_clears 150 = .ok (.iload 11, 2) := by decide +kernel
theorem dX9_clears_152 : decode cX9_clears 152 = .ok (.iadd, 1) := by decide +kernel
theorem dX9_clears_153 : decode cX9_clears 153 = .ok (.aload_n 0, 1) := by decide +kernel
theorem dX9_clears_154 : decode cX9_clears 154 = .ok (.getfield 109, 3) := by decide +kernel
theorem dX9_clears_157 : decode cX9_clears 157 = .ok (.iload 4, 2) := by decide +kernel
theorem dX9_clears_159 : decode cX9_clears 159 = .ok (.iload 8, 2) := by decide +kernel
theorem dX9_clears_161 : decode cX9_clears 161 = .ok (.imul, 1) := by decide +kernel
theorem dX9_clears_162 : decode cX9_clears 162 = .ok (.iload 11, 2) := by decide +kernel
theorem dX9_clears_164 : decode cX9_clears 164 = .ok (.iadd, 1) := by decide +kernel
theorem dX9_clears_165 : decode cX9_clears 165 = .ok (.laload, 1) := by decide +kernel
theorem dX9_clears_166 : decode cX9_clears 166 = .ok (.ldc2_w 300, 3) := by decide +kernel
theorem dX9_clears_169 : decode cX9_clears 169 = .ok (.lload 9, 2) := by decide +kernel
theorem dX9_clears_171 : decode cX9_clears 171 = .ok (.lsub, 1) := by decide +kernel
theorem dX9_clears_172 : decode cX9_clears 172 = .ok (.aload_n 0, 1) := by decide +kernel
theorem dX9_clears_173 : decode cX9_clears 173 = .ok (.getfield 109, 3) := by decide +kernel
theorem dX9_clears_176 : decode cX9_clears 176 = .ok (.iload 4, 2) := by decide +kernel
theorem dX9_clears_178 : decode cX9_clears 178 = .ok (.iload_n 1, 1) := by decide +kernel
theorem dX9_clears_179 : decode cX9_clears 179 = .ok (.imul, 1) := by decide +kernel
theorem dX9_clears_180 : decode cX9_clears 180 = .ok (.iload 11, 2) := by decide +kernel
theorem dX9_clears_182 : decode cX9_clears 182 = .ok (.iadd, 1) := by decide +kernel
theorem dX9_clears_183 : decode cX9_clears 183 = .ok (.laload, 1) := by decide +kernel
theorem dX9_clears_184 : decode cX9_clears 184 = .ok (.lmul, 1) := by decide +kernel
theorem dX9_clears_185 : decode cX9_clears 185 = .ok (.ladd, 1) := by decide +kernel
theorem dX9_clears_186 : decode cX9_clears 186 = .ok (.ldc2_w 300, 3) := by decide +kernel
theorem dX9_clears_189 : decode cX9_clears 189 = .ok (.lrem, 1) := by decide +kernel
theorem dX9_clears_190 : decode cX9_clears 190 = .ok (.lastore, 1) := by decide +kernel
theorem dX9_clears_191 : decode cX9_clears 191 = .ok (.iinc 11 1, 3) := by decide +kernel
theorem dX9_clears_194 : decode cX9_clears 194 = .ok (.goto (-60), 3) := by decide +kernel
theorem dX9_clears_197 : decode cX9_clears 197 = .ok (.iinc 8 1, 3) := by decide +kernel
theorem dX9_clears_200 : decode cX9_clears 200 = .ok (.goto (-106), 3) := by decide +kernel
theorem dX9_clears_203 : decode cX9_clears 203 = .ok (.return_, 1) := by decide +kernel
set_option maxRecDepth 20000 in
theorem ggX9_rule_X9_isBetween : GoodIn wsX9_rule wsX9_isBetween := goodIn_r _ [7, 8, 9, 10, 46, 47, 48, 49, 50, 51, 52, 53, 54, 55, 56, 57, 58, 59, 60, 61, 62, 63, 64, 65, 66, 67, 68, 69, 70, 71, 72, 73, 74, 75, 76, 77, 78, 79, 80, 81, 82, 83, 84, 85, 86] (by decide +kernel) (by decide +kernel)
set_option maxRecDepth 20000 in
theorem gX9_rule_X9_isBetween : GoodIn wsX9_rule (wsV RX9 302 RX9 yX9_isBetween wsX9_isBetween) := goodIn_app (goodIn_of _ (by decide +kernel)) ggX9_rule_X9_isBetween
set_option maxRecDepth 20000 in
theorem ggX9_rule_X9_refuse : GoodIn wsX9_rule wsX9_refuse := goodIn_r _ [14, 2, 46, 47, 48, 49, 50, 51, 52, 53, 54, 55, 56, 57, 58, 59, 60, 61, 62, 63, 64, 65, 66, 67, 68, 69, 70, 71, 72, 73, 74, 75, 76, 77, 78, 79, 80, 81, 82, 83, 84, 85, 86] (by decide +kernel) (by decide +kernel)
set_option maxRecDepth 20000 in
theorem gX9_rule_X9_refuse : GoodIn wsX9_rule (wsV RX9 156 RX9 yX9_refuse wsX9_refuse) := goodIn_app (goodIn_of _ (by decide +kernel)) ggX9_rule_X9_refuse
set_option maxRecDepth 20000 in
theorem ggX9_rule_X9_fillRow : GoodIn wsX9_rule wsX9_fillRow := goodIn_r _ [18, 19, 8, 20, 10, 9, 21, 22, 23, 24, 25, 26, 6, 27, 28, 29, 30, 46, 47, 48, 49, 50, 51, 52, 53, 54, 55, 56, 57, 58, 59, 60, 61, 62, 63, 64, 65, 66, 67, 68, 69, 70, 71, 72, 73, 74, 75, 76, 77, 78, 79, 80, 81, 82, 83, 84, 85, 86] (by decide +kernel) (by decide +kernel)
set_option maxRecDepth 20000 in
theorem gX9_rule_X9_fillRow : GoodIn wsX9_rule (wsV RX9 321 RX9 yX9_fillRow wsX9_fillRow) := goodIn_app (goodIn_of _ (by decide +kernel)) ggX9_rule_X9_fillRow
set_option maxRecDepth 20000 in
theorem ggX9_rule_X9_solves : GoodIn wsX9_rule wsX9_solves := goodIn_r _ [34, 9, 35, 20, 36, 37, 38, 39, 40, 6, 41, 23, 42, 43, 44, 45, 46, 47, 48, 49, 50, 51, 52, 53, 54, 55, 56, 57, 58, 59, 60, 61, 62, 63, 64, 65, 66, 67, 68, 69, 70, 71, 72, 73, 74, 75, 76, 77, 78, 79, 80, 81, 82, 83, 84, 85, 86] (by decide +kernel) (by decide +kernel)
set_option maxRecDepth 20000 in
theorem gX9_rule_X9_solves : GoodIn wsX9_rule (wsV RX9 324 RX9 yX9_solves wsX9_solves) := goodIn_app (goodIn_of _ (by decide +kernel)) ggX9_rule_X9_solves
theorem dX9_rule_0 : decode cX9_rule 0 = .ok (.aload_n 0, 1) := by decide +kernel
theorem dX9_rule_1 : decode cX9_rule 1 = .ok (.iconst 0, 1) := by decide +kernel
theorem dX9_rule_2 : decode cX9_rule 2 = .ok (.putfield 112, 3) := by decide +kernel
theorem dX9_rule_5 : decode cX9_rule 5 = .ok (.aload_n 0, 1) := by decide +kernel
theorem dX9_rule_6 : decode cX9_rule 6 = .ok (.iconst 0, 1) := by decide +kernel
theorem dX9_rule_7 : decode cX9_rule 7 = .ok (.putfield 115, 3) := by decide +kernel
theorem dX9_rule_10 : decode cX9_rule 10 = .ok (.aload_n 0, 1) := by decide +kernel
theorem dX9_rule_11 : decode cX9_rule 11 = .ok (.invokevirtual 302, 3) := by decide +kernel
theorem dX9_rule_14 : decode cX9_rule 14 = .ok (.ifCond .ne 10, 3) := by decide +kernel
theorem dX9_rule_17 : decode cX9_rule 17 = .ok (.aload_n 0, 1) := by decide +kernel
theorem dX9_rule_18 : decode cX9_rule 18 = .ok (.bipush 7, 2) := by decide +kernel
theorem dX9_rule_20 : decode cX9_rule 20 = .ok (.invokevirtual 156, 3) := by decide +kernel
theorem dX9_rule_23 : decode cX9_rule 23 = .ok (.ireturn, 1) := by decide +kernel
theorem dX9_rule_24 : decode cX9_rule 24 = .ok (.aload_n 0, 1) := by decide +kernel
theorem dX9_rule_25 : decode cX9_rule 25 = .ok (.invokevirtual 321, 3) := by decide +kernel
theorem dX9_rule_28 : decode cX9_rule 28 = .ok (.iconst 0, 1) := by decide +kernel
theorem dX9_rule_29 : decode cX9_rule 29 = .ok (.istore_n 1, 1) := by decide +kernel
theorem dX9_rule_30 : decode cX9_rule 30 = .ok (.aload_n 0, 1) := by decide +kernel
theorem dX9_rule_31 : decode cX9_rule 31 = .ok (.iload_n 1, 1) := by decide +kernel
theorem dX9_rule_32 : decode cX9_rule 32 = .ok (.invokevirtual 324, 3) := by decide +kernel
theorem dX9_rule_35 : decode cX9_rule 35 = .ok (.ifCond .ne 9, 3) := by decide +kernel
theorem dX9_rule_38 : decode cX9_rule 38 = .ok (.iinc 1 1, 3) := by decide +kernel
theorem dX9_rule_41 : decode cX9_rule 41 = .ok (.goto (-11), 3) := by decide +kernel
theorem dX9_rule_44 : decode cX9_rule 44 = .ok (.iload_n 1, 1) := by decide +kernel
theorem dX9_rule_45 : decode cX9_rule 45 = .ok (.ireturn, 1) := by decide +kernel
set_option maxRecDepth 20000 in
theorem ggX9_part_X9_refuse : GoodIn wsX9_part wsX9_refuse := goodIn_r _ [9, 2, 10, 11, 12, 13, 14, 15, 16, 17, 18, 19, 20, 21, 22, 23, 24, 25, 26, 27, 28, 29, 30, 31, 32, 33, 34, 35, 36, 37, 38, 39, 40, 41, 42, 43, 44, 45, 46, 47, 48, 49, 50] (by decide +kernel) (by decide +kernel)
set_option maxRecDepth 20000 in
theorem gX9_part_X9_refuse : GoodIn wsX9_part (wsV RX9 156 RX9 yX9_refuse wsX9_refuse) := goodIn_app (goodIn_of _ (by decide +kernel)) ggX9_part_X9_refuse
theorem dX9_part_0 : decode cX9_part 0 = .ok (.aload_n 0, 1) := by decide +kernel
theorem dX9_part_1 : decode cX9_part 1 = .ok (.iconst 0, 1) := by decide +kernel
theorem dX9_part_2 : decode cX9_part 2 = .ok (.putfield 112, 3) := by decide +kernel
theorem dX9_part_5 : decode cX9_part 5 = .ok (.aload_n 0, 1) := by decide +kernel
theorem dX9_part_6 : decode cX9_part 6 = .ok (.iconst 0, 1) := by decide +kernel
theorem dX9_part_7 : decode cX9_part 7 = .ok (.putfield 115, 3) := by decide +kernel
theorem dX9_part_10 : decode cX9_part 10 = .ok (.iload_n 1, 1) := by decide +kernel
theorem dX9_part_11 : decode cX9_part 11 = .ok (.iconst 1, 1) := by decide +kernel
theorem dX9_part_12 : decode cX9_part 12 = .ok (.if_icmp .lt 11, 3) := by decide +kernel
theorem dX9_part_15 : decode cX9_part 15 = .ok (.iload_n 1, 1) := by decide +kernel
theorem dX9_part_16 : decode cX9_part 16 = .ok (.aload_n 0, 1) := by decide +kernel
theorem dX9_part_17 : decode cX9_part 17 = .ok (.getfield 72, 3) := by decide +kernel
theorem dX9_part_20 : decode cX9_part 20 = .ok (.if_icmp .le 12, 3) := by decide +kernel
theorem dX9_part_23 : decode cX9_part 23 = .ok (.aload_n 0, 1) := by decide +kernel
theorem dX9_part_24 : decode cX9_part 24 = .ok (.bipush 8, 2) := by decide +kernel
theorem dX9_part_26 : decode cX9_part 26 = .ok (.invokevirtual 156, 3) := by decide +kernel
theorem dX9_part_29 : decode cX9_part 29 = .ok (.goto 12, 3) := by decide +kernel
theorem dX9_part_32 : decode cX9_part 32 = .ok (.aload_n 0, 1) := by decide +kernel
theorem dX9_part_33 : decode cX9_part 33 = .ok (.getfield 75, 3) := by decide +kernel
theorem dX9_part_36 : decode cX9_part 36 = .ok (.iload_n 1, 1) := by decide +kernel
theorem dX9_part_37 : decode cX9_part 37 = .ok (.iconst 1, 1) := by decide +kernel
theorem dX9_part_38 : decode cX9_part 38 = .ok (.isub, 1) := by decide +kernel
theorem dX9_part_39 : decode cX9_part 39 = .ok (.laload, 1) := by decide +kernel
theorem dX9_part_40 : decode cX9_part 40 = .ok (.l2i, 1) := by decide +kernel
theorem dX9_part_41 : decode cX9_part 41 = .ok (.ireturn, 1) := by decide +kernel
theorem dX9_out_0 : decode cX9_out 0 = .ok (.aload_n 0, 1) := by decide +kernel
theorem dX9_out_1 : decode cX9_out 1 = .ok (.iconst 0, 1) := by decide +kernel
theorem dX9_out_2 : decode cX9_out 2 = .ok (.putfield 112, 3) := by decide +kernel
theorem dX9_out_5 : decode cX9_out 5 = .ok (.iload_n 1, 1) := by decide +kernel
theorem dX9_out_6 : decode cX9_out 6 = .ok (.ifCond .lt 11, 3) := by decide +kernel
theorem dX9_out_9 : decode cX9_out 9 = .ok (.iload_n 1, 1) := by decide +kernel
theorem dX9_out_10 : decode cX9_out 10 = .ok (.aload_n 0, 1) := by decide +kernel
theorem dX9_out_11 : decode cX9_out 11 = .ok (.getfield 234, 3) := by decide +kernel
theorem dX9_out_14 : decode cX9_out 14 = .ok (.if_icmp .lt 10, 3) := by decide +kernel
theorem dX9_out_17 : decode cX9_out 17 = .ok (.aload_n 0, 1) := by decide +kernel
theorem dX9_out_18 : decode cX9_out 18 = .ok (.iconst 1, 1) := by decide +kernel
theorem dX9_out_19 : decode cX9_out 19 = .ok (.putfield 112, 3) := by decide +kernel
theorem dX9_out_22 : decode cX9_out 22 = .ok (.iconst 0, 1) := by decide +kernel
theorem dX9_out_23 : decode cX9_out 23 = .ok (.ireturn, 1) := by decide +kernel
theorem dX9_out_24 : decode cX9_out 24 = .ok (.aload_n 0, 1) := by decide +kernel
theorem dX9_out_25 : decode cX9_out 25 = .ok (.getfield 78, 3) := by decide +kernel
theorem dX9_out_28 : decode cX9_out 28 = .ok (.iload_n 1, 1) := by decide +kernel
theorem dX9_out_29 : decode cX9_out 29 = .ok (.baload, 1) := by decide +kernel
theorem dX9_out_30 : decode cX9_out 30 = .ok (.ireturn, 1) := by decide +kernel
theorem dJ9_floorMod_7cf53_0 : decode cJ9_floorMod_7cf53 0 = .ok (.iload_n 0, 1) := by decide +kernel
theorem dJ9_floorMod_7cf53_1 : decode cJ9_floorMod_7cf53 1 = .ok (.iload_n 1, 1) := by decide +kernel
theorem dJ9_floorMod_7cf53_2 : decode cJ9_floorMod_7cf53 2 = .ok (.irem, 1) := by decide +kernel
theorem dJ9_floorMod_7cf53_3 : decode cJ9_floorMod_7cf53 3 = .ok (.istore_n 2, 1) := by decide +kernel
theorem dJ9_floorMod_7cf53_4 : decode cJ9_floorMod_7cf53 4 = .ok (.iload_n 0, 1) := by decide +kernel
theorem dJ9_floorMod_7cf53_5 : decode cJ9_floorMod_7cf53 5 = .ok (.iload_n 1, 1) := by decide +kernel
theorem dJ9_floorMod_7cf53_6 : decode cJ9_floorMod_7cf53 6 = .ok (.ixor, 1) := by decide +kernel
theorem dJ9_floorMod_7cf53_7 : decode cJ9_floorMod_7cf53 7 = .ok (.ifCond .ge 11, 3) := by decide +kernel
theorem dJ9_floorMod_7cf53_10 : decode cJ9_floorMod_7cf53 10 = .ok (.iload_n 2, 1) := by decide +kernel
theorem dJ9_floorMod_7cf53_11 : decode cJ9_floorMod_7cf53 11 = .ok (.ifCond .eq 7, 3) := by decide +kernel
theorem dJ9_floorMod_7cf53_14 : decode cJ9_floorMod_7cf53 14 = .ok (.iload_n 2, 1) := by decide +kernel
theorem dJ9_floorMod_7cf53_15 : decode cJ9_floorMod_7cf53 15 = .ok (.iload_n 1, 1) := by decide +kernel
theorem dJ9_floorMod_7cf53_16 : decode cJ9_floorMod_7cf53 16 = .ok (.iadd, 1) := by decide +kernel
theorem dJ9_floorMod_7cf53_17 : decode cJ9_floorMod_7cf53 17 = .ok (.ireturn, 1) := by decide +kernel
theorem dJ9_floorMod_7cf53_18 : decode cJ9_floorMod_7cf53 18 = .ok (.iload_n 2, 1) := by decide +kernel
theorem dJ9_floorMod_7cf53_19 : decode cJ9_floorMod_7cf53 19 = .ok (.ireturn, 1) := by decide +kernel
theorem dJ9_abs_0f7a4_0 : decode cJ9_abs_0f7a4 0 = .ok (.iload_n 0, 1) := by decide +kernel
theorem dJ9_abs_0f7a4_1 : decode cJ9_abs_0f7a4 1 = .ok (.ifCond .ge 8, 3) := by decide +kernel
theorem dJ9_abs_0f7a4_4 : decode cJ9_abs_0f7a4 4 = .ok (.iload_n 0, 1) := by decide +kernel
theorem dJ9_abs_0f7a4_5 : decode cJ9_abs_0f7a4 5 = .ok (.ineg, 1) := by decide +kernel
theorem dJ9_abs_0f7a4_6 : decode cJ9_abs_0f7a4 6 = .ok (.goto 4, 3) := by decide +kernel
theorem dJ9_abs_0f7a4_9 : decode cJ9_abs_0f7a4 9 = .ok (.iload_n 0, 1) := by decide +kernel
theorem dJ9_abs_0f7a4_10 : decode cJ9_abs_0f7a4 10 = .ok (.ireturn, 1) := by decide +kernel
theorem dJ9_max_7cf53_0 : decode cJ9_max_7cf53 0 = .ok (.iload_n 0, 1) := by decide +kernel
theorem dJ9_max_7cf53_1 : decode cJ9_max_7cf53 1 = .ok (.iload_n 1, 1) := by decide +kernel
theorem dJ9_max_7cf53_2 : decode cJ9_max_7cf53 2 = .ok (.if_icmp .lt 7, 3) := by decide +kernel
theorem dJ9_max_7cf53_5 : decode cJ9_max_7cf53 5 = .ok (.iload_n 0, 1) := by decide +kernel
theorem dJ9_max_7cf53_6 : decode cJ9_max_7cf53 6 = .ok (.goto 4, 3) := by decide +kernel
theorem dJ9_max_7cf53_9 : decode cJ9_max_7cf53 9 = .ok (.iload_n 1, 1) := by decide +kernel
theorem dJ9_max_7cf53_10 : decode cJ9_max_7cf53 10 = .ok (.ireturn, 1) := by decide +kernel
theorem dJ9_min_7cf53_0 : decode cJ9_min_7cf53 0 = .ok (.iload_n 0, 1) := by decide +kernel
theorem dJ9_min_7cf53_1 : decode cJ9_min_7cf53 1 = .ok (.iload_n 1, 1) := by decide +kernel
theorem dJ9_min_7cf53_2 : decode cJ9_min_7cf53 2 = .ok (.if_icmp .gt 7, 3) := by decide +kernel
theorem dJ9_min_7cf53_5 : decode cJ9_min_7cf53 5 = .ok (.iload_n 0, 1) := by decide +kernel
theorem dJ9_min_7cf53_6 : decode cJ9_min_7cf53 6 = .ok (.goto 4, 3) := by decide +kernel
theorem dJ9_min_7cf53_9 : decode cJ9_min_7cf53 9 = .ok (.iload_n 1, 1) := by decide +kernel
theorem dJ9_min_7cf53_10 : decode cJ9_min_7cf53 10 = .ok (.ireturn, 1) := by decide +kernel
theorem dJ9_min_f86c9_0 : decode cJ9_min_f86c9 0 = .ok (.lload_n 0, 1) := by decide +kernel
theorem dJ9_min_f86c9_1 : decode cJ9_min_f86c9 1 = .ok (.lload_n 2, 1) := by decide +kernel
theorem dJ9_min_f86c9_2 : decode cJ9_min_f86c9 2 = .ok (.lcmp, 1) := by decide +kernel
theorem dJ9_min_f86c9_3 : decode cJ9_min_f86c9 3 = .ok (.ifCond .gt 7, 3) := by decide +kernel
theorem dJ9_min_f86c9_6 : decode cJ9_min_f86c9 6 = .ok (.lload_n 0, 1) := by decide +kernel
theorem dJ9_min_f86c9_7 : decode cJ9_min_f86c9 7 = .ok (.goto 4, 3) := by decide +kernel
theorem dJ9_min_f86c9_10 : decode cJ9_min_f86c9 10 = .ok (.lload_n 2, 1) := by decide +kernel
theorem dJ9_min_f86c9_11 : decode cJ9_min_f86c9 11 = .ok (.lreturn, 1) := by decide +kernel
set_option maxRecDepth 20000 in
theorem ggL_out_X8_out : GoodIn wsL_out wsX8_out := goodIn_ca (goodIn_r _ [6, 7, 8, 9, 10, 11, 12, 13, 14, 15, 16, 17, 18, 19, 20, 21, 22] (by decide +kernel) (by decide +kernel)) (goodIn_sub (fun _ h => List.mem_cons_of_mem _ (List.mem_append_right _ h)) (by decide +kernel))
set_option maxRecDepth 20000 in
theorem gL_out_X8_out : GoodIn wsL_out (wsV RL 7 RX8 yX8_out wsX8_out) := goodIn_app (goodIn_of _ (by decide +kernel)) ggL_out_X8_out
theorem dL_out_0 : decode cL_out 0 = .ok (.aload_n 2, 1) := by decide +kernel
theorem dL_out_1 : decode cL_out 1 = .ok (.iconst 0, 1) := by decide +kernel
theorem dL_out_2 : decode cL_out 2 = .ok (.aload_n 0, 1) := by decide +kernel
theorem dL_out_3 : decode cL_out 3 = .ok (.iload_n 1, 1) := by decide +kernel
theorem dL_out_4 : decode cL_out 4 = .ok (.invokevirtual 7, 3) := by decide +kernel
theorem dL_out_7 : decode cL_out 7 = .ok (.i2l, 1) := by decide +kernel
theorem dL_out_8 : decode cL_out 8 = .ok (.lastore, 1) := by decide +kernel
theorem dL_out_9 : decode cL_out 9 = .ok (.goto 6, 3) := by decide +kernel
theorem dL_out_12 : decode cL_out 12 = .ok (.astore_n 3, 1) := by decide +kernel
theorem dL_out_13 : decode cL_out 13 = .ok (.iconst 1, 1) := by decide +kernel
theorem dL_out_14 : decode cL_out 14 = .ok (.ireturn, 1) := by decide +kernel
theorem dL_out_15 : decode cL_out 15 = .ok (.iconst 0, 1) := by decide +kernel
theorem dL_out_16 : decode cL_out 16 = .ok (.ireturn, 1) := by decide +kernel
set_option maxRecDepth 20000 in
theorem ggL_law_X8_init : GoodIn wsL_law wsX8_init := goodIn_r _ [10, 11, 12, 13, 14, 15, 16, 17, 18, 19, 20, 21, 22, 23, 24, 25, 26, 27, 28, 29, 30, 31, 32, 33, 34, 35, 36, 37, 38, 39, 40, 41, 42, 43, 44, 45, 46, 47, 48, 49, 50, 51, 52, 53, 54, 55, 56, 57, 58, 59, 60, 61, 62, 63, 64, 65, 66, 67, 68, 69, 70, 71, 72, 73, 74, 75, 76, 77, 78, 79, 80, 81, 82, 83, 6, 84, 85, 86, 87, 88, 89, 90, 91, 92, 93, 94, 95, 96, 97, 98, 99, 100, 101, 102, 103, 104, 105, 106, 1227, 1228, 1229, 1174, 1175, 1176, 1177, 1178, 1179, 1180, 1181, 1182, 1183, 1184, 1185, 1230, 1231, 1232, 1233, 1234, 1235, 1236, 1237, 1238, 1239, 1240, 1241, 1242, 1243, 1244, 1245, 1246, 1247, 1248, 1249, 1250, 1251, 1252, 1253, 1254, 1255, 1256, 1257, 1258, 1259, 1260, 1261, 1262, 1263, 1264, 1265] (by decide +kernel) (by decide +kernel)
set_option maxRecDepth 20000 in
theorem gL_law_X8_init : GoodIn wsL_law (wsX8_init) := ggL_law_X8_init
set_option maxRecDepth 20000 in
theorem ggL_law_X9_init : GoodIn wsL_law wsX9_init := goodIn_r _ [109, 110, 12, 13, 38, 111, 112, 113, 114, 115, 116, 117, 118, 119, 120, 121, 122, 6, 123, 124, 125, 126, 127, 128, 129, 130, 131, 132, 133, 134, 59, 135, 136, 137, 138, 139, 140, 141, 142, 143, 144, 145, 1186, 1187, 1188, 1189, 1190, 1191, 1192, 1193, 1194, 1195, 1196, 1197, 1198, 1199, 1200, 1201, 1202, 1203, 1204, 1205, 1206, 1207, 1208, 1209, 1210, 1211, 1212, 1213, 1214, 1215, 1216, 1217, 1218, 1219, 1220, 1221, 1222, 1223, 1224, 1225, 1226] (by decide +kernel) (by decide +kernel)
set_option maxRecDepth 20000 in
theorem gL_law_X9_init : GoodIn wsL_law (wsX9_init) := ggL_law_X9_init
set_option maxRecDepth 20000 in
theorem ggL_law_X8_status : GoodIn wsL_law wsX8_status := goodIn_r _ [149, 150, 1174, 1175, 1176, 1177, 1178, 1179, 1180, 1181, 1182, 1183, 1184, 1185] (by decide +kernel) (by decide +kernel)
set_option maxRecDepth 20000 in
theorem gL_law_X8_status : GoodIn wsL_law (wsV RL 19 RX8 yX8_status wsX8_status) := goodIn_app (goodIn_of _ (by decide +kernel)) ggL_law_X8_status
set_option maxRecDepth 20000 in
theorem ggL_law_X9_status : GoodIn wsL_law wsX9_status := goodIn_r _ [154, 155, 156, 1186, 1187, 1188, 1189, 1190, 1191, 1192, 1193, 1194, 1195, 1196, 1197, 1198, 1199, 1200, 1201, 1202, 1203, 1204, 1205, 1206, 1207, 1208, 1209, 1210, 1211, 1212, 1213, 1214, 1215, 1216, 1217, 1218, 1219, 1220, 1221, 1222, 1223, 1224, 1225, 1226] (by decide +kernel) (by decide +kernel)
set_option maxRecDepth 20000 in
theorem gL_law_X9_status : GoodIn wsL_law (wsV RL 23 RX9 yX9_status wsX9_status) := goodIn_app (goodIn_of _ (by decide +kernel)) ggL_law_X9_status
set_option maxRecDepth 20000 in
theorem ggL_law_X8_sheet : GoodIn wsL_law wsX8_sheet := goodIn_r _ [160, 17, 161, 162, 16, 163, 164, 165, 2, 166, 167, 168, 169, 170, 150, 171, 172, 173, 174, 46, 47, 45, 175, 176, 177, 178, 179, 1174, 1175, 1176, 1177, 1178, 1179, 1180, 1181, 1182, 1183, 1184, 1185, 1227, 1228, 1229] (by decide +kernel) (by decide +kernel)
set_option maxRecDepth 20000 in
theorem gL_law_X8_sheet : GoodIn wsL_law (wsV RL 24 RX8 yX8_sheet wsX8_sheet) := goodIn_app (goodIn_of _ (by decide +kernel)) ggL_law_X8_sheet
set_option maxRecDepth 20000 in
theorem ggL_law_X9_sheet : GoodIn wsL_law wsX9_sheet := goodIn_r _ [183, 155, 156, 111, 112, 113, 184, 185, 186, 5, 187, 1186, 1187, 1188, 1189, 1190, 1191, 1192, 1193, 1194, 1195, 1196, 1197, 1198, 1199, 1200, 1201, 1202, 1203, 1204, 1205, 1206, 1207, 1208, 1209, 1210, 1211, 1212, 1213, 1214, 1215, 1216, 1217, 1218, 1219, 1220, 1221, 1222, 1223, 1224, 1225, 1226] (by decide +kernel) (by decide +kernel)
set_option maxRecDepth 20000 in
theorem gL_law_X9_sheet : GoodIn wsL_law (wsV RL 28 RX9 yX9_sheet wsX9_sheet) := goodIn_app (goodIn_of _ (by decide +kernel)) ggL_law_X9_sheet
set_option maxRecDepth 20000 in
theorem ggL_law_X8_write : GoodIn wsL_law wsX8_write := goodIn_r _ [191, 17, 192, 193, 194, 2, 195, 196, 197, 198, 199, 161, 162, 16, 163, 200, 201, 202, 203, 47, 175, 204, 205, 206, 207, 167, 168, 169, 170, 150, 208, 209, 210, 211, 46, 45, 212, 176, 177, 178, 179, 1174, 1175, 1176, 1177, 1178, 1179, 1180, 1181, 1182, 1183, 1184, 1185, 1227, 1228, 1229] (by decide +kernel) (by decide +kernel)
set_option maxRecDepth 20000 in
theorem gL_law_X8_write : GoodIn wsL_law (wsV RL 29 RX8 yX8_write wsX8_write) := goodIn_app (goodIn_of _ (by decide +kernel)) ggL_law_X8_write
set_option maxRecDepth 20000 in
theorem ggL_law_X9_write : GoodIn wsL_law wsX9_write := goodIn_r _ [216, 155, 156, 113, 111, 217, 218, 219, 5, 220, 112, 221, 222, 223, 224, 225, 226, 227, 1186, 1187, 1188, 1189, 1190, 1191, 1192, 1193, 1194, 1195, 1196, 1197, 1198, 1199, 1200, 1201, 1202, 1203, 1204, 1205, 1206, 1207, 1208, 1209, 1210, 1211, 1212, 1213, 1214, 1215, 1216, 1217, 1218, 1219, 1220, 1221, 1222, 1223, 1224, 1225, 1226] (by decide +kernel) (by decide +kernel)
set_option maxRecDepth 20000 in
theorem gL_law_X9_write : GoodIn wsL_law (wsV RL 32 RX9 yX9_write wsX9_write) := goodIn_app (goodIn_of _ (by decide +kernel)) ggL_law_X9_write
set_option maxRecDepth 20000 in
theorem ggL_law_X8_read : GoodIn wsL_law wsX8_read := goodIn_r _ [231, 17, 192, 193, 194, 2, 195, 196, 197, 198, 199, 161, 162, 16, 163, 200, 201, 202, 203, 47, 175, 204, 205, 206, 207, 232, 233, 234, 235, 150, 236, 237, 238, 239, 45, 212, 240, 241, 242, 243, 1174, 1175, 1176, 1177, 1178, 1179, 1180, 1181, 1182, 1183, 1184, 1185, 1227, 1228, 1229] (by decide +kernel) (by decide +kernel)
set_option maxRecDepth 20000 in
theorem gL_law_X8_read : GoodIn wsL_law (wsV RL 33 RX8 yX8_read wsX8_read) := goodIn_app (goodIn_of _ (by decide +kernel)) ggL_law_X8_read
set_option maxRecDepth 20000 in
theorem ggL_law_X9_read : GoodIn wsL_law wsX9_read := goodIn_r _ [247, 155, 156, 113, 217, 218, 219, 5, 220, 112, 221, 222, 223, 224, 1186, 1187, 1188, 1189, 1190, 1191, 1192, 1193, 1194, 1195, 1196, 1197, 1198, 1199, 1200, 1201, 1202, 1203, 1204, 1205, 1206, 1207, 1208, 1209, 1210, 1211, 1212, 1213, 1214, 1215, 1216, 1217, 1218, 1219, 1220, 1221, 1222, 1223, 1224, 1225, 1226] (by decide +kernel) (by decide +kernel)
set_option maxRecDepth 20000 in
theorem gL_law_X9_read : GoodIn wsL_law (wsV RL 37 RX9 yX9_read wsX9_read) := goodIn_app (goodIn_of _ (by decide +kernel)) ggL_law_X9_read
set_option maxRecDepth 20000 in
theorem ggL_law_X8_pour : GoodIn wsL_law wsX8_pour := goodIn_r _ [251, 17, 161, 162, 16, 163, 167, 168, 169, 2, 170, 150, 200, 201, 202, 203, 47, 175, 252, 253, 254, 255, 46, 204, 205, 206, 207, 256, 257, 258, 259, 45, 260, 261, 262, 263, 212, 176, 177, 178, 179, 1174, 1175, 1176, 1177, 1178, 1179, 1180, 1181, 1182, 1183, 1184, 1185, 1227, 1228, 1229] (by decide +kernel) (by decide +kernel)
set_option maxRecDepth 20000 in
theorem gL_law_X8_pour : GoodIn wsL_law (wsV RL 38 RX8 yX8_pour wsX8_pour) := goodIn_app (goodIn_of _ (by decide +kernel)) ggL_law_X8_pour
set_option maxRecDepth 20000 in
theorem ggL_law_X9_pour : GoodIn wsL_law wsX9_pour := goodIn_r _ [267, 155, 156, 112, 111, 113, 184, 185, 186, 5, 187, 1186, 1187, 1188, 1189, 1190, 1191, 1192, 1193, 1194, 1195, 1196, 1197, 1198, 1199, 1200, 1201, 1202, 1203, 1204, 1205, 1206, 1207, 1208, 1209, 1210, 1211, 1212, 1213, 1214, 1215, 1216, 1217, 1218, 1219, 1220, 1221, 1222, 1223, 1224, 1225, 1226] (by decide +kernel) (by decide +kernel)
set_option maxRecDepth 20000 in
theorem gL_law_X9_pour : GoodIn wsL_law (wsV RL 42 RX9 yX9_pour wsX9_pour) := goodIn_app (goodIn_of _ (by decide +kernel)) ggL_law_X9_pour
set_option maxRecDepth 20000 in
theorem ggL_law_X8_steps : GoodIn wsL_law wsX8_steps := goodIn_r _ [271, 17, 21, 196, 197, 198, 2, 199, 161, 162, 16, 163, 200, 201, 202, 203, 47, 175, 167, 168, 169, 170, 150, 164, 165, 166, 204, 205, 206, 207, 272, 273, 274, 275, 236, 237, 238, 239, 45, 212, 276, 277, 278, 20, 279, 52, 53, 55, 54, 280, 281, 282, 283, 284, 285, 286, 287, 56, 288, 289, 290, 291, 292, 293, 294, 295, 296, 297, 298, 176, 177, 178, 179, 1174, 1175, 1176, 1177, 1178, 1179, 1180, 1181, 1182, 1183, 1184, 1185, 1227, 1228, 1229, 1230, 1231, 1232, 1233, 1234, 1235, 1236, 1237, 1238, 1239, 1240, 1241, 1242, 1243, 1244, 1266, 1267, 1268, 1269] (by decide +kernel) (by decide +kernel)
set_option maxRecDepth 20000 in
theorem gL_law_X8_steps : GoodIn wsL_law (wsV RL 43 RX8 yX8_steps wsX8_steps) := goodIn_app (goodIn_of _ (by decide +kernel)) ggL_law_X8_steps
set_option maxRecDepth 20000 in
theorem ggL_law_X9_steps : GoodIn wsL_law wsX9_steps := goodIn_r _ [302, 155, 156, 112, 113, 114, 117, 118, 119, 221, 222, 223, 5, 224, 184, 185, 186, 187, 1186, 1187, 1188, 1189, 1190, 1191, 1192, 1193, 1194, 1195, 1196, 1197, 1198, 1199, 1200, 1201, 1202, 1203, 1204, 1205, 1206, 1207, 1208, 1209, 1210, 1211, 1212, 1213, 1214, 1215, 1216, 1217, 1218, 1219, 1220, 1221, 1222, 1223, 1224, 1225, 1226] (by decide +kernel) (by decide +kernel)
set_option maxRecDepth 20000 in
theorem gL_law_X9_steps : GoodIn wsL_law (wsV RL 47 RX9 yX9_steps wsX9_steps) := goodIn_app (goodIn_of _ (by decide +kernel)) ggL_law_X9_steps
set_option maxRecDepth 20000 in
theorem ggL_law_X8_step : GoodIn wsL_law wsX8_step := goodIn_r _ [306, 21, 307, 308, 309, 164, 165, 2, 166, 232, 233, 234, 235, 150, 310, 311, 312, 20, 313, 56, 240, 241, 242, 243, 1174, 1175, 1176, 1177, 1178, 1179, 1180, 1181, 1182, 1183, 1184, 1185, 1230, 1231, 1232, 1233, 1234, 1235, 1236, 1237, 1238, 1239, 1240, 1241, 1242, 1243, 1244] (by decide +kernel) (by decide +kernel)
set_option maxRecDepth 20000 in
theorem gL_law_X8_step : GoodIn wsL_law (wsV RL 48 RX8 yX8_step wsX8_step) := goodIn_app (goodIn_of _ (by decide +kernel)) ggL_law_X8_step
set_option maxRecDepth 20000 in
theorem ggL_law_X9_step : GoodIn wsL_law wsX9_step := goodIn_r _ [317, 155, 156, 114, 117, 118, 119, 318, 319, 320, 5, 321, 1186, 1187, 1188, 1189, 1190, 1191, 1192, 1193, 1194, 1195, 1196, 1197, 1198, 1199, 1200, 1201, 1202, 1203, 1204, 1205, 1206, 1207, 1208, 1209, 1210, 1211, 1212, 1213, 1214, 1215, 1216, 1217, 1218, 1219, 1220, 1221, 1222, 1223, 1224, 1225, 1226] (by decide +kernel) (by decide +kernel)
set_option maxRecDepth 20000 in
theorem gL_law_X9_step : GoodIn wsL_law (wsV RL 51 RX9 yX9_step wsX9_step) := goodIn_app (goodIn_of _ (by decide +kernel)) ggL_law_X9_step
set_option maxRecDepth 20000 in
theorem ggL_law_X8_told : GoodIn wsL_law wsX8_told := goodIn_r _ [325, 21, 309, 310, 311, 312, 20, 313, 56, 167, 168, 169, 2, 170, 150, 164, 165, 166, 176, 177, 178, 179, 1174, 1175, 1176, 1177, 1178, 1179, 1180, 1181, 1182, 1183, 1184, 1185, 1230, 1231, 1232, 1233, 1234, 1235, 1236, 1237, 1238, 1239, 1240, 1241, 1242, 1243, 1244] (by decide +kernel) (by decide +kernel)
set_option maxRecDepth 20000 in
theorem gL_law_X8_told : GoodIn wsL_law (wsV RL 52 RX8 yX8_told wsX8_told) := goodIn_app (goodIn_of _ (by decide +kernel)) ggL_law_X8_told
set_option maxRecDepth 20000 in
theorem ggL_law_X9_told : GoodIn wsL_law wsX9_told := goodIn_r _ [329, 155, 156, 114, 119, 184, 185, 186, 5, 187, 1186, 1187, 1188, 1189, 1190, 1191, 1192, 1193, 1194, 1195, 1196, 1197, 1198, 1199, 1200, 1201, 1202, 1203, 1204, 1205, 1206, 1207, 1208, 1209, 1210, 1211, 1212, 1213, 1214, 1215, 1216, 1217, 1218, 1219, 1220, 1221, 1222, 1223, 1224, 1225, 1226] (by decide +kernel) (by decide +kernel)
set_option maxRecDepth 20000 in
theorem gL_law_X9_told : GoodIn wsL_law (wsV RL 55 RX9 yX9_told wsX9_told) := goodIn_app (goodIn_of _ (by decide +kernel)) ggL_law_X9_told
set_option maxRecDepth 20000 in
theorem ggL_law_X8_kind : GoodIn wsL_law wsX8_kind := goodIn_r _ [333, 21, 164, 165, 2, 166, 167, 168, 169, 170, 150, 334, 335, 336, 20, 337, 77, 57, 58, 62, 63, 64, 65, 66, 67, 68, 69, 61, 60, 70, 71, 72, 73, 74, 75, 76, 288, 289, 290, 291, 292, 293, 294, 295, 296, 297, 298, 176, 177, 178, 179, 1174, 1175, 1176, 1177, 1178, 1179, 1180, 1181, 1182, 1183, 1184, 1185, 1230, 1231, 1232, 1233, 1234, 1235, 1236, 1237, 1238, 1239, 1240, 1241, 1242, 1243, 1244, 1266, 1267, 1268, 1269] (by decide +kernel) (by decide +kernel)
set_option maxRecDepth 20000 in
theorem gL_law_X8_kind : GoodIn wsL_law (wsV RL 56 RX8 yX8_kind wsX8_kind) := goodIn_app (goodIn_of _ (by decide +kernel)) ggL_law_X8_kind
set_option maxRecDepth 20000 in
theorem ggL_law_X9_kind : GoodIn wsL_law wsX9_kind := goodIn_r _ [341, 155, 156, 342, 115, 116, 184, 185, 186, 5, 187, 1186, 1187, 1188, 1189, 1190, 1191, 1192, 1193, 1194, 1195, 1196, 1197, 1198, 1199, 1200, 1201, 1202, 1203, 1204, 1205, 1206, 1207, 1208, 1209, 1210, 1211, 1212, 1213, 1214, 1215, 1216, 1217, 1218, 1219, 1220, 1221, 1222, 1223, 1224, 1225, 1226] (by decide +kernel) (by decide +kernel)
set_option maxRecDepth 20000 in
theorem gL_law_X9_kind : GoodIn wsL_law (wsV RL 59 RX9 yX9_kind wsX9_kind) := goodIn_app (goodIn_of _ (by decide +kernel)) ggL_law_X9_kind
set_option maxRecDepth 20000 in
theorem ggL_law_X8_bar : GoodIn wsL_law wsX8_bar := goodIn_r _ [346, 21, 347, 348, 20, 349, 167, 168, 169, 2, 170, 150, 350, 351, 352, 353, 60, 354, 355, 356, 357, 358, 359, 70, 71, 72, 66, 67, 68, 69, 61, 73, 74, 75, 76, 77, 57, 58, 288, 289, 290, 291, 292, 293, 294, 295, 296, 297, 298, 176, 177, 178, 179, 1174, 1175, 1176, 1177, 1178, 1179, 1180, 1181, 1182, 1183, 1184, 1185, 1230, 1231, 1232, 1233, 1234, 1235, 1236, 1237, 1238, 1239, 1240, 1241, 1242, 1243, 1244, 1266, 1267, 1268, 1269] (by decide +kernel) (by decide +kernel)
set_option maxRecDepth 20000 in
theorem gL_law_X8_bar : GoodIn wsL_law (wsV RL 60 RX8 yX8_bar wsX8_bar) := goodIn_app (goodIn_of _ (by decide +kernel)) ggL_law_X8_bar
set_option maxRecDepth 20000 in
theorem ggL_law_X9_bar : GoodIn wsL_law wsX9_bar := goodIn_r _ [363, 155, 156, 121, 364, 365, 5, 366, 184, 185, 186, 187, 367, 368, 369, 1186, 1187, 1188, 1189, 1190, 1191, 1192, 1193, 1194, 1195, 1196, 1197, 1198, 1199, 1200, 1201, 1202, 1203, 1204, 1205, 1206, 1207, 1208, 1209, 1210, 1211, 1212, 1213, 1214, 1215, 1216, 1217, 1218, 1219, 1220, 1221, 1222, 1223, 1224, 1225, 1226] (by decide +kernel) (by decide +kernel)
set_option maxRecDepth 20000 in
theorem gL_law_X9_bar : GoodIn wsL_law (wsV RL 64 RX9 yX9_bar wsX9_bar) := goodIn_app (goodIn_of _ (by decide +kernel)) ggL_law_X9_bar
set_option maxRecDepth 20000 in
theorem ggL_law_X8_wall : GoodIn wsL_law wsX8_wall := goodIn_r _ [373, 17, 21, 374, 196, 197, 198, 2, 199, 161, 162, 16, 163, 200, 201, 202, 203, 47, 175, 232, 233, 234, 235, 150, 204, 205, 206, 207, 236, 237, 238, 239, 45, 212, 347, 348, 20, 349, 350, 351, 352, 353, 60, 354, 355, 356, 357, 358, 359, 70, 71, 72, 66, 67, 68, 69, 61, 73, 74, 75, 76, 77, 57, 58, 288, 289, 290, 291, 292, 293, 294, 295, 296, 297, 298, 240, 241, 242, 243, 1174, 1175, 1176, 1177, 1178, 1179, 1180, 1181, 1182, 1183, 1184, 1185, 1230, 1231, 1232, 1233, 1234, 1235, 1236, 1237, 1238, 1239, 1240, 1241, 1242, 1243, 1244, 1227, 1228, 1229, 1266, 1267, 1268, 1269] (by decide +kernel) (by decide +kernel)
set_option maxRecDepth 20000 in
theorem gL_law_X8_wall : GoodIn wsL_law (wsV RL 65 RX8 yX8_wall wsX8_wall) := goodIn_app (goodIn_of _ (by decide +kernel)) ggL_law_X8_wall
set_option maxRecDepth 20000 in
theorem ggL_law_X9_wall : GoodIn wsL_law wsX9_wall := goodIn_r _ [378, 155, 156, 379, 112, 113, 121, 221, 222, 223, 5, 224, 318, 319, 320, 321, 364, 365, 366, 367, 368, 369, 1186, 1187, 1188, 1189, 1190, 1191, 1192, 1193, 1194, 1195, 1196, 1197, 1198, 1199, 1200, 1201, 1202, 1203, 1204, 1205, 1206, 1207, 1208, 1209, 1210, 1211, 1212, 1213, 1214, 1215, 1216, 1217, 1218, 1219, 1220, 1221, 1222, 1223, 1224, 1225, 1226] (by decide +kernel) (by decide +kernel)
set_option maxRecDepth 20000 in
theorem gL_law_X9_wall : GoodIn wsL_law (wsV RL 68 RX9 yX9_wall wsX9_wall) := goodIn_app (goodIn_of _ (by decide +kernel)) ggL_law_X9_wall
set_option maxRecDepth 20000 in
theorem ggL_law_X8_from : GoodIn wsL_law wsX8_from := goodIn_r _ [383, 21, 384, 385, 347, 348, 20, 349, 167, 168, 169, 2, 170, 150, 176, 177, 178, 179, 1174, 1175, 1176, 1177, 1178, 1179, 1180, 1181, 1182, 1183, 1184, 1185, 1230, 1231, 1232, 1233, 1234, 1235, 1236, 1237, 1238, 1239, 1240, 1241, 1242, 1243, 1244] (by decide +kernel) (by decide +kernel)
set_option maxRecDepth 20000 in
theorem gL_law_X8_from : GoodIn wsL_law (wsV RL 69 RX8 yX8_from wsX8_from) := goodIn_app (goodIn_of _ (by decide +kernel)) ggL_law_X8_from
set_option maxRecDepth 20000 in
theorem ggL_law_X9_from : GoodIn wsL_law wsX9_from := goodIn_r _ [389, 155, 156, 390, 391, 364, 365, 5, 366, 184, 185, 186, 187, 1186, 1187, 1188, 1189, 1190, 1191, 1192, 1193, 1194, 1195, 1196, 1197, 1198, 1199, 1200, 1201, 1202, 1203, 1204, 1205, 1206, 1207, 1208, 1209, 1210, 1211, 1212, 1213, 1214, 1215, 1216, 1217, 1218, 1219, 1220, 1221, 1222, 1223, 1224, 1225, 1226] (by decide +kernel) (by decide +kernel)
set_option maxRecDepth 20000 in
theorem gL_law_X9_from : GoodIn wsL_law (wsV RL 72 RX9 yX9_from wsX9_from) := goodIn_app (goodIn_of _ (by decide +kernel)) ggL_law_X9_from
set_option maxRecDepth 20000 in
theorem ggL_law_X8_to : GoodIn wsL_law wsX8_to := goodIn_r _ [395, 21, 396, 397, 347, 348, 20, 349, 167, 168, 169, 2, 170, 150, 288, 289, 290, 291, 292, 293, 294, 295, 296, 297, 298, 176, 177, 178, 179, 1174, 1175, 1176, 1177, 1178, 1179, 1180, 1181, 1182, 1183, 1184, 1185, 1230, 1231, 1232, 1233, 1234, 1235, 1236, 1237, 1238, 1239, 1240, 1241, 1242, 1243, 1244, 1266, 1267, 1268, 1269] (by decide +kernel) (by decide +kernel)
set_option maxRecDepth 20000 in
theorem gL_law_X8_to : GoodIn wsL_law (wsV RL 73 RX8 yX8_to wsX8_to) := goodIn_app (goodIn_of _ (by decide +kernel)) ggL_law_X8_to
set_option maxRecDepth 20000 in
theorem ggL_law_X9_to : GoodIn wsL_law wsX9_to := goodIn_r _ [401, 155, 156, 402, 403, 364, 365, 5, 366, 184, 185, 186, 187, 1186, 1187, 1188, 1189, 1190, 1191, 1192, 1193, 1194, 1195, 1196, 1197, 1198, 1199, 1200, 1201, 1202, 1203, 1204, 1205, 1206, 1207, 1208, 1209, 1210, 1211, 1212, 1213, 1214, 1215, 1216, 1217, 1218, 1219, 1220, 1221, 1222, 1223, 1224, 1225, 1226] (by decide +kernel) (by decide +kernel)
set_option maxRecDepth 20000 in
theorem gL_law_X9_to : GoodIn wsL_law (wsV RL 76 RX9 yX9_to wsX9_to) := goodIn_app (goodIn_of _ (by decide +kernel)) ggL_law_X9_to
set_option maxRecDepth 20000 in
theorem ggL_law_X8_open : GoodIn wsL_law wsX8_open := goodIn_r _ [407, 21, 347, 348, 20, 349, 232, 233, 234, 2, 235, 150, 408, 409, 410, 411, 61, 355, 70, 71, 72, 240, 241, 242, 243, 1174, 1175, 1176, 1177, 1178, 1179, 1180, 1181, 1182, 1183, 1184, 1185, 1230, 1231, 1232, 1233, 1234, 1235, 1236, 1237, 1238, 1239, 1240, 1241, 1242, 1243, 1244] (by decide +kernel) (by decide +kernel)
set_option maxRecDepth 20000 in
theorem gL_law_X8_open : GoodIn wsL_law (wsV RL 77 RX8 yX8_open wsX8_open) := goodIn_app (goodIn_of _ (by decide +kernel)) ggL_law_X8_open
set_option maxRecDepth 20000 in
theorem ggL_law_X9_open : GoodIn wsL_law wsX9_open := goodIn_r _ [415, 155, 156, 364, 365, 5, 366, 318, 319, 320, 321, 416, 417, 418, 419, 342, 121, 420, 421, 422, 423, 115, 116, 367, 368, 369, 1186, 1187, 1188, 1189, 1190, 1191, 1192, 1193, 1194, 1195, 1196, 1197, 1198, 1199, 1200, 1201, 1202, 1203, 1204, 1205, 1206, 1207, 1208, 1209, 1210, 1211, 1212, 1213, 1214, 1215, 1216, 1217, 1218, 1219, 1220, 1221, 1222, 1223, 1224, 1225, 1226] (by decide +kernel) (by decide +kernel)
set_option maxRecDepth 20000 in
theorem gL_law_X9_open : GoodIn wsL_law (wsV RL 80 RX9 yX9_open wsX9_open) := goodIn_app (goodIn_of _ (by decide +kernel)) ggL_law_X9_open
set_option maxRecDepth 20000 in
theorem ggL_law_X8_count : GoodIn wsL_law wsX8_count := goodIn_r _ [427, 21, 428, 429, 430, 2, 431, 164, 165, 166, 432, 433, 434, 20, 435, 436, 437, 438, 439, 440, 409, 410, 411, 61, 355, 348, 349, 70, 71, 72, 232, 233, 234, 235, 150, 441, 442, 443, 444, 445, 446, 447, 448, 292, 449, 450, 296, 451, 452, 453, 454, 12, 13, 455, 6, 456, 457, 458, 459, 460, 461, 462, 298, 463, 464, 465, 466, 467, 468, 469, 470, 471, 472, 473, 474, 475, 476, 477, 478, 479, 480, 481, 482, 483, 484, 485, 486, 487, 488, 489, 490, 56, 53, 491, 492, 286, 493, 494, 495, 496, 497, 498, 499, 500, 501, 502, 285, 287, 503, 504, 505, 506, 507, 508, 509, 510, 511, 512, 513, 514, 515, 516, 517, 518, 519, 520, 521, 522, 523, 524, 525, 526, 527, 528, 529, 1174, 1175, 1176, 1177, 1178, 1179, 1180, 1181, 1182, 1183, 1184, 1185, 1230, 1231, 1232, 1233, 1234, 1235, 1236, 1237, 1238, 1239, 1240, 1241, 1242, 1243, 1244, 1266, 1267, 1268, 1269] (by decide +kernel) (by decide +kernel)
set_option maxRecDepth 20000 in
theorem gL_law_X8_count : GoodIn wsL_law (wsV RL 81 RX8 yX8_count wsX8_count) := goodIn_app (goodIn_of _ (by decide +kernel)) ggL_law_X8_count
set_option maxRecDepth 20000 in
theorem ggL_law_X9_count : GoodIn wsL_law wsX9_count := goodIn_r _ [533, 155, 156, 534, 318, 319, 320, 5, 321, 535, 536, 537, 538, 390, 391, 402, 403, 416, 417, 418, 419, 342, 121, 364, 365, 366, 420, 421, 422, 423, 115, 116, 367, 368, 369, 539, 540, 541, 542, 123, 543, 544, 545, 546, 114, 547, 548, 549, 550, 551, 552, 553, 554, 555, 556, 117, 118, 557, 558, 559, 1186, 1187, 1188, 1189, 1190, 1191, 1192, 1193, 1194, 1195, 1196, 1197, 1198, 1199, 1200, 1201, 1202, 1203, 1204, 1205, 1206, 1207, 1208, 1209, 1210, 1211, 1212, 1213, 1214, 1215, 1216, 1217, 1218, 1219, 1220, 1221, 1222, 1223, 1224, 1225, 1226] (by decide +kernel) (by decide +kernel)
set_option maxRecDepth 20000 in
theorem gL_law_X9_count : GoodIn wsL_law (wsV RL 85 RX9 yX9_count wsX9_count) := goodIn_app (goodIn_of _ (by decide +kernel)) ggL_law_X9_count
set_option maxRecDepth 20000 in
theorem ggL_law_X8_all : GoodIn wsL_law wsX8_all := goodIn_r _ [563, 21, 384, 385, 164, 165, 2, 166, 232, 233, 234, 235, 150, 408, 409, 410, 20, 411, 61, 355, 348, 349, 70, 71, 72, 445, 446, 447, 448, 292, 449, 450, 296, 451, 452, 453, 454, 12, 13, 455, 6, 456, 457, 458, 564, 565, 566, 567, 568, 468, 469, 470, 471, 472, 473, 474, 475, 476, 477, 478, 479, 480, 481, 482, 483, 484, 485, 486, 487, 488, 489, 490, 56, 53, 491, 492, 286, 493, 494, 495, 496, 497, 498, 499, 500, 501, 502, 285, 287, 503, 504, 505, 506, 507, 508, 509, 510, 511, 512, 569, 514, 515, 516, 436, 437, 521, 522, 523, 524, 525, 526, 527, 528, 529, 1174, 1175, 1176, 1177, 1178, 1179, 1180, 1181, 1182, 1183, 1184, 1185, 1230, 1231, 1232, 1233, 1234, 1235, 1236, 1237, 1238, 1239, 1240, 1241, 1242, 1243, 1244, 1266, 1267, 1268, 1269] (by decide +kernel) (by decide +kernel)
set_option maxRecDepth 20000 in
theorem gL_law_X8_all : GoodIn wsL_law (wsV RL 86 RX8 yX8_all wsX8_all) := goodIn_app (goodIn_of _ (by decide +kernel)) ggL_law_X8_all
set_option maxRecDepth 20000 in
theorem ggL_law_X9_all : GoodIn wsL_law wsX9_all := goodIn_r _ [573, 155, 156, 390, 391, 123, 534, 318, 319, 320, 5, 321, 416, 417, 418, 419, 342, 121, 364, 365, 366, 420, 421, 422, 423, 115, 116, 367, 368, 369, 543, 544, 545, 546, 402, 403, 114, 547, 548, 549, 550, 551, 552, 553, 554, 555, 556, 117, 118, 557, 558, 559, 1186, 1187, 1188, 1189, 1190, 1191, 1192, 1193, 1194, 1195, 1196, 1197, 1198, 1199, 1200, 1201, 1202, 1203, 1204, 1205, 1206, 1207, 1208, 1209, 1210, 1211, 1212, 1213, 1214, 1215, 1216, 1217, 1218, 1219, 1220, 1221, 1222, 1223, 1224, 1225, 1226] (by decide +kernel) (by decide +kernel)
set_option maxRecDepth 20000 in
theorem gL_law_X9_all : GoodIn wsL_law (wsV RL 89 RX9 yX9_all wsX9_all) := goodIn_app (goodIn_of _ (by decide +kernel)) ggL_law_X9_all
set_option maxRecDepth 20000 in
theorem ggL_law_X8_least : GoodIn wsL_law wsX8_least := goodIn_r _ [577, 21, 432, 433, 434, 20, 435, 436, 437, 438, 439, 440, 409, 410, 411, 61, 355, 348, 349, 70, 71, 72, 232, 233, 234, 2, 235, 150, 441, 442, 443, 444, 445, 446, 447, 448, 292, 449, 450, 296, 451, 452, 453, 454, 12, 13, 455, 6, 456, 457, 458, 459, 460, 461, 462, 298, 463, 464, 465, 466, 467, 468, 469, 470, 471, 472, 473, 474, 475, 476, 477, 478, 479, 480, 481, 482, 483, 484, 485, 486, 487, 488, 489, 490, 56, 53, 491, 492, 286, 493, 494, 495, 496, 497, 498, 499, 500, 501, 502, 285, 287, 503, 504, 505, 506, 507, 508, 509, 510, 511, 512, 513, 514, 515, 516, 517, 518, 519, 520, 240, 241, 242, 243, 1174, 1175, 1176, 1177, 1178, 1179, 1180, 1181, 1182, 1183, 1184, 1185, 1230, 1231, 1232, 1233, 1234, 1235, 1236, 1237, 1238, 1239, 1240, 1241, 1242, 1243, 1244, 1266, 1267, 1268, 1269] (by decide +kernel) (by decide +kernel)
set_option maxRecDepth 20000 in
theorem gL_law_X8_least : GoodIn wsL_law (wsV RL 90 RX8 yX8_least wsX8_least) := goodIn_app (goodIn_of _ (by decide +kernel)) ggL_law_X8_least
set_option maxRecDepth 20000 in
theorem ggL_law_X9_least : GoodIn wsL_law wsX9_least := goodIn_r _ [581, 155, 156, 123, 390, 391, 535, 536, 537, 5, 538, 402, 403, 416, 417, 418, 419, 342, 121, 364, 365, 366, 420, 421, 422, 423, 115, 116, 367, 368, 369, 318, 319, 320, 321, 543, 544, 545, 546, 114, 547, 548, 549, 550, 551, 552, 553, 554, 555, 556, 117, 118, 557, 558, 559, 534, 1186, 1187, 1188, 1189, 1190, 1191, 1192, 1193, 1194, 1195, 1196, 1197, 1198, 1199, 1200, 1201, 1202, 1203, 1204, 1205, 1206, 1207, 1208, 1209, 1210, 1211, 1212, 1213, 1214, 1215, 1216, 1217, 1218, 1219, 1220, 1221, 1222, 1223, 1224, 1225, 1226] (by decide +kernel) (by decide +kernel)
set_option maxRecDepth 20000 in
theorem gL_law_X9_least : GoodIn wsL_law (wsV RL 93 RX9 yX9_least wsX9_least) := goodIn_app (goodIn_of _ (by decide +kernel)) ggL_law_X9_least
set_option maxRecDepth 20000 in
theorem ggL_law_X8_sum : GoodIn wsL_law wsX8_sum := goodIn_r _ [585, 21, 164, 165, 2, 166, 232, 233, 234, 235, 150, 586, 587, 588, 589, 590, 432, 433, 434, 20, 435, 436, 437, 438, 439, 440, 409, 410, 411, 61, 355, 348, 349, 70, 71, 72, 441, 442, 443, 444, 445, 446, 447, 448, 292, 449, 450, 296, 451, 452, 453, 454, 12, 13, 455, 6, 456, 457, 458, 459, 460, 461, 462, 298, 463, 464, 465, 466, 467, 468, 469, 470, 471, 472, 473, 474, 475, 476, 477, 478, 479, 480, 481, 482, 483, 484, 485, 486, 487, 488, 489, 490, 56, 53, 491, 492, 286, 493, 494, 495, 496, 497, 498, 499, 500, 501, 502, 285, 287, 503, 504, 505, 506, 507, 508, 509, 510, 511, 512, 513, 514, 515, 516, 517, 518, 519, 520, 526, 527, 528, 529, 591, 592, 593, 594, 595, 596, 597, 598, 599, 600, 601, 602, 38, 603, 604, 605, 606, 607, 608, 609, 610, 611, 612, 613, 614, 615, 616, 617, 618, 619, 620, 621, 622, 623, 624, 625, 626, 627, 628, 629, 630, 631, 632, 633, 634, 635, 55, 77, 58, 52, 636, 311, 312, 313, 637, 638, 639, 640, 641, 642, 643, 644, 645, 646, 647, 648, 649, 650, 651, 652, 653, 654, 655, 656, 657, 658, 659, 660, 661, 662, 663, 664, 665, 666, 667, 668, 669, 670, 671, 672, 673, 1174, 1175, 1176, 1177, 1178, 1179, 1180, 1181, 1182, 1183, 1184, 1185, 1230, 1231, 1232, 1233, 1234, 1235, 1236, 1237, 1238, 1239, 1240, 1241, 1242, 1243, 1244, 1266, 1267, 1268, 1269, 1270, 1271, 1272, 1273, 1274, 1275, 1276, 1277, 1278, 1279, 1280, 1281, 1282, 1283] (by decide +kernel) (by decide +kernel)
set_option maxRecDepth 20000 in
theorem gL_law_X8_sum : GoodIn wsL_law (wsV RL 94 RX8 yX8_sum wsX8_sum) := goodIn_app (goodIn_of _ (by decide +kernel)) ggL_law_X8_sum
set_option maxRecDepth 20000 in
theorem ggL_law_X9_sum : GoodIn wsL_law wsX9_sum := goodIn_r _ [677, 155, 156, 678, 679, 680, 681, 5, 682, 683, 684, 685, 686, 342, 535, 536, 537, 538, 390, 391, 402, 403, 416, 417, 418, 419, 121, 364, 365, 366, 420, 421, 422, 423, 115, 116, 367, 368, 369, 687, 688, 689, 690, 125, 114, 126, 553, 554, 555, 556, 117, 118, 547, 548, 549, 550, 551, 552, 691, 692, 693, 694, 695, 696, 697, 698, 699, 700, 701, 702, 119, 1186, 1187, 1188, 1189, 1190, 1191, 1192, 1193, 1194, 1195, 1196, 1197, 1198, 1199, 1200, 1201, 1202, 1203, 1204, 1205, 1206, 1207, 1208, 1209, 1210, 1211, 1212, 1213, 1214, 1215, 1216, 1217, 1218, 1219, 1220, 1221, 1222, 1223, 1224, 1225, 1226] (by decide +kernel) (by decide +kernel)
set_option maxRecDepth 20000 in
theorem gL_law_X9_sum : GoodIn wsL_law (wsV RL 98 RX9 yX9_sum wsX9_sum) := goodIn_app (goodIn_of _ (by decide +kernel)) ggL_law_X9_sum
set_option maxRecDepth 20000 in
theorem ggL_law_X8_best : GoodIn wsL_law wsX8_best := goodIn_r _ [706, 21, 586, 587, 588, 2, 589, 590, 164, 165, 166, 432, 433, 434, 20, 435, 436, 437, 438, 439, 440, 409, 410, 411, 61, 355, 348, 349, 70, 71, 72, 232, 233, 234, 235, 150, 441, 442, 443, 444, 445, 446, 447, 448, 292, 449, 450, 296, 451, 452, 453, 454, 12, 13, 455, 6, 456, 457, 458, 459, 460, 461, 462, 298, 463, 464, 465, 466, 467, 468, 469, 470, 471, 472, 473, 474, 475, 476, 477, 478, 479, 480, 481, 482, 483, 484, 485, 486, 487, 488, 489, 490, 56, 53, 491, 492, 286, 493, 494, 495, 496, 497, 498, 499, 500, 501, 502, 285, 287, 503, 504, 505, 506, 507, 508, 509, 510, 511, 512, 513, 514, 515, 516, 517, 518, 519, 520, 591, 592, 593, 594, 595, 596, 597, 598, 599, 600, 601, 602, 38, 603, 604, 605, 606, 607, 608, 609, 610, 707, 708, 709, 710, 615, 660, 617, 618, 619, 620, 621, 622, 623, 624, 625, 626, 627, 628, 629, 630, 616, 631, 632, 633, 634, 635, 55, 77, 58, 52, 636, 311, 312, 313, 637, 638, 639, 640, 641, 642, 643, 644, 645, 646, 647, 648, 649, 650, 651, 652, 653, 654, 655, 656, 657, 658, 659, 661, 662, 663, 664, 665, 666, 667, 668, 669, 670, 671, 672, 673, 240, 241, 242, 243, 1174, 1175, 1176, 1177, 1178, 1179, 1180, 1181, 1182, 1183, 1184, 1185, 1230, 1231, 1232, 1233, 1234, 1235, 1236, 1237, 1238, 1239, 1240, 1241, 1242, 1243, 1244, 1266, 1267, 1268, 1269, 1270, 1271, 1272, 1273, 1274, 1275, 1276, 1277, 1278, 1279, 1280, 1281, 1282, 1283] (by decide +kernel) (by decide +kernel)
set_option maxRecDepth 20000 in
theorem gL_law_X8_best : GoodIn wsL_law (wsV RL 99 RX8 yX8_best wsX8_best) := goodIn_app (goodIn_of _ (by decide +kernel)) ggL_law_X8_best
set_option maxRecDepth 20000 in
theorem ggL_law_X9_best : GoodIn wsL_law wsX9_best := goodIn_r _ [714, 155, 156, 127, 390, 391, 128, 402, 403, 679, 680, 681, 5, 682, 683, 684, 685, 686, 342, 535, 536, 537, 538, 416, 417, 418, 419, 121, 364, 365, 366, 420, 421, 422, 423, 115, 116, 367, 368, 369, 715, 716, 717, 718, 114, 553, 554, 555, 556, 117, 118, 547, 548, 549, 550, 551, 552, 699, 700, 701, 702, 119, 719, 720, 721, 722, 495, 286, 496, 723, 285, 287, 318, 319, 320, 321, 1186, 1187, 1188, 1189, 1190, 1191, 1192, 1193, 1194, 1195, 1196, 1197, 1198, 1199, 1200, 1201, 1202, 1203, 1204, 1205, 1206, 1207, 1208, 1209, 1210, 1211, 1212, 1213, 1214, 1215, 1216, 1217, 1218, 1219, 1220, 1221, 1222, 1223, 1224, 1225, 1226] (by decide +kernel) (by decide +kernel)
set_option maxRecDepth 20000 in
theorem gL_law_X9_best : GoodIn wsL_law (wsV RL 103 RX9 yX9_best wsX9_best) := goodIn_app (goodIn_of _ (by decide +kernel)) ggL_law_X9_best
set_option maxRecDepth 20000 in
theorem ggL_law_X8_walk : GoodIn wsL_law wsX8_walk := goodIn_r _ [727, 21, 525, 428, 429, 430, 2, 431, 164, 165, 166, 432, 433, 434, 20, 435, 436, 437, 438, 439, 440, 409, 410, 411, 61, 355, 348, 349, 70, 71, 72, 232, 233, 234, 235, 150, 441, 442, 443, 444, 445, 446, 447, 448, 292, 449, 450, 296, 451, 452, 453, 454, 12, 13, 455, 6, 456, 457, 458, 459, 460, 461, 462, 298, 463, 464, 465, 466, 467, 468, 469, 470, 471, 472, 473, 474, 475, 476, 477, 478, 479, 480, 481, 482, 483, 484, 485, 486, 487, 488, 489, 490, 56, 53, 491, 492, 286, 493, 494, 495, 496, 497, 498, 499, 500, 501, 502, 285, 287, 503, 504, 505, 506, 507, 508, 509, 510, 511, 512, 513, 514, 515, 516, 517, 518, 519, 520, 728, 729, 730, 731, 732, 39, 733, 734, 633, 634, 635, 55, 77, 58, 52, 636, 311, 312, 313, 637, 638, 240, 241, 242, 243, 1174, 1175, 1176, 1177, 1178, 1179, 1180, 1181, 1182, 1183, 1184, 1185, 1230, 1231, 1232, 1233, 1234, 1235, 1236, 1237, 1238, 1239, 1240, 1241, 1242, 1243, 1244, 1266, 1267, 1268, 1269] (by decide +kernel) (by decide +kernel)
set_option maxRecDepth 20000 in
theorem gL_law_X8_walk : GoodIn wsL_law (wsV RL 106 RX8 yX8_walk wsX8_walk) := goodIn_app (goodIn_of _ (by decide +kernel)) ggL_law_X8_walk
set_option maxRecDepth 20000 in
theorem ggL_law_X9_walk : GoodIn wsL_law wsX9_walk := goodIn_r _ [738, 155, 156, 534, 739, 390, 391, 123, 135, 318, 319, 320, 5, 321, 535, 536, 537, 538, 402, 403, 416, 417, 418, 419, 342, 121, 364, 365, 366, 420, 421, 422, 423, 115, 116, 367, 368, 369, 539, 540, 541, 542, 543, 544, 545, 546, 114, 547, 548, 549, 550, 551, 552, 553, 554, 555, 556, 117, 118, 557, 558, 559, 1186, 1187, 1188, 1189, 1190, 1191, 1192, 1193, 1194, 1195, 1196, 1197, 1198, 1199, 1200, 1201, 1202, 1203, 1204, 1205, 1206, 1207, 1208, 1209, 1210, 1211, 1212, 1213, 1214, 1215, 1216, 1217, 1218, 1219, 1220, 1221, 1222, 1223, 1224, 1225, 1226] (by decide +kernel) (by decide +kernel)
set_option maxRecDepth 20000 in
theorem gL_law_X9_walk : GoodIn wsL_law (wsV RL 110 RX9 yX9_walk wsX9_walk) := goodIn_app (goodIn_of _ (by decide +kernel)) ggL_law_X9_walk
set_option maxRecDepth 20000 in
theorem ggL_law_X8_number : GoodIn wsL_law wsX8_number := goodIn_r _ [743, 21, 525, 744, 745, 746, 2, 747, 17, 161, 162, 16, 163, 164, 165, 166, 200, 201, 202, 203, 47, 175, 204, 205, 206, 207, 232, 233, 234, 235, 150, 432, 433, 434, 20, 435, 436, 437, 438, 439, 440, 409, 410, 411, 61, 355, 348, 349, 70, 71, 72, 748, 749, 750, 751, 513, 514, 515, 516, 236, 237, 238, 239, 45, 212, 310, 311, 312, 313, 56, 734, 633, 634, 635, 55, 77, 58, 52, 636, 637, 484, 485, 486, 638, 473, 474, 475, 752, 465, 466, 467, 441, 442, 443, 444, 445, 446, 447, 448, 292, 449, 450, 296, 451, 452, 453, 454, 12, 13, 455, 6, 456, 457, 458, 459, 460, 461, 462, 298, 463, 464, 468, 469, 470, 471, 472, 476, 477, 478, 479, 480, 481, 482, 483, 487, 488, 489, 490, 53, 491, 492, 286, 493, 494, 495, 496, 497, 498, 499, 500, 501, 502, 285, 287, 503, 504, 505, 506, 507, 508, 509, 510, 511, 512, 517, 518, 519, 520, 753, 754, 755, 756, 526, 527, 528, 529, 1174, 1175, 1176, 1177, 1178, 1179, 1180, 1181, 1182, 1183, 1184, 1185, 1227, 1228, 1229, 1230, 1231, 1232, 1233, 1234, 1235, 1236, 1237, 1238, 1239, 1240, 1241, 1242, 1243, 1244, 1266, 1267, 1268, 1269] (by decide +kernel) (by decide +kernel)
set_option maxRecDepth 20000 in
theorem gL_law_X8_number : GoodIn wsL_law (wsV RL 111 RX8 yX8_number wsX8_number) := goodIn_app (goodIn_of _ (by decide +kernel)) ggL_law_X8_number
set_option maxRecDepth 20000 in
theorem ggL_law_X9_number : GoodIn wsL_law wsX9_number := goodIn_r _ [760, 155, 156, 112, 390, 391, 113, 114, 123, 402, 403, 534, 318, 319, 320, 5, 321, 535, 536, 537, 538, 416, 417, 418, 419, 342, 121, 364, 365, 366, 420, 421, 422, 423, 115, 116, 367, 368, 369, 539, 540, 541, 542, 543, 544, 545, 546, 547, 548, 549, 550, 551, 552, 553, 554, 555, 556, 117, 118, 557, 558, 559, 1186, 1187, 1188, 1189, 1190, 1191, 1192, 1193, 1194, 1195, 1196, 1197, 1198, 1199, 1200, 1201, 1202, 1203, 1204, 1205, 1206, 1207, 1208, 1209, 1210, 1211, 1212, 1213, 1214, 1215, 1216, 1217, 1218, 1219, 1220, 1221, 1222, 1223, 1224, 1225, 1226] (by decide +kernel) (by decide +kernel)
set_option maxRecDepth 20000 in
theorem gL_law_X9_number : GoodIn wsL_law (wsV RL 115 RX9 yX9_number wsX9_number) := goodIn_app (goodIn_of _ (by decide +kernel)) ggL_law_X9_number
set_option maxRecDepth 20000 in
theorem ggL_law_X8_draw : GoodIn wsL_law wsX8_draw := goodIn_r _ [764, 21, 525, 232, 233, 234, 2, 235, 150, 428, 429, 430, 431, 164, 165, 166, 432, 433, 434, 20, 435, 436, 437, 438, 439, 440, 409, 410, 411, 61, 355, 348, 349, 70, 71, 72, 441, 442, 443, 444, 445, 446, 447, 448, 292, 449, 450, 296, 451, 452, 453, 454, 12, 13, 455, 6, 456, 457, 458, 459, 460, 461, 462, 298, 463, 464, 465, 466, 467, 468, 469, 470, 471, 472, 473, 474, 475, 476, 477, 478, 479, 480, 481, 482, 483, 484, 485, 486, 487, 488, 489, 490, 56, 53, 491, 492, 286, 493, 494, 495, 496, 497, 498, 499, 500, 501, 502, 285, 287, 503, 504, 505, 506, 507, 508, 509, 510, 511, 512, 513, 514, 515, 516, 517, 518, 519, 520, 765, 766, 767, 768, 769, 770, 771, 772, 526, 527, 528, 529, 1174, 1175, 1176, 1177, 1178, 1179, 1180, 1181, 1182, 1183, 1184, 1185, 1230, 1231, 1232, 1233, 1234, 1235, 1236, 1237, 1238, 1239, 1240, 1241, 1242, 1243, 1244, 1266, 1267, 1268, 1269] (by decide +kernel) (by decide +kernel)
set_option maxRecDepth 20000 in
theorem gL_law_X8_draw : GoodIn wsL_law (wsV RL 116 RX8 yX8_draw wsX8_draw) := goodIn_app (goodIn_of _ (by decide +kernel)) ggL_law_X8_draw
set_option maxRecDepth 20000 in
theorem ggL_law_X9_draw : GoodIn wsL_law wsX9_draw := goodIn_r _ [776, 155, 156, 534, 379, 777, 778, 779, 318, 319, 320, 5, 321, 535, 536, 537, 538, 390, 391, 402, 403, 416, 417, 418, 419, 342, 121, 364, 365, 366, 420, 421, 422, 423, 115, 116, 367, 368, 369, 539, 540, 541, 542, 123, 543, 544, 545, 546, 114, 547, 548, 549, 550, 551, 552, 553, 554, 555, 556, 117, 118, 557, 558, 559, 780, 781, 782, 783, 784, 785, 1186, 1187, 1188, 1189, 1190, 1191, 1192, 1193, 1194, 1195, 1196, 1197, 1198, 1199, 1200, 1201, 1202, 1203, 1204, 1205, 1206, 1207, 1208, 1209, 1210, 1211, 1212, 1213, 1214, 1215, 1216, 1217, 1218, 1219, 1220, 1221, 1222, 1223, 1224, 1225, 1226] (by decide +kernel) (by decide +kernel)
set_option maxRecDepth 20000 in
theorem gL_law_X9_draw : GoodIn wsL_law (wsV RL 119 RX9 yX9_draw wsX9_draw) := goodIn_app (goodIn_of _ (by decide +kernel)) ggL_law_X9_draw
set_option maxRecDepth 20000 in
theorem ggL_law_X8_mirror : GoodIn wsL_law wsX8_mirror := goodIn_r _ [789, 21, 590, 374, 385, 790, 791, 384, 792, 492, 286, 493, 793, 397, 29, 164, 165, 2, 166, 232, 233, 234, 235, 150, 794, 795, 796, 20, 797, 56, 53, 52, 798, 799, 800, 801, 432, 433, 434, 435, 436, 437, 438, 439, 440, 409, 410, 411, 61, 355, 348, 349, 70, 71, 72, 802, 803, 804, 28, 805, 806, 807, 808, 809, 810, 811, 812, 88, 813, 814, 815, 816, 89, 817, 818, 819, 820, 821, 822, 823, 824, 825, 826, 827, 828, 526, 527, 528, 529, 1174, 1175, 1176, 1177, 1178, 1179, 1180, 1181, 1182, 1183, 1184, 1185, 1230, 1231, 1232, 1233, 1234, 1235, 1236, 1237, 1238, 1239, 1240, 1241, 1242, 1243, 1244, 1250, 1251] (by decide +kernel) (by decide +kernel)
set_option maxRecDepth 20000 in
theorem gL_law_X8_mirror : GoodIn wsL_law (wsV RL 120 RX8 yX8_mirror wsX8_mirror) := goodIn_app (goodIn_of _ (by decide +kernel)) ggL_law_X8_mirror
set_option maxRecDepth 20000 in
theorem ggL_law_X9_mirror : GoodIn wsL_law wsX9_mirror := goodIn_r _ [832, 155, 156, 342, 121, 391, 833, 834, 390, 835, 492, 286, 493, 836, 403, 125, 126, 114, 117, 118, 402, 318, 319, 320, 5, 321, 837, 838, 839, 840, 535, 536, 537, 538, 416, 417, 418, 419, 364, 365, 366, 420, 421, 422, 423, 115, 116, 367, 368, 369, 547, 548, 549, 550, 551, 552, 1186, 1187, 1188, 1189, 1190, 1191, 1192, 1193, 1194, 1195, 1196, 1197, 1198, 1199, 1200, 1201, 1202, 1203, 1204, 1205, 1206, 1207, 1208, 1209, 1210, 1211, 1212, 1213, 1214, 1215, 1216, 1217, 1218, 1219, 1220, 1221, 1222, 1223, 1224, 1225, 1226] (by decide +kernel) (by decide +kernel)
set_option maxRecDepth 20000 in
theorem gL_law_X9_mirror : GoodIn wsL_law (wsV RL 123 RX9 yX9_mirror wsX9_mirror) := goodIn_app (goodIn_of _ (by decide +kernel)) ggL_law_X9_mirror
set_option maxRecDepth 20000 in
theorem ggL_law_X8_first : GoodIn wsL_law wsX8_first := goodIn_r _ [844, 29, 21, 845, 846, 847, 2, 848, 385, 164, 165, 166, 849, 850, 851, 20, 852, 56, 53, 232, 233, 234, 235, 150, 853, 854, 855, 28, 856, 808, 810, 811, 88, 813, 814, 815, 816, 89, 817, 818, 819, 820, 821, 822, 823, 824, 825, 826, 827, 828, 521, 522, 523, 524, 525, 526, 527, 528, 529, 1174, 1175, 1176, 1177, 1178, 1179, 1180, 1181, 1182, 1183, 1184, 1185, 1230, 1231, 1232, 1233, 1234, 1235, 1236, 1237, 1238, 1239, 1240, 1241, 1242, 1243, 1244, 1250, 1251] (by decide +kernel) (by decide +kernel)
set_option maxRecDepth 20000 in
theorem gL_law_X8_first : GoodIn wsL_law (wsV RL 124 RX8 yX8_first wsX8_first) := goodIn_app (goodIn_of _ (by decide +kernel)) ggL_law_X8_first
set_option maxRecDepth 20000 in
theorem ggL_law_X9_first : GoodIn wsL_law wsX9_first := goodIn_r _ [860, 155, 156, 678, 534, 861, 862, 863, 5, 864, 114, 118, 391, 865, 866, 867, 868, 125, 126, 557, 558, 559, 318, 319, 320, 321, 1186, 1187, 1188, 1189, 1190, 1191, 1192, 1193, 1194, 1195, 1196, 1197, 1198, 1199, 1200, 1201, 1202, 1203, 1204, 1205, 1206, 1207, 1208, 1209, 1210, 1211, 1212, 1213, 1214, 1215, 1216, 1217, 1218, 1219, 1220, 1221, 1222, 1223, 1224, 1225, 1226] (by decide +kernel) (by decide +kernel)
set_option maxRecDepth 20000 in
theorem gL_law_X9_first : GoodIn wsL_law (wsV RL 127 RX9 yX9_first wsX9_first) := goodIn_app (goodIn_of _ (by decide +kernel)) ggL_law_X9_first
set_option maxRecDepth 20000 in
theorem ggL_law_X8_turnings : GoodIn wsL_law wsX8_turnings := goodIn_r _ [872, 29, 21, 845, 846, 847, 2, 848, 385, 164, 165, 166, 849, 850, 851, 20, 852, 56, 53, 232, 233, 234, 235, 150, 853, 854, 855, 28, 856, 808, 810, 811, 88, 813, 814, 815, 816, 89, 817, 818, 819, 820, 821, 822, 823, 824, 825, 826, 827, 828, 521, 522, 523, 524, 525, 526, 527, 528, 529, 1174, 1175, 1176, 1177, 1178, 1179, 1180, 1181, 1182, 1183, 1184, 1185, 1230, 1231, 1232, 1233, 1234, 1235, 1236, 1237, 1238, 1239, 1240, 1241, 1242, 1243, 1244, 1250, 1251] (by decide +kernel) (by decide +kernel)
set_option maxRecDepth 20000 in
theorem gL_law_X8_turnings : GoodIn wsL_law (wsV RL 128 RX8 yX8_turnings wsX8_turnings) := goodIn_app (goodIn_of _ (by decide +kernel)) ggL_law_X8_turnings
set_option maxRecDepth 20000 in
theorem ggL_law_X9_turnings : GoodIn wsL_law wsX9_turnings := goodIn_r _ [876, 155, 156, 678, 534, 861, 862, 863, 5, 864, 114, 118, 391, 865, 866, 867, 868, 125, 126, 557, 558, 559, 318, 319, 320, 321, 1186, 1187, 1188, 1189, 1190, 1191, 1192, 1193, 1194, 1195, 1196, 1197, 1198, 1199, 1200, 1201, 1202, 1203, 1204, 1205, 1206, 1207, 1208, 1209, 1210, 1211, 1212, 1213, 1214, 1215, 1216, 1217, 1218, 1219, 1220, 1221, 1222, 1223, 1224, 1225, 1226] (by decide +kernel) (by decide +kernel)
set_option maxRecDepth 20000 in
theorem gL_law_X9_turnings : GoodIn wsL_law (wsV RL 131 RX9 yX9_turnings wsX9_turnings) := goodIn_app (goodIn_of _ (by decide +kernel)) ggL_law_X9_turnings
set_option maxRecDepth 20000 in
theorem ggL_law_X8_family : GoodIn wsL_law wsX8_family := goodIn_r _ [880, 25, 164, 165, 2, 166, 167, 168, 169, 170, 150, 881, 882, 883, 24, 884, 885, 81, 82, 176, 177, 178, 179, 1174, 1175, 1176, 1177, 1178, 1179, 1180, 1181, 1182, 1183, 1184, 1185, 1245, 1246, 1247, 1248, 1249] (by decide +kernel) (by decide +kernel)
set_option maxRecDepth 20000 in
theorem gL_law_X8_family : GoodIn wsL_law (wsV RL 132 RX8 yX8_family wsX8_family) := goodIn_app (goodIn_of _ (by decide +kernel)) ggL_law_X8_family
set_option maxRecDepth 20000 in
theorem ggL_law_X9_family : GoodIn wsL_law wsX9_family := goodIn_r _ [889, 155, 156, 890, 129, 130, 131, 132, 184, 185, 186, 5, 187, 1186, 1187, 1188, 1189, 1190, 1191, 1192, 1193, 1194, 1195, 1196, 1197, 1198, 1199, 1200, 1201, 1202, 1203, 1204, 1205, 1206, 1207, 1208, 1209, 1210, 1211, 1212, 1213, 1214, 1215, 1216, 1217, 1218, 1219, 1220, 1221, 1222, 1223, 1224, 1225, 1226] (by decide +kernel) (by decide +kernel)
set_option maxRecDepth 20000 in
theorem gL_law_X9_family : GoodIn wsL_law (wsV RL 136 RX9 yX9_family wsX9_family) := goodIn_app (goodIn_of _ (by decide +kernel)) ggL_law_X9_family
set_option maxRecDepth 20000 in
theorem ggL_law_X8_place : GoodIn wsL_law wsX8_place := goodIn_r _ [894, 25, 347, 348, 20, 349, 167, 168, 169, 2, 170, 150, 895, 896, 897, 24, 898, 885, 899, 900, 901, 902, 81, 82, 903, 176, 177, 178, 179, 1174, 1175, 1176, 1177, 1178, 1179, 1180, 1181, 1182, 1183, 1184, 1185, 1245, 1246, 1247, 1248, 1249] (by decide +kernel) (by decide +kernel)
set_option maxRecDepth 20000 in
theorem gL_law_X8_place : GoodIn wsL_law (wsV RL 137 RX8 yX8_place wsX8_place) := goodIn_app (goodIn_of _ (by decide +kernel)) ggL_law_X8_place
set_option maxRecDepth 20000 in
theorem ggL_law_X9_place : GoodIn wsL_law wsX9_place := goodIn_r _ [907, 155, 156, 890, 131, 132, 129, 130, 364, 365, 5, 366, 184, 185, 186, 187, 1186, 1187, 1188, 1189, 1190, 1191, 1192, 1193, 1194, 1195, 1196, 1197, 1198, 1199, 1200, 1201, 1202, 1203, 1204, 1205, 1206, 1207, 1208, 1209, 1210, 1211, 1212, 1213, 1214, 1215, 1216, 1217, 1218, 1219, 1220, 1221, 1222, 1223, 1224, 1225, 1226] (by decide +kernel) (by decide +kernel)
set_option maxRecDepth 20000 in
theorem gL_law_X9_place : GoodIn wsL_law (wsV RL 141 RX9 yX9_place wsX9_place) := goodIn_app (goodIn_of _ (by decide +kernel)) ggL_law_X9_place
set_option maxRecDepth 20000 in
theorem ggL_law_X8_table : GoodIn wsL_law wsX8_table := goodIn_r _ [911, 25, 21, 895, 896, 897, 24, 898, 885, 232, 233, 234, 2, 235, 150, 912, 913, 914, 915, 81, 82, 903, 916, 357, 358, 20, 359, 60, 355, 348, 349, 70, 71, 72, 917, 918, 919, 920, 83, 921, 285, 286, 287, 240, 241, 242, 243, 1174, 1175, 1176, 1177, 1178, 1179, 1180, 1181, 1182, 1183, 1184, 1185, 1245, 1246, 1247, 1248, 1249, 1230, 1231, 1232, 1233, 1234, 1235, 1236, 1237, 1238, 1239, 1240, 1241, 1242, 1243, 1244] (by decide +kernel) (by decide +kernel)
set_option maxRecDepth 20000 in
theorem gL_law_X8_table : GoodIn wsL_law (wsV RL 142 RX8 yX8_table wsX8_table) := goodIn_app (goodIn_of _ (by decide +kernel)) ggL_law_X8_table
set_option maxRecDepth 20000 in
theorem ggL_law_X9_table : GoodIn wsL_law wsX9_table := goodIn_r _ [925, 155, 156, 890, 129, 130, 131, 132, 318, 319, 320, 5, 321, 926, 927, 928, 929, 121, 367, 368, 369, 930, 931, 932, 933, 125, 934, 935, 511, 286, 512, 936, 1186, 1187, 1188, 1189, 1190, 1191, 1192, 1193, 1194, 1195, 1196, 1197, 1198, 1199, 1200, 1201, 1202, 1203, 1204, 1205, 1206, 1207, 1208, 1209, 1210, 1211, 1212, 1213, 1214, 1215, 1216, 1217, 1218, 1219, 1220, 1221, 1222, 1223, 1224, 1225, 1226] (by decide +kernel) (by decide +kernel)
set_option maxRecDepth 20000 in
theorem gL_law_X9_table : GoodIn wsL_law (wsV RL 145 RX9 yX9_table wsX9_table) := goodIn_app (goodIn_of _ (by decide +kernel)) ggL_law_X9_table
set_option maxRecDepth 20000 in
theorem ggL_law_X8_worth : GoodIn wsL_law wsX8_worth := goodIn_r _ [940, 25, 21, 895, 896, 897, 24, 898, 885, 232, 233, 234, 2, 235, 150, 941, 942, 943, 944, 945, 913, 914, 915, 81, 82, 903, 916, 357, 358, 20, 359, 60, 355, 348, 349, 70, 71, 72, 946, 947, 948, 949, 84, 950, 918, 919, 920, 83, 921, 285, 286, 287, 951, 952, 953, 954, 955, 956, 957, 958, 526, 527, 528, 529, 1174, 1175, 1176, 1177, 1178, 1179, 1180, 1181, 1182, 1183, 1184, 1185, 1245, 1246, 1247, 1248, 1249, 1230, 1231, 1232, 1233, 1234, 1235, 1236, 1237, 1238, 1239, 1240, 1241, 1242, 1243, 1244] (by decide +kernel) (by decide +kernel)
set_option maxRecDepth 20000 in
theorem gL_law_X8_worth : GoodIn wsL_law (wsV RL 146 RX8 yX8_worth wsX8_worth) := goodIn_app (goodIn_of _ (by decide +kernel)) ggL_law_X8_worth
set_option maxRecDepth 20000 in
theorem ggL_law_X9_worth : GoodIn wsL_law wsX9_worth := goodIn_r _ [962, 155, 156, 890, 129, 130, 131, 132, 136, 963, 318, 319, 320, 5, 321, 926, 927, 928, 929, 121, 367, 368, 369, 930, 931, 932, 933, 125, 934, 935, 511, 286, 512, 936, 964, 965, 966, 967, 1186, 1187, 1188, 1189, 1190, 1191, 1192, 1193, 1194, 1195, 1196, 1197, 1198, 1199, 1200, 1201, 1202, 1203, 1204, 1205, 1206, 1207, 1208, 1209, 1210, 1211, 1212, 1213, 1214, 1215, 1216, 1217, 1218, 1219, 1220, 1221, 1222, 1223, 1224, 1225, 1226] (by decide +kernel) (by decide +kernel)
set_option maxRecDepth 20000 in
theorem gL_law_X9_worth : GoodIn wsL_law (wsV RL 150 RX9 yX9_worth wsX9_worth) := goodIn_app (goodIn_of _ (by decide +kernel)) ggL_law_X9_worth
set_option maxRecDepth 20000 in
theorem ggL_law_X8_boxes : GoodIn wsL_law wsX8_boxes := goodIn_r _ [971, 164, 165, 2, 166, 232, 233, 234, 235, 150, 972, 973, 974, 975, 40, 976, 977, 978, 526, 527, 528, 529, 1174, 1175, 1176, 1177, 1178, 1179, 1180, 1181, 1182, 1183, 1184, 1185] (by decide +kernel) (by decide +kernel)
set_option maxRecDepth 20000 in
theorem gL_law_X8_boxes : GoodIn wsL_law (wsV RL 151 RX8 yX8_boxes wsX8_boxes) := goodIn_app (goodIn_of _ (by decide +kernel)) ggL_law_X8_boxes
set_option maxRecDepth 20000 in
theorem ggL_law_X9_boxes : GoodIn wsL_law wsX9_boxes := goodIn_r _ [982, 155, 156, 137, 125, 126, 318, 319, 320, 5, 321, 983, 984, 985, 986, 1186, 1187, 1188, 1189, 1190, 1191, 1192, 1193, 1194, 1195, 1196, 1197, 1198, 1199, 1200, 1201, 1202, 1203, 1204, 1205, 1206, 1207, 1208, 1209, 1210, 1211, 1212, 1213, 1214, 1215, 1216, 1217, 1218, 1219, 1220, 1221, 1222, 1223, 1224, 1225, 1226] (by decide +kernel) (by decide +kernel)
set_option maxRecDepth 20000 in
theorem gL_law_X9_boxes : GoodIn wsL_law (wsV RL 154 RX9 yX9_boxes wsX9_boxes) := goodIn_app (goodIn_of _ (by decide +kernel)) ggL_law_X9_boxes
set_option maxRecDepth 20000 in
theorem ggL_law_X8_brackets : GoodIn wsL_law wsX8_brackets := goodIn_r _ [990, 37, 39, 733, 164, 165, 2, 166, 232, 233, 234, 235, 150, 991, 992, 993, 36, 994, 106, 995, 996, 997, 998, 999, 1000, 1001, 1002, 1003, 1004, 240, 241, 242, 243, 1174, 1175, 1176, 1177, 1178, 1179, 1180, 1181, 1182, 1183, 1184, 1185, 1264, 1265] (by decide +kernel) (by decide +kernel)
set_option maxRecDepth 20000 in
theorem gL_law_X8_brackets : GoodIn wsL_law (wsV RL 155 RX8 yX8_brackets wsX8_brackets) := goodIn_app (goodIn_of _ (by decide +kernel)) ggL_law_X8_brackets
set_option maxRecDepth 20000 in
theorem ggL_law_X9_brackets : GoodIn wsL_law wsX9_brackets := goodIn_r _ [1008, 155, 156, 739, 135, 318, 319, 320, 5, 321, 1009, 1010, 1011, 1012, 138, 1013, 1014, 1015, 1016, 1186, 1187, 1188, 1189, 1190, 1191, 1192, 1193, 1194, 1195, 1196, 1197, 1198, 1199, 1200, 1201, 1202, 1203, 1204, 1205, 1206, 1207, 1208, 1209, 1210, 1211, 1212, 1213, 1214, 1215, 1216, 1217, 1218, 1219, 1220, 1221, 1222, 1223, 1224, 1225, 1226] (by decide +kernel) (by decide +kernel)
set_option maxRecDepth 20000 in
theorem gL_law_X9_brackets : GoodIn wsL_law (wsV RL 158 RX9 yX9_brackets wsX9_brackets) := goodIn_app (goodIn_of _ (by decide +kernel)) ggL_law_X9_brackets
set_option maxRecDepth 20000 in
theorem ggL_law_X8_order : GoodIn wsL_law wsX8_order := goodIn_r _ [1020, 37, 17, 161, 162, 16, 163, 232, 233, 234, 2, 235, 150, 744, 745, 746, 747, 164, 165, 166, 200, 201, 202, 203, 47, 175, 204, 205, 206, 207, 1021, 1022, 1023, 36, 1024, 1025, 1026, 237, 238, 239, 45, 212, 1004, 992, 993, 994, 106, 995, 996, 997, 998, 999, 526, 527, 528, 529, 1174, 1175, 1176, 1177, 1178, 1179, 1180, 1181, 1182, 1183, 1184, 1185, 1227, 1228, 1229, 1264, 1265] (by decide +kernel) (by decide +kernel)
set_option maxRecDepth 20000 in
theorem gL_law_X8_order : GoodIn wsL_law (wsV RL 159 RX8 yX8_order wsX8_order) := goodIn_app (goodIn_of _ (by decide +kernel)) ggL_law_X8_order
set_option maxRecDepth 20000 in
theorem ggL_law_X9_order : GoodIn wsL_law wsX9_order := goodIn_r _ [1030, 155, 156, 112, 113, 318, 319, 320, 5, 321, 1009, 1010, 1011, 1012, 138, 1013, 1014, 1015, 1016, 1186, 1187, 1188, 1189, 1190, 1191, 1192, 1193, 1194, 1195, 1196, 1197, 1198, 1199, 1200, 1201, 1202, 1203, 1204, 1205, 1206, 1207, 1208, 1209, 1210, 1211, 1212, 1213, 1214, 1215, 1216, 1217, 1218, 1219, 1220, 1221, 1222, 1223, 1224, 1225, 1226] (by decide +kernel) (by decide +kernel)
set_option maxRecDepth 20000 in
theorem gL_law_X9_order : GoodIn wsL_law (wsV RL 162 RX9 yX9_order wsX9_order) := goodIn_app (goodIn_of _ (by decide +kernel)) ggL_law_X9_order
set_option maxRecDepth 20000 in
theorem ggL_law_X8_far : GoodIn wsL_law wsX8_far := goodIn_r _ [1034, 21, 33, 232, 233, 234, 2, 235, 150, 1035, 1036, 1037, 20, 1038, 437, 57, 439, 1039, 1040, 1041, 32, 1042, 1043, 93, 1044, 1045, 1046, 1047, 96, 97, 1048, 98, 1049, 261, 262, 263, 99, 1050, 1051, 1052, 1053, 1054, 94, 1055, 1056, 1057, 1058, 1059, 1060, 95, 1061, 1062, 1063, 1064, 1065, 1066, 1067, 1068, 1069, 1070, 1071, 1072, 1073, 1074, 1075, 1076, 1077, 1078, 1079, 100, 1080, 1081, 1082, 1083, 101, 1084, 1085, 1086, 1087, 1088, 1089, 1090, 1091, 240, 241, 242, 243, 1174, 1175, 1176, 1177, 1178, 1179, 1180, 1181, 1182, 1183, 1184, 1185, 1230, 1231, 1232, 1233, 1234, 1235, 1236, 1237, 1238, 1239, 1240, 1241, 1242, 1243, 1244, 1252, 1253, 1254, 1255, 1256, 1257, 1258, 1259, 1260, 1261, 1262, 1263] (by decide +kernel) (by decide +kernel)
set_option maxRecDepth 20000 in
theorem gL_law_X8_far : GoodIn wsL_law (wsV RL 163 RX8 yX8_far wsX8_far) := goodIn_app (goodIn_of _ (by decide +kernel)) ggL_law_X8_far
set_option maxRecDepth 20000 in
theorem ggL_law_X9_far : GoodIn wsL_law wsX9_far := goodIn_r _ [1095, 155, 156, 139, 140, 391, 403, 318, 319, 320, 5, 321, 1096, 1097, 1098, 1099, 115, 1100, 1101, 1102, 1103, 114, 118, 1104, 1105, 1106, 1107, 1108, 141, 1186, 1187, 1188, 1189, 1190, 1191, 1192, 1193, 1194, 1195, 1196, 1197, 1198, 1199, 1200, 1201, 1202, 1203, 1204, 1205, 1206, 1207, 1208, 1209, 1210, 1211, 1212, 1213, 1214, 1215, 1216, 1217, 1218, 1219, 1220, 1221, 1222, 1223, 1224, 1225, 1226] (by decide +kernel) (by decide +kernel)
set_option maxRecDepth 20000 in
theorem gL_law_X9_far : GoodIn wsL_law (wsV RL 167 RX9 yX9_far wsX9_far) := goodIn_app (goodIn_of _ (by decide +kernel)) ggL_law_X9_far
set_option maxRecDepth 20000 in
theorem ggL_law_X8_rule : GoodIn wsL_law wsX8_rule := goodIn_r _ [1112, 21, 33, 1035, 1036, 1037, 20, 1038, 437, 57, 439, 232, 233, 234, 2, 235, 150, 1113, 1114, 1115, 32, 1116, 1048, 1117, 102, 99, 1044, 1045, 1046, 1047, 96, 97, 98, 1049, 261, 262, 263, 1050, 1051, 1052, 1053, 1054, 94, 1055, 93, 1056, 1057, 1058, 1059, 1060, 95, 1061, 1062, 1063, 1064, 1065, 1066, 1067, 1068, 1069, 1070, 1071, 1072, 1073, 1074, 1075, 240, 241, 242, 243, 1174, 1175, 1176, 1177, 1178, 1179, 1180, 1181, 1182, 1183, 1184, 1185, 1230, 1231, 1232, 1233, 1234, 1235, 1236, 1237, 1238, 1239, 1240, 1241, 1242, 1243, 1244, 1252, 1253, 1254, 1255, 1256, 1257, 1258, 1259, 1260, 1261, 1262, 1263] (by decide +kernel) (by decide +kernel)
set_option maxRecDepth 20000 in
theorem gL_law_X8_rule : GoodIn wsL_law (wsV RL 168 RX8 yX8_rule wsX8_rule) := goodIn_app (goodIn_of _ (by decide +kernel)) ggL_law_X8_rule
set_option maxRecDepth 20000 in
theorem ggL_law_X9_rule : GoodIn wsL_law wsX9_rule := goodIn_r _ [1121, 155, 156, 1096, 1097, 1098, 5, 1099, 391, 115, 403, 318, 319, 320, 321, 1122, 1123, 1124, 1125, 143, 142, 144, 140, 1108, 1100, 1101, 1102, 1103, 139, 114, 118, 1126, 1127, 1128, 1129, 145, 133, 134, 1130, 1131, 1132, 1133, 1134, 1135, 1136, 1137, 1186, 1187, 1188, 1189, 1190, 1191, 1192, 1193, 1194, 1195, 1196, 1197, 1198, 1199, 1200, 1201, 1202, 1203, 1204, 1205, 1206, 1207, 1208, 1209, 1210, 1211, 1212, 1213, 1214, 1215, 1216, 1217, 1218, 1219, 1220, 1221, 1222, 1223, 1224, 1225, 1226] (by decide +kernel) (by decide +kernel)
set_option maxRecDepth 20000 in
theorem gL_law_X9_rule : GoodIn wsL_law (wsV RL 171 RX9 yX9_rule wsX9_rule) := goodIn_app (goodIn_of _ (by decide +kernel)) ggL_law_X9_rule
set_option maxRecDepth 20000 in
theorem ggL_law_X8_part : GoodIn wsL_law wsX8_part := goodIn_r _ [1141, 33, 1142, 1143, 1144, 32, 1145, 1117, 232, 233, 234, 2, 235, 150, 1146, 1147, 1148, 1149, 102, 1150, 240, 241, 242, 243, 1174, 1175, 1176, 1177, 1178, 1179, 1180, 1181, 1182, 1183, 1184, 1185, 1252, 1253, 1254, 1255, 1256, 1257, 1258, 1259, 1260, 1261, 1262, 1263] (by decide +kernel) (by decide +kernel)
set_option maxRecDepth 20000 in
theorem gL_law_X8_part : GoodIn wsL_law (wsV RL 172 RX8 yX8_part wsX8_part) := goodIn_app (goodIn_of _ (by decide +kernel)) ggL_law_X8_part
set_option maxRecDepth 20000 in
theorem ggL_law_X9_part : GoodIn wsL_law wsX9_part := goodIn_r _ [1154, 155, 156, 133, 134, 318, 319, 320, 5, 321, 1186, 1187, 1188, 1189, 1190, 1191, 1192, 1193, 1194, 1195, 1196, 1197, 1198, 1199, 1200, 1201, 1202, 1203, 1204, 1205, 1206, 1207, 1208, 1209, 1210, 1211, 1212, 1213, 1214, 1215, 1216, 1217, 1218, 1219, 1220, 1221, 1222, 1223, 1224, 1225, 1226] (by decide +kernel) (by decide +kernel)
set_option maxRecDepth 20000 in
theorem gL_law_X9_part : GoodIn wsL_law (wsV RL 175 RX9 yX9_part wsX9_part) := goodIn_app (goodIn_of _ (by decide +kernel)) ggL_law_X9_part
set_option maxRecDepth 20000 in
theorem ggL_law_L_out : GoodIn wsL_law wsL_out := goodIn_ca (goodIn_r _ [1158, 1159, 1160, 1161, 1162, 2, 1163, 1164, 1165, 733, 39, 1174, 1175, 1176, 1177, 1178, 1179, 1180, 1181, 1182, 1183, 1184, 1185] (by decide +kernel) (by decide +kernel)) (goodIn_sub (fun _ h => List.mem_append_right _ h) (by decide +kernel))
set_option maxRecDepth 20000 in
theorem gL_law_L_out : GoodIn wsL_law (va_wsS RL 176 yL_out wsL_out) := goodIn_app (goodIn_of _ (by decide +kernel)) ggL_law_L_out
set_option maxRecDepth 20000 in
theorem ggL_law_X9_out : GoodIn wsL_law wsX9_out := goodIn_r _ [1169, 155, 739, 135, 1186, 1187, 1188, 1189, 1190, 1191, 1192, 1193, 1194, 1195, 1196, 1197, 1198, 1199, 1200, 1201, 1202, 1203, 1204, 1205, 1206, 1207, 1208, 1209, 1210, 1211, 1212, 1213, 1214, 1215, 1216, 1217, 1218, 1219, 1220, 1221, 1222, 1223, 1224, 1225, 1226] (by decide +kernel) (by decide +kernel)
set_option maxRecDepth 20000 in
theorem gL_law_X9_out : GoodIn wsL_law (wsV RL 181 RX9 yX9_out wsX9_out) := goodIn_app (goodIn_of _ (by decide +kernel)) ggL_law_X9_out
set_option maxRecDepth 20000 in
theorem ggL_law_X9_thrown : GoodIn wsL_law wsX9_thrown := goodIn_r _ [1173, 155, 1186, 1187, 1188, 1189, 1190, 1191, 1192, 1193, 1194, 1195, 1196, 1197, 1198, 1199, 1200, 1201, 1202, 1203, 1204, 1205, 1206, 1207, 1208, 1209, 1210, 1211, 1212, 1213, 1214, 1215, 1216, 1217, 1218, 1219, 1220, 1221, 1222, 1223, 1224, 1225, 1226] (by decide +kernel) (by decide +kernel)
set_option maxRecDepth 20000 in
theorem gL_law_X9_thrown : GoodIn wsL_law (wsV RL 182 RX9 yX9_thrown wsX9_thrown) := goodIn_app (goodIn_of _ (by decide +kernel)) ggL_law_X9_thrown
theorem dL_law_0 : decode cL_law 0 = .ok (.new 8, 3) := by decide +kernel
theorem dL_law_3 : decode cL_law 3 = .ok (.dup, 1) := by decide +kernel
theorem dL_law_4 : decode cL_law 4 = .ok (.invokespecial 15, 3) := by decide +kernel
theorem dL_law_7 : decode cL_law 7 = .ok (.astore_n 1, 1) := by decide +kernel
theorem dL_law_8 : decode cL_law 8 = .ok (.new 16, 3) := by decide +kernel
theorem dL_law_11 : decode cL_law 11 = .ok (.dup, 1) := by decide +kernel
theorem dL_law_12 : decode cL_law 12 = .ok (.invokespecial 18, 3) := by decide +kernel
theorem dL_law_15 : decode cL_law 15 = .ok (.astore_n 2, 1) := by decide +kernel
theorem dL_law_16 : decode cL_law 16 = .ok (.iconst 1, 1) := by decide +kernel
theorem dL_law_17 : decode cL_law 17 = .ok (.newarray .long, 2) := by decide +kernel
theorem dL_law_19 : decode cL_law 19 = .ok (.astore_n 3, 1) := by decide +kernel
theorem dL_law_20 : decode cL_law 20 = .ok (.iconst 0, 1) := by decide +kernel
theorem dL_law_21 : decode cL_law 21 = .ok (.istore 4, 2) := by decide +kernel
theorem dL_law_23 : decode cL_law 23 = .ok (.iload 4, 2) := by decide +kernel
theorem dL_law_25 : decode cL_law 25 = .ok (.aload_n 0, 1) := by decide +kernel
theorem dL_law_26 : decode cL_law 26 = .ok (.arraylength, 1) := by decide +kernel
theorem dL_law_27 : decode cL_law 27 = .ok (.bipush 6, 2) := by decide +kernel
theorem dL_law_29 : decode cL_law 29 = .ok (.isub, 1) := by decide +kernel
theorem dL_law_30 : decode cL_law 30 = .ok (.if_icmp .gt 1634, 3) := by decide +kernel
theorem dL_law_33 : decode cL_law 33 = .ok (.aload_n 0, 1) := by decide +kernel
theorem dL_law_34 : decode cL_law 34 = .ok (.iload 4, 2) := by decide +kernel
theorem dL_law_36 : decode cL_law 36 = .ok (.iaload, 1) := by decide +kernel
theorem dL_law_37 : decode cL_law 37 = .ok (.bipush 63, 2) := by decide +kernel
theorem dL_law_39 : decode cL_law 39 = .ok (.iand, 1) := by decide +kernel
theorem dL_law_40 : decode cL_law 40 = .ok (.tableswitch 1618 0 35 #[160, 173, 222, 271, 308, 381, 418, 455, 492, 529, 594, 631, 668, 705, 742, 768, 794, 807, 857, 922, 991, 1029, 1067, 1105, 1131, 1157, 1182, 1259, 1296, 1310, 1360, 1429, 1467, 1524, 1537, 1562], 160) := by decide +kernel
theorem dL_law_200 : decode cL_law 200 = .ok (.aload_n 1, 1) := by decide +kernel
theorem dL_law_201 : decode cL_law 201 = .ok (.invokevirtual 19, 3) := by decide +kernel
theorem dL_law_204 : decode cL_law 204 = .ok (.aload_n 2, 1) := by decide +kernel
theorem dL_law_205 : decode cL_law 205 = .ok (.invokevirtual 23, 3) := by decide +kernel
theorem dL_law_208 : decode cL_law 208 = .ok (.if_icmp .eq 1450, 3) := by decide +kernel
theorem dL_law_211 : decode cL_law 211 = .ok (.iconst 0, 1) := by decide +kernel
theorem dL_law_212 : decode cL_law 212 = .ok (.ireturn, 1) := by decide +kernel
theorem dL_law_213 : decode cL_law 213 = .ok (.aload_n 1, 1) := by decide +kernel
theorem dL_law_214 : decode cL_law 214 = .ok (.aload_n 0, 1) := by decide +kernel
theorem dL_law_215 : decode cL_law 215 = .ok (.iload 4, 2) := by decide +kernel
theorem dL_law_217 : decode cL_law 217 = .ok (.iconst 1, 1) := by decide +kernel
theorem dL_law_218 : decode cL_law 218 = .ok (.iadd, 1) := by decide +kernel
theorem dL_law_219 : decode cL_law 219 = .ok (.iaload, 1) := by decide +kernel
theorem dL_law_220 : decode cL_law 220 = .ok (.aload_n 0, 1) := by decide +kernel
theorem dL_law_221 : decode cL_law 221 = .ok (.iload 4, 2) := by decide +kernel
theorem dL_law_223 : decode cL_law 223 = .ok (.iconst 2, 1) := by decide +kernel
theorem dL_law_224 : decode cL_law 224 = .ok (.iadd, 1) := by decide +kernel
theorem dL_law_225 : decode cL_law 225 = .ok (.iaload, 1) := by decide +kernel
theorem dL_law_226 : decode cL_law 226 = .ok (.aload_n 0, 1) := by decide +kernel
theorem dL_law_227 : decode cL_law 227 = .ok (.iload 4, 2) := by decide +kernel
theorem dL_law_229 : decode cL_law 229 = .ok (.iconst 3, 1) := by decide +kernel
theorem dL_law_230 : decode cL_law 230 = .ok (.iadd, 1) := by decide +kernel
theorem dL_law_231 : decode cL_law 231 = .ok (.iaload, 1) := by decide +kernel
theorem dL_law_232 : decode cL_law 232 = .ok (.invokevirtual 24, 3) := by decide +kernel
theorem dL_law_235 : decode cL_law 235 = .ok (.aload_n 2, 1) := by decide +kernel
theorem dL_law_236 : decode cL_law 236 = .ok (.aload_n 0, 1) := by decide +kernel
theorem dL_law_237 : decode cL_law 237 = .ok (.iload 4, 2) := by decide +kernel
theorem dL_law_239 : decode cL_law 239 = .ok (.iconst 1, 1) := by decide +kernel
theorem dL_law_240 : decode cL_law 240 = .ok (.iadd, 1) := by decide +kernel
theorem dL_law_241 : decode cL_law 241 = .ok (.iaload, 1) := by decide +kernel
theorem dL_law_242 : decode cL_law 242 = .ok (.aload_n 0, 1) := by decide +kernel
theorem dL_law_243 : decode cL_law 243 = .ok (.iload 4, 2) := by decide +kernel
theorem dL_law_245 : decode cL_law 245 = .ok (.iconst 2, 1) := by decide +kernel
theorem dL_law_246 : decode cL_law 246 = .ok (.iadd, 1) := by decide +kernel
theorem dL_law_247 : decode cL_law 247 = .ok (.iaload, 1) := by decide +kernel
theorem dL_law_248 : decode cL_law 248 = .ok (.aload_n 0, 1) := by decide +kernel
theorem dL_law_249 : decode cL_law 249 = .ok (.iload 4, 2) := by decide +kernel
theorem dL_law_251 : decode cL_law 251 = .ok (.iconst 3, 1) := by decide +kernel
theorem dL_law_252 : decode cL_law 252 = .ok (.iadd, 1) := by decide +kernel
theorem dL_law_253 : decode cL_law 253 = .ok (.iaload, 1) := by decide +kernel
theorem dL_law_254 : decode cL_law 254 = .ok (.invokevirtual 28, 3) := by decide +kernel
theorem dL_law_257 : decode cL_law 257 = .ok (.if_icmp .eq 1401, 3) := by decide +kernel
theorem dL_law_260 : decode cL_law 260 = .ok (.iconst 0, 1) := by decide +kernel
theorem dL_law_261 : decode cL_law 261 = .ok (.ireturn, 1) := by decide +kernel
theorem dL_law_262 : decode cL_law 262 = .ok (.aload_n 1, 1) := by decide +kernel
theorem dL_law_263 : decode cL_law 263 = .ok (.aload_n 0, 1) := by decide +kernel
theorem dL_law_264 : decode cL_law 264 = .ok (.iload 4, 2) := by decide +kernel
theorem dL_law_266 : decode cL_law 266 = .ok (.iconst 1, 1) := by decide +kernel
theorem dL_law_267 : decode cL_law 267 = .ok (.iadd, 1) := by decide +kernel
theorem dL_law_268 : decode cL_law 268 = .ok (.iaload, 1) := by decide +kernel
theorem dL_law_269 : decode cL_law 269 = .ok (.aload_n 0, 1) := by decide +kernel
theorem dL_law_270 : decode cL_law 270 = .ok (.iload 4, 2) := by decide +kernel
theorem dL_law_272 : decode cL_law 272 = .ok (.iconst 2, 1) := by decide +kernel
theorem dL_law_273 : decode cL_law 273 = .ok (.iadd, 1) := by decide +kernel
theorem dL_law_274 : decode cL_law 274 = .ok (.iaload, 1) := by decide +kernel
theorem dL_law_275 : decode cL_law 275 = .ok (.aload_n 0, 1) := by decide +kernel
theorem dL_law_276 : decode cL_law 276 = .ok (.iload 4, 2) := by decide +kernel
theorem dL_law_278 : decode cL_law 278 = .ok (.iconst 3, 1) := by decide +kernel
theorem dL_law_279 : decode cL_law 279 = .ok (.iadd, 1) := by decide +kernel
theorem dL_law_280 : decode cL_law 280 = .ok (.iaload, 1) := by decide +kernel
theorem dL_law_281 : decode cL_law 281 = .ok (.invokevirtual 29, 3) := by decide +kernel
theorem dL_law_284 : decode cL_law 284 = .ok (.aload_n 2, 1) := by decide +kernel
theorem dL_law_285 : decode cL_law 285 = .ok (.aload_n 0, 1) := by decide +kernel
theorem dL_law_286 : decode cL_law 286 = .ok (.iload 4, 2) := by decide +kernel
theorem dL_law_288 : decode cL_law 288 = .ok (.iconst 1, 1) := by decide +kernel
theorem dL_law_289 : decode cL_law 289 = .ok (.iadd, 1) := by decide +kernel
theorem dL_law_290 : decode cL_law 290 = .ok (.iaload, 1) := by decide +kernel
theorem dL_law_291 : decode cL_law 291 = .ok (.aload_n 0, 1) := by decide +kernel
theorem dL_law_292 : decode cL_law 292 = .ok (.iload 4, 2) := by decide +kernel
theorem dL_law_294 : decode cL_law 294 = .ok (.iconst 2, 1) := by decide +kernel
theorem dL_law_295 : decode cL_law 295 = .ok (.iadd, 1) := by decide +kernel
theorem dL_law_296 : decode cL_law 296 = .ok (.iaload, 1) := by decide +kernel
theorem dL_law_297 : decode cL_law 297 = .ok (.aload_n 0, 1) := by decide +kernel
theorem dL_law_298 : decode cL_law 298 = .ok (.iload 4, 2) := by decide +kernel
theorem dL_law_300 : decode cL_law 300 = .ok (.iconst 3, 1) := by decide +kernel
theorem dL_law_301 : decode cL_law 301 = .ok (.iadd, 1) := by decide +kernel
theorem dL_law_302 : decode cL_law 302 = .ok (.iaload, 1) := by decide +kernel
theorem dL_law_303 : decode cL_law 303 = .ok (.invokevirtual 32, 3) := by decide +kernel
theorem dL_law_306 : decode cL_law 306 = .ok (.if_icmp .eq 1352, 3) := by decide +kernel
theorem dL_law_309 : decode cL_law 309 = .ok (.iconst 0, 1) := by decide +kernel
theorem dL_law_310 : decode cL_law 310 = .ok (.ireturn, 1) := by decide +kernel
theorem dL_law_311 : decode cL_law 311 = .ok (.aload_n 1, 1) := by decide +kernel
theorem dL_law_312 : decode cL_law 312 = .ok (.aload_n 0, 1) := by decide +kernel
theorem dL_law_313 : decode cL_law 313 = .ok (.iload 4, 2) := by decide +kernel
theorem dL_law_315 : decode cL_law 315 = .ok (.iconst 1, 1) := by decide +kernel
theorem dL_law_316 : decode cL_law 316 = .ok (.iadd, 1) := by decide +kernel
theorem dL_law_317 : decode cL_law 317 = .ok (.iaload, 1) := by decide +kernel
theorem dL_law_318 : decode cL_law 318 = .ok (.aload_n 0, 1) := by decide +kernel
theorem dL_law_319 : decode cL_law 319 = .ok (.iload 4, 2) := by decide +kernel
theorem dL_law_321 : decode cL_law 321 = .ok (.iconst 2, 1) := by decide +kernel
theorem dL_law_322 : decode cL_law 322 = .ok (.iadd, 1) := by decide +kernel
theorem dL_law_323 : decode cL_law 323 = .ok (.iaload, 1) := by decide +kernel
theorem dL_law_324 : decode cL_law 324 = .ok (.invokevirtual 33, 3) := by decide +kernel
theorem dL_law_327 : decode cL_law 327 = .ok (.aload_n 2, 1) := by decide +kernel
theorem dL_law_328 : decode cL_law 328 = .ok (.aload_n 0, 1) := by decide +kernel
theorem dL_law_329 : decode cL_law 329 = .ok (.iload 4, 2) := by decide +kernel
theorem dL_law_331 : decode cL_law 331 = .ok (.iconst 1, 1) := by decide +kernel
theorem dL_law_332 : decode cL_law 332 = .ok (.iadd, 1) := by decide +kernel
theorem dL_law_333 : decode cL_law 333 = .ok (.iaload, 1) := by decide +kernel
theorem dL_law_334 : decode cL_law 334 = .ok (.aload_n 0, 1) := by decide +kernel
theorem dL_law_335 : decode cL_law 335 = .ok (.iload 4, 2) := by decide +kernel
theorem dL_law_337 : decode cL_law 337 = .ok (.iconst 2, 1) := by decide +kernel
theorem dL_law_338 : decode cL_law 338 = .ok (.iadd, 1) := by decide +kernel
theorem dL_law_339 : decode cL_law 339 = .ok (.iaload, 1) := by decide +kernel
theorem dL_law_340 : decode cL_law 340 = .ok (.invokevirtual 37, 3) := by decide +kernel
theorem dL_law_343 : decode cL_law 343 = .ok (.if_icmp .eq 1315, 3) := by decide +kernel
theorem dL_law_346 : decode cL_law 346 = .ok (.iconst 0, 1) := by decide +kernel
theorem dL_law_347 : decode cL_law 347 = .ok (.ireturn, 1) := by decide +kernel
theorem dL_law_348 : decode cL_law 348 = .ok (.aload_n 1, 1) := by decide +kernel
theorem dL_law_349 : decode cL_law 349 = .ok (.aload_n 0, 1) := by decide +kernel
theorem dL_law_350 : decode cL_law 350 = .ok (.iload 4, 2) := by decide +kernel
theorem dL_law_352 : decode cL_law 352 = .ok (.iconst 1, 1) := by decide +kernel
theorem dL_law_353 : decode cL_law 353 = .ok (.iadd, 1) := by decide +kernel
theorem dL_law_354 : decode cL_law 354 = .ok (.iaload, 1) := by decide +kernel
theorem dL_law_355 : decode cL_law 355 = .ok (.aload_n 0, 1) := by decide +kernel
theorem dL_law_356 : decode cL_law 356 = .ok (.iload 4, 2) := by decide +kernel
theorem dL_law_358 : decode cL_law 358 = .ok (.iconst 2, 1) := by decide +kernel
theorem dL_law_359 : decode cL_law 359 = .ok (.iadd, 1) := by decide +kernel
theorem dL_law_360 : decode cL_law 360 = .ok (.iaload, 1) := by decide +kernel
theorem dL_law_361 : decode cL_law 361 = .ok (.aload_n 0, 1) := by decide +kernel
theorem dL_law_362 : decode cL_law 362 = .ok (.iload 4, 2) := by decide +kernel
theorem dL_law_364 : decode cL_law 364 = .ok (.iconst 3, 1) := by decide +kernel
theorem dL_law_365 : decode cL_law 365 = .ok (.iadd, 1) := by decide +kernel
theorem dL_law_366 : decode cL_law 366 = .ok (.iaload, 1) := by decide +kernel
theorem dL_law_367 : decode cL_law 367 = .ok (.aload_n 0, 1) := by decide +kernel
theorem dL_law_368 : decode cL_law 368 = .ok (.iload 4, 2) := by decide +kernel
theorem dL_law_370 : decode cL_law 370 = .ok (.iconst 4, 1) := by decide +kernel
theorem dL_law_371 : decode cL_law 371 = .ok (.iadd, 1) := by decide +kernel
theorem dL_law_372 : decode cL_law 372 = .ok (.iaload, 1) := by decide +kernel
theorem dL_law_373 : decode cL_law 373 = .ok (.aload_n 0, 1) := by decide +kernel
theorem dL_law_374 : decode cL_law 374 = .ok (.iload 4, 2) := by decide +kernel
theorem dL_law_376 : decode cL_law 376 = .ok (.iconst 5, 1) := by decide +kernel
theorem dL_law_377 : decode cL_law 377 = .ok (.iadd, 1) := by decide +kernel
theorem dL_law_378 : decode cL_law 378 = .ok (.iaload, 1) := by decide +kernel
theorem dL_law_379 : decode cL_law 379 = .ok (.invokevirtual 38, 3) := by decide +kernel
theorem dL_law_382 : decode cL_law 382 = .ok (.aload_n 2, 1) := by decide +kernel
theorem dL_law_383 : decode cL_law 383 = .ok (.aload_n 0, 1) := by decide +kernel
theorem dL_law_384 : decode cL_law 384 = .ok (.iload 4, 2) := by decide +kernel
theorem dL_law_386 : decode cL_law 386 = .ok (.iconst 1, 1) := by decide +kernel
theorem dL_law_387 : decode cL_law 387 = .ok (.iadd, 1) := by decide +kernel
theorem dL_law_388 : decode cL_law 388 = .ok (.iaload, 1) := by decide +kernel
theorem dL_law_389 : decode cL_law 389 = .ok (.aload_n 0, 1) := by decide +kernel
theorem dL_law_390 : decode cL_law 390 = .ok (.iload 4, 2) := by decide +kernel
theorem dL_law_392 : decode cL_law 392 = .ok (.iconst 2, 1) := by decide +kernel
theorem dL_law_393 : decode cL_law 393 = .ok (.iadd, 1) := by decide +kernel
theorem dL_law_394 : decode cL_law 394 = .ok (.iaload, 1) := by decide +kernel
theorem dL_law_395 : decode cL_law 395 = .ok (.aload_n 0, 1) := by decide +kernel
theorem dL_law_396 : decode cL_law 396 = .ok (.iload 4, 2) := by decide +kernel
theorem dL_law_398 : decode cL_law 398 = .ok (.iconst 3, 1) := by decide +kernel
theorem dL_law_399 : decode cL_law 399 = .ok (.iadd, 1) := by decide +kernel
theorem dL_law_400 : decode cL_law 400 = .ok (.iaload, 1) := by decide +kernel
theorem dL_law_401 : decode cL_law 401 = .ok (.aload_n 0, 1) := by decide +kernel
theorem dL_law_402 : decode cL_law 402 = .ok (.iload 4, 2) := by decide +kernel
theorem dL_law_404 : decode cL_law 404 = .ok (.iconst 4, 1) := by decide +kernel
theorem dL_law_405 : decode cL_law 405 = .ok (.iadd, 1) := by decide +kernel
theorem dL_law_406 : decode cL_law 406 = .ok (.iaload, 1) := by decide +kernel
theorem dL_law_407 : decode cL_law 407 = .ok (.aload_n 0, 1) := by decide +kernel
theorem dL_law_408 : decode cL_law 408 = .ok (.iload 4, 2) := by decide +kernel
theorem dL_law_410 : decode cL_law 410 = .ok (.iconst 5, 1) := by decide +kernel
theorem dL_law_411 : decode cL_law 411 = .ok (.iadd, 1) := by decide +kernel
theorem dL_law_412 : decode cL_law 412 = .ok (.iaload, 1) := by decide +kernel
theorem dL_law_413 : decode cL_law 413 = .ok (.invokevirtual 42, 3) := by decide +kernel
theorem dL_law_416 : decode cL_law 416 = .ok (.if_icmp .eq 1242, 3) := by decide +kernel
theorem dL_law_419 : decode cL_law 419 = .ok (.iconst 0, 1) := by decide +kernel
theorem dL_law_420 : decode cL_law 420 = .ok (.ireturn, 1) := by decide +kernel
theorem dL_law_421 : decode cL_law 421 = .ok (.aload_n 1, 1) := by decide +kernel
theorem dL_law_422 : decode cL_law 422 = .ok (.aload_n 0, 1) := by decide +kernel
theorem dL_law_423 : decode cL_law 423 = .ok (.iload 4, 2) := by decide +kernel
theorem dL_law_425 : decode cL_law 425 = .ok (.iconst 1, 1) := by decide +kernel
theorem dL_law_426 : decode cL_law 426 = .ok (.iadd, 1) := by decide +kernel
theorem dL_law_427 : decode cL_law 427 = .ok (.iaload, 1) := by decide +kernel
theorem dL_law_428 : decode cL_law 428 = .ok (.aload_n 0, 1) := by decide +kernel
theorem dL_law_429 : decode cL_law 429 = .ok (.iload 4, 2) := by decide +kernel
theorem dL_law_431 : decode cL_law 431 = .ok (.iconst 2, 1) := by decide +kernel
theorem dL_law_432 : decode cL_law 432 = .ok (.iadd, 1) := by decide +kernel
theorem dL_law_433 : decode cL_law 433 = .ok (.iaload, 1) := by decide +kernel
theorem dL_law_434 : decode cL_law 434 = .ok (.invokevirtual 43, 3) := by decide +kernel
theorem dL_law_437 : decode cL_law 437 = .ok (.aload_n 2, 1) := by decide +kernel
theorem dL_law_438 : decode cL_law 438 = .ok (.aload_n 0, 1) := by decide +kernel
theorem dL_law_439 : decode cL_law 439 = .ok (.iload 4, 2) := by decide +kernel
theorem dL_law_441 : decode cL_law 441 = .ok (.iconst 1, 1) := by decide +kernel
theorem dL_law_442 : decode cL_law 442 = .ok (.iadd, 1) := by decide +kernel
theorem dL_law_443 : decode cL_law 443 = .ok (.iaload, 1) := by decide +kernel
theorem dL_law_444 : decode cL_law 444 = .ok (.aload_n 0, 1) := by decide +kernel
theorem dL_law_445 : decode cL_law 445 = .ok (.iload 4, 2) := by decide +kernel
theorem dL_law_447 : decode cL_law 447 = .ok (.iconst 2, 1) := by decide +kernel
theorem dL_law_448 : decode cL_law 448 = .ok (.iadd, 1) := by decide +kernel
theorem dL_law_449 : decode cL_law 449 = .ok (.iaload, 1) := by decide +kernel
theorem dL_law_450 : decode cL_law 450 = .ok (.invokevirtual 47, 3) := by decide +kernel
theorem dL_law_453 : decode cL_law 453 = .ok (.if_icmp .eq 1205, 3) := by decide +kernel
theorem dL_law_456 : decode cL_law 456 = .ok (.iconst 0, 1) := by decide +kernel
theorem dL_law_457 : decode cL_law 457 = .ok (.ireturn, 1) := by decide +kernel
theorem dL_law_458 : decode cL_law 458 = .ok (.aload_n 1, 1) := by decide +kernel
theorem dL_law_459 : decode cL_law 459 = .ok (.aload_n 0, 1) := by decide +kernel
theorem dL_law_460 : decode cL_law 460 = .ok (.iload 4, 2) := by decide +kernel
theorem dL_law_462 : decode cL_law 462 = .ok (.iconst 1, 1) := by decide +kernel
theorem dL_law_463 : decode cL_law 463 = .ok (.iadd, 1) := by decide +kernel
theorem dL_law_464 : decode cL_law 464 = .ok (.iaload, 1) := by decide +kernel
theorem dL_law_465 : decode cL_law 465 = .ok (.aload_n 0, 1) := by decide +kernel
theorem dL_law_466 : decode cL_law 466 = .ok (.iload 4, 2) := by decide +kernel
theorem dL_law_468 : decode cL_law 468 = .ok (.iconst 2, 1) := by decide +kernel
theorem dL_law_469 : decode cL_law 469 = .ok (.iadd, 1) := by decide +kernel
theorem dL_law_470 : decode cL_law 470 = .ok (.iaload, 1) := by decide +kernel
theorem dL_law_471 : decode cL_law 471 = .ok (.invokevirtual 48, 3) := by decide +kernel
theorem dL_law_474 : decode cL_law 474 = .ok (.aload_n 2, 1) := by decide +kernel
theorem dL_law_475 : decode cL_law 475 = .ok (.aload_n 0, 1) := by decide +kernel
theorem dL_law_476 : decode cL_law 476 = .ok (.iload 4, 2) := by decide +kernel
theorem dL_law_478 : decode cL_law 478 = .ok (.iconst 1, 1) := by decide +kernel
theorem dL_law_479 : decode cL_law 479 = .ok (.iadd, 1) := by decide +kernel
theorem dL_law_480 : decode cL_law 480 = .ok (.iaload, 1) := by decide +kernel
theorem dL_law_481 : decode cL_law 481 = .ok (.aload_n 0, 1) := by decide +kernel
theorem dL_law_482 : decode cL_law 482 = .ok (.iload 4, 2) := by decide +kernel
theorem dL_law_484 : decode cL_law 484 = .ok (.iconst 2, 1) := by decide +kernel
theorem dL_law_485 : decode cL_law 485 = .ok (.iadd, 1) := by decide +kernel
theorem dL_law_486 : decode cL_law 486 = .ok (.iaload, 1) := by decide +kernel
theorem dL_law_487 : decode cL_law 487 = .ok (.invokevirtual 51, 3) := by decide +kernel
theorem dL_law_490 : decode cL_law 490 = .ok (.if_icmp .eq 1168, 3) := by decide +kernel
theorem dL_law_493 : decode cL_law 493 = .ok (.iconst 0, 1) := by decide +kernel
theorem dL_law_494 : decode cL_law 494 = .ok (.ireturn, 1) := by decide +kernel
theorem dL_law_495 : decode cL_law 495 = .ok (.aload_n 1, 1) := by decide +kernel
theorem dL_law_496 : decode cL_law 496 = .ok (.aload_n 0, 1) := by decide +kernel
theorem dL_law_497 : decode cL_law 497 = .ok (.iload 4, 2) := by decide +kernel
theorem dL_law_499 : decode cL_law 499 = .ok (.iconst 1, 1) := by decide +kernel
theorem dL_law_500 : decode cL_law 500 = .ok (.iadd, 1) := by decide +kernel
theorem dL_law_501 : decode cL_law 501 = .ok (.iaload, 1) := by decide +kernel
theorem dL_law_502 : decode cL_law 502 = .ok (.aload_n 0, 1) := by decide +kernel
theorem dL_law_503 : decode cL_law 503 = .ok (.iload 4, 2) := by decide +kernel
theorem dL_law_505 : decode cL_law 505 = .ok (.iconst 2, 1) := by decide +kernel
theorem dL_law_506 : decode cL_law 506 = .ok (.iadd, 1) := by decide +kernel
theorem dL_law_507 : decode cL_law 507 = .ok (.iaload, 1) := by decide +kernel
theorem dL_law_508 : decode cL_law 508 = .ok (.invokevirtual 52, 3) := by decide +kernel
theorem dL_law_511 : decode cL_law 511 = .ok (.aload_n 2, 1) := by decide +kernel
theorem dL_law_512 : decode cL_law 512 = .ok (.aload_n 0, 1) := by decide +kernel
theorem dL_law_513 : decode cL_law 513 = .ok (.iload 4, 2) := by decide +kernel
theorem dL_law_515 : decode cL_law 515 = .ok (.iconst 1, 1) := by decide +kernel
theorem dL_law_516 : decode cL_law 516 = .ok (.iadd, 1) := by decide +kernel
theorem dL_law_517 : decode cL_law 517 = .ok (.iaload, 1) := by decide +kernel
theorem dL_law_518 : decode cL_law 518 = .ok (.aload_n 0, 1) := by decide +kernel
theorem dL_law_519 : decode cL_law 519 = .ok (.iload 4, 2) := by decide +kernel
theorem dL_law_521 : decode cL_law 521 = .ok (.iconst 2, 1) := by decide +kernel
theorem dL_law_522 : decode cL_law 522 = .ok (.iadd, 1) := by decide +kernel
theorem dL_law_523 : decode cL_law 523 = .ok (.iaload, 1) := by decide +kernel
theorem dL_law_524 : decode cL_law 524 = .ok (.invokevirtual 55, 3) := by decide +kernel
theorem dL_law_527 : decode cL_law 527 = .ok (.if_icmp .eq 1131, 3) := by decide +kernel
theorem dL_law_530 : decode cL_law 530 = .ok (.iconst 0, 1) := by decide +kernel
theorem dL_law_531 : decode cL_law 531 = .ok (.ireturn, 1) := by decide +kernel
theorem dL_law_532 : decode cL_law 532 = .ok (.aload_n 1, 1) := by decide +kernel
theorem dL_law_533 : decode cL_law 533 = .ok (.aload_n 0, 1) := by decide +kernel
theorem dL_law_534 : decode cL_law 534 = .ok (.iload 4, 2) := by decide +kernel
theorem dL_law_536 : decode cL_law 536 = .ok (.iconst 1, 1) := by decide +kernel
theorem dL_law_537 : decode cL_law 537 = .ok (.iadd, 1) := by decide +kernel
theorem dL_law_538 : decode cL_law 538 = .ok (.iaload, 1) := by decide +kernel
theorem dL_law_539 : decode cL_law 539 = .ok (.aload_n 0, 1) := by decide +kernel
theorem dL_law_540 : decode cL_law 540 = .ok (.iload 4, 2) := by decide +kernel
theorem dL_law_542 : decode cL_law 542 = .ok (.iconst 2, 1) := by decide +kernel
theorem dL_law_543 : decode cL_law 543 = .ok (.iadd, 1) := by decide +kernel
theorem dL_law_544 : decode cL_law 544 = .ok (.iaload, 1) := by decide +kernel
theorem dL_law_545 : decode cL_law 545 = .ok (.invokevirtual 56, 3) := by decide +kernel
theorem dL_law_548 : decode cL_law 548 = .ok (.aload_n 2, 1) := by decide +kernel
theorem dL_law_549 : decode cL_law 549 = .ok (.aload_n 0, 1) := by decide +kernel
theorem dL_law_550 : decode cL_law 550 = .ok (.iload 4, 2) := by decide +kernel
theorem dL_law_552 : decode cL_law 552 = .ok (.iconst 1, 1) := by decide +kernel
theorem dL_law_553 : decode cL_law 553 = .ok (.iadd, 1) := by decide +kernel
theorem dL_law_554 : decode cL_law 554 = .ok (.iaload, 1) := by decide +kernel
theorem dL_law_555 : decode cL_law 555 = .ok (.aload_n 0, 1) := by decide +kernel
theorem dL_law_556 : decode cL_law 556 = .ok (.iload 4, 2) := by decide +kernel
theorem dL_law_558 : decode cL_law 558 = .ok (.iconst 2, 1) := by decide +kernel
theorem dL_law_559 : decode cL_law 559 = .ok (.iadd, 1) := by decide +kernel
theorem dL_law_560 : decode cL_law 560 = .ok (.iaload, 1) := by decide +kernel
theorem dL_law_561 : decode cL_law 561 = .ok (.invokevirtual 59, 3) := by decide +kernel
theorem dL_law_564 : decode cL_law 564 = .ok (.if_icmp .eq 1094, 3) := by decide +kernel
theorem dL_law_567 : decode cL_law 567 = .ok (.iconst 0, 1) := by decide +kernel
theorem dL_law_568 : decode cL_law 568 = .ok (.ireturn, 1) := by decide +kernel
theorem dL_law_569 : decode cL_law 569 = .ok (.aload_n 1, 1) := by decide +kernel
theorem dL_law_570 : decode cL_law 570 = .ok (.aload_n 0, 1) := by decide +kernel
theorem dL_law_571 : decode cL_law 571 = .ok (.iload 4, 2) := by decide +kernel
theorem dL_law_573 : decode cL_law 573 = .ok (.iconst 1, 1) := by decide +kernel
theorem dL_law_574 : decode cL_law 574 = .ok (.iadd, 1) := by decide +kernel
theorem dL_law_575 : decode cL_law 575 = .ok (.iaload, 1) := by decide +kernel
theorem dL_law_576 : decode cL_law 576 = .ok (.aload_n 0, 1) := by decide +kernel
theorem dL_law_577 : decode cL_law 577 = .ok (.iload 4, 2) := by decide +kernel
theorem dL_law_579 : decode cL_law 579 = .ok (.iconst 2, 1) := by decide +kernel
theorem dL_law_580 : decode cL_law 580 = .ok (.iadd, 1) := by decide +kernel
theorem dL_law_581 : decode cL_law 581 = .ok (.iaload, 1) := by decide +kernel
theorem dL_law_582 : decode cL_law 582 = .ok (.aload_n 0, 1) := by decide +kernel
theorem dL_law_583 : decode cL_law 583 = .ok (.iload 4, 2) := by decide +kernel
theorem dL_law_585 : decode cL_law 585 = .ok (.iconst 3, 1) := by decide +kernel
theorem dL_law_586 : decode cL_law 586 = .ok (.iadd, 1) := by decide +kernel
theorem dL_law_587 : decode cL_law 587 = .ok (.iaload, 1) := by decide +kernel
theorem dL_law_588 : decode cL_law 588 = .ok (.ifCond .eq 7, 3) := by decide +kernel
theorem dL_law_591 : decode cL_law 591 = .ok (.iconst 1, 1) := by decide +kernel
theorem dL_law_592 : decode cL_law 592 = .ok (.goto 4, 3) := by decide +kernel
theorem dL_law_595 : decode cL_law 595 = .ok (.iconst 0, 1) := by decide +kernel
theorem dL_law_596 : decode cL_law 596 = .ok (.invokevirtual 60, 3) := by decide +kernel
theorem dL_law_599 : decode cL_law 599 = .ok (.aload_n 2, 1) := by decide +kernel
theorem dL_law_600 : decode cL_law 600 = .ok (.aload_n 0, 1) := by decide +kernel
theorem dL_law_601 : decode cL_law 601 = .ok (.iload 4, 2) := by decide +kernel
theorem dL_law_603 : decode cL_law 603 = .ok (.iconst 1, 1) := by decide +kernel
theorem dL_law_604 : decode cL_law 604 = .ok (.iadd, 1) := by decide +kernel
theorem dL_law_605 : decode cL_law 605 = .ok (.iaload, 1) := by decide +kernel
theorem dL_law_606 : decode cL_law 606 = .ok (.aload_n 0, 1) := by decide +kernel
theorem dL_law_607 : decode cL_law 607 = .ok (.iload 4, 2) := by decide +kernel
theorem dL_law_609 : decode cL_law 609 = .ok (.iconst 2, 1) := by decide +kernel
theorem dL_law_610 : decode cL_law 610 = .ok (.iadd, 1) := by decide +kernel
theorem dL_law_611 : decode cL_law 611 = .ok (.iaload, 1) := by decide +kernel
theorem dL_law_612 : decode cL_law 612 = .ok (.aload_n 0, 1) := by decide +kernel
theorem dL_law_613 : decode cL_law 613 = .ok (.iload 4, 2) := by decide +kernel
theorem dL_law_615 : decode cL_law 615 = .ok (.iconst 3, 1) := by decide +kernel
theorem dL_law_616 : decode cL_law 616 = .ok (.iadd, 1) := by decide +kernel
theorem dL_law_617 : decode cL_law 617 = .ok (.iaload, 1) := by decide +kernel
theorem dL_law_618 : decode cL_law 618 = .ok (.ifCond .eq 7, 3) := by decide +kernel
theorem dL_law_621 : decode cL_law 621 = .ok (.iconst 1, 1) := by decide +kernel
theorem dL_law_622 : decode cL_law 622 = .ok (.goto 4, 3) := by decide +kernel
theorem dL_law_625 : decode cL_law 625 = .ok (.iconst 0, 1) := by decide +kernel
theorem dL_law_626 : decode cL_law 626 = .ok (.invokevirtual 64, 3) := by decide +kernel
theorem dL_law_629 : decode cL_law 629 = .ok (.if_icmp .eq 1029, 3) := by decide +kernel
theorem dL_law_632 : decode cL_law 632 = .ok (.iconst 0, 1) := by decide +kernel
theorem dL_law_633 : decode cL_law 633 = .ok (.ireturn, 1) := by decide +kernel
theorem dL_law_634 : decode cL_law 634 = .ok (.aload_n 1, 1) := by decide +kernel
theorem dL_law_635 : decode cL_law 635 = .ok (.aload_n 0, 1) := by decide +kernel
theorem dL_law_636 : decode cL_law 636 = .ok (.iload 4, 2) := by decide +kernel
theorem dL_law_638 : decode cL_law 638 = .ok (.iconst 1, 1) := by decide +kernel
theorem dL_law_639 : decode cL_law 639 = .ok (.iadd, 1) := by decide +kernel
theorem dL_law_640 : decode cL_law 640 = .ok (.iaload, 1) := by decide +kernel
theorem dL_law_641 : decode cL_law 641 = .ok (.aload_n 0, 1) := by decide +kernel
theorem dL_law_642 : decode cL_law 642 = .ok (.iload 4, 2) := by decide +kernel
theorem dL_law_644 : decode cL_law 644 = .ok (.iconst 2, 1) := by decide +kernel
theorem dL_law_645 : decode cL_law 645 = .ok (.iadd, 1) := by decide +kernel
theorem dL_law_646 : decode cL_law 646 = .ok (.iaload, 1) := by decide +kernel
theorem dL_law_647 : decode cL_law 647 = .ok (.invokevirtual 65, 3) := by decide +kernel
theorem dL_law_650 : decode cL_law 650 = .ok (.aload_n 2, 1) := by decide +kernel
theorem dL_law_651 : decode cL_law 651 = .ok (.aload_n 0, 1) := by decide +kernel
theorem dL_law_652 : decode cL_law 652 = .ok (.iload 4, 2) := by decide +kernel
theorem dL_law_654 : decode cL_law 654 = .ok (.iconst 1, 1) := by decide +kernel
theorem dL_law_655 : decode cL_law 655 = .ok (.iadd, 1) := by decide +kernel
theorem dL_law_656 : decode cL_law 656 = .ok (.iaload, 1) := by decide +kernel
theorem dL_law_657 : decode cL_law 657 = .ok (.aload_n 0, 1) := by decide +kernel
theorem dL_law_658 : decode cL_law 658 = .ok (.iload 4, 2) := by decide +kernel
theorem dL_law_660 : decode cL_law 660 = .ok (.iconst 2, 1) := by decide +kernel
theorem dL_law_661 : decode cL_law 661 = .ok (.iadd, 1) := by decide +kernel
theorem dL_law_662 : decode cL_law 662 = .ok (.iaload, 1) := by decide +kernel
theorem dL_law_663 : decode cL_law 663 = .ok (.invokevirtual 68, 3) := by decide +kernel
theorem dL_law_666 : decode cL_law 666 = .ok (.if_icmp .eq 992, 3) := by decide +kernel
theorem dL_law_669 : decode cL_law 669 = .ok (.iconst 0, 1) := by decide +kernel
theorem dL_law_670 : decode cL_law 670 = .ok (.ireturn, 1) := by decide +kernel
theorem dL_law_671 : decode cL_law 671 = .ok (.aload_n 1, 1) := by decide +kernel
theorem dL_law_672 : decode cL_law 672 = .ok (.aload_n 0, 1) := by decide +kernel
theorem dL_law_673 : decode cL_law 673 = .ok (.iload 4, 2) := by decide +kernel
theorem dL_law_675 : decode cL_law 675 = .ok (.iconst 1, 1) := by decide +kernel
theorem dL_law_676 : decode cL_law 676 = .ok (.iadd, 1) := by decide +kernel
theorem dL_law_677 : decode cL_law 677 = .ok (.iaload, 1) := by decide +kernel
theorem dL_law_678 : decode cL_law 678 = .ok (.aload_n 0, 1) := by decide +kernel
theorem dL_law_679 : decode cL_law 679 = .ok (.iload 4, 2) := by decide +kernel
theorem dL_law_681 : decode cL_law 681 = .ok (.iconst 2, 1) := by decide +kernel
theorem dL_law_682 : decode cL_law 682 = .ok (.iadd, 1) := by decide +kernel
theorem dL_law_683 : decode cL_law 683 = .ok (.iaload, 1) := by decide +kernel
theorem dL_law_684 : decode cL_law 684 = .ok (.invokevirtual 69, 3) := by decide +kernel
theorem dL_law_687 : decode cL_law 687 = .ok (.aload_n 2, 1) := by decide +kernel
theorem dL_law_688 : decode cL_law 688 = .ok (.aload_n 0, 1) := by decide +kernel
theorem dL_law_689 : decode cL_law 689 = .ok (.iload 4, 2) := by decide +kernel
theorem dL_law_691 : decode cL_law 691 = .ok (.iconst 1, 1) := by decide +kernel
theorem dL_law_692 : decode cL_law 692 = .ok (.iadd, 1) := by decide +kernel
theorem dL_law_693 : decode cL_law 693 = .ok (.iaload, 1) := by decide +kernel
theorem dL_law_694 : decode cL_law 694 = .ok (.aload_n 0, 1) := by decide +kernel
theorem dL_law_695 : decode cL_law 695 = .ok (.iload 4, 2) := by decide +kernel
theorem dL_law_697 : decode cL_law 697 = .ok (.iconst 2, 1) := by decide +kernel
theorem dL_law_698 : decode cL_law 698 = .ok (.iadd, 1) := by decide +kernel
theorem dL_law_699 : decode cL_law 699 = .ok (.iaload, 1) := by decide +kernel
theorem dL_law_700 : decode cL_law 700 = .ok (.invokevirtual 72, 3) := by decide +kernel
theorem dL_law_703 : decode cL_law 703 = .ok (.if_icmp .eq 955, 3) := by decide +kernel
theorem dL_law_706 : decode cL_law 706 = .ok (.iconst 0, 1) := by decide +kernel
theorem dL_law_707 : decode cL_law 707 = .ok (.ireturn, 1) := by decide +kernel
theorem dL_law_708 : decode cL_law 708 = .ok (.aload_n 1, 1) := by decide +kernel
theorem dL_law_709 : decode cL_law 709 = .ok (.aload_n 0, 1) := by decide +kernel
theorem dL_law_710 : decode cL_law 710 = .ok (.iload 4, 2) := by decide +kernel
theorem dL_law_712 : decode cL_law 712 = .ok (.iconst 1, 1) := by decide +kernel
theorem dL_law_713 : decode cL_law 713 = .ok (.iadd, 1) := by decide +kernel
theorem dL_law_714 : decode cL_law 714 = .ok (.iaload, 1) := by decide +kernel
theorem dL_law_715 : decode cL_law 715 = .ok (.aload_n 0, 1) := by decide +kernel
theorem dL_law_716 : decode cL_law 716 = .ok (.iload 4, 2) := by decide +kernel
theorem dL_law_718 : decode cL_law 718 = .ok (.iconst 2, 1) := by decide +kernel
theorem dL_law_719 : decode cL_law 719 = .ok (.iadd, 1) := by decide +kernel
theorem dL_law_720 : decode cL_law 720 = .ok (.iaload, 1) := by decide +kernel
theorem dL_law_721 : decode cL_law 721 = .ok (.invokevirtual 73, 3) := by decide +kernel
theorem dL_law_724 : decode cL_law 724 = .ok (.aload_n 2, 1) := by decide +kernel
theorem dL_law_725 : decode cL_law 725 = .ok (.aload_n 0, 1) := by decide +kernel
theorem dL_law_726 : decode cL_law 726 = .ok (.iload 4, 2) := by decide +kernel
theorem dL_law_728 : decode cL_law 728 = .ok (.iconst 1, 1) := by decide +kernel
theorem dL_law_729 : decode cL_law 729 = .ok (.iadd, 1) := by decide +kernel
theorem dL_law_730 : decode cL_law 730 = .ok (.iaload, 1) := by decide +kernel
theorem dL_law_731 : decode cL_law 731 = .ok (.aload_n 0, 1) := by decide +kernel
theorem dL_law_732 : decode cL_law 732 = .ok (.iload 4, 2) := by decide +kernel
theorem dL_law_734 : decode cL_law 734 = .ok (.iconst 2, 1) := by decide +kernel
theorem dL_law_735 : decode cL_law 735 = .ok (.iadd, 1) := by decide +kernel
theorem dL_law_736 : decode cL_law 736 = .ok (.iaload, 1) := by decide +kernel
theorem dL_law_737 : decode cL_law 737 = .ok (.invokevirtual 76, 3) := by decide +kernel
theorem dL_law_740 : decode cL_law 740 = .ok (.if_icmp .eq 918, 3) := by decide +kernel
theorem dL_law_743 : decode cL_law 743 = .ok (.iconst 0, 1) := by decide +kernel
theorem dL_law_744 : decode cL_law 744 = .ok (.ireturn, 1) := by decide +kernel
theorem dL_law_745 : decode cL_law 745 = .ok (.aload_n 1, 1) := by decide +kernel
theorem dL_law_746 : decode cL_law 746 = .ok (.aload_n 0, 1) := by decide +kernel
theorem dL_law_747 : decode cL_law 747 = .ok (.iload 4, 2) := by decide +kernel
theorem dL_law_749 : decode cL_law 749 = .ok (.iconst 1, 1) := by decide +kernel
theorem dL_law_750 : decode cL_law 750 = .ok (.iadd, 1) := by decide +kernel
theorem dL_law_751 : decode cL_law 751 = .ok (.iaload, 1) := by decide +kernel
theorem dL_law_752 : decode cL_law 752 = .ok (.aload_n 0, 1) := by decide +kernel
theorem dL_law_753 : decode cL_law 753 = .ok (.iload 4, 2) := by decide +kernel
theorem dL_law_755 : decode cL_law 755 = .ok (.iconst 2, 1) := by decide +kernel
theorem dL_law_756 : decode cL_law 756 = .ok (.iadd, 1) := by decide +kernel
theorem dL_law_757 : decode cL_law 757 = .ok (.iaload, 1) := by decide +kernel
theorem dL_law_758 : decode cL_law 758 = .ok (.invokevirtual 77, 3) := by decide +kernel
theorem dL_law_761 : decode cL_law 761 = .ok (.aload_n 2, 1) := by decide +kernel
theorem dL_law_762 : decode cL_law 762 = .ok (.aload_n 0, 1) := by decide +kernel
theorem dL_law_763 : decode cL_law 763 = .ok (.iload 4, 2) := by decide +kernel
theorem dL_law_765 : decode cL_law 765 = .ok (.iconst 1, 1) := by decide +kernel
theorem dL_law_766 : decode cL_law 766 = .ok (.iadd, 1) := by decide +kernel
theorem dL_law_767 : decode cL_law 767 = .ok (.iaload, 1) := by decide +kernel
theorem dL_law_768 : decode cL_law 768 = .ok (.aload_n 0, 1) := by decide +kernel
theorem dL_law_769 : decode cL_law 769 = .ok (.iload 4, 2) := by decide +kernel
theorem dL_law_771 : decode cL_law 771 = .ok (.iconst 2, 1) := by decide +kernel
theorem dL_law_772 : decode cL_law 772 = .ok (.iadd, 1) := by decide +kernel
theorem dL_law_773 : decode cL_law 773 = .ok (.iaload, 1) := by decide +kernel
theorem dL_law_774 : decode cL_law 774 = .ok (.invokevirtual 80, 3) := by decide +kernel
theorem dL_law_777 : decode cL_law 777 = .ok (.if_icmp .eq 881, 3) := by decide +kernel
theorem dL_law_780 : decode cL_law 780 = .ok (.iconst 0, 1) := by decide +kernel
theorem dL_law_781 : decode cL_law 781 = .ok (.ireturn, 1) := by decide +kernel
theorem dL_law_782 : decode cL_law 782 = .ok (.aload_n 1, 1) := by decide +kernel
theorem dL_law_783 : decode cL_law 783 = .ok (.aload_n 0, 1) := by decide +kernel
theorem dL_law_784 : decode cL_law 784 = .ok (.iload 4, 2) := by decide +kernel
theorem dL_law_786 : decode cL_law 786 = .ok (.iconst 1, 1) := by decide +kernel
theorem dL_law_787 : decode cL_law 787 = .ok (.iadd, 1) := by decide +kernel
theorem dL_law_788 : decode cL_law 788 = .ok (.iaload, 1) := by decide +kernel
theorem dL_law_789 : decode cL_law 789 = .ok (.invokevirtual 81, 3) := by decide +kernel
theorem dL_law_792 : decode cL_law 792 = .ok (.aload_n 2, 1) := by decide +kernel
theorem dL_law_793 : decode cL_law 793 = .ok (.aload_n 0, 1) := by decide +kernel
theorem dL_law_794 : decode cL_law 794 = .ok (.iload 4, 2) := by decide +kernel
theorem dL_law_796 : decode cL_law 796 = .ok (.iconst 1, 1) := by decide +kernel
theorem dL_law_797 : decode cL_law 797 = .ok (.iadd, 1) := by decide +kernel
theorem dL_law_798 : decode cL_law 798 = .ok (.iaload, 1) := by decide +kernel
theorem dL_law_799 : decode cL_law 799 = .ok (.invokevirtual 85, 3) := by decide +kernel
theorem dL_law_802 : decode cL_law 802 = .ok (.lcmp, 1) := by decide +kernel
theorem dL_law_803 : decode cL_law 803 = .ok (.ifCond .eq 855, 3) := by decide +kernel
theorem dL_law_806 : decode cL_law 806 = .ok (.iconst 0, 1) := by decide +kernel
theorem dL_law_807 : decode cL_law 807 = .ok (.ireturn, 1) := by decide +kernel
theorem dL_law_808 : decode cL_law 808 = .ok (.aload_n 1, 1) := by decide +kernel
theorem dL_law_809 : decode cL_law 809 = .ok (.aload_n 0, 1) := by decide +kernel
theorem dL_law_810 : decode cL_law 810 = .ok (.iload 4, 2) := by decide +kernel
theorem dL_law_812 : decode cL_law 812 = .ok (.iconst 1, 1) := by decide +kernel
theorem dL_law_813 : decode cL_law 813 = .ok (.iadd, 1) := by decide +kernel
theorem dL_law_814 : decode cL_law 814 = .ok (.iaload, 1) := by decide +kernel
theorem dL_law_815 : decode cL_law 815 = .ok (.invokevirtual 86, 3) := by decide +kernel
theorem dL_law_818 : decode cL_law 818 = .ok (.aload_n 2, 1) := by decide +kernel
theorem dL_law_819 : decode cL_law 819 = .ok (.aload_n 0, 1) := by decide +kernel
theorem dL_law_820 : decode cL_law 820 = .ok (.iload 4, 2) := by decide +kernel
theorem dL_law_822 : decode cL_law 822 = .ok (.iconst 1, 1) := by decide +kernel
theorem dL_law_823 : decode cL_law 823 = .ok (.iadd, 1) := by decide +kernel
theorem dL_law_824 : decode cL_law 824 = .ok (.iaload, 1) := by decide +kernel
theorem dL_law_825 : decode cL_law 825 = .ok (.invokevirtual 89, 3) := by decide +kernel
theorem dL_law_828 : decode cL_law 828 = .ok (.lcmp, 1) := by decide +kernel
theorem dL_law_829 : decode cL_law 829 = .ok (.ifCond .eq 829, 3) := by decide +kernel
theorem dL_law_832 : decode cL_law 832 = .ok (.iconst 0, 1) := by decide +kernel
theorem dL_law_833 : decode cL_law 833 = .ok (.ireturn, 1) := by decide +kernel
theorem dL_law_834 : decode cL_law 834 = .ok (.aload_n 1, 1) := by decide +kernel
theorem dL_law_835 : decode cL_law 835 = .ok (.invokevirtual 90, 3) := by decide +kernel
theorem dL_law_838 : decode cL_law 838 = .ok (.aload_n 2, 1) := by decide +kernel
theorem dL_law_839 : decode cL_law 839 = .ok (.invokevirtual 93, 3) := by decide +kernel
theorem dL_law_842 : decode cL_law 842 = .ok (.if_icmp .eq 816, 3) := by decide +kernel
theorem dL_law_845 : decode cL_law 845 = .ok (.iconst 0, 1) := by decide +kernel
theorem dL_law_846 : decode cL_law 846 = .ok (.ireturn, 1) := by decide +kernel
theorem dL_law_847 : decode cL_law 847 = .ok (.aload_n 1, 1) := by decide +kernel
theorem dL_law_848 : decode cL_law 848 = .ok (.aload_n 0, 1) := by decide +kernel
theorem dL_law_849 : decode cL_law 849 = .ok (.iload 4, 2) := by decide +kernel
theorem dL_law_851 : decode cL_law 851 = .ok (.iconst 1, 1) := by decide +kernel
theorem dL_law_852 : decode cL_law 852 = .ok (.iadd, 1) := by decide +kernel
theorem dL_law_853 : decode cL_law 853 = .ok (.iaload, 1) := by decide +kernel
theorem dL_law_854 : decode cL_law 854 = .ok (.aload_n 0, 1) := by decide +kernel
theorem dL_law_855 : decode cL_law 855 = .ok (.iload 4, 2) := by decide +kernel
theorem dL_law_857 : decode cL_law 857 = .ok (.iconst 2, 1) := by decide +kernel
theorem dL_law_858 : decode cL_law 858 = .ok (.iadd, 1) := by decide +kernel
theorem dL_law_859 : decode cL_law 859 = .ok (.iaload, 1) := by decide +kernel
theorem dL_law_860 : decode cL_law 860 = .ok (.aload_n 0, 1) := by decide +kernel
theorem dL_law_861 : decode cL_law 861 = .ok (.iload 4, 2) := by decide +kernel
theorem dL_law_863 : decode cL_law 863 = .ok (.iconst 3, 1) := by decide +kernel
theorem dL_law_864 : decode cL_law 864 = .ok (.iadd, 1) := by decide +kernel
theorem dL_law_865 : decode cL_law 865 = .ok (.iaload, 1) := by decide +kernel
theorem dL_law_866 : decode cL_law 866 = .ok (.invokevirtual 94, 3) := by decide +kernel
theorem dL_law_869 : decode cL_law 869 = .ok (.aload_n 2, 1) := by decide +kernel
theorem dL_law_870 : decode cL_law 870 = .ok (.aload_n 0, 1) := by decide +kernel
theorem dL_law_871 : decode cL_law 871 = .ok (.iload 4, 2) := by decide +kernel
theorem dL_law_873 : decode cL_law 873 = .ok (.iconst 1, 1) := by decide +kernel
theorem dL_law_874 : decode cL_law 874 = .ok (.iadd, 1) := by decide +kernel
theorem dL_law_875 : decode cL_law 875 = .ok (.iaload, 1) := by decide +kernel
theorem dL_law_876 : decode cL_law 876 = .ok (.aload_n 0, 1) := by decide +kernel
theorem dL_law_877 : decode cL_law 877 = .ok (.iload 4, 2) := by decide +kernel
theorem dL_law_879 : decode cL_law 879 = .ok (.iconst 2, 1) := by decide +kernel
theorem dL_law_880 : decode cL_law 880 = .ok (.iadd, 1) := by decide +kernel
theorem dL_law_881 : decode cL_law 881 = .ok (.iaload, 1) := by decide +kernel
theorem dL_law_882 : decode cL_law 882 = .ok (.aload_n 0, 1) := by decide +kernel
theorem dL_law_883 : decode cL_law 883 = .ok (.iload 4, 2) := by decide +kernel
theorem dL_law_885 : decode cL_law 885 = .ok (.iconst 3, 1) := by decide +kernel
theorem dL_law_886 : decode cL_law 886 = .ok (.iadd, 1) := by decide +kernel
theorem dL_law_887 : decode cL_law 887 = .ok (.iaload, 1) := by decide +kernel
theorem dL_law_888 : decode cL_law 888 = .ok (.invokevirtual 98, 3) := by decide +kernel
theorem dL_law_891 : decode cL_law 891 = .ok (.lcmp, 1) := by decide +kernel
theorem dL_law_892 : decode cL_law 892 = .ok (.ifCond .eq 766, 3) := by decide +kernel
theorem dL_law_895 : decode cL_law 895 = .ok (.iconst 0, 1) := by decide +kernel
theorem dL_law_896 : decode cL_law 896 = .ok (.ireturn, 1) := by decide +kernel
theorem dL_law_897 : decode cL_law 897 = .ok (.aload_n 1, 1) := by decide +kernel
theorem dL_law_898 : decode cL_law 898 = .ok (.aload_n 0, 1) := by decide +kernel
theorem dL_law_899 : decode cL_law 899 = .ok (.iload 4, 2) := by decide +kernel
theorem dL_law_901 : decode cL_law 901 = .ok (.iconst 1, 1) := by decide +kernel
theorem dL_law_902 : decode cL_law 902 = .ok (.iadd, 1) := by decide +kernel
theorem dL_law_903 : decode cL_law 903 = .ok (.iaload, 1) := by decide +kernel
theorem dL_law_904 : decode cL_law 904 = .ok (.aload_n 0, 1) := by decide +kernel
theorem dL_law_905 : decode cL_law 905 = .ok (.iload 4, 2) := by decide +kernel
theorem dL_law_907 : decode cL_law 907 = .ok (.iconst 2, 1) := by decide +kernel
theorem dL_law_908 : decode cL_law 908 = .ok (.iadd, 1) := by decide +kernel
theorem dL_law_909 : decode cL_law 909 = .ok (.iaload, 1) := by decide +kernel
theorem dL_law_910 : decode cL_law 910 = .ok (.aload_n 0, 1) := by decide +kernel
theorem dL_law_911 : decode cL_law 911 = .ok (.iload 4, 2) := by decide +kernel
theorem dL_law_913 : decode cL_law 913 = .ok (.iconst 3, 1) := by decide +kernel
theorem dL_law_914 : decode cL_law 914 = .ok (.iadd, 1) := by decide +kernel
theorem dL_law_915 : decode cL_law 915 = .ok (.iaload, 1) := by decide +kernel
theorem dL_law_916 : decode cL_law 916 = .ok (.ifCond .eq 7, 3) := by decide +kernel
theorem dL_law_919 : decode cL_law 919 = .ok (.iconst 1, 1) := by decide +kernel
theorem dL_law_920 : decode cL_law 920 = .ok (.goto 4, 3) := by decide +kernel
theorem dL_law_923 : decode cL_law 923 = .ok (.iconst 0, 1) := by decide +kernel
theorem dL_law_924 : decode cL_law 924 = .ok (.invokevirtual 99, 3) := by decide +kernel
theorem dL_law_927 : decode cL_law 927 = .ok (.aload_n 2, 1) := by decide +kernel
theorem dL_law_928 : decode cL_law 928 = .ok (.aload_n 0, 1) := by decide +kernel
theorem dL_law_929 : decode cL_law 929 = .ok (.iload 4, 2) := by decide +kernel
theorem dL_law_931 : decode cL_law 931 = .ok (.iconst 1, 1) := by decide +kernel
theorem dL_law_932 : decode cL_law 932 = .ok (.iadd, 1) := by decide +kernel
theorem dL_law_933 : decode cL_law 933 = .ok (.iaload, 1) := by decide +kernel
theorem dL_law_934 : decode cL_law 934 = .ok (.aload_n 0, 1) := by decide +kernel
theorem dL_law_935 : decode cL_law 935 = .ok (.iload 4, 2) := by decide +kernel
theorem dL_law_937 : decode cL_law 937 = .ok (.iconst 2, 1) := by decide +kernel
theorem dL_law_938 : decode cL_law 938 = .ok (.iadd, 1) := by decide +kernel
theorem dL_law_939 : decode cL_law 939 = .ok (.iaload, 1) := by decide +kernel
theorem dL_law_940 : decode cL_law 940 = .ok (.aload_n 0, 1) := by decide +kernel
theorem dL_law_941 : decode cL_law 941 = .ok (.iload 4, 2) := by decide +kernel
theorem dL_law_943 : decode cL_law 943 = .ok (.iconst 3, 1) := by decide +kernel
theorem dL_law_944 : decode cL_law 944 = .ok (.iadd, 1) := by decide +kernel
theorem dL_law_945 : decode cL_law 945 = .ok (.iaload, 1) := by decide +kernel
theorem dL_law_946 : decode cL_law 946 = .ok (.ifCond .eq 7, 3) := by decide +kernel
theorem dL_law_949 : decode cL_law 949 = .ok (.iconst 1, 1) := by decide +kernel
theorem dL_law_950 : decode cL_law 950 = .ok (.goto 4, 3) := by decide +kernel
theorem dL_law_953 : decode cL_law 953 = .ok (.iconst 0, 1) := by decide +kernel
theorem dL_law_954 : decode cL_law 954 = .ok (.invokevirtual 103, 3) := by decide +kernel
theorem dL_law_957 : decode cL_law 957 = .ok (.if_icmp .eq 701, 3) := by decide +kernel
theorem dL_law_960 : decode cL_law 960 = .ok (.iconst 0, 1) := by decide +kernel
theorem dL_law_961 : decode cL_law 961 = .ok (.ireturn, 1) := by decide +kernel
theorem dL_law_962 : decode cL_law 962 = .ok (.aload_n 1, 1) := by decide +kernel
theorem dL_law_963 : decode cL_law 963 = .ok (.aload_n 0, 1) := by decide +kernel
theorem dL_law_964 : decode cL_law 964 = .ok (.iload 4, 2) := by decide +kernel
theorem dL_law_966 : decode cL_law 966 = .ok (.iconst 1, 1) := by decide +kernel
theorem dL_law_967 : decode cL_law 967 = .ok (.iadd, 1) := by decide +kernel
theorem dL_law_968 : decode cL_law 968 = .ok (.iaload, 1) := by decide +kernel
theorem dL_law_969 : decode cL_law 969 = .ok (.aload_n 0, 1) := by decide +kernel
theorem dL_law_970 : decode cL_law 970 = .ok (.iload 4, 2) := by decide +kernel
theorem dL_law_972 : decode cL_law 972 = .ok (.iconst 2, 1) := by decide +kernel
theorem dL_law_973 : decode cL_law 973 = .ok (.iadd, 1) := by decide +kernel
theorem dL_law_974 : decode cL_law 974 = .ok (.iaload, 1) := by decide +kernel
theorem dL_law_975 : decode cL_law 975 = .ok (.i2l, 1) := by decide +kernel
theorem dL_law_976 : decode cL_law 976 = .ok (.bipush 32, 2) := by decide +kernel
theorem dL_law_978 : decode cL_law 978 = .ok (.lshl, 1) := by decide +kernel
theorem dL_law_979 : decode cL_law 979 = .ok (.aload_n 0, 1) := by decide +kernel
theorem dL_law_980 : decode cL_law 980 = .ok (.iload 4, 2) := by decide +kernel
theorem dL_law_982 : decode cL_law 982 = .ok (.iconst 3, 1) := by decide +kernel
theorem dL_law_983 : decode cL_law 983 = .ok (.iadd, 1) := by decide +kernel
theorem dL_law_984 : decode cL_law 984 = .ok (.iaload, 1) := by decide +kernel
theorem dL_law_985 : decode cL_law 985 = .ok (.i2l, 1) := by decide +kernel
theorem dL_law_986 : decode cL_law 986 = .ok (.ldc2_w 104, 3) := by decide +kernel
theorem dL_law_989 : decode cL_law 989 = .ok (.land, 1) := by decide +kernel
theorem dL_law_990 : decode cL_law 990 = .ok (.lor, 1) := by decide +kernel
theorem dL_law_991 : decode cL_law 991 = .ok (.invokevirtual 106, 3) := by decide +kernel
theorem dL_law_994 : decode cL_law 994 = .ok (.aload_n 2, 1) := by decide +kernel
theorem dL_law_995 : decode cL_law 995 = .ok (.aload_n 0, 1) := by decide +kernel
theorem dL_law_996 : decode cL_law 996 = .ok (.iload 4, 2) := by decide +kernel
theorem dL_law_998 : decode cL_law 998 = .ok (.iconst 1, 1) := by decide +kernel
theorem dL_law_999 : decode cL_law 999 = .ok (.iadd, 1) := by decide +kernel
theorem dL_law_1000 : decode cL_law 1000 = .ok (.iaload, 1) := by decide +kernel
theorem dL_law_1001 : decode cL_law 1001 = .ok (.aload_n 0, 1) := by decide +kernel
theorem dL_law_1002 : decode cL_law 1002 = .ok (.iload 4, 2) := by decide +kernel
theorem dL_law_1004 : decode cL_law 1004 = .ok (.iconst 2, 1) := by decide +kernel
theorem dL_law_1005 : decode cL_law 1005 = .ok (.iadd, 1) := by decide +kernel
theorem dL_law_1006 : decode cL_law 1006 = .ok (.iaload, 1) := by decide +kernel
theorem dL_law_1007 : decode cL_law 1007 = .ok (.i2l, 1) := by decide +kernel
theorem dL_law_1008 : decode cL_law 1008 = .ok (.bipush 32, 2) := by decide +kernel
theorem dL_law_1010 : decode cL_law 1010 = .ok (.lshl, 1) := by decide +kernel
theorem dL_law_1011 : decode cL_law 1011 = .ok (.aload_n 0, 1) := by decide +kernel
theorem dL_law_1012 : decode cL_law 1012 = .ok (.iload 4, 2) := by decide +kernel
theorem dL_law_1014 : decode cL_law 1014 = .ok (.iconst 3, 1) := by decide +kernel
theorem dL_law_1015 : decode cL_law 1015 = .ok (.iadd, 1) := by decide +kernel
theorem dL_law_1016 : decode cL_law 1016 = .ok (.iaload, 1) := by decide +kernel
theorem dL_law_1017 : decode cL_law 1017 = .ok (.i2l, 1) := by decide +kernel
theorem dL_law_1018 : decode cL_law 1018 = .ok (.ldc2_w 104, 3) := by decide +kernel
theorem dL_law_1021 : decode cL_law 1021 = .ok (.land, 1) := by decide +kernel
theorem dL_law_1022 : decode cL_law 1022 = .ok (.lor, 1) := by decide +kernel
theorem dL_law_1023 : decode cL_law 1023 = .ok (.invokevirtual 110, 3) := by decide +kernel
theorem dL_law_1026 : decode cL_law 1026 = .ok (.if_icmp .eq 632, 3) := by decide +kernel
theorem dL_law_1029 : decode cL_law 1029 = .ok (.iconst 0, 1) := by decide +kernel
theorem dL_law_1030 : decode cL_law 1030 = .ok (.ireturn, 1) := by decide +kernel
theorem dL_law_1031 : decode cL_law 1031 = .ok (.aload_n 1, 1) := by decide +kernel
theorem dL_law_1032 : decode cL_law 1032 = .ok (.aload_n 0, 1) := by decide +kernel
theorem dL_law_1033 : decode cL_law 1033 = .ok (.iload 4, 2) := by decide +kernel
theorem dL_law_1035 : decode cL_law 1035 = .ok (.iconst 1, 1) := by decide +kernel
theorem dL_law_1036 : decode cL_law 1036 = .ok (.iadd, 1) := by decide +kernel
theorem dL_law_1037 : decode cL_law 1037 = .ok (.iaload, 1) := by decide +kernel
theorem dL_law_1038 : decode cL_law 1038 = .ok (.aload_n 0, 1) := by decide +kernel
theorem dL_law_1039 : decode cL_law 1039 = .ok (.iload 4, 2) := by decide +kernel
theorem dL_law_1041 : decode cL_law 1041 = .ok (.iconst 2, 1) := by decide +kernel
theorem dL_law_1042 : decode cL_law 1042 = .ok (.iadd, 1) := by decide +kernel
theorem dL_law_1043 : decode cL_law 1043 = .ok (.iaload, 1) := by decide +kernel
theorem dL_law_1044 : decode cL_law 1044 = .ok (.invokevirtual 111, 3) := by decide +kernel
theorem dL_law_1047 : decode cL_law 1047 = .ok (.aload_n 2, 1) := by decide +kernel
theorem dL_law_1048 : decode cL_law 1048 = .ok (.aload_n 0, 1) := by decide +kernel
theorem dL_law_1049 : decode cL_law 1049 = .ok (.iload 4, 2) := by decide +kernel
theorem dL_law_1051 : decode cL_law 1051 = .ok (.iconst 1, 1) := by decide +kernel
theorem dL_law_1052 : decode cL_law 1052 = .ok (.iadd, 1) := by decide +kernel
theorem dL_law_1053 : decode cL_law 1053 = .ok (.iaload, 1) := by decide +kernel
theorem dL_law_1054 : decode cL_law 1054 = .ok (.aload_n 0, 1) := by decide +kernel
theorem dL_law_1055 : decode cL_law 1055 = .ok (.iload 4, 2) := by decide +kernel
theorem dL_law_1057 : decode cL_law 1057 = .ok (.iconst 2, 1) := by decide +kernel
theorem dL_law_1058 : decode cL_law 1058 = .ok (.iadd, 1) := by decide +kernel
theorem dL_law_1059 : decode cL_law 1059 = .ok (.iaload, 1) := by decide +kernel
theorem dL_law_1060 : decode cL_law 1060 = .ok (.invokevirtual 115, 3) := by decide +kernel
theorem dL_law_1063 : decode cL_law 1063 = .ok (.lcmp, 1) := by decide +kernel
theorem dL_law_1064 : decode cL_law 1064 = .ok (.ifCond .eq 594, 3) := by decide +kernel
theorem dL_law_1067 : decode cL_law 1067 = .ok (.iconst 0, 1) := by decide +kernel
theorem dL_law_1068 : decode cL_law 1068 = .ok (.ireturn, 1) := by decide +kernel
theorem dL_law_1069 : decode cL_law 1069 = .ok (.aload_n 1, 1) := by decide +kernel
theorem dL_law_1070 : decode cL_law 1070 = .ok (.aload_n 0, 1) := by decide +kernel
theorem dL_law_1071 : decode cL_law 1071 = .ok (.iload 4, 2) := by decide +kernel
theorem dL_law_1073 : decode cL_law 1073 = .ok (.iconst 1, 1) := by decide +kernel
theorem dL_law_1074 : decode cL_law 1074 = .ok (.iadd, 1) := by decide +kernel
theorem dL_law_1075 : decode cL_law 1075 = .ok (.iaload, 1) := by decide +kernel
theorem dL_law_1076 : decode cL_law 1076 = .ok (.aload_n 0, 1) := by decide +kernel
theorem dL_law_1077 : decode cL_law 1077 = .ok (.iload 4, 2) := by decide +kernel
theorem dL_law_1079 : decode cL_law 1079 = .ok (.iconst 2, 1) := by decide +kernel
theorem dL_law_1080 : decode cL_law 1080 = .ok (.iadd, 1) := by decide +kernel
theorem dL_law_1081 : decode cL_law 1081 = .ok (.iaload, 1) := by decide +kernel
theorem dL_law_1082 : decode cL_law 1082 = .ok (.invokevirtual 116, 3) := by decide +kernel
theorem dL_law_1085 : decode cL_law 1085 = .ok (.aload_n 2, 1) := by decide +kernel
theorem dL_law_1086 : decode cL_law 1086 = .ok (.aload_n 0, 1) := by decide +kernel
theorem dL_law_1087 : decode cL_law 1087 = .ok (.iload 4, 2) := by decide +kernel
theorem dL_law_1089 : decode cL_law 1089 = .ok (.iconst 1, 1) := by decide +kernel
theorem dL_law_1090 : decode cL_law 1090 = .ok (.iadd, 1) := by decide +kernel
theorem dL_law_1091 : decode cL_law 1091 = .ok (.iaload, 1) := by decide +kernel
theorem dL_law_1092 : decode cL_law 1092 = .ok (.aload_n 0, 1) := by decide +kernel
theorem dL_law_1093 : decode cL_law 1093 = .ok (.iload 4, 2) := by decide +kernel
theorem dL_law_1095 : decode cL_law 1095 = .ok (.iconst 2, 1) := by decide +kernel
theorem dL_law_1096 : decode cL_law 1096 = .ok (.iadd, 1) := by decide +kernel
theorem dL_law_1097 : decode cL_law 1097 = .ok (.iaload, 1) := by decide +kernel
theorem dL_law_1098 : decode cL_law 1098 = .ok (.invokevirtual 119, 3) := by decide +kernel
theorem dL_law_1101 : decode cL_law 1101 = .ok (.lcmp, 1) := by decide +kernel
theorem dL_law_1102 : decode cL_law 1102 = .ok (.ifCond .eq 556, 3) := by decide +kernel
theorem dL_law_1105 : decode cL_law 1105 = .ok (.iconst 0, 1) := by decide +kernel
theorem dL_law_1106 : decode cL_law 1106 = .ok (.ireturn, 1) := by decide +kernel
theorem dL_law_1107 : decode cL_law 1107 = .ok (.aload_n 1, 1) := by decide +kernel
theorem dL_law_1108 : decode cL_law 1108 = .ok (.aload_n 0, 1) := by decide +kernel
theorem dL_law_1109 : decode cL_law 1109 = .ok (.iload 4, 2) := by decide +kernel
theorem dL_law_1111 : decode cL_law 1111 = .ok (.iconst 1, 1) := by decide +kernel
theorem dL_law_1112 : decode cL_law 1112 = .ok (.iadd, 1) := by decide +kernel
theorem dL_law_1113 : decode cL_law 1113 = .ok (.iaload, 1) := by decide +kernel
theorem dL_law_1114 : decode cL_law 1114 = .ok (.aload_n 0, 1) := by decide +kernel
theorem dL_law_1115 : decode cL_law 1115 = .ok (.iload 4, 2) := by decide +kernel
theorem dL_law_1117 : decode cL_law 1117 = .ok (.iconst 2, 1) := by decide +kernel
theorem dL_law_1118 : decode cL_law 1118 = .ok (.iadd, 1) := by decide +kernel
theorem dL_law_1119 : decode cL_law 1119 = .ok (.iaload, 1) := by decide +kernel
theorem dL_law_1120 : decode cL_law 1120 = .ok (.invokevirtual 120, 3) := by decide +kernel
theorem dL_law_1123 : decode cL_law 1123 = .ok (.aload_n 2, 1) := by decide +kernel
theorem dL_law_1124 : decode cL_law 1124 = .ok (.aload_n 0, 1) := by decide +kernel
theorem dL_law_1125 : decode cL_law 1125 = .ok (.iload 4, 2) := by decide +kernel
theorem dL_law_1127 : decode cL_law 1127 = .ok (.iconst 1, 1) := by decide +kernel
theorem dL_law_1128 : decode cL_law 1128 = .ok (.iadd, 1) := by decide +kernel
theorem dL_law_1129 : decode cL_law 1129 = .ok (.iaload, 1) := by decide +kernel
theorem dL_law_1130 : decode cL_law 1130 = .ok (.aload_n 0, 1) := by decide +kernel
theorem dL_law_1131 : decode cL_law 1131 = .ok (.iload 4, 2) := by decide +kernel
theorem dL_law_1133 : decode cL_law 1133 = .ok (.iconst 2, 1) := by decide +kernel
theorem dL_law_1134 : decode cL_law 1134 = .ok (.iadd, 1) := by decide +kernel
theorem dL_law_1135 : decode cL_law 1135 = .ok (.iaload, 1) := by decide +kernel
theorem dL_law_1136 : decode cL_law 1136 = .ok (.invokevirtual 123, 3) := by decide +kernel
theorem dL_law_1139 : decode cL_law 1139 = .ok (.lcmp, 1) := by decide +kernel
theorem dL_law_1140 : decode cL_law 1140 = .ok (.ifCond .eq 518, 3) := by decide +kernel
theorem dL_law_1143 : decode cL_law 1143 = .ok (.iconst 0, 1) := by decide +kernel
theorem dL_law_1144 : decode cL_law 1144 = .ok (.ireturn, 1) := by decide +kernel
theorem dL_law_1145 : decode cL_law 1145 = .ok (.aload_n 1, 1) := by decide +kernel
theorem dL_law_1146 : decode cL_law 1146 = .ok (.aload_n 0, 1) := by decide +kernel
theorem dL_law_1147 : decode cL_law 1147 = .ok (.iload 4, 2) := by decide +kernel
theorem dL_law_1149 : decode cL_law 1149 = .ok (.iconst 1, 1) := by decide +kernel
theorem dL_law_1150 : decode cL_law 1150 = .ok (.iadd, 1) := by decide +kernel
theorem dL_law_1151 : decode cL_law 1151 = .ok (.iaload, 1) := by decide +kernel
theorem dL_law_1152 : decode cL_law 1152 = .ok (.invokevirtual 124, 3) := by decide +kernel
theorem dL_law_1155 : decode cL_law 1155 = .ok (.aload_n 2, 1) := by decide +kernel
theorem dL_law_1156 : decode cL_law 1156 = .ok (.aload_n 0, 1) := by decide +kernel
theorem dL_law_1157 : decode cL_law 1157 = .ok (.iload 4, 2) := by decide +kernel
theorem dL_law_1159 : decode cL_law 1159 = .ok (.iconst 1, 1) := by decide +kernel
theorem dL_law_1160 : decode cL_law 1160 = .ok (.iadd, 1) := by decide +kernel
theorem dL_law_1161 : decode cL_law 1161 = .ok (.iaload, 1) := by decide +kernel
theorem dL_law_1162 : decode cL_law 1162 = .ok (.invokevirtual 127, 3) := by decide +kernel
theorem dL_law_1165 : decode cL_law 1165 = .ok (.lcmp, 1) := by decide +kernel
theorem dL_law_1166 : decode cL_law 1166 = .ok (.ifCond .eq 492, 3) := by decide +kernel
theorem dL_law_1169 : decode cL_law 1169 = .ok (.iconst 0, 1) := by decide +kernel
theorem dL_law_1170 : decode cL_law 1170 = .ok (.ireturn, 1) := by decide +kernel
theorem dL_law_1171 : decode cL_law 1171 = .ok (.aload_n 1, 1) := by decide +kernel
theorem dL_law_1172 : decode cL_law 1172 = .ok (.aload_n 0, 1) := by decide +kernel
theorem dL_law_1173 : decode cL_law 1173 = .ok (.iload 4, 2) := by decide +kernel
theorem dL_law_1175 : decode cL_law 1175 = .ok (.iconst 1, 1) := by decide +kernel
theorem dL_law_1176 : decode cL_law 1176 = .ok (.iadd, 1) := by decide +kernel
theorem dL_law_1177 : decode cL_law 1177 = .ok (.iaload, 1) := by decide +kernel
theorem dL_law_1178 : decode cL_law 1178 = .ok (.invokevirtual 128, 3) := by decide +kernel
theorem dL_law_1181 : decode cL_law 1181 = .ok (.aload_n 2, 1) := by decide +kernel
theorem dL_law_1182 : decode cL_law 1182 = .ok (.aload_n 0, 1) := by decide +kernel
theorem dL_law_1183 : decode cL_law 1183 = .ok (.iload 4, 2) := by decide +kernel
theorem dL_law_1185 : decode cL_law 1185 = .ok (.iconst 1, 1) := by decide +kernel
theorem dL_law_1186 : decode cL_law 1186 = .ok (.iadd, 1) := by decide +kernel
theorem dL_law_1187 : decode cL_law 1187 = .ok (.iaload, 1) := by decide +kernel
theorem dL_law_1188 : decode cL_law 1188 = .ok (.invokevirtual 131, 3) := by decide +kernel
theorem dL_law_1191 : decode cL_law 1191 = .ok (.lcmp, 1) := by decide +kernel
theorem dL_law_1192 : decode cL_law 1192 = .ok (.ifCond .eq 466, 3) := by decide +kernel
theorem dL_law_1195 : decode cL_law 1195 = .ok (.iconst 0, 1) := by decide +kernel
theorem dL_law_1196 : decode cL_law 1196 = .ok (.ireturn, 1) := by decide +kernel
theorem dL_law_1197 : decode cL_law 1197 = .ok (.aload_n 1, 1) := by decide +kernel
theorem dL_law_1198 : decode cL_law 1198 = .ok (.aload_n 0, 1) := by decide +kernel
theorem dL_law_1199 : decode cL_law 1199 = .ok (.iload 4, 2) := by decide +kernel
theorem dL_law_1201 : decode cL_law 1201 = .ok (.iconst 1, 1) := by decide +kernel
theorem dL_law_1202 : decode cL_law 1202 = .ok (.iadd, 1) := by decide +kernel
theorem dL_law_1203 : decode cL_law 1203 = .ok (.iaload, 1) := by decide +kernel
theorem dL_law_1204 : decode cL_law 1204 = .ok (.invokevirtual 132, 3) := by decide +kernel
theorem dL_law_1207 : decode cL_law 1207 = .ok (.aload_n 2, 1) := by decide +kernel
theorem dL_law_1208 : decode cL_law 1208 = .ok (.aload_n 0, 1) := by decide +kernel
theorem dL_law_1209 : decode cL_law 1209 = .ok (.iload 4, 2) := by decide +kernel
theorem dL_law_1211 : decode cL_law 1211 = .ok (.iconst 1, 1) := by decide +kernel
theorem dL_law_1212 : decode cL_law 1212 = .ok (.iadd, 1) := by decide +kernel
theorem dL_law_1213 : decode cL_law 1213 = .ok (.iaload, 1) := by decide +kernel
theorem dL_law_1214 : decode cL_law 1214 = .ok (.invokevirtual 136, 3) := by decide +kernel
theorem dL_law_1217 : decode cL_law 1217 = .ok (.if_icmp .eq 441, 3) := by decide +kernel
theorem dL_law_1220 : decode cL_law 1220 = .ok (.iconst 0, 1) := by decide +kernel
theorem dL_law_1221 : decode cL_law 1221 = .ok (.ireturn, 1) := by decide +kernel
theorem dL_law_1222 : decode cL_law 1222 = .ok (.aload_n 1, 1) := by decide +kernel
theorem dL_law_1223 : decode cL_law 1223 = .ok (.aload_n 0, 1) := by decide +kernel
theorem dL_law_1224 : decode cL_law 1224 = .ok (.iload 4, 2) := by decide +kernel
theorem dL_law_1226 : decode cL_law 1226 = .ok (.iconst 1, 1) := by decide +kernel
theorem dL_law_1227 : decode cL_law 1227 = .ok (.iadd, 1) := by decide +kernel
theorem dL_law_1228 : decode cL_law 1228 = .ok (.iaload, 1) := by decide +kernel
theorem dL_law_1229 : decode cL_law 1229 = .ok (.aload_n 0, 1) := by decide +kernel
theorem dL_law_1230 : decode cL_law 1230 = .ok (.iload 4, 2) := by decide +kernel
theorem dL_law_1232 : decode cL_law 1232 = .ok (.iconst 2, 1) := by decide +kernel
theorem dL_law_1233 : decode cL_law 1233 = .ok (.iadd, 1) := by decide +kernel
theorem dL_law_1234 : decode cL_law 1234 = .ok (.iaload, 1) := by decide +kernel
theorem dL_law_1235 : decode cL_law 1235 = .ok (.ifCond .eq 7, 3) := by decide +kernel
theorem dL_law_1238 : decode cL_law 1238 = .ok (.iconst 1, 1) := by decide +kernel
theorem dL_law_1239 : decode cL_law 1239 = .ok (.goto 4, 3) := by decide +kernel
theorem dL_law_1242 : decode cL_law 1242 = .ok (.iconst 0, 1) := by decide +kernel
theorem dL_law_1243 : decode cL_law 1243 = .ok (.aload_n 0, 1) := by decide +kernel
theorem dL_law_1244 : decode cL_law 1244 = .ok (.iload 4, 2) := by decide +kernel
theorem dL_law_1246 : decode cL_law 1246 = .ok (.iconst 3, 1) := by decide +kernel
theorem dL_law_1247 : decode cL_law 1247 = .ok (.iadd, 1) := by decide +kernel
theorem dL_law_1248 : decode cL_law 1248 = .ok (.iaload, 1) := by decide +kernel
theorem dL_law_1249 : decode cL_law 1249 = .ok (.aload_n 0, 1) := by decide +kernel
theorem dL_law_1250 : decode cL_law 1250 = .ok (.iload 4, 2) := by decide +kernel
theorem dL_law_1252 : decode cL_law 1252 = .ok (.iconst 4, 1) := by decide +kernel
theorem dL_law_1253 : decode cL_law 1253 = .ok (.iadd, 1) := by decide +kernel
theorem dL_law_1254 : decode cL_law 1254 = .ok (.iaload, 1) := by decide +kernel
theorem dL_law_1255 : decode cL_law 1255 = .ok (.invokevirtual 137, 3) := by decide +kernel
theorem dL_law_1258 : decode cL_law 1258 = .ok (.aload_n 2, 1) := by decide +kernel
theorem dL_law_1259 : decode cL_law 1259 = .ok (.aload_n 0, 1) := by decide +kernel
theorem dL_law_1260 : decode cL_law 1260 = .ok (.iload 4, 2) := by decide +kernel
theorem dL_law_1262 : decode cL_law 1262 = .ok (.iconst 1, 1) := by decide +kernel
theorem dL_law_1263 : decode cL_law 1263 = .ok (.iadd, 1) := by decide +kernel
theorem dL_law_1264 : decode cL_law 1264 = .ok (.iaload, 1) := by decide +kernel
theorem dL_law_1265 : decode cL_law 1265 = .ok (.aload_n 0, 1) := by decide +kernel
theorem dL_law_1266 : decode cL_law 1266 = .ok (.iload 4, 2) := by decide +kernel
theorem dL_law_1268 : decode cL_law 1268 = .ok (.iconst 2, 1) := by decide +kernel
theorem dL_law_1269 : decode cL_law 1269 = .ok (.iadd, 1) := by decide +kernel
theorem dL_law_1270 : decode cL_law 1270 = .ok (.iaload, 1) := by decide +kernel
theorem dL_law_1271 : decode cL_law 1271 = .ok (.ifCond .eq 7, 3) := by decide +kernel
theorem dL_law_1274 : decode cL_law 1274 = .ok (.iconst 1, 1) := by decide +kernel
theorem dL_law_1275 : decode cL_law 1275 = .ok (.goto 4, 3) := by decide +kernel
theorem dL_law_1278 : decode cL_law 1278 = .ok (.iconst 0, 1) := by decide +kernel
theorem dL_law_1279 : decode cL_law 1279 = .ok (.aload_n 0, 1) := by decide +kernel
theorem dL_law_1280 : decode cL_law 1280 = .ok (.iload 4, 2) := by decide +kernel
theorem dL_law_1282 : decode cL_law 1282 = .ok (.iconst 3, 1) := by decide +kernel
theorem dL_law_1283 : decode cL_law 1283 = .ok (.iadd, 1) := by decide +kernel
theorem dL_law_1284 : decode cL_law 1284 = .ok (.iaload, 1) := by decide +kernel
theorem dL_law_1285 : decode cL_law 1285 = .ok (.aload_n 0, 1) := by decide +kernel
theorem dL_law_1286 : decode cL_law 1286 = .ok (.iload 4, 2) := by decide +kernel
theorem dL_law_1288 : decode cL_law 1288 = .ok (.iconst 4, 1) := by decide +kernel
theorem dL_law_1289 : decode cL_law 1289 = .ok (.iadd, 1) := by decide +kernel
theorem dL_law_1290 : decode cL_law 1290 = .ok (.iaload, 1) := by decide +kernel
theorem dL_law_1291 : decode cL_law 1291 = .ok (.invokevirtual 141, 3) := by decide +kernel
theorem dL_law_1294 : decode cL_law 1294 = .ok (.if_icmp .eq 364, 3) := by decide +kernel
theorem dL_law_1297 : decode cL_law 1297 = .ok (.iconst 0, 1) := by decide +kernel
theorem dL_law_1298 : decode cL_law 1298 = .ok (.ireturn, 1) := by decide +kernel
theorem dL_law_1299 : decode cL_law 1299 = .ok (.aload_n 1, 1) := by decide +kernel
theorem dL_law_1300 : decode cL_law 1300 = .ok (.aload_n 0, 1) := by decide +kernel
theorem dL_law_1301 : decode cL_law 1301 = .ok (.iload 4, 2) := by decide +kernel
theorem dL_law_1303 : decode cL_law 1303 = .ok (.iconst 1, 1) := by decide +kernel
theorem dL_law_1304 : decode cL_law 1304 = .ok (.iadd, 1) := by decide +kernel
theorem dL_law_1305 : decode cL_law 1305 = .ok (.iaload, 1) := by decide +kernel
theorem dL_law_1306 : decode cL_law 1306 = .ok (.aload_n 0, 1) := by decide +kernel
theorem dL_law_1307 : decode cL_law 1307 = .ok (.iload 4, 2) := by decide +kernel
theorem dL_law_1309 : decode cL_law 1309 = .ok (.iconst 2, 1) := by decide +kernel
theorem dL_law_1310 : decode cL_law 1310 = .ok (.iadd, 1) := by decide +kernel
theorem dL_law_1311 : decode cL_law 1311 = .ok (.iaload, 1) := by decide +kernel
theorem dL_law_1312 : decode cL_law 1312 = .ok (.invokevirtual 142, 3) := by decide +kernel
theorem dL_law_1315 : decode cL_law 1315 = .ok (.aload_n 2, 1) := by decide +kernel
theorem dL_law_1316 : decode cL_law 1316 = .ok (.aload_n 0, 1) := by decide +kernel
theorem dL_law_1317 : decode cL_law 1317 = .ok (.iload 4, 2) := by decide +kernel
theorem dL_law_1319 : decode cL_law 1319 = .ok (.iconst 1, 1) := by decide +kernel
theorem dL_law_1320 : decode cL_law 1320 = .ok (.iadd, 1) := by decide +kernel
theorem dL_law_1321 : decode cL_law 1321 = .ok (.iaload, 1) := by decide +kernel
theorem dL_law_1322 : decode cL_law 1322 = .ok (.aload_n 0, 1) := by decide +kernel
theorem dL_law_1323 : decode cL_law 1323 = .ok (.iload 4, 2) := by decide +kernel
theorem dL_law_1325 : decode cL_law 1325 = .ok (.iconst 2, 1) := by decide +kernel
theorem dL_law_1326 : decode cL_law 1326 = .ok (.iadd, 1) := by decide +kernel
theorem dL_law_1327 : decode cL_law 1327 = .ok (.iaload, 1) := by decide +kernel
theorem dL_law_1328 : decode cL_law 1328 = .ok (.invokevirtual 145, 3) := by decide +kernel
theorem dL_law_1331 : decode cL_law 1331 = .ok (.if_icmp .eq 327, 3) := by decide +kernel
theorem dL_law_1334 : decode cL_law 1334 = .ok (.iconst 0, 1) := by decide +kernel
theorem dL_law_1335 : decode cL_law 1335 = .ok (.ireturn, 1) := by decide +kernel
theorem dL_law_1336 : decode cL_law 1336 = .ok (.aload_n 1, 1) := by decide +kernel
theorem dL_law_1337 : decode cL_law 1337 = .ok (.invokevirtual 146, 3) := by decide +kernel
theorem dL_law_1340 : decode cL_law 1340 = .ok (.aload_n 2, 1) := by decide +kernel
theorem dL_law_1341 : decode cL_law 1341 = .ok (.invokevirtual 150, 3) := by decide +kernel
theorem dL_law_1344 : decode cL_law 1344 = .ok (.lcmp, 1) := by decide +kernel
theorem dL_law_1345 : decode cL_law 1345 = .ok (.ifCond .eq 313, 3) := by decide +kernel
theorem dL_law_1348 : decode cL_law 1348 = .ok (.iconst 0, 1) := by decide +kernel
theorem dL_law_1349 : decode cL_law 1349 = .ok (.ireturn, 1) := by decide +kernel
theorem dL_law_1350 : decode cL_law 1350 = .ok (.aload_n 1, 1) := by decide +kernel
theorem dL_law_1351 : decode cL_law 1351 = .ok (.aload_n 0, 1) := by decide +kernel
theorem dL_law_1352 : decode cL_law 1352 = .ok (.iload 4, 2) := by decide +kernel
theorem dL_law_1354 : decode cL_law 1354 = .ok (.iconst 1, 1) := by decide +kernel
theorem dL_law_1355 : decode cL_law 1355 = .ok (.iadd, 1) := by decide +kernel
theorem dL_law_1356 : decode cL_law 1356 = .ok (.iaload, 1) := by decide +kernel
theorem dL_law_1357 : decode cL_law 1357 = .ok (.aload_n 0, 1) := by decide +kernel
theorem dL_law_1358 : decode cL_law 1358 = .ok (.iload 4, 2) := by decide +kernel
theorem dL_law_1360 : decode cL_law 1360 = .ok (.iconst 2, 1) := by decide +kernel
theorem dL_law_1361 : decode cL_law 1361 = .ok (.iadd, 1) := by decide +kernel
theorem dL_law_1362 : decode cL_law 1362 = .ok (.iaload, 1) := by decide +kernel
theorem dL_law_1363 : decode cL_law 1363 = .ok (.aload_n 0, 1) := by decide +kernel
theorem dL_law_1364 : decode cL_law 1364 = .ok (.iload 4, 2) := by decide +kernel
theorem dL_law_1366 : decode cL_law 1366 = .ok (.iconst 3, 1) := by decide +kernel
theorem dL_law_1367 : decode cL_law 1367 = .ok (.iadd, 1) := by decide +kernel
theorem dL_law_1368 : decode cL_law 1368 = .ok (.iaload, 1) := by decide +kernel
theorem dL_law_1369 : decode cL_law 1369 = .ok (.invokevirtual 151, 3) := by decide +kernel
theorem dL_law_1372 : decode cL_law 1372 = .ok (.aload_n 2, 1) := by decide +kernel
theorem dL_law_1373 : decode cL_law 1373 = .ok (.aload_n 0, 1) := by decide +kernel
theorem dL_law_1374 : decode cL_law 1374 = .ok (.iload 4, 2) := by decide +kernel
theorem dL_law_1376 : decode cL_law 1376 = .ok (.iconst 1, 1) := by decide +kernel
theorem dL_law_1377 : decode cL_law 1377 = .ok (.iadd, 1) := by decide +kernel
theorem dL_law_1378 : decode cL_law 1378 = .ok (.iaload, 1) := by decide +kernel
theorem dL_law_1379 : decode cL_law 1379 = .ok (.aload_n 0, 1) := by decide +kernel
theorem dL_law_1380 : decode cL_law 1380 = .ok (.iload 4, 2) := by decide +kernel
theorem dL_law_1382 : decode cL_law 1382 = .ok (.iconst 2, 1) := by decide +kernel
theorem dL_law_1383 : decode cL_law 1383 = .ok (.iadd, 1) := by decide +kernel
theorem dL_law_1384 : decode cL_law 1384 = .ok (.iaload, 1) := by decide +kernel
theorem dL_law_1385 : decode cL_law 1385 = .ok (.aload_n 0, 1) := by decide +kernel
theorem dL_law_1386 : decode cL_law 1386 = .ok (.iload 4, 2) := by decide +kernel
theorem dL_law_1388 : decode cL_law 1388 = .ok (.iconst 3, 1) := by decide +kernel
theorem dL_law_1389 : decode cL_law 1389 = .ok (.iadd, 1) := by decide +kernel
theorem dL_law_1390 : decode cL_law 1390 = .ok (.iaload, 1) := by decide +kernel
theorem dL_law_1391 : decode cL_law 1391 = .ok (.invokevirtual 154, 3) := by decide +kernel
theorem dL_law_1394 : decode cL_law 1394 = .ok (.lcmp, 1) := by decide +kernel
theorem dL_law_1395 : decode cL_law 1395 = .ok (.ifCond .eq 263, 3) := by decide +kernel
theorem dL_law_1398 : decode cL_law 1398 = .ok (.iconst 0, 1) := by decide +kernel
theorem dL_law_1399 : decode cL_law 1399 = .ok (.ireturn, 1) := by decide +kernel
theorem dL_law_1400 : decode cL_law 1400 = .ok (.aload_n 1, 1) := by decide +kernel
theorem dL_law_1401 : decode cL_law 1401 = .ok (.aload_n 0, 1) := by decide +kernel
theorem dL_law_1402 : decode cL_law 1402 = .ok (.iload 4, 2) := by decide +kernel
theorem dL_law_1404 : decode cL_law 1404 = .ok (.iconst 1, 1) := by decide +kernel
theorem dL_law_1405 : decode cL_law 1405 = .ok (.iadd, 1) := by decide +kernel
theorem dL_law_1406 : decode cL_law 1406 = .ok (.iaload, 1) := by decide +kernel
theorem dL_law_1407 : decode cL_law 1407 = .ok (.aload_n 0, 1) := by decide +kernel
theorem dL_law_1408 : decode cL_law 1408 = .ok (.iload 4, 2) := by decide +kernel
theorem dL_law_1410 : decode cL_law 1410 = .ok (.iconst 2, 1) := by decide +kernel
theorem dL_law_1411 : decode cL_law 1411 = .ok (.iadd, 1) := by decide +kernel
theorem dL_law_1412 : decode cL_law 1412 = .ok (.iaload, 1) := by decide +kernel
theorem dL_law_1413 : decode cL_law 1413 = .ok (.i2l, 1) := by decide +kernel
theorem dL_law_1414 : decode cL_law 1414 = .ok (.bipush 32, 2) := by decide +kernel
theorem dL_law_1416 : decode cL_law 1416 = .ok (.lshl, 1) := by decide +kernel
theorem dL_law_1417 : decode cL_law 1417 = .ok (.aload_n 0, 1) := by decide +kernel
theorem dL_law_1418 : decode cL_law 1418 = .ok (.iload 4, 2) := by decide +kernel
theorem dL_law_1420 : decode cL_law 1420 = .ok (.iconst 3, 1) := by decide +kernel
theorem dL_law_1421 : decode cL_law 1421 = .ok (.iadd, 1) := by decide +kernel
theorem dL_law_1422 : decode cL_law 1422 = .ok (.iaload, 1) := by decide +kernel
theorem dL_law_1423 : decode cL_law 1423 = .ok (.i2l, 1) := by decide +kernel
theorem dL_law_1424 : decode cL_law 1424 = .ok (.ldc2_w 104, 3) := by decide +kernel
theorem dL_law_1427 : decode cL_law 1427 = .ok (.land, 1) := by decide +kernel
theorem dL_law_1428 : decode cL_law 1428 = .ok (.lor, 1) := by decide +kernel
theorem dL_law_1429 : decode cL_law 1429 = .ok (.invokevirtual 155, 3) := by decide +kernel
theorem dL_law_1432 : decode cL_law 1432 = .ok (.aload_n 2, 1) := by decide +kernel
theorem dL_law_1433 : decode cL_law 1433 = .ok (.aload_n 0, 1) := by decide +kernel
theorem dL_law_1434 : decode cL_law 1434 = .ok (.iload 4, 2) := by decide +kernel
theorem dL_law_1436 : decode cL_law 1436 = .ok (.iconst 1, 1) := by decide +kernel
theorem dL_law_1437 : decode cL_law 1437 = .ok (.iadd, 1) := by decide +kernel
theorem dL_law_1438 : decode cL_law 1438 = .ok (.iaload, 1) := by decide +kernel
theorem dL_law_1439 : decode cL_law 1439 = .ok (.aload_n 0, 1) := by decide +kernel
theorem dL_law_1440 : decode cL_law 1440 = .ok (.iload 4, 2) := by decide +kernel
theorem dL_law_1442 : decode cL_law 1442 = .ok (.iconst 2, 1) := by decide +kernel
theorem dL_law_1443 : decode cL_law 1443 = .ok (.iadd, 1) := by decide +kernel
theorem dL_law_1444 : decode cL_law 1444 = .ok (.iaload, 1) := by decide +kernel
theorem dL_law_1445 : decode cL_law 1445 = .ok (.i2l, 1) := by decide +kernel
theorem dL_law_1446 : decode cL_law 1446 = .ok (.bipush 32, 2) := by decide +kernel
theorem dL_law_1448 : decode cL_law 1448 = .ok (.lshl, 1) := by decide +kernel
theorem dL_law_1449 : decode cL_law 1449 = .ok (.aload_n 0, 1) := by decide +kernel
theorem dL_law_1450 : decode cL_law 1450 = .ok (.iload 4, 2) := by decide +kernel
theorem dL_law_1452 : decode cL_law 1452 = .ok (.iconst 3, 1) := by decide +kernel
theorem dL_law_1453 : decode cL_law 1453 = .ok (.iadd, 1) := by decide +kernel
theorem dL_law_1454 : decode cL_law 1454 = .ok (.iaload, 1) := by decide +kernel
theorem dL_law_1455 : decode cL_law 1455 = .ok (.i2l, 1) := by decide +kernel
theorem dL_law_1456 : decode cL_law 1456 = .ok (.ldc2_w 104, 3) := by decide +kernel
theorem dL_law_1459 : decode cL_law 1459 = .ok (.land, 1) := by decide +kernel
theorem dL_law_1460 : decode cL_law 1460 = .ok (.lor, 1) := by decide +kernel
theorem dL_law_1461 : decode cL_law 1461 = .ok (.invokevirtual 158, 3) := by decide +kernel
theorem dL_law_1464 : decode cL_law 1464 = .ok (.if_icmp .eq 194, 3) := by decide +kernel
theorem dL_law_1467 : decode cL_law 1467 = .ok (.iconst 0, 1) := by decide +kernel
theorem dL_law_1468 : decode cL_law 1468 = .ok (.ireturn, 1) := by decide +kernel
theorem dL_law_1469 : decode cL_law 1469 = .ok (.aload_n 1, 1) := by decide +kernel
theorem dL_law_1470 : decode cL_law 1470 = .ok (.aload_n 0, 1) := by decide +kernel
theorem dL_law_1471 : decode cL_law 1471 = .ok (.iload 4, 2) := by decide +kernel
theorem dL_law_1473 : decode cL_law 1473 = .ok (.iconst 1, 1) := by decide +kernel
theorem dL_law_1474 : decode cL_law 1474 = .ok (.iadd, 1) := by decide +kernel
theorem dL_law_1475 : decode cL_law 1475 = .ok (.iaload, 1) := by decide +kernel
theorem dL_law_1476 : decode cL_law 1476 = .ok (.aload_n 0, 1) := by decide +kernel
theorem dL_law_1477 : decode cL_law 1477 = .ok (.iload 4, 2) := by decide +kernel
theorem dL_law_1479 : decode cL_law 1479 = .ok (.iconst 2, 1) := by decide +kernel
theorem dL_law_1480 : decode cL_law 1480 = .ok (.iadd, 1) := by decide +kernel
theorem dL_law_1481 : decode cL_law 1481 = .ok (.iaload, 1) := by decide +kernel
theorem dL_law_1482 : decode cL_law 1482 = .ok (.invokevirtual 159, 3) := by decide +kernel
theorem dL_law_1485 : decode cL_law 1485 = .ok (.aload_n 2, 1) := by decide +kernel
theorem dL_law_1486 : decode cL_law 1486 = .ok (.aload_n 0, 1) := by decide +kernel
theorem dL_law_1487 : decode cL_law 1487 = .ok (.iload 4, 2) := by decide +kernel
theorem dL_law_1489 : decode cL_law 1489 = .ok (.iconst 1, 1) := by decide +kernel
theorem dL_law_1490 : decode cL_law 1490 = .ok (.iadd, 1) := by decide +kernel
theorem dL_law_1491 : decode cL_law 1491 = .ok (.iaload, 1) := by decide +kernel
theorem dL_law_1492 : decode cL_law 1492 = .ok (.aload_n 0, 1) := by decide +kernel
theorem dL_law_1493 : decode cL_law 1493 = .ok (.iload 4, 2) := by decide +kernel
theorem dL_law_1495 : decode cL_law 1495 = .ok (.iconst 2, 1) := by decide +kernel
theorem dL_law_1496 : decode cL_law 1496 = .ok (.iadd, 1) := by decide +kernel
theorem dL_law_1497 : decode cL_law 1497 = .ok (.iaload, 1) := by decide +kernel
theorem dL_law_1498 : decode cL_law 1498 = .ok (.invokevirtual 162, 3) := by decide +kernel
theorem dL_law_1501 : decode cL_law 1501 = .ok (.lcmp, 1) := by decide +kernel
theorem dL_law_1502 : decode cL_law 1502 = .ok (.ifCond .eq 156, 3) := by decide +kernel
theorem dL_law_1505 : decode cL_law 1505 = .ok (.iconst 0, 1) := by decide +kernel
theorem dL_law_1506 : decode cL_law 1506 = .ok (.ireturn, 1) := by decide +kernel
theorem dL_law_1507 : decode cL_law 1507 = .ok (.aload_n 1, 1) := by decide +kernel
theorem dL_law_1508 : decode cL_law 1508 = .ok (.aload_n 0, 1) := by decide +kernel
theorem dL_law_1509 : decode cL_law 1509 = .ok (.iload 4, 2) := by decide +kernel
theorem dL_law_1511 : decode cL_law 1511 = .ok (.iconst 1, 1) := by decide +kernel
theorem dL_law_1512 : decode cL_law 1512 = .ok (.iadd, 1) := by decide +kernel
theorem dL_law_1513 : decode cL_law 1513 = .ok (.iaload, 1) := by decide +kernel
theorem dL_law_1514 : decode cL_law 1514 = .ok (.i2l, 1) := by decide +kernel
theorem dL_law_1515 : decode cL_law 1515 = .ok (.bipush 32, 2) := by decide +kernel
theorem dL_law_1517 : decode cL_law 1517 = .ok (.lshl, 1) := by decide +kernel
theorem dL_law_1518 : decode cL_law 1518 = .ok (.aload_n 0, 1) := by decide +kernel
theorem dL_law_1519 : decode cL_law 1519 = .ok (.iload 4, 2) := by decide +kernel
theorem dL_law_1521 : decode cL_law 1521 = .ok (.iconst 2, 1) := by decide +kernel
theorem dL_law_1522 : decode cL_law 1522 = .ok (.iadd, 1) := by decide +kernel
theorem dL_law_1523 : decode cL_law 1523 = .ok (.iaload, 1) := by decide +kernel
theorem dL_law_1524 : decode cL_law 1524 = .ok (.i2l, 1) := by decide +kernel
theorem dL_law_1525 : decode cL_law 1525 = .ok (.ldc2_w 104, 3) := by decide +kernel
theorem dL_law_1528 : decode cL_law 1528 = .ok (.land, 1) := by decide +kernel
theorem dL_law_1529 : decode cL_law 1529 = .ok (.lor, 1) := by decide +kernel
theorem dL_law_1530 : decode cL_law 1530 = .ok (.invokevirtual 163, 3) := by decide +kernel
theorem dL_law_1533 : decode cL_law 1533 = .ok (.aload_n 2, 1) := by decide +kernel
theorem dL_law_1534 : decode cL_law 1534 = .ok (.aload_n 0, 1) := by decide +kernel
theorem dL_law_1535 : decode cL_law 1535 = .ok (.iload 4, 2) := by decide +kernel
theorem dL_law_1537 : decode cL_law 1537 = .ok (.iconst 1, 1) := by decide +kernel
theorem dL_law_1538 : decode cL_law 1538 = .ok (.iadd, 1) := by decide +kernel
theorem dL_law_1539 : decode cL_law 1539 = .ok (.iaload, 1) := by decide +kernel
theorem dL_law_1540 : decode cL_law 1540 = .ok (.i2l, 1) := by decide +kernel
theorem dL_law_1541 : decode cL_law 1541 = .ok (.bipush 32, 2) := by decide +kernel
theorem dL_law_1543 : decode cL_law 1543 = .ok (.lshl, 1) := by decide +kernel
theorem dL_law_1544 : decode cL_law 1544 = .ok (.aload_n 0, 1) := by decide +kernel
theorem dL_law_1545 : decode cL_law 1545 = .ok (.iload 4, 2) := by decide +kernel
theorem dL_law_1547 : decode cL_law 1547 = .ok (.iconst 2, 1) := by decide +kernel
theorem dL_law_1548 : decode cL_law 1548 = .ok (.iadd, 1) := by decide +kernel
theorem dL_law_1549 : decode cL_law 1549 = .ok (.iaload, 1) := by decide +kernel
theorem dL_law_1550 : decode cL_law 1550 = .ok (.i2l, 1) := by decide +kernel
theorem dL_law_1551 : decode cL_law 1551 = .ok (.ldc2_w 104, 3) := by decide +kernel
theorem dL_law_1554 : decode cL_law 1554 = .ok (.land, 1) := by decide +kernel
theorem dL_law_1555 : decode cL_law 1555 = .ok (.lor, 1) := by decide +kernel
theorem dL_law_1556 : decode cL_law 1556 = .ok (.invokevirtual 167, 3) := by decide +kernel
theorem dL_law_1559 : decode cL_law 1559 = .ok (.if_icmp .eq 99, 3) := by decide +kernel
theorem dL_law_1562 : decode cL_law 1562 = .ok (.iconst 0, 1) := by decide +kernel
theorem dL_law_1563 : decode cL_law 1563 = .ok (.ireturn, 1) := by decide +kernel
theorem dL_law_1564 : decode cL_law 1564 = .ok (.aload_n 1, 1) := by decide +kernel
theorem dL_law_1565 : decode cL_law 1565 = .ok (.invokevirtual 168, 3) := by decide +kernel
theorem dL_law_1568 : decode cL_law 1568 = .ok (.aload_n 2, 1) := by decide +kernel
theorem dL_law_1569 : decode cL_law 1569 = .ok (.invokevirtual 171, 3) := by decide +kernel
theorem dL_law_1572 : decode cL_law 1572 = .ok (.if_icmp .eq 86, 3) := by decide +kernel
theorem dL_law_1575 : decode cL_law 1575 = .ok (.iconst 0, 1) := by decide +kernel
theorem dL_law_1576 : decode cL_law 1576 = .ok (.ireturn, 1) := by decide +kernel
theorem dL_law_1577 : decode cL_law 1577 = .ok (.aload_n 1, 1) := by decide +kernel
theorem dL_law_1578 : decode cL_law 1578 = .ok (.aload_n 0, 1) := by decide +kernel
theorem dL_law_1579 : decode cL_law 1579 = .ok (.iload 4, 2) := by decide +kernel
theorem dL_law_1581 : decode cL_law 1581 = .ok (.iconst 1, 1) := by decide +kernel
theorem dL_law_1582 : decode cL_law 1582 = .ok (.iadd, 1) := by decide +kernel
theorem dL_law_1583 : decode cL_law 1583 = .ok (.iaload, 1) := by decide +kernel
theorem dL_law_1584 : decode cL_law 1584 = .ok (.invokevirtual 172, 3) := by decide +kernel
theorem dL_law_1587 : decode cL_law 1587 = .ok (.aload_n 2, 1) := by decide +kernel
theorem dL_law_1588 : decode cL_law 1588 = .ok (.aload_n 0, 1) := by decide +kernel
theorem dL_law_1589 : decode cL_law 1589 = .ok (.iload 4, 2) := by decide +kernel
theorem dL_law_1591 : decode cL_law 1591 = .ok (.iconst 1, 1) := by decide +kernel
theorem dL_law_1592 : decode cL_law 1592 = .ok (.iadd, 1) := by decide +kernel
theorem dL_law_1593 : decode cL_law 1593 = .ok (.iaload, 1) := by decide +kernel
theorem dL_law_1594 : decode cL_law 1594 = .ok (.invokevirtual 175, 3) := by decide +kernel
theorem dL_law_1597 : decode cL_law 1597 = .ok (.if_icmp .eq 61, 3) := by decide +kernel
theorem dL_law_1600 : decode cL_law 1600 = .ok (.iconst 0, 1) := by decide +kernel
theorem dL_law_1601 : decode cL_law 1601 = .ok (.ireturn, 1) := by decide +kernel
theorem dL_law_1602 : decode cL_law 1602 = .ok (.aload_n 1, 1) := by decide +kernel
theorem dL_law_1603 : decode cL_law 1603 = .ok (.aload_n 0, 1) := by decide +kernel
theorem dL_law_1604 : decode cL_law 1604 = .ok (.iload 4, 2) := by decide +kernel
theorem dL_law_1606 : decode cL_law 1606 = .ok (.iconst 1, 1) := by decide +kernel
theorem dL_law_1607 : decode cL_law 1607 = .ok (.iadd, 1) := by decide +kernel
theorem dL_law_1608 : decode cL_law 1608 = .ok (.iaload, 1) := by decide +kernel
theorem dL_law_1609 : decode cL_law 1609 = .ok (.aload_n 3, 1) := by decide +kernel
theorem dL_law_1610 : decode cL_law 1610 = .ok (.invokestatic 176, 3) := by decide +kernel
theorem dL_law_1613 : decode cL_law 1613 = .ok (.istore 5, 2) := by decide +kernel
theorem dL_law_1615 : decode cL_law 1615 = .ok (.aload_n 2, 1) := by decide +kernel
theorem dL_law_1616 : decode cL_law 1616 = .ok (.aload_n 0, 1) := by decide +kernel
theorem dL_law_1617 : decode cL_law 1617 = .ok (.iload 4, 2) := by decide +kernel
theorem dL_law_1619 : decode cL_law 1619 = .ok (.iconst 1, 1) := by decide +kernel
theorem dL_law_1620 : decode cL_law 1620 = .ok (.iadd, 1) := by decide +kernel
theorem dL_law_1621 : decode cL_law 1621 = .ok (.iaload, 1) := by decide +kernel
theorem dL_law_1622 : decode cL_law 1622 = .ok (.invokevirtual 181, 3) := by decide +kernel
theorem dL_law_1625 : decode cL_law 1625 = .ok (.istore 6, 2) := by decide +kernel
theorem dL_law_1627 : decode cL_law 1627 = .ok (.aload_n 2, 1) := by decide +kernel
theorem dL_law_1628 : decode cL_law 1628 = .ok (.invokevirtual 182, 3) := by decide +kernel
theorem dL_law_1631 : decode cL_law 1631 = .ok (.iload 5, 2) := by decide +kernel
theorem dL_law_1633 : decode cL_law 1633 = .ok (.if_icmp .eq 5, 3) := by decide +kernel
theorem dL_law_1636 : decode cL_law 1636 = .ok (.iconst 0, 1) := by decide +kernel
theorem dL_law_1637 : decode cL_law 1637 = .ok (.ireturn, 1) := by decide +kernel
theorem dL_law_1638 : decode cL_law 1638 = .ok (.iload 5, 2) := by decide +kernel
theorem dL_law_1640 : decode cL_law 1640 = .ok (.ifCond .ne 15, 3) := by decide +kernel
theorem dL_law_1643 : decode cL_law 1643 = .ok (.aload_n 3, 1) := by decide +kernel
theorem dL_law_1644 : decode cL_law 1644 = .ok (.iconst 0, 1) := by decide +kernel
theorem dL_law_1645 : decode cL_law 1645 = .ok (.laload, 1) := by decide +kernel
theorem dL_law_1646 : decode cL_law 1646 = .ok (.iload 6, 2) := by decide +kernel
theorem dL_law_1648 : decode cL_law 1648 = .ok (.i2l, 1) := by decide +kernel
theorem dL_law_1649 : decode cL_law 1649 = .ok (.lcmp, 1) := by decide +kernel
theorem dL_law_1650 : decode cL_law 1650 = .ok (.ifCond .eq 5, 3) := by decide +kernel
theorem dL_law_1653 : decode cL_law 1653 = .ok (.iconst 0, 1) := by decide +kernel
theorem dL_law_1654 : decode cL_law 1654 = .ok (.ireturn, 1) := by decide +kernel
theorem dL_law_1655 : decode cL_law 1655 = .ok (.goto 3, 3) := by decide +kernel
theorem dL_law_1658 : decode cL_law 1658 = .ok (.iinc 4 6, 3) := by decide +kernel
theorem dL_law_1661 : decode cL_law 1661 = .ok (.goto (-1638), 3) := by decide +kernel
theorem dL_law_1664 : decode cL_law 1664 = .ok (.iconst 1, 1) := by decide +kernel
theorem dL_law_1665 : decode cL_law 1665 = .ok (.ireturn, 1) := by decide +kernel
