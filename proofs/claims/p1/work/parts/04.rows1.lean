theorem dX7_advance_0 : decode cX7_advance 0 = .ok (.aload_n 0, 1) := by decide +kernel
theorem dX7_advance_1 : decode cX7_advance 1 = .ok (.iconst 0, 1) := by decide +kernel
theorem dX7_advance_2 : decode cX7_advance 2 = .ok (.putfield 75, 3) := by decide +kernel
theorem dX7_advance_5 : decode cX7_advance 5 = .ok (.iconst 0, 1) := by decide +kernel
theorem dX7_advance_6 : decode cX7_advance 6 = .ok (.istore_n 3, 1) := by decide +kernel
theorem dX7_advance_7 : decode cX7_advance 7 = .ok (.iload_n 3, 1) := by decide +kernel
theorem dX7_advance_8 : decode cX7_advance 8 = .ok (.aload_n 0, 1) := by decide +kernel
theorem dX7_advance_9 : decode cX7_advance 9 = .ok (.getfield 65, 3) := by decide +kernel
theorem dX7_advance_12 : decode cX7_advance 12 = .ok (.if_icmp .ge 85, 3) := by decide +kernel
theorem dX7_advance_15 : decode cX7_advance 15 = .ok (.iload_n 3, 1) := by decide +kernel
theorem dX7_advance_16 : decode cX7_advance 16 = .ok (.sipush 1849, 3) := by decide +kernel
theorem dX7_advance_19 : decode cX7_advance 19 = .ok (.if_icmp .ge 78, 3) := by decide +kernel
theorem dX7_advance_22 : decode cX7_advance 22 = .ok (.iconst 0, 1) := by decide +kernel
theorem dX7_advance_23 : decode cX7_advance 23 = .ok (.istore 4, 2) := by decide +kernel
theorem dX7_advance_25 : decode cX7_advance 25 = .ok (.iload 4, 2) := by decide +kernel
theorem dX7_advance_27 : decode cX7_advance 27 = .ok (.aload_n 0, 1) := by decide +kernel
theorem dX7_advance_28 : decode cX7_advance 28 = .ok (.getfield 29, 3) := by decide +kernel
theorem dX7_advance_31 : decode cX7_advance 31 = .ok (.getfield 78, 3) := by decide +kernel
theorem dX7_advance_34 : decode cX7_advance 34 = .ok (.if_icmp .ge 57, 3) := by decide +kernel
theorem dX7_advance_37 : decode cX7_advance 37 = .ok (.aload_n 0, 1) := by decide +kernel
theorem dX7_advance_38 : decode cX7_advance 38 = .ok (.getfield 29, 3) := by decide +kernel
theorem dX7_advance_41 : decode cX7_advance 41 = .ok (.aload_n 0, 1) := by decide +kernel
theorem dX7_advance_42 : decode cX7_advance 42 = .ok (.getfield 15, 3) := by decide +kernel
theorem dX7_advance_45 : decode cX7_advance 45 = .ok (.iload_n 3, 1) := by decide +kernel
theorem dX7_advance_46 : decode cX7_advance 46 = .ok (.iaload, 1) := by decide +kernel
theorem dX7_advance_47 : decode cX7_advance 47 = .ok (.iload 4, 2) := by decide +kernel
theorem dX7_advance_49 : decode cX7_advance 49 = .ok (.invokevirtual 81, 3) := by decide +kernel
theorem dX7_advance_52 : decode cX7_advance 52 = .ok (.istore 5, 2) := by decide +kernel
theorem dX7_advance_54 : decode cX7_advance 54 = .ok (.aload_n 0, 1) := by decide +kernel
theorem dX7_advance_55 : decode cX7_advance 55 = .ok (.getfield 33, 3) := by decide +kernel
theorem dX7_advance_58 : decode cX7_advance 58 = .ok (.iload_n 2, 1) := by decide +kernel
theorem dX7_advance_59 : decode cX7_advance 59 = .ok (.iload 5, 2) := by decide +kernel
theorem dX7_advance_61 : decode cX7_advance 61 = .ok (.invokevirtual 85, 3) := by decide +kernel
theorem dX7_advance_64 : decode cX7_advance 64 = .ok (.lconst 0, 1) := by decide +kernel
theorem dX7_advance_65 : decode cX7_advance 65 = .ok (.lcmp, 1) := by decide +kernel
theorem dX7_advance_66 : decode cX7_advance 66 = .ok (.ifCond .le 19, 3) := by decide +kernel
theorem dX7_advance_69 : decode cX7_advance 69 = .ok (.aload_n 0, 1) := by decide +kernel
theorem dX7_advance_70 : decode cX7_advance 70 = .ok (.iload_n 3, 1) := by decide +kernel
theorem dX7_advance_71 : decode cX7_advance 71 = .ok (.aload_n 0, 1) := by decide +kernel
theorem dX7_advance_72 : decode cX7_advance 72 = .ok (.iload 5, 2) := by decide +kernel
theorem dX7_advance_74 : decode cX7_advance 74 = .ok (.invokevirtual 91, 3) := by decide +kernel
theorem dX7_advance_77 : decode cX7_advance 77 = .ok (.iload 4, 2) := by decide +kernel
theorem dX7_advance_79 : decode cX7_advance 79 = .ok (.iload 5, 2) := by decide +kernel
theorem dX7_advance_81 : decode cX7_advance 81 = .ok (.iload_n 1, 1) := by decide +kernel
theorem dX7_advance_82 : decode cX7_advance 82 = .ok (.invokevirtual 95, 3) := by decide +kernel
theorem dX7_advance_85 : decode cX7_advance 85 = .ok (.iinc 4 1, 3) := by decide +kernel
theorem dX7_advance_88 : decode cX7_advance 88 = .ok (.goto (-63), 3) := by decide +kernel
theorem dX7_advance_91 : decode cX7_advance 91 = .ok (.iinc 3 1, 3) := by decide +kernel
theorem dX7_advance_94 : decode cX7_advance 94 = .ok (.goto (-87), 3) := by decide +kernel
theorem dX7_advance_97 : decode cX7_advance 97 = .ok (.iconst 0, 1) := by decide +kernel
theorem dX7_advance_98 : decode cX7_advance 98 = .ok (.istore_n 3, 1) := by decide +kernel
theorem dX7_advance_99 : decode cX7_advance 99 = .ok (.iload_n 3, 1) := by decide +kernel
theorem dX7_advance_100 : decode cX7_advance 100 = .ok (.aload_n 0, 1) := by decide +kernel
theorem dX7_advance_101 : decode cX7_advance 101 = .ok (.getfield 75, 3) := by decide +kernel
theorem dX7_advance_104 : decode cX7_advance 104 = .ok (.if_icmp .ge 28, 3) := by decide +kernel
theorem dX7_advance_107 : decode cX7_advance 107 = .ok (.iload_n 3, 1) := by decide +kernel
theorem dX7_advance_108 : decode cX7_advance 108 = .ok (.sipush 1849, 3) := by decide +kernel
theorem dX7_advance_111 : decode cX7_advance 111 = .ok (.if_icmp .ge 21, 3) := by decide +kernel
theorem dX7_advance_114 : decode cX7_advance 114 = .ok (.aload_n 0, 1) := by decide +kernel
theorem dX7_advance_115 : decode cX7_advance 115 = .ok (.getfield 9, 3) := by decide +kernel
theorem dX7_advance_118 : decode cX7_advance 118 = .ok (.aload_n 0, 1) := by decide +kernel
theorem dX7_advance_119 : decode cX7_advance 119 = .ok (.getfield 18, 3) := by decide +kernel
theorem dX7_advance_122 : decode cX7_advance 122 = .ok (.iload_n 3, 1) := by decide +kernel
theorem dX7_advance_123 : decode cX7_advance 123 = .ok (.iaload, 1) := by decide +kernel
theorem dX7_advance_124 : decode cX7_advance 124 = .ok (.iconst 0, 1) := by decide +kernel
theorem dX7_advance_125 : decode cX7_advance 125 = .ok (.iastore, 1) := by decide +kernel
theorem dX7_advance_126 : decode cX7_advance 126 = .ok (.iinc 3 1, 3) := by decide +kernel
theorem dX7_advance_129 : decode cX7_advance 129 = .ok (.goto (-30), 3) := by decide +kernel
theorem dX7_advance_132 : decode cX7_advance 132 = .ok (.aload_n 0, 1) := by decide +kernel
theorem dX7_advance_133 : decode cX7_advance 133 = .ok (.invokevirtual 99, 3) := by decide +kernel
theorem dX7_advance_136 : decode cX7_advance 136 = .ok (.aload_n 0, 1) := by decide +kernel
theorem dX7_advance_137 : decode cX7_advance 137 = .ok (.aload_n 0, 1) := by decide +kernel
theorem dX7_advance_138 : decode cX7_advance 138 = .ok (.getfield 41, 3) := by decide +kernel
theorem dX7_advance_141 : decode cX7_advance 141 = .ok (.aload_n 0, 1) := by decide +kernel
theorem dX7_advance_142 : decode cX7_advance 142 = .ok (.getfield 68, 3) := by decide +kernel
theorem dX7_advance_145 : decode cX7_advance 145 = .ok (.aload_n 0, 1) := by decide +kernel
theorem dX7_advance_146 : decode cX7_advance 146 = .ok (.invokevirtual 102, 3) := by decide +kernel
theorem dX7_advance_149 : decode cX7_advance 149 = .ok (.iadd, 1) := by decide +kernel
theorem dX7_advance_150 : decode cX7_advance 150 = .ok (.invokestatic 105, 3) := by decide +kernel
theorem dX7_advance_153 : decode cX7_advance 153 = .ok (.putfield 68, 3) := by decide +kernel
theorem dX7_advance_156 : decode cX7_advance 156 = .ok (.return_, 1) := by decide +kernel
theorem dX7_swapLayers_0 : decode cX7_swapLayers 0 = .ok (.aload_n 0, 1) := by decide +kernel
theorem dX7_swapLayers_1 : decode cX7_swapLayers 1 = .ok (.getfield 15, 3) := by decide +kernel
theorem dX7_swapLayers_4 : decode cX7_swapLayers 4 = .ok (.astore_n 1, 1) := by decide +kernel
theorem dX7_swapLayers_5 : decode cX7_swapLayers 5 = .ok (.aload_n 0, 1) := by decide +kernel
theorem dX7_swapLayers_6 : decode cX7_swapLayers 6 = .ok (.aload_n 0, 1) := by decide +kernel
theorem dX7_swapLayers_7 : decode cX7_swapLayers 7 = .ok (.getfield 18, 3) := by decide +kernel
theorem dX7_swapLayers_10 : decode cX7_swapLayers 10 = .ok (.putfield 15, 3) := by decide +kernel
theorem dX7_swapLayers_13 : decode cX7_swapLayers 13 = .ok (.aload_n 0, 1) := by decide +kernel
theorem dX7_swapLayers_14 : decode cX7_swapLayers 14 = .ok (.aload_n 1, 1) := by decide +kernel
theorem dX7_swapLayers_15 : decode cX7_swapLayers 15 = .ok (.putfield 18, 3) := by decide +kernel
theorem dX7_swapLayers_18 : decode cX7_swapLayers 18 = .ok (.aload_n 0, 1) := by decide +kernel
theorem dX7_swapLayers_19 : decode cX7_swapLayers 19 = .ok (.getfield 22, 3) := by decide +kernel
theorem dX7_swapLayers_22 : decode cX7_swapLayers 22 = .ok (.astore_n 2, 1) := by decide +kernel
theorem dX7_swapLayers_23 : decode cX7_swapLayers 23 = .ok (.aload_n 0, 1) := by decide +kernel
theorem dX7_swapLayers_24 : decode cX7_swapLayers 24 = .ok (.aload_n 0, 1) := by decide +kernel
theorem dX7_swapLayers_25 : decode cX7_swapLayers 25 = .ok (.getfield 26, 3) := by decide +kernel
theorem dX7_swapLayers_28 : decode cX7_swapLayers 28 = .ok (.putfield 22, 3) := by decide +kernel
theorem dX7_swapLayers_31 : decode cX7_swapLayers 31 = .ok (.aload_n 0, 1) := by decide +kernel
theorem dX7_swapLayers_32 : decode cX7_swapLayers 32 = .ok (.aload_n 2, 1) := by decide +kernel
theorem dX7_swapLayers_33 : decode cX7_swapLayers 33 = .ok (.putfield 26, 3) := by decide +kernel
theorem dX7_swapLayers_36 : decode cX7_swapLayers 36 = .ok (.aload_n 0, 1) := by decide +kernel
theorem dX7_swapLayers_37 : decode cX7_swapLayers 37 = .ok (.aload_n 0, 1) := by decide +kernel
theorem dX7_swapLayers_38 : decode cX7_swapLayers 38 = .ok (.getfield 75, 3) := by decide +kernel
theorem dX7_swapLayers_41 : decode cX7_swapLayers 41 = .ok (.putfield 65, 3) := by decide +kernel
theorem dX7_swapLayers_44 : decode cX7_swapLayers 44 = .ok (.return_, 1) := by decide +kernel
theorem dX7_slotFor_0 : decode cX7_slotFor 0 = .ok (.iload_n 1, 1) := by decide +kernel
theorem dX7_slotFor_1 : decode cX7_slotFor 1 = .ok (.ifCond .lt 10, 3) := by decide +kernel
theorem dX7_slotFor_4 : decode cX7_slotFor 4 = .ok (.iload_n 1, 1) := by decide +kernel
theorem dX7_slotFor_5 : decode cX7_slotFor 5 = .ok (.sipush 4489, 3) := by decide +kernel
theorem dX7_slotFor_8 : decode cX7_slotFor 8 = .ok (.if_icmp .lt 5, 3) := by decide +kernel
theorem dX7_slotFor_11 : decode cX7_slotFor 11 = .ok (.iconst (-1), 1) := by decide +kernel
theorem dX7_slotFor_12 : decode cX7_slotFor 12 = .ok (.ireturn, 1) := by decide +kernel
theorem dX7_slotFor_13 : decode cX7_slotFor 13 = .ok (.aload_n 0, 1) := by decide +kernel
theorem dX7_slotFor_14 : decode cX7_slotFor 14 = .ok (.getfield 9, 3) := by decide +kernel
theorem dX7_slotFor_17 : decode cX7_slotFor 17 = .ok (.iload_n 1, 1) := by decide +kernel
theorem dX7_slotFor_18 : decode cX7_slotFor 18 = .ok (.iaload, 1) := by decide +kernel
theorem dX7_slotFor_19 : decode cX7_slotFor 19 = .ok (.ifCond .ne 72, 3) := by decide +kernel
theorem dX7_slotFor_22 : decode cX7_slotFor 22 = .ok (.aload_n 0, 1) := by decide +kernel
theorem dX7_slotFor_23 : decode cX7_slotFor 23 = .ok (.getfield 75, 3) := by decide +kernel
theorem dX7_slotFor_26 : decode cX7_slotFor 26 = .ok (.sipush 1849, 3) := by decide +kernel
theorem dX7_slotFor_29 : decode cX7_slotFor 29 = .ok (.if_icmp .ge 62, 3) := by decide +kernel
theorem dX7_slotFor_32 : decode cX7_slotFor 32 = .ok (.aload_n 0, 1) := by decide +kernel
theorem dX7_slotFor_33 : decode cX7_slotFor 33 = .ok (.getfield 18, 3) := by decide +kernel
theorem dX7_slotFor_36 : decode cX7_slotFor 36 = .ok (.aload_n 0, 1) := by decide +kernel
theorem dX7_slotFor_37 : decode cX7_slotFor 37 = .ok (.getfield 75, 3) := by decide +kernel
theorem dX7_slotFor_40 : decode cX7_slotFor 40 = .ok (.iload_n 1, 1) := by decide +kernel
theorem dX7_slotFor_41 : decode cX7_slotFor 41 = .ok (.iastore, 1) := by decide +kernel
theorem dX7_slotFor_42 : decode cX7_slotFor 42 = .ok (.iconst 0, 1) := by decide +kernel
theorem dX7_slotFor_43 : decode cX7_slotFor 43 = .ok (.istore_n 2, 1) := by decide +kernel
theorem dX7_slotFor_44 : decode cX7_slotFor 44 = .ok (.iload_n 2, 1) := by decide +kernel
theorem dX7_slotFor_45 : decode cX7_slotFor 45 = .ok (.bipush 121, 2) := by decide +kernel
theorem dX7_slotFor_47 : decode cX7_slotFor 47 = .ok (.if_icmp .ge 24, 3) := by decide +kernel
theorem dX7_slotFor_50 : decode cX7_slotFor 50 = .ok (.aload_n 0, 1) := by decide +kernel
theorem dX7_slotFor_51 : decode cX7_slotFor 51 = .ok (.getfield 26, 3) := by decide +kernel
theorem dX7_slotFor_54 : decode cX7_slotFor 54 = .ok (.aload_n 0, 1) := by decide +kernel
theorem dX7_slotFor_55 : decode cX7_slotFor 55 = .ok (.getfield 75, 3) := by decide +kernel
theorem dX7_slotFor_58 : decode cX7_slotFor 58 = .ok (.bipush 121, 2) := by decide +kernel
theorem dX7_slotFor_60 : decode cX7_slotFor 60 = .ok (.imul, 1) := by decide +kernel
theorem dX7_slotFor_61 : decode cX7_slotFor 61 = .ok (.iload_n 2, 1) := by decide +kernel
theorem dX7_slotFor_62 : decode cX7_slotFor 62 = .ok (.iadd, 1) := by decide +kernel
theorem dX7_slotFor_63 : decode cX7_slotFor 63 = .ok (.lconst 0, 1) := by decide +kernel
theorem dX7_slotFor_64 : decode cX7_slotFor 64 = .ok (.lastore, 1) := by decide +kernel
theorem dX7_slotFor_65 : decode cX7_slotFor 65 = .ok (.iinc 2 1, 3) := by decide +kernel
theorem dX7_slotFor_68 : decode cX7_slotFor 68 = .ok (.goto (-24), 3) := by decide +kernel
theorem dX7_slotFor_71 : decode cX7_slotFor 71 = .ok (.aload_n 0, 1) := by decide +kernel
theorem dX7_slotFor_72 : decode cX7_slotFor 72 = .ok (.dup, 1) := by decide +kernel
theorem dX7_slotFor_73 : decode cX7_slotFor 73 = .ok (.getfield 75, 3) := by decide +kernel
theorem dX7_slotFor_76 : decode cX7_slotFor 76 = .ok (.iconst 1, 1) := by decide +kernel
theorem dX7_slotFor_77 : decode cX7_slotFor 77 = .ok (.iadd, 1) := by decide +kernel
theorem dX7_slotFor_78 : decode cX7_slotFor 78 = .ok (.putfield 75, 3) := by decide +kernel
theorem dX7_slotFor_81 : decode cX7_slotFor 81 = .ok (.aload_n 0, 1) := by decide +kernel
theorem dX7_slotFor_82 : decode cX7_slotFor 82 = .ok (.getfield 9, 3) := by decide +kernel
theorem dX7_slotFor_85 : decode cX7_slotFor 85 = .ok (.iload_n 1, 1) := by decide +kernel
theorem dX7_slotFor_86 : decode cX7_slotFor 86 = .ok (.aload_n 0, 1) := by decide +kernel
theorem dX7_slotFor_87 : decode cX7_slotFor 87 = .ok (.getfield 75, 3) := by decide +kernel
theorem dX7_slotFor_90 : decode cX7_slotFor 90 = .ok (.iastore, 1) := by decide +kernel
theorem dX7_slotFor_91 : decode cX7_slotFor 91 = .ok (.aload_n 0, 1) := by decide +kernel
theorem dX7_slotFor_92 : decode cX7_slotFor 92 = .ok (.getfield 9, 3) := by decide +kernel
theorem dX7_slotFor_95 : decode cX7_slotFor 95 = .ok (.iload_n 1, 1) := by decide +kernel
theorem dX7_slotFor_96 : decode cX7_slotFor 96 = .ok (.iaload, 1) := by decide +kernel
theorem dX7_slotFor_97 : decode cX7_slotFor 97 = .ok (.iconst 1, 1) := by decide +kernel
theorem dX7_slotFor_98 : decode cX7_slotFor 98 = .ok (.isub, 1) := by decide +kernel
theorem dX7_slotFor_99 : decode cX7_slotFor 99 = .ok (.ireturn, 1) := by decide +kernel
set_option maxRecDepth 20000 in
theorem ggX7_carry_X7_shift : GoodIn wsX7_carry wsX7_shift := goodIn_r _ [15, 16, 17, 32, 33, 34, 35, 36, 37, 38, 39, 40, 41, 42, 43, 44, 45] (by decide +kernel) (by decide +kernel)
set_option maxRecDepth 20000 in
theorem gX7_carry_X7_shift : GoodIn wsX7_carry (wsV RX7 110 RX7 yX7_shift wsX7_shift) := goodIn_app (goodIn_of _ (by decide +kernel)) ggX7_carry_X7_shift
set_option maxRecDepth 20000 in
theorem ggX7_carry_X7_improve : GoodIn wsX7_carry wsX7_improve := goodIn_r _ [21, 17, 16, 22, 23, 24, 14, 25, 26, 32, 33, 34, 35, 36, 37, 38, 39, 40, 41, 42, 43, 44, 45] (by decide +kernel) (by decide +kernel)
set_option maxRecDepth 20000 in
theorem gX7_carry_X7_improve : GoodIn wsX7_carry (wsV RX7 114 RX7 yX7_improve wsX7_improve) := goodIn_app (goodIn_of _ (by decide +kernel)) ggX7_carry_X7_improve
set_option maxRecDepth 20000 in
theorem ggX7_carry_X7_gainOf : GoodIn wsX7_carry wsX7_gainOf := goodIn_r _ [30, 1, 2, 31, 32, 33, 34, 35, 36, 37, 38, 39, 40, 41, 42, 43, 44, 45, 46, 47, 48, 49, 50, 51, 52, 53, 54, 55, 56, 57, 58, 59, 60] (by decide +kernel) (by decide +kernel)
set_option maxRecDepth 20000 in
theorem gX7_carry_X7_gainOf : GoodIn wsX7_carry (wsV RX7 118 RX7 yX7_gainOf wsX7_gainOf) := goodIn_app (goodIn_of _ (by decide +kernel)) ggX7_carry_X7_gainOf
theorem dX7_carry_0 : decode cX7_carry 0 = .ok (.iload_n 2, 1) := by decide +kernel
theorem dX7_carry_1 : decode cX7_carry 1 = .ok (.ifCond .ge 4, 3) := by decide +kernel
theorem dX7_carry_4 : decode cX7_carry 4 = .ok (.return_, 1) := by decide +kernel
theorem dX7_carry_5 : decode cX7_carry 5 = .ok (.iload_n 1, 1) := by decide +kernel
theorem dX7_carry_6 : decode cX7_carry 6 = .ok (.bipush 121, 2) := by decide +kernel
theorem dX7_carry_8 : decode cX7_carry 8 = .ok (.imul, 1) := by decide +kernel
theorem dX7_carry_9 : decode cX7_carry 9 = .ok (.istore 6, 2) := by decide +kernel
theorem dX7_carry_11 : decode cX7_carry 11 = .ok (.iload_n 2, 1) := by decide +kernel
theorem dX7_carry_12 : decode cX7_carry 12 = .ok (.bipush 121, 2) := by decide +kernel
theorem dX7_carry_14 : decode cX7_carry 14 = .ok (.imul, 1) := by decide +kernel
theorem dX7_carry_15 : decode cX7_carry 15 = .ok (.istore 7, 2) := by decide +kernel
theorem dX7_carry_17 : decode cX7_carry 17 = .ok (.aload_n 0, 1) := by decide +kernel
theorem dX7_carry_18 : decode cX7_carry 18 = .ok (.getfield 37, 3) := by decide +kernel
theorem dX7_carry_21 : decode cX7_carry 21 = .ok (.iconst 1, 1) := by decide +kernel
theorem dX7_carry_22 : decode cX7_carry 22 = .ok (.if_icmp .ne 96, 3) := by decide +kernel
theorem dX7_carry_25 : decode cX7_carry 25 = .ok (.iconst 0, 1) := by decide +kernel
theorem dX7_carry_26 : decode cX7_carry 26 = .ok (.istore 8, 2) := by decide +kernel
theorem dX7_carry_28 : decode cX7_carry 28 = .ok (.iload 8, 2) := by decide +kernel
theorem dX7_carry_30 : decode cX7_carry 30 = .ok (.aload_n 0, 1) := by decide +kernel
theorem dX7_carry_31 : decode cX7_carry 31 = .ok (.getfield 29, 3) := by decide +kernel
theorem dX7_carry_34 : decode cX7_carry 34 = .ok (.getfield 78, 3) := by decide +kernel
theorem dX7_carry_37 : decode cX7_carry 37 = .ok (.if_icmp .ge 78, 3) := by decide +kernel
theorem dX7_carry_40 : decode cX7_carry 40 = .ok (.iload 5, 2) := by decide +kernel
theorem dX7_carry_42 : decode cX7_carry 42 = .ok (.ifCond .le 13, 3) := by decide +kernel
theorem dX7_carry_45 : decode cX7_carry 45 = .ok (.iload 8, 2) := by decide +kernel
theorem dX7_carry_47 : decode cX7_carry 47 = .ok (.iload_n 3, 1) := by decide +kernel
theorem dX7_carry_48 : decode cX7_carry 48 = .ok (.if_icmp .eq 7, 3) := by decide +kernel
theorem dX7_carry_51 : decode cX7_carry 51 = .ok (.iconst 1, 1) := by decide +kernel
theorem dX7_carry_52 : decode cX7_carry 52 = .ok (.goto 4, 3) := by decide +kernel
theorem dX7_carry_55 : decode cX7_carry 55 = .ok (.iconst 0, 1) := by decide +kernel
theorem dX7_carry_56 : decode cX7_carry 56 = .ok (.istore 9, 2) := by decide +kernel
theorem dX7_carry_58 : decode cX7_carry 58 = .ok (.aload_n 0, 1) := by decide +kernel
theorem dX7_carry_59 : decode cX7_carry 59 = .ok (.getfield 44, 3) := by decide +kernel
theorem dX7_carry_62 : decode cX7_carry 62 = .ok (.ifCond .eq 32, 3) := by decide +kernel
theorem dX7_carry_65 : decode cX7_carry 65 = .ok (.aload_n 0, 1) := by decide +kernel
theorem dX7_carry_66 : decode cX7_carry 66 = .ok (.iload 6, 2) := by decide +kernel
theorem dX7_carry_68 : decode cX7_carry 68 = .ok (.iload 8, 2) := by decide +kernel
theorem dX7_carry_70 : decode cX7_carry 70 = .ok (.bipush 14, 2) := by decide +kernel
theorem dX7_carry_72 : decode cX7_carry 72 = .ok (.imul, 1) := by decide +kernel
theorem dX7_carry_73 : decode cX7_carry 73 = .ok (.iadd, 1) := by decide +kernel
theorem dX7_carry_74 : decode cX7_carry 74 = .ok (.iload 7, 2) := by decide +kernel
theorem dX7_carry_76 : decode cX7_carry 76 = .ok (.iload_n 3, 1) := by decide +kernel
theorem dX7_carry_77 : decode cX7_carry 77 = .ok (.bipush 14, 2) := by decide +kernel
theorem dX7_carry_79 : decode cX7_carry 79 = .ok (.imul, 1) := by decide +kernel
theorem dX7_carry_80 : decode cX7_carry 80 = .ok (.iadd, 1) := by decide +kernel
theorem dX7_carry_81 : decode cX7_carry 81 = .ok (.iload 9, 2) := by decide +kernel
theorem dX7_carry_83 : decode cX7_carry 83 = .ok (.bipush 13, 2) := by decide +kernel
theorem dX7_carry_85 : decode cX7_carry 85 = .ok (.iload 9, 2) := by decide +kernel
theorem dX7_carry_87 : decode cX7_carry 87 = .ok (.isub, 1) := by decide +kernel
theorem dX7_carry_88 : decode cX7_carry 88 = .ok (.invokevirtual 110, 3) := by decide +kernel
theorem dX7_carry_91 : decode cX7_carry 91 = .ok (.goto 18, 3) := by decide +kernel
theorem dX7_carry_94 : decode cX7_carry 94 = .ok (.aload_n 0, 1) := by decide +kernel
theorem dX7_carry_95 : decode cX7_carry 95 = .ok (.iload 6, 2) := by decide +kernel
theorem dX7_carry_97 : decode cX7_carry 97 = .ok (.iload 8, 2) := by decide +kernel
theorem dX7_carry_99 : decode cX7_carry 99 = .ok (.iadd, 1) := by decide +kernel
theorem dX7_carry_100 : decode cX7_carry 100 = .ok (.iload 7, 2) := by decide +kernel
theorem dX7_carry_102 : decode cX7_carry 102 = .ok (.iload_n 3, 1) := by decide +kernel
theorem dX7_carry_103 : decode cX7_carry 103 = .ok (.iadd, 1) := by decide +kernel
theorem dX7_carry_104 : decode cX7_carry 104 = .ok (.iload 9, 2) := by decide +kernel
theorem dX7_carry_106 : decode cX7_carry 106 = .ok (.invokevirtual 114, 3) := by decide +kernel
theorem dX7_carry_109 : decode cX7_carry 109 = .ok (.iinc 8 1, 3) := by decide +kernel
theorem dX7_carry_112 : decode cX7_carry 112 = .ok (.goto (-84), 3) := by decide +kernel
theorem dX7_carry_115 : decode cX7_carry 115 = .ok (.goto 61, 3) := by decide +kernel
theorem dX7_carry_118 : decode cX7_carry 118 = .ok (.aload_n 0, 1) := by decide +kernel
theorem dX7_carry_119 : decode cX7_carry 119 = .ok (.getfield 44, 3) := by decide +kernel
theorem dX7_carry_122 : decode cX7_carry 122 = .ok (.ifCond .eq 39, 3) := by decide +kernel
theorem dX7_carry_125 : decode cX7_carry 125 = .ok (.aload_n 0, 1) := by decide +kernel
theorem dX7_carry_126 : decode cX7_carry 126 = .ok (.iload_n 3, 1) := by decide +kernel
theorem dX7_carry_127 : decode cX7_carry 127 = .ok (.iload 4, 2) := by decide +kernel
theorem dX7_carry_129 : decode cX7_carry 129 = .ok (.invokevirtual 118, 3) := by decide +kernel
theorem dX7_carry_132 : decode cX7_carry 132 = .ok (.istore 8, 2) := by decide +kernel
theorem dX7_carry_134 : decode cX7_carry 134 = .ok (.aload_n 0, 1) := by decide +kernel
theorem dX7_carry_135 : decode cX7_carry 135 = .ok (.iload 6, 2) := by decide +kernel
theorem dX7_carry_137 : decode cX7_carry 137 = .ok (.iload 7, 2) := by decide +kernel
theorem dX7_carry_139 : decode cX7_carry 139 = .ok (.iload 8, 2) := by decide +kernel
theorem dX7_carry_141 : decode cX7_carry 141 = .ok (.aload_n 0, 1) := by decide +kernel
theorem dX7_carry_142 : decode cX7_carry 142 = .ok (.getfield 68, 3) := by decide +kernel
theorem dX7_carry_145 : decode cX7_carry 145 = .ok (.aload_n 0, 1) := by decide +kernel
theorem dX7_carry_146 : decode cX7_carry 146 = .ok (.getfield 41, 3) := by decide +kernel
theorem dX7_carry_149 : decode cX7_carry 149 = .ok (.iload 8, 2) := by decide +kernel
theorem dX7_carry_151 : decode cX7_carry 151 = .ok (.isub, 1) := by decide +kernel
theorem dX7_carry_152 : decode cX7_carry 152 = .ok (.invokestatic 105, 3) := by decide +kernel
theorem dX7_carry_155 : decode cX7_carry 155 = .ok (.invokevirtual 110, 3) := by decide +kernel
theorem dX7_carry_158 : decode cX7_carry 158 = .ok (.goto 18, 3) := by decide +kernel
theorem dX7_carry_161 : decode cX7_carry 161 = .ok (.aload_n 0, 1) := by decide +kernel
theorem dX7_carry_162 : decode cX7_carry 162 = .ok (.iload 6, 2) := by decide +kernel
theorem dX7_carry_164 : decode cX7_carry 164 = .ok (.iload 7, 2) := by decide +kernel
theorem dX7_carry_166 : decode cX7_carry 166 = .ok (.aload_n 0, 1) := by decide +kernel
theorem dX7_carry_167 : decode cX7_carry 167 = .ok (.iload_n 3, 1) := by decide +kernel
theorem dX7_carry_168 : decode cX7_carry 168 = .ok (.iload 4, 2) := by decide +kernel
theorem dX7_carry_170 : decode cX7_carry 170 = .ok (.invokevirtual 118, 3) := by decide +kernel
theorem dX7_carry_173 : decode cX7_carry 173 = .ok (.invokevirtual 114, 3) := by decide +kernel
theorem dX7_carry_176 : decode cX7_carry 176 = .ok (.return_, 1) := by decide +kernel
theorem dX7_gainOf_0 : decode cX7_gainOf 0 = .ok (.aload_n 0, 1) := by decide +kernel
theorem dX7_gainOf_1 : decode cX7_gainOf 1 = .ok (.getfield 37, 3) := by decide +kernel
theorem dX7_gainOf_4 : decode cX7_gainOf 4 = .ok (.iconst 3, 1) := by decide +kernel
theorem dX7_gainOf_5 : decode cX7_gainOf 5 = .ok (.if_icmp .ne 13, 3) := by decide +kernel
theorem dX7_gainOf_8 : decode cX7_gainOf 8 = .ok (.aload_n 0, 1) := by decide +kernel
theorem dX7_gainOf_9 : decode cX7_gainOf 9 = .ok (.getfield 29, 3) := by decide +kernel
theorem dX7_gainOf_12 : decode cX7_gainOf 12 = .ok (.getfield 121, 3) := by decide +kernel
theorem dX7_gainOf_15 : decode cX7_gainOf 15 = .ok (.iload_n 1, 1) := by decide +kernel
theorem dX7_gainOf_16 : decode cX7_gainOf 16 = .ok (.iaload, 1) := by decide +kernel
theorem dX7_gainOf_17 : decode cX7_gainOf 17 = .ok (.ireturn, 1) := by decide +kernel
theorem dX7_gainOf_18 : decode cX7_gainOf 18 = .ok (.iload_n 2, 1) := by decide +kernel
theorem dX7_gainOf_19 : decode cX7_gainOf 19 = .ok (.bipush 67, 2) := by decide +kernel
theorem dX7_gainOf_21 : decode cX7_gainOf 21 = .ok (.idiv, 1) := by decide +kernel
theorem dX7_gainOf_22 : decode cX7_gainOf 22 = .ok (.bipush 33, 2) := by decide +kernel
theorem dX7_gainOf_24 : decode cX7_gainOf 24 = .ok (.isub, 1) := by decide +kernel
theorem dX7_gainOf_25 : decode cX7_gainOf 25 = .ok (.istore_n 3, 1) := by decide +kernel
theorem dX7_gainOf_26 : decode cX7_gainOf 26 = .ok (.aload_n 0, 1) := by decide +kernel
theorem dX7_gainOf_27 : decode cX7_gainOf 27 = .ok (.getfield 37, 3) := by decide +kernel
theorem dX7_gainOf_30 : decode cX7_gainOf 30 = .ok (.iconst 2, 1) := by decide +kernel
theorem dX7_gainOf_31 : decode cX7_gainOf 31 = .ok (.if_icmp .ne 5, 3) := by decide +kernel
theorem dX7_gainOf_34 : decode cX7_gainOf 34 = .ok (.iload_n 3, 1) := by decide +kernel
theorem dX7_gainOf_35 : decode cX7_gainOf 35 = .ok (.ireturn, 1) := by decide +kernel
theorem dX7_gainOf_36 : decode cX7_gainOf 36 = .ok (.iload_n 3, 1) := by decide +kernel
theorem dX7_gainOf_37 : decode cX7_gainOf 37 = .ok (.ifCond .ne 7, 3) := by decide +kernel
theorem dX7_gainOf_40 : decode cX7_gainOf 40 = .ok (.iconst 1, 1) := by decide +kernel
theorem dX7_gainOf_41 : decode cX7_gainOf 41 = .ok (.goto 4, 3) := by decide +kernel
theorem dX7_gainOf_44 : decode cX7_gainOf 44 = .ok (.iconst 0, 1) := by decide +kernel
theorem dX7_gainOf_45 : decode cX7_gainOf 45 = .ok (.ireturn, 1) := by decide +kernel
theorem dX7_mostGain_0 : decode cX7_mostGain 0 = .ok (.aload_n 0, 1) := by decide +kernel
theorem dX7_mostGain_1 : decode cX7_mostGain 1 = .ok (.getfield 37, 3) := by decide +kernel
theorem dX7_mostGain_4 : decode cX7_mostGain 4 = .ok (.iconst 3, 1) := by decide +kernel
theorem dX7_mostGain_5 : decode cX7_mostGain 5 = .ok (.if_icmp .ne 6, 3) := by decide +kernel
theorem dX7_mostGain_8 : decode cX7_mostGain 8 = .ok (.bipush 9, 2) := by decide +kernel
theorem dX7_mostGain_10 : decode cX7_mostGain 10 = .ok (.ireturn, 1) := by decide +kernel
theorem dX7_mostGain_11 : decode cX7_mostGain 11 = .ok (.aload_n 0, 1) := by decide +kernel
theorem dX7_mostGain_12 : decode cX7_mostGain 12 = .ok (.getfield 37, 3) := by decide +kernel
theorem dX7_mostGain_15 : decode cX7_mostGain 15 = .ok (.iconst 2, 1) := by decide +kernel
theorem dX7_mostGain_16 : decode cX7_mostGain 16 = .ok (.if_icmp .ne 8, 3) := by decide +kernel
theorem dX7_mostGain_19 : decode cX7_mostGain 19 = .ok (.bipush 30, 2) := by decide +kernel
theorem dX7_mostGain_21 : decode cX7_mostGain 21 = .ok (.goto 4, 3) := by decide +kernel
theorem dX7_mostGain_24 : decode cX7_mostGain 24 = .ok (.iconst 1, 1) := by decide +kernel
theorem dX7_mostGain_25 : decode cX7_mostGain 25 = .ok (.ireturn, 1) := by decide +kernel
theorem dX7_shift_0 : decode cX7_shift 0 = .ok (.iconst 0, 1) := by decide +kernel
theorem dX7_shift_1 : decode cX7_shift 1 = .ok (.istore 5, 2) := by decide +kernel
theorem dX7_shift_3 : decode cX7_shift 3 = .ok (.iload 5, 2) := by decide +kernel
theorem dX7_shift_5 : decode cX7_shift 5 = .ok (.iload 4, 2) := by decide +kernel
theorem dX7_shift_7 : decode cX7_shift 7 = .ok (.if_icmp .gt 32, 3) := by decide +kernel
theorem dX7_shift_10 : decode cX7_shift 10 = .ok (.aload_n 0, 1) := by decide +kernel
theorem dX7_shift_11 : decode cX7_shift 11 = .ok (.getfield 26, 3) := by decide +kernel
theorem dX7_shift_14 : decode cX7_shift 14 = .ok (.iload_n 2, 1) := by decide +kernel
theorem dX7_shift_15 : decode cX7_shift 15 = .ok (.iload_n 3, 1) := by decide +kernel
theorem dX7_shift_16 : decode cX7_shift 16 = .ok (.iadd, 1) := by decide +kernel
theorem dX7_shift_17 : decode cX7_shift 17 = .ok (.iload 5, 2) := by decide +kernel
theorem dX7_shift_19 : decode cX7_shift 19 = .ok (.iadd, 1) := by decide +kernel
theorem dX7_shift_20 : decode cX7_shift 20 = .ok (.dup2, 1) := by decide +kernel
theorem dX7_shift_21 : decode cX7_shift 21 = .ok (.laload, 1) := by decide +kernel
theorem dX7_shift_22 : decode cX7_shift 22 = .ok (.aload_n 0, 1) := by decide +kernel
theorem dX7_shift_23 : decode cX7_shift 23 = .ok (.getfield 22, 3) := by decide +kernel
theorem dX7_shift_26 : decode cX7_shift 26 = .ok (.iload_n 1, 1) := by decide +kernel
theorem dX7_shift_27 : decode cX7_shift 27 = .ok (.iload 5, 2) := by decide +kernel
theorem dX7_shift_29 : decode cX7_shift 29 = .ok (.iadd, 1) := by decide +kernel
theorem dX7_shift_30 : decode cX7_shift 30 = .ok (.laload, 1) := by decide +kernel
theorem dX7_shift_31 : decode cX7_shift 31 = .ok (.ladd, 1) := by decide +kernel
theorem dX7_shift_32 : decode cX7_shift 32 = .ok (.lastore, 1) := by decide +kernel
theorem dX7_shift_33 : decode cX7_shift 33 = .ok (.iinc 5 1, 3) := by decide +kernel
theorem dX7_shift_36 : decode cX7_shift 36 = .ok (.goto (-33), 3) := by decide +kernel
theorem dX7_shift_39 : decode cX7_shift 39 = .ok (.return_, 1) := by decide +kernel
set_option maxRecDepth 20000 in
theorem ggX7_improve_X7_better : GoodIn wsX7_improve wsX7_better := goodIn_r _ [7, 8, 9, 10, 11, 12, 13, 14, 15, 16, 17, 18, 19, 20, 21, 22] (by decide +kernel) (by decide +kernel)
set_option maxRecDepth 20000 in
theorem gX7_improve_X7_better : GoodIn wsX7_improve (wsV RX7 55 RX7 yX7_better wsX7_better) := goodIn_app (goodIn_of _ (by decide +kernel)) ggX7_improve_X7_better
theorem dX7_improve_0 : decode cX7_improve 0 = .ok (.aload_n 0, 1) := by decide +kernel
theorem dX7_improve_1 : decode cX7_improve 1 = .ok (.getfield 22, 3) := by decide +kernel
theorem dX7_improve_4 : decode cX7_improve 4 = .ok (.iload_n 1, 1) := by decide +kernel
theorem dX7_improve_5 : decode cX7_improve 5 = .ok (.laload, 1) := by decide +kernel
theorem dX7_improve_6 : decode cX7_improve 6 = .ok (.lconst 0, 1) := by decide +kernel
theorem dX7_improve_7 : decode cX7_improve 7 = .ok (.lcmp, 1) := by decide +kernel
theorem dX7_improve_8 : decode cX7_improve 8 = .ok (.ifCond .le 28, 3) := by decide +kernel
theorem dX7_improve_11 : decode cX7_improve 11 = .ok (.aload_n 0, 1) := by decide +kernel
theorem dX7_improve_12 : decode cX7_improve 12 = .ok (.getfield 26, 3) := by decide +kernel
theorem dX7_improve_15 : decode cX7_improve 15 = .ok (.iload_n 2, 1) := by decide +kernel
theorem dX7_improve_16 : decode cX7_improve 16 = .ok (.aload_n 0, 1) := by decide +kernel
theorem dX7_improve_17 : decode cX7_improve 17 = .ok (.aload_n 0, 1) := by decide +kernel
theorem dX7_improve_18 : decode cX7_improve 18 = .ok (.getfield 26, 3) := by decide +kernel
theorem dX7_improve_21 : decode cX7_improve 21 = .ok (.iload_n 2, 1) := by decide +kernel
theorem dX7_improve_22 : decode cX7_improve 22 = .ok (.laload, 1) := by decide +kernel
theorem dX7_improve_23 : decode cX7_improve 23 = .ok (.aload_n 0, 1) := by decide +kernel
theorem dX7_improve_24 : decode cX7_improve 24 = .ok (.getfield 22, 3) := by decide +kernel
theorem dX7_improve_27 : decode cX7_improve 27 = .ok (.iload_n 1, 1) := by decide +kernel
theorem dX7_improve_28 : decode cX7_improve 28 = .ok (.laload, 1) := by decide +kernel
theorem dX7_improve_29 : decode cX7_improve 29 = .ok (.iload_n 3, 1) := by decide +kernel
theorem dX7_improve_30 : decode cX7_improve 30 = .ok (.i2l, 1) := by decide +kernel
theorem dX7_improve_31 : decode cX7_improve 31 = .ok (.ladd, 1) := by decide +kernel
theorem dX7_improve_32 : decode cX7_improve 32 = .ok (.invokevirtual 55, 3) := by decide +kernel
theorem dX7_improve_35 : decode cX7_improve 35 = .ok (.lastore, 1) := by decide +kernel
theorem dX7_improve_36 : decode cX7_improve 36 = .ok (.return_, 1) := by decide +kernel
theorem dX7_better_0 : decode cX7_better 0 = .ok (.lload_n 1, 1) := by decide +kernel
theorem dX7_better_1 : decode cX7_better 1 = .ok (.lconst 0, 1) := by decide +kernel
theorem dX7_better_2 : decode cX7_better 2 = .ok (.lcmp, 1) := by decide +kernel
theorem dX7_better_3 : decode cX7_better 3 = .ok (.ifCond .eq 9, 3) := by decide +kernel
theorem dX7_better_6 : decode cX7_better 6 = .ok (.lload_n 3, 1) := by decide +kernel
theorem dX7_better_7 : decode cX7_better 7 = .ok (.lconst 0, 1) := by decide +kernel
theorem dX7_better_8 : decode cX7_better 8 = .ok (.lcmp, 1) := by decide +kernel
theorem dX7_better_9 : decode cX7_better 9 = .ok (.ifCond .ne 7, 3) := by decide +kernel
theorem dX7_better_12 : decode cX7_better 12 = .ok (.lload_n 1, 1) := by decide +kernel
theorem dX7_better_13 : decode cX7_better 13 = .ok (.lload_n 3, 1) := by decide +kernel
theorem dX7_better_14 : decode cX7_better 14 = .ok (.ladd, 1) := by decide +kernel
theorem dX7_better_15 : decode cX7_better 15 = .ok (.lreturn, 1) := by decide +kernel
theorem dX7_better_16 : decode cX7_better 16 = .ok (.aload_n 0, 1) := by decide +kernel
theorem dX7_better_17 : decode cX7_better 17 = .ok (.getfield 52, 3) := by decide +kernel
theorem dX7_better_20 : decode cX7_better 20 = .ok (.lload_n 1, 1) := by decide +kernel
theorem dX7_better_21 : decode cX7_better 21 = .ok (.lload_n 3, 1) := by decide +kernel
theorem dX7_better_22 : decode cX7_better 22 = .ok (.lcmp, 1) := by decide +kernel
theorem dX7_better_23 : decode cX7_better 23 = .ok (.ifCond .le 7, 3) := by decide +kernel
theorem dX7_better_26 : decode cX7_better 26 = .ok (.iconst 1, 1) := by decide +kernel
theorem dX7_better_27 : decode cX7_better 27 = .ok (.goto 4, 3) := by decide +kernel
theorem dX7_better_30 : decode cX7_better 30 = .ok (.iconst 0, 1) := by decide +kernel
theorem dX7_better_31 : decode cX7_better 31 = .ok (.if_icmp .ne 7, 3) := by decide +kernel
theorem dX7_better_34 : decode cX7_better 34 = .ok (.lload_n 1, 1) := by decide +kernel
theorem dX7_better_35 : decode cX7_better 35 = .ok (.goto 4, 3) := by decide +kernel
theorem dX7_better_38 : decode cX7_better 38 = .ok (.lload_n 3, 1) := by decide +kernel
theorem dX7_better_39 : decode cX7_better 39 = .ok (.lreturn, 1) := by decide +kernel
set_option maxRecDepth 20000 in
theorem ggX8_init_X5_init : GoodIn wsX8_init wsX5_init := goodIn_r _ [33, 34, 2, 3, 28, 35, 36, 37, 98, 99, 100] (by decide +kernel) (by decide +kernel)
set_option maxRecDepth 20000 in
theorem gX8_init_X5_init : GoodIn wsX8_init (wsX5_init) := ggX8_init_X5_init
set_option maxRecDepth 20000 in
theorem ggX8_init_X4_init : GoodIn wsX8_init wsX4_init := goodIn_r _ [40, 41, 2, 3, 28, 42, 43, 44, 45, 46, 47, 48, 49, 50, 51, 52, 53, 54, 10, 55, 56, 57, 58, 59, 60, 61, 62, 63, 64, 65, 66, 67, 113, 114, 115, 116, 117, 118, 119, 120, 121, 122, 123, 124, 125, 126, 127] (by decide +kernel) (by decide +kernel)
set_option maxRecDepth 20000 in
theorem gX8_init_X4_init : GoodIn wsX8_init (wsX4_init) := ggX8_init_X4_init
set_option maxRecDepth 20000 in
theorem ggX8_init_X1_init : GoodIn wsX8_init wsX1_init := goodIn_r _ [69, 70, 2, 3, 28, 71, 72, 73, 74, 75, 128, 129, 130, 131, 132] (by decide +kernel) (by decide +kernel)
set_option maxRecDepth 20000 in
theorem gX8_init_X1_init_n25 : GoodIn wsX8_init (wsX1_init) := ggX8_init_X1_init
set_option maxRecDepth 20000 in
theorem ggX8_init_X2_init : GoodIn wsX8_init wsX2_init := goodIn_r _ [77, 78, 2, 3, 74, 79, 80, 133, 134] (by decide +kernel) (by decide +kernel)
set_option maxRecDepth 20000 in
theorem gX8_init_X2_init_n32 : GoodIn wsX8_init (wsX2_init) := ggX8_init_X2_init
set_option maxRecDepth 20000 in
theorem ggX8_init_X3_init : GoodIn wsX8_init wsX3_init := goodIn_r _ [82, 83, 2, 3, 74, 84, 85, 86, 87, 88, 89, 90, 91, 92, 28, 93, 135, 136, 137, 138, 139, 140, 141, 142, 143, 144, 145, 146] (by decide +kernel) (by decide +kernel)
set_option maxRecDepth 20000 in
theorem gX8_init_X3_init_n39 : GoodIn wsX8_init (wsX3_init) := ggX8_init_X3_init
set_option maxRecDepth 20000 in
theorem ggX8_init_X0_init : GoodIn wsX8_init wsX0_init := goodIn_r _ [95, 96, 2, 3, 74, 97, 147, 148] (by decide +kernel) (by decide +kernel)
set_option maxRecDepth 20000 in
theorem gX8_init_X0_init_n46 : GoodIn wsX8_init (wsX0_init) := ggX8_init_X0_init
theorem dX8_init_0 : decode cX8_init 0 = .ok (.aload_n 0, 1) := by decide +kernel
theorem dX8_init_1 : decode cX8_init 1 = .ok (.invokespecial 3, 3) := by decide +kernel
theorem dX8_init_4 : decode cX8_init 4 = .ok (.aload_n 0, 1) := by decide +kernel
theorem dX8_init_5 : decode cX8_init 5 = .ok (.new 9, 3) := by decide +kernel
theorem dX8_init_8 : decode cX8_init 8 = .ok (.dup, 1) := by decide +kernel
theorem dX8_init_9 : decode cX8_init 9 = .ok (.invokespecial 11, 3) := by decide +kernel
theorem dX8_init_12 : decode cX8_init 12 = .ok (.putfield 12, 3) := by decide +kernel
theorem dX8_init_15 : decode cX8_init 15 = .ok (.aload_n 0, 1) := by decide +kernel
theorem dX8_init_16 : decode cX8_init 16 = .ok (.new 16, 3) := by decide +kernel
theorem dX8_init_19 : decode cX8_init 19 = .ok (.dup, 1) := by decide +kernel
theorem dX8_init_20 : decode cX8_init 20 = .ok (.invokespecial 18, 3) := by decide +kernel
theorem dX8_init_23 : decode cX8_init 23 = .ok (.putfield 19, 3) := by decide +kernel
theorem dX8_init_26 : decode cX8_init 26 = .ok (.aload_n 0, 1) := by decide +kernel
theorem dX8_init_27 : decode cX8_init 27 = .ok (.new 23, 3) := by decide +kernel
theorem dX8_init_30 : decode cX8_init 30 = .ok (.dup, 1) := by decide +kernel
theorem dX8_init_31 : decode cX8_init 31 = .ok (.invokespecial 25, 3) := by decide +kernel
theorem dX8_init_34 : decode cX8_init 34 = .ok (.putfield 26, 3) := by decide +kernel
theorem dX8_init_37 : decode cX8_init 37 = .ok (.aload_n 0, 1) := by decide +kernel
theorem dX8_init_38 : decode cX8_init 38 = .ok (.new 30, 3) := by decide +kernel
theorem dX8_init_41 : decode cX8_init 41 = .ok (.dup, 1) := by decide +kernel
theorem dX8_init_42 : decode cX8_init 42 = .ok (.invokespecial 32, 3) := by decide +kernel
theorem dX8_init_45 : decode cX8_init 45 = .ok (.putfield 33, 3) := by decide +kernel
theorem dX8_init_48 : decode cX8_init 48 = .ok (.aload_n 0, 1) := by decide +kernel
theorem dX8_init_49 : decode cX8_init 49 = .ok (.new 37, 3) := by decide +kernel
theorem dX8_init_52 : decode cX8_init 52 = .ok (.dup, 1) := by decide +kernel
theorem dX8_init_53 : decode cX8_init 53 = .ok (.invokespecial 39, 3) := by decide +kernel
theorem dX8_init_56 : decode cX8_init 56 = .ok (.putfield 40, 3) := by decide +kernel
theorem dX8_init_59 : decode cX8_init 59 = .ok (.aload_n 0, 1) := by decide +kernel
theorem dX8_init_60 : decode cX8_init 60 = .ok (.new 44, 3) := by decide +kernel
theorem dX8_init_63 : decode cX8_init 63 = .ok (.dup, 1) := by decide +kernel
theorem dX8_init_64 : decode cX8_init 64 = .ok (.invokespecial 46, 3) := by decide +kernel
theorem dX8_init_67 : decode cX8_init 67 = .ok (.putfield 47, 3) := by decide +kernel
theorem dX8_init_70 : decode cX8_init 70 = .ok (.aload_n 0, 1) := by decide +kernel
theorem dX8_init_71 : decode cX8_init 71 = .ok (.bipush 60, 2) := by decide +kernel
theorem dX8_init_73 : decode cX8_init 73 = .ok (.newarray .int, 2) := by decide +kernel
theorem dX8_init_75 : decode cX8_init 75 = .ok (.putfield 51, 3) := by decide +kernel
theorem dX8_init_78 : decode cX8_init 78 = .ok (.aload_n 0, 1) := by decide +kernel
theorem dX8_init_79 : decode cX8_init 79 = .ok (.bipush 18, 2) := by decide +kernel
theorem dX8_init_81 : decode cX8_init 81 = .ok (.newarray .int, 2) := by decide +kernel
theorem dX8_init_83 : decode cX8_init 83 = .ok (.putfield 55, 3) := by decide +kernel
theorem dX8_init_86 : decode cX8_init 86 = .ok (.return_, 1) := by decide +kernel
theorem dX8_status_0 : decode cX8_status 0 = .ok (.aload_n 0, 1) := by decide +kernel
theorem dX8_status_1 : decode cX8_status 1 = .ok (.getfield 58, 3) := by decide +kernel
theorem dX8_status_4 : decode cX8_status 4 = .ok (.ireturn, 1) := by decide +kernel
set_option maxRecDepth 20000 in
theorem ggX8_sheet_X5_known : GoodIn wsX8_sheet wsX5_known := goodIn_r _ [5] (by decide +kernel) (by decide +kernel)
set_option maxRecDepth 20000 in
theorem gX8_sheet_X5_known : GoodIn wsX8_sheet (va_wsS RX8 62 yX5_known wsX5_known) := goodIn_app (goodIn_of _ (by decide +kernel)) ggX8_sheet_X5_known
set_option maxRecDepth 20000 in
theorem ggX8_sheet_X8_within : GoodIn wsX8_sheet wsX8_within := goodIn_r _ [9] (by decide +kernel) (by decide +kernel)
set_option maxRecDepth 20000 in
theorem gX8_sheet_X8_within : GoodIn wsX8_sheet (va_wsS RX8 66 yX8_within wsX8_within) := goodIn_app (goodIn_of _ (by decide +kernel)) ggX8_sheet_X8_within
set_option maxRecDepth 20000 in
theorem ggX8_sheet_X8_denied : GoodIn wsX8_sheet wsX8_denied := goodIn_r _ [13, 14, 27, 28, 29, 30, 31, 32, 33, 34, 35, 36, 37, 38] (by decide +kernel) (by decide +kernel)
set_option maxRecDepth 20000 in
theorem gX8_sheet_X8_denied : GoodIn wsX8_sheet (wsV RX8 70 RX8 yX8_denied wsX8_denied) := goodIn_app (goodIn_of _ (by decide +kernel)) ggX8_sheet_X8_denied
set_option maxRecDepth 20000 in
theorem ggX8_sheet_X5_lay : GoodIn wsX8_sheet wsX5_lay := goodIn_r _ [18, 19, 20, 21, 22, 3, 4, 5, 39, 40, 41] (by decide +kernel) (by decide +kernel)
set_option maxRecDepth 20000 in
theorem gX8_sheet_X5_lay : GoodIn wsX8_sheet (wsV RX8 73 RX5 yX5_lay wsX5_lay) := goodIn_app (goodIn_of _ (by decide +kernel)) ggX8_sheet_X5_lay
set_option maxRecDepth 20000 in
theorem ggX8_sheet_X8_granted : GoodIn wsX8_sheet wsX8_granted := goodIn_r _ [26, 14, 27, 28, 29, 30, 31, 32, 33, 34, 35, 36, 37, 38] (by decide +kernel) (by decide +kernel)
set_option maxRecDepth 20000 in
theorem gX8_sheet_X8_granted : GoodIn wsX8_sheet (wsV RX8 77 RX8 yX8_granted wsX8_granted) := goodIn_app (goodIn_of _ (by decide +kernel)) ggX8_sheet_X8_granted
theorem dX8_sheet_0 : decode cX8_sheet 0 = .ok (.iload_n 1, 1) := by decide +kernel
theorem dX8_sheet_1 : decode cX8_sheet 1 = .ok (.invokestatic 62, 3) := by decide +kernel
theorem dX8_sheet_4 : decode cX8_sheet 4 = .ok (.ifCond .eq 12, 3) := by decide +kernel
theorem dX8_sheet_7 : decode cX8_sheet 7 = .ok (.iload_n 2, 1) := by decide +kernel
theorem dX8_sheet_8 : decode cX8_sheet 8 = .ok (.iconst 0, 1) := by decide +kernel
theorem dX8_sheet_9 : decode cX8_sheet 9 = .ok (.iconst 2, 1) := by decide +kernel
theorem dX8_sheet_10 : decode cX8_sheet 10 = .ok (.invokestatic 66, 3) := by decide +kernel
theorem dX8_sheet_13 : decode cX8_sheet 13 = .ok (.ifCond .ne 9, 3) := by decide +kernel
theorem dX8_sheet_16 : decode cX8_sheet 16 = .ok (.aload_n 0, 1) := by decide +kernel
theorem dX8_sheet_17 : decode cX8_sheet 17 = .ok (.iconst 1, 1) := by decide +kernel
theorem dX8_sheet_18 : decode cX8_sheet 18 = .ok (.invokevirtual 70, 3) := by decide +kernel
theorem dX8_sheet_21 : decode cX8_sheet 21 = .ok (.ireturn, 1) := by decide +kernel
theorem dX8_sheet_22 : decode cX8_sheet 22 = .ok (.iload_n 3, 1) := by decide +kernel
theorem dX8_sheet_23 : decode cX8_sheet 23 = .ok (.bipush 64, 2) := by decide +kernel
theorem dX8_sheet_25 : decode cX8_sheet 25 = .ok (.if_icmp .le 9, 3) := by decide +kernel
theorem dX8_sheet_28 : decode cX8_sheet 28 = .ok (.aload_n 0, 1) := by decide +kernel
theorem dX8_sheet_29 : decode cX8_sheet 29 = .ok (.iconst 2, 1) := by decide +kernel
theorem dX8_sheet_30 : decode cX8_sheet 30 = .ok (.invokevirtual 70, 3) := by decide +kernel
theorem dX8_sheet_33 : decode cX8_sheet 33 = .ok (.ireturn, 1) := by decide +kernel
theorem dX8_sheet_34 : decode cX8_sheet 34 = .ok (.iload_n 3, 1) := by decide +kernel
theorem dX8_sheet_35 : decode cX8_sheet 35 = .ok (.ifCond .ge 10, 3) := by decide +kernel
theorem dX8_sheet_38 : decode cX8_sheet 38 = .ok (.aload_n 0, 1) := by decide +kernel
theorem dX8_sheet_39 : decode cX8_sheet 39 = .ok (.bipush 6, 2) := by decide +kernel
theorem dX8_sheet_41 : decode cX8_sheet 41 = .ok (.invokevirtual 70, 3) := by decide +kernel
theorem dX8_sheet_44 : decode cX8_sheet 44 = .ok (.ireturn, 1) := by decide +kernel
theorem dX8_sheet_45 : decode cX8_sheet 45 = .ok (.aload_n 0, 1) := by decide +kernel
theorem dX8_sheet_46 : decode cX8_sheet 46 = .ok (.getfield 12, 3) := by decide +kernel
theorem dX8_sheet_49 : decode cX8_sheet 49 = .ok (.iload_n 1, 1) := by decide +kernel
theorem dX8_sheet_50 : decode cX8_sheet 50 = .ok (.iload_n 2, 1) := by decide +kernel
theorem dX8_sheet_51 : decode cX8_sheet 51 = .ok (.iload_n 3, 1) := by decide +kernel
theorem dX8_sheet_52 : decode cX8_sheet 52 = .ok (.invokevirtual 73, 3) := by decide +kernel
theorem dX8_sheet_55 : decode cX8_sheet 55 = .ok (.aload_n 0, 1) := by decide +kernel
theorem dX8_sheet_56 : decode cX8_sheet 56 = .ok (.invokevirtual 77, 3) := by decide +kernel
theorem dX8_sheet_59 : decode cX8_sheet 59 = .ok (.ireturn, 1) := by decide +kernel
set_option maxRecDepth 20000 in
theorem ggX8_write_X8_placeFault : GoodIn wsX8_write wsX8_placeFault := goodIn_r _ [6, 1, 7, 8, 9, 5, 10, 11, 12, 13, 14, 15, 16, 17, 18, 19, 20, 21, 22, 23, 24, 41, 42, 43, 44, 45, 46, 47, 48, 49, 50, 51, 52, 53, 54, 55] (by decide +kernel) (by decide +kernel)
set_option maxRecDepth 20000 in
theorem gX8_write_X8_placeFault : GoodIn wsX8_write (wsV RX8 81 RX8 yX8_placeFault wsX8_placeFault) := goodIn_app (goodIn_of _ (by decide +kernel)) ggX8_write_X8_placeFault
set_option maxRecDepth 20000 in
theorem ggX8_write_X8_denied : GoodIn wsX8_write wsX8_denied := goodIn_r _ [28, 29, 41, 42, 43, 44, 45, 46, 47, 48, 49, 50, 51, 52] (by decide +kernel) (by decide +kernel)
set_option maxRecDepth 20000 in
theorem gX8_write_X8_denied : GoodIn wsX8_write (wsV RX8 70 RX8 yX8_denied wsX8_denied) := goodIn_app (goodIn_of _ (by decide +kernel)) ggX8_write_X8_denied
set_option maxRecDepth 20000 in
theorem ggX8_write_X5_put : GoodIn wsX8_write wsX5_put := goodIn_r _ [33, 34, 35, 36, 22, 23, 13, 24, 19, 20, 12, 14, 53, 54, 55] (by decide +kernel) (by decide +kernel)
set_option maxRecDepth 20000 in
theorem gX8_write_X5_put : GoodIn wsX8_write (wsV RX8 85 RX5 yX5_put wsX5_put) := goodIn_app (goodIn_of _ (by decide +kernel)) ggX8_write_X5_put
set_option maxRecDepth 20000 in
theorem ggX8_write_X8_granted : GoodIn wsX8_write wsX8_granted := goodIn_r _ [40, 29, 41, 42, 43, 44, 45, 46, 47, 48, 49, 50, 51, 52] (by decide +kernel) (by decide +kernel)
set_option maxRecDepth 20000 in
theorem gX8_write_X8_granted : GoodIn wsX8_write (wsV RX8 77 RX8 yX8_granted wsX8_granted) := goodIn_app (goodIn_of _ (by decide +kernel)) ggX8_write_X8_granted
theorem dX8_write_0 : decode cX8_write 0 = .ok (.aload_n 0, 1) := by decide +kernel
theorem dX8_write_1 : decode cX8_write 1 = .ok (.iload_n 1, 1) := by decide +kernel
theorem dX8_write_2 : decode cX8_write 2 = .ok (.iload_n 2, 1) := by decide +kernel
theorem dX8_write_3 : decode cX8_write 3 = .ok (.invokevirtual 81, 3) := by decide +kernel
theorem dX8_write_6 : decode cX8_write 6 = .ok (.istore 4, 2) := by decide +kernel
theorem dX8_write_8 : decode cX8_write 8 = .ok (.iload 4, 2) := by decide +kernel
theorem dX8_write_10 : decode cX8_write 10 = .ok (.ifCond .eq 10, 3) := by decide +kernel
theorem dX8_write_13 : decode cX8_write 13 = .ok (.aload_n 0, 1) := by decide +kernel
theorem dX8_write_14 : decode cX8_write 14 = .ok (.iload 4, 2) := by decide +kernel
theorem dX8_write_16 : decode cX8_write 16 = .ok (.invokevirtual 70, 3) := by decide +kernel
theorem dX8_write_19 : decode cX8_write 19 = .ok (.ireturn, 1) := by decide +kernel
theorem dX8_write_20 : decode cX8_write 20 = .ok (.aload_n 0, 1) := by decide +kernel
theorem dX8_write_21 : decode cX8_write 21 = .ok (.getfield 12, 3) := by decide +kernel
theorem dX8_write_24 : decode cX8_write 24 = .ok (.iload_n 1, 1) := by decide +kernel
theorem dX8_write_25 : decode cX8_write 25 = .ok (.iload_n 2, 1) := by decide +kernel
theorem dX8_write_26 : decode cX8_write 26 = .ok (.iload_n 3, 1) := by decide +kernel
theorem dX8_write_27 : decode cX8_write 27 = .ok (.invokevirtual 85, 3) := by decide +kernel
theorem dX8_write_30 : decode cX8_write 30 = .ok (.aload_n 0, 1) := by decide +kernel
theorem dX8_write_31 : decode cX8_write 31 = .ok (.invokevirtual 77, 3) := by decide +kernel
theorem dX8_write_34 : decode cX8_write 34 = .ok (.ireturn, 1) := by decide +kernel
set_option maxRecDepth 20000 in
theorem ggX8_read_X8_placeFault : GoodIn wsX8_read wsX8_placeFault := goodIn_r _ [6, 1, 7, 8, 9, 5, 10, 11, 12, 13, 14, 15, 16, 17, 18, 19, 20, 21, 22, 23, 24, 40, 41, 42, 43, 44, 45, 46, 47, 48, 49, 50, 51, 52, 53, 54] (by decide +kernel) (by decide +kernel)
set_option maxRecDepth 20000 in
theorem gX8_read_X8_placeFault : GoodIn wsX8_read (wsV RX8 81 RX8 yX8_placeFault wsX8_placeFault) := goodIn_app (goodIn_of _ (by decide +kernel)) ggX8_read_X8_placeFault
set_option maxRecDepth 20000 in
theorem ggX8_read_X8_refused : GoodIn wsX8_read wsX8_refused := goodIn_r _ [28, 29, 40, 41, 42, 43, 44, 45, 46, 47, 48, 49, 50, 51] (by decide +kernel) (by decide +kernel)
set_option maxRecDepth 20000 in
theorem gX8_read_X8_refused : GoodIn wsX8_read (wsV RX8 88 RX8 yX8_refused wsX8_refused) := goodIn_app (goodIn_of _ (by decide +kernel)) ggX8_read_X8_refused
set_option maxRecDepth 20000 in
theorem ggX8_read_X5_at : GoodIn wsX8_read wsX5_at := goodIn_r _ [33, 34, 35, 22, 23, 13, 24, 19, 20, 12, 14, 52, 53, 54] (by decide +kernel) (by decide +kernel)
set_option maxRecDepth 20000 in
theorem gX8_read_X5_at : GoodIn wsX8_read (wsV RX8 92 RX5 yX5_at wsX5_at) := goodIn_app (goodIn_of _ (by decide +kernel)) ggX8_read_X5_at
set_option maxRecDepth 20000 in
theorem ggX8_read_X8_given : GoodIn wsX8_read wsX8_given := goodIn_r _ [39, 29, 40, 41, 42, 43, 44, 45, 46, 47, 48, 49, 50, 51] (by decide +kernel) (by decide +kernel)
set_option maxRecDepth 20000 in
theorem gX8_read_X8_given : GoodIn wsX8_read (wsV RX8 95 RX8 yX8_given wsX8_given) := goodIn_app (goodIn_of _ (by decide +kernel)) ggX8_read_X8_given
theorem dX8_read_0 : decode cX8_read 0 = .ok (.aload_n 0, 1) := by decide +kernel
theorem dX8_read_1 : decode cX8_read 1 = .ok (.iload_n 1, 1) := by decide +kernel
theorem dX8_read_2 : decode cX8_read 2 = .ok (.iload_n 2, 1) := by decide +kernel
theorem dX8_read_3 : decode cX8_read 3 = .ok (.invokevirtual 81, 3) := by decide +kernel
theorem dX8_read_6 : decode cX8_read 6 = .ok (.istore_n 3, 1) := by decide +kernel
theorem dX8_read_7 : decode cX8_read 7 = .ok (.iload_n 3, 1) := by decide +kernel
theorem dX8_read_8 : decode cX8_read 8 = .ok (.ifCond .eq 9, 3) := by decide +kernel
theorem dX8_read_11 : decode cX8_read 11 = .ok (.aload_n 0, 1) := by decide +kernel
theorem dX8_read_12 : decode cX8_read 12 = .ok (.iload_n 3, 1) := by decide +kernel
theorem dX8_read_13 : decode cX8_read 13 = .ok (.invokevirtual 88, 3) := by decide +kernel
theorem dX8_read_16 : decode cX8_read 16 = .ok (.ireturn, 1) := by decide +kernel
theorem dX8_read_17 : decode cX8_read 17 = .ok (.aload_n 0, 1) := by decide +kernel
theorem dX8_read_18 : decode cX8_read 18 = .ok (.aload_n 0, 1) := by decide +kernel
theorem dX8_read_19 : decode cX8_read 19 = .ok (.getfield 12, 3) := by decide +kernel
theorem dX8_read_22 : decode cX8_read 22 = .ok (.iload_n 1, 1) := by decide +kernel
theorem dX8_read_23 : decode cX8_read 23 = .ok (.iload_n 2, 1) := by decide +kernel
theorem dX8_read_24 : decode cX8_read 24 = .ok (.invokevirtual 92, 3) := by decide +kernel
theorem dX8_read_27 : decode cX8_read 27 = .ok (.invokevirtual 95, 3) := by decide +kernel
theorem dX8_read_30 : decode cX8_read 30 = .ok (.ireturn, 1) := by decide +kernel
set_option maxRecDepth 20000 in
theorem ggX8_pour_X5_known : GoodIn wsX8_pour wsX5_known := goodIn_r _ [5] (by decide +kernel) (by decide +kernel)
set_option maxRecDepth 20000 in
theorem gX8_pour_X5_known : GoodIn wsX8_pour (va_wsS RX8 62 yX5_known wsX5_known) := goodIn_app (goodIn_of _ (by decide +kernel)) ggX8_pour_X5_known
set_option maxRecDepth 20000 in
theorem ggX8_pour_X8_denied : GoodIn wsX8_pour wsX8_denied := goodIn_r _ [10, 11, 41, 42, 43, 44, 45, 46, 47, 48, 49, 50, 51, 52] (by decide +kernel) (by decide +kernel)
set_option maxRecDepth 20000 in
theorem gX8_pour_X8_denied : GoodIn wsX8_pour (wsV RX8 70 RX8 yX8_denied wsX8_denied) := goodIn_app (goodIn_of _ (by decide +kernel)) ggX8_pour_X8_denied
set_option maxRecDepth 20000 in
theorem ggX8_pour_X5_missing : GoodIn wsX8_pour wsX5_missing := goodIn_r _ [15, 16, 17, 3, 4, 5, 53, 54, 55] (by decide +kernel) (by decide +kernel)
set_option maxRecDepth 20000 in
theorem gX8_pour_X5_missing : GoodIn wsX8_pour (wsV RX8 98 RX5 yX5_missing wsX5_missing) := goodIn_app (goodIn_of _ (by decide +kernel)) ggX8_pour_X5_missing
set_option maxRecDepth 20000 in
theorem ggX8_pour_X5_sortOf : GoodIn wsX8_pour wsX5_sortOf := goodIn_r _ [21, 22, 17, 3, 4, 5, 53, 54, 55] (by decide +kernel) (by decide +kernel)
set_option maxRecDepth 20000 in
theorem gX8_pour_X5_sortOf : GoodIn wsX8_pour (wsV RX8 101 RX5 yX5_sortOf wsX5_sortOf) := goodIn_app (goodIn_of _ (by decide +kernel)) ggX8_pour_X5_sortOf
set_option maxRecDepth 20000 in
theorem ggX8_pour_X5_holds : GoodIn wsX8_pour wsX5_holds := goodIn_r _ [26, 16, 17, 3, 4, 5, 53, 54, 55] (by decide +kernel) (by decide +kernel)
set_option maxRecDepth 20000 in
theorem gX8_pour_X5_holds : GoodIn wsX8_pour (wsV RX8 104 RX5 yX5_holds wsX5_holds) := goodIn_app (goodIn_of _ (by decide +kernel)) ggX8_pour_X5_holds
set_option maxRecDepth 20000 in
theorem ggX8_pour_X5_move : GoodIn wsX8_pour wsX5_move := goodIn_r _ [30, 31, 32, 33, 34, 35, 36, 24, 25, 4, 26, 16, 17, 3, 5, 53, 54, 55] (by decide +kernel) (by decide +kernel)
set_option maxRecDepth 20000 in
theorem gX8_pour_X5_move : GoodIn wsX8_pour (wsV RX8 107 RX5 yX5_move wsX5_move) := goodIn_app (goodIn_of _ (by decide +kernel)) ggX8_pour_X5_move
set_option maxRecDepth 20000 in
theorem ggX8_pour_X8_granted : GoodIn wsX8_pour wsX8_granted := goodIn_r _ [40, 11, 41, 42, 43, 44, 45, 46, 47, 48, 49, 50, 51, 52] (by decide +kernel) (by decide +kernel)
set_option maxRecDepth 20000 in
theorem gX8_pour_X8_granted : GoodIn wsX8_pour (wsV RX8 77 RX8 yX8_granted wsX8_granted) := goodIn_app (goodIn_of _ (by decide +kernel)) ggX8_pour_X8_granted
theorem dX8_pour_0 : decode cX8_pour 0 = .ok (.iload_n 1, 1) := by decide +kernel
theorem dX8_pour_1 : decode cX8_pour 1 = .ok (.invokestatic 62, 3) := by decide +kernel
theorem dX8_pour_4 : decode cX8_pour 4 = .ok (.ifCond .eq 10, 3) := by decide +kernel
theorem dX8_pour_7 : decode cX8_pour 7 = .ok (.iload_n 3, 1) := by decide +kernel
theorem dX8_pour_8 : decode cX8_pour 8 = .ok (.invokestatic 62, 3) := by decide +kernel
theorem dX8_pour_11 : decode cX8_pour 11 = .ok (.ifCond .ne 9, 3) := by decide +kernel
theorem dX8_pour_14 : decode cX8_pour 14 = .ok (.aload_n 0, 1) := by decide +kernel
theorem dX8_pour_15 : decode cX8_pour 15 = .ok (.iconst 1, 1) := by decide +kernel
theorem dX8_pour_16 : decode cX8_pour 16 = .ok (.invokevirtual 70, 3) := by decide +kernel
theorem dX8_pour_19 : decode cX8_pour 19 = .ok (.ireturn, 1) := by decide +kernel
theorem dX8_pour_20 : decode cX8_pour 20 = .ok (.aload_n 0, 1) := by decide +kernel
theorem dX8_pour_21 : decode cX8_pour 21 = .ok (.getfield 12, 3) := by decide +kernel
theorem dX8_pour_24 : decode cX8_pour 24 = .ok (.iload_n 1, 1) := by decide +kernel
theorem dX8_pour_25 : decode cX8_pour 25 = .ok (.invokevirtual 98, 3) := by decide +kernel
theorem dX8_pour_28 : decode cX8_pour 28 = .ok (.ifCond .ne 14, 3) := by decide +kernel
theorem dX8_pour_31 : decode cX8_pour 31 = .ok (.aload_n 0, 1) := by decide +kernel
theorem dX8_pour_32 : decode cX8_pour 32 = .ok (.getfield 12, 3) := by decide +kernel
theorem dX8_pour_35 : decode cX8_pour 35 = .ok (.iload_n 3, 1) := by decide +kernel
theorem dX8_pour_36 : decode cX8_pour 36 = .ok (.invokevirtual 98, 3) := by decide +kernel
theorem dX8_pour_39 : decode cX8_pour 39 = .ok (.ifCond .eq 9, 3) := by decide +kernel
theorem dX8_pour_42 : decode cX8_pour 42 = .ok (.aload_n 0, 1) := by decide +kernel
theorem dX8_pour_43 : decode cX8_pour 43 = .ok (.iconst 3, 1) := by decide +kernel
theorem dX8_pour_44 : decode cX8_pour 44 = .ok (.invokevirtual 70, 3) := by decide +kernel
theorem dX8_pour_47 : decode cX8_pour 47 = .ok (.ireturn, 1) := by decide +kernel
theorem dX8_pour_48 : decode cX8_pour 48 = .ok (.aload_n 0, 1) := by decide +kernel
theorem dX8_pour_49 : decode cX8_pour 49 = .ok (.getfield 12, 3) := by decide +kernel
theorem dX8_pour_52 : decode cX8_pour 52 = .ok (.iload_n 1, 1) := by decide +kernel
theorem dX8_pour_53 : decode cX8_pour 53 = .ok (.invokevirtual 101, 3) := by decide +kernel
theorem dX8_pour_56 : decode cX8_pour 56 = .ok (.aload_n 0, 1) := by decide +kernel
theorem dX8_pour_57 : decode cX8_pour 57 = .ok (.getfield 12, 3) := by decide +kernel
theorem dX8_pour_60 : decode cX8_pour 60 = .ok (.iload_n 3, 1) := by decide +kernel
theorem dX8_pour_61 : decode cX8_pour 61 = .ok (.invokevirtual 101, 3) := by decide +kernel
theorem dX8_pour_64 : decode cX8_pour 64 = .ok (.if_icmp .eq 10, 3) := by decide +kernel
theorem dX8_pour_67 : decode cX8_pour 67 = .ok (.aload_n 0, 1) := by decide +kernel
theorem dX8_pour_68 : decode cX8_pour 68 = .ok (.bipush 11, 2) := by decide +kernel
theorem dX8_pour_70 : decode cX8_pour 70 = .ok (.invokevirtual 70, 3) := by decide +kernel
theorem dX8_pour_73 : decode cX8_pour 73 = .ok (.ireturn, 1) := by decide +kernel
theorem dX8_pour_74 : decode cX8_pour 74 = .ok (.iload 5, 2) := by decide +kernel
theorem dX8_pour_76 : decode cX8_pour 76 = .ok (.ifCond .ge 10, 3) := by decide +kernel
theorem dX8_pour_79 : decode cX8_pour 79 = .ok (.aload_n 0, 1) := by decide +kernel
theorem dX8_pour_80 : decode cX8_pour 80 = .ok (.bipush 6, 2) := by decide +kernel
theorem dX8_pour_82 : decode cX8_pour 82 = .ok (.invokevirtual 70, 3) := by decide +kernel
theorem dX8_pour_85 : decode cX8_pour 85 = .ok (.ireturn, 1) := by decide +kernel
theorem dX8_pour_86 : decode cX8_pour 86 = .ok (.aload_n 0, 1) := by decide +kernel
theorem dX8_pour_87 : decode cX8_pour 87 = .ok (.getfield 12, 3) := by decide +kernel
theorem dX8_pour_90 : decode cX8_pour 90 = .ok (.iload_n 1, 1) := by decide +kernel
theorem dX8_pour_91 : decode cX8_pour 91 = .ok (.iload_n 2, 1) := by decide +kernel
theorem dX8_pour_92 : decode cX8_pour 92 = .ok (.iload 5, 2) := by decide +kernel
theorem dX8_pour_94 : decode cX8_pour 94 = .ok (.invokevirtual 104, 3) := by decide +kernel
theorem dX8_pour_97 : decode cX8_pour 97 = .ok (.ifCond .eq 18, 3) := by decide +kernel
theorem dX8_pour_100 : decode cX8_pour 100 = .ok (.aload_n 0, 1) := by decide +kernel
theorem dX8_pour_101 : decode cX8_pour 101 = .ok (.getfield 12, 3) := by decide +kernel
theorem dX8_pour_104 : decode cX8_pour 104 = .ok (.iload_n 3, 1) := by decide +kernel
theorem dX8_pour_105 : decode cX8_pour 105 = .ok (.iload 4, 2) := by decide +kernel
theorem dX8_pour_107 : decode cX8_pour 107 = .ok (.iload 5, 2) := by decide +kernel
theorem dX8_pour_109 : decode cX8_pour 109 = .ok (.invokevirtual 104, 3) := by decide +kernel
theorem dX8_pour_112 : decode cX8_pour 112 = .ok (.ifCond .ne 9, 3) := by decide +kernel
theorem dX8_pour_115 : decode cX8_pour 115 = .ok (.aload_n 0, 1) := by decide +kernel
theorem dX8_pour_116 : decode cX8_pour 116 = .ok (.iconst 4, 1) := by decide +kernel
theorem dX8_pour_117 : decode cX8_pour 117 = .ok (.invokevirtual 70, 3) := by decide +kernel
theorem dX8_pour_120 : decode cX8_pour 120 = .ok (.ireturn, 1) := by decide +kernel
theorem dX8_pour_121 : decode cX8_pour 121 = .ok (.aload_n 0, 1) := by decide +kernel
theorem dX8_pour_122 : decode cX8_pour 122 = .ok (.getfield 12, 3) := by decide +kernel
theorem dX8_pour_125 : decode cX8_pour 125 = .ok (.iload_n 1, 1) := by decide +kernel
theorem dX8_pour_126 : decode cX8_pour 126 = .ok (.iload_n 2, 1) := by decide +kernel
theorem dX8_pour_127 : decode cX8_pour 127 = .ok (.iload_n 3, 1) := by decide +kernel
theorem dX8_pour_128 : decode cX8_pour 128 = .ok (.iload 4, 2) := by decide +kernel
theorem dX8_pour_130 : decode cX8_pour 130 = .ok (.iload 5, 2) := by decide +kernel
theorem dX8_pour_132 : decode cX8_pour 132 = .ok (.invokevirtual 107, 3) := by decide +kernel
theorem dX8_pour_135 : decode cX8_pour 135 = .ok (.aload_n 0, 1) := by decide +kernel
theorem dX8_pour_136 : decode cX8_pour 136 = .ok (.invokevirtual 77, 3) := by decide +kernel
theorem dX8_pour_139 : decode cX8_pour 139 = .ok (.ireturn, 1) := by decide +kernel
set_option maxRecDepth 20000 in
theorem ggX8_steps_X8_sheetFault : GoodIn wsX8_steps wsX8_sheetFault := goodIn_r _ [7, 1, 8, 9, 10, 11, 12, 13, 14, 15, 16, 17, 73, 74, 75, 76, 77, 78, 79, 80, 81, 82, 83, 84, 85, 86, 87] (by decide +kernel) (by decide +kernel)
set_option maxRecDepth 20000 in
theorem gX8_steps_X8_sheetFault : GoodIn wsX8_steps (wsV RX8 111 RX8 yX8_sheetFault wsX8_sheetFault) := goodIn_app (goodIn_of _ (by decide +kernel)) ggX8_steps_X8_sheetFault
set_option maxRecDepth 20000 in
theorem ggX8_steps_X8_denied : GoodIn wsX8_steps wsX8_denied := goodIn_r _ [21, 22, 73, 74, 75, 76, 77, 78, 79, 80, 81, 82, 83, 84] (by decide +kernel) (by decide +kernel)
set_option maxRecDepth 20000 in
theorem gX8_steps_X8_denied : GoodIn wsX8_steps (wsV RX8 70 RX8 yX8_denied wsX8_denied) := goodIn_app (goodIn_of _ (by decide +kernel)) ggX8_steps_X8_denied
set_option maxRecDepth 20000 in
theorem ggX8_steps_X8_within : GoodIn wsX8_steps wsX8_within := goodIn_r _ [25] (by decide +kernel) (by decide +kernel)
set_option maxRecDepth 20000 in
theorem gX8_steps_X8_within : GoodIn wsX8_steps (va_wsS RX8 66 yX8_within wsX8_within) := goodIn_app (goodIn_of _ (by decide +kernel)) ggX8_steps_X8_within
set_option maxRecDepth 20000 in
theorem ggX8_steps_X5_holds : GoodIn wsX8_steps wsX5_holds := goodIn_r _ [29, 16, 17, 9, 10, 11, 85, 86, 87] (by decide +kernel) (by decide +kernel)
set_option maxRecDepth 20000 in
theorem gX8_steps_X5_holds : GoodIn wsX8_steps (wsV RX8 104 RX5 yX5_holds wsX5_holds) := goodIn_app (goodIn_of _ (by decide +kernel)) ggX8_steps_X5_holds
set_option maxRecDepth 20000 in
theorem ggX8_steps_X8_areSteps : GoodIn wsX8_steps wsX8_areSteps := goodIn_r _ [33, 1, 34, 35, 36, 10, 37, 38, 39, 27, 28, 29, 16, 17, 9, 11, 23, 24, 6, 25, 73, 74, 75, 76, 77, 78, 79, 80, 81, 82, 83, 84, 85, 86, 87] (by decide +kernel) (by decide +kernel)
set_option maxRecDepth 20000 in
theorem gX8_steps_X8_areSteps : GoodIn wsX8_steps (wsV RX8 114 RX8 yX8_areSteps wsX8_areSteps) := goodIn_app (goodIn_of _ (by decide +kernel)) ggX8_steps_X8_areSteps
set_option maxRecDepth 20000 in
theorem ggX8_steps_X5_at : GoodIn wsX8_steps wsX5_at := goodIn_r _ [37, 38, 39, 27, 28, 10, 29, 16, 17, 9, 11, 85, 86, 87] (by decide +kernel) (by decide +kernel)
set_option maxRecDepth 20000 in
theorem gX8_steps_X5_at : GoodIn wsX8_steps (wsV RX8 92 RX5 yX5_at wsX5_at) := goodIn_app (goodIn_of _ (by decide +kernel)) ggX8_steps_X5_at
set_option maxRecDepth 20000 in
theorem ggX8_steps_X4_setStep : GoodIn wsX8_steps wsX4_setStep := goodIn_r _ [44, 45, 46, 47, 48, 88, 89, 90, 91, 92, 93, 94, 95, 96, 97, 98, 99, 100, 101, 102] (by decide +kernel) (by decide +kernel)
set_option maxRecDepth 20000 in
theorem gX8_steps_X4_setStep : GoodIn wsX8_steps (wsV RX8 118 RX4 yX4_setStep wsX4_setStep) := goodIn_app (goodIn_of _ (by decide +kernel)) ggX8_steps_X4_setStep
set_option maxRecDepth 20000 in
theorem ggX8_steps_X4_setStepCount : GoodIn wsX8_steps wsX4_setStepCount := goodIn_r _ [52, 53, 54, 55, 56, 57, 88, 89, 90, 91, 92, 93, 94, 95, 96, 97, 98, 99, 100, 101, 102] (by decide +kernel) (by decide +kernel)
set_option maxRecDepth 20000 in
theorem gX8_steps_X4_setStepCount : GoodIn wsX8_steps (wsV RX8 121 RX4 yX4_setStepCount wsX4_setStepCount) := goodIn_app (goodIn_of _ (by decide +kernel)) ggX8_steps_X4_setStepCount
set_option maxRecDepth 20000 in
theorem ggX8_steps_X8_forgetWays : GoodIn wsX8_steps wsX8_forgetWays := goodIn_r _ [61, 62, 63, 64, 65, 66, 67, 68, 73, 74, 75, 76, 77, 78, 79, 80, 81, 82, 83, 84, 103, 104, 105, 106] (by decide +kernel) (by decide +kernel)
set_option maxRecDepth 20000 in
theorem gX8_steps_X8_forgetWays : GoodIn wsX8_steps (wsV RX8 125 RX8 yX8_forgetWays wsX8_forgetWays) := goodIn_app (goodIn_of _ (by decide +kernel)) ggX8_steps_X8_forgetWays
set_option maxRecDepth 20000 in
theorem ggX8_steps_X8_granted : GoodIn wsX8_steps wsX8_granted := goodIn_r _ [72, 22, 73, 74, 75, 76, 77, 78, 79, 80, 81, 82, 83, 84] (by decide +kernel) (by decide +kernel)
set_option maxRecDepth 20000 in
theorem gX8_steps_X8_granted : GoodIn wsX8_steps (wsV RX8 77 RX8 yX8_granted wsX8_granted) := goodIn_app (goodIn_of _ (by decide +kernel)) ggX8_steps_X8_granted
theorem dX8_steps_0 : decode cX8_steps 0 = .ok (.aload_n 0, 1) := by decide +kernel
theorem dX8_steps_1 : decode cX8_steps 1 = .ok (.iload_n 1, 1) := by decide +kernel
theorem dX8_steps_2 : decode cX8_steps 2 = .ok (.invokevirtual 111, 3) := by decide +kernel
theorem dX8_steps_5 : decode cX8_steps 5 = .ok (.istore_n 3, 1) := by decide +kernel
theorem dX8_steps_6 : decode cX8_steps 6 = .ok (.iload_n 3, 1) := by decide +kernel
theorem dX8_steps_7 : decode cX8_steps 7 = .ok (.ifCond .eq 9, 3) := by decide +kernel
theorem dX8_steps_10 : decode cX8_steps 10 = .ok (.aload_n 0, 1) := by decide +kernel
theorem dX8_steps_11 : decode cX8_steps 11 = .ok (.iload_n 3, 1) := by decide +kernel
theorem dX8_steps_12 : decode cX8_steps 12 = .ok (.invokevirtual 70, 3) := by decide +kernel
theorem dX8_steps_15 : decode cX8_steps 15 = .ok (.ireturn, 1) := by decide +kernel
theorem dX8_steps_16 : decode cX8_steps 16 = .ok (.iload_n 2, 1) := by decide +kernel
theorem dX8_steps_17 : decode cX8_steps 17 = .ok (.iconst 1, 1) := by decide +kernel
theorem dX8_steps_18 : decode cX8_steps 18 = .ok (.bipush 8, 2) := by decide +kernel
theorem dX8_steps_20 : decode cX8_steps 20 = .ok (.invokestatic 66, 3) := by decide +kernel
theorem dX8_steps_23 : decode cX8_steps 23 = .ok (.ifCond .ne 9, 3) := by decide +kernel
theorem dX8_steps_26 : decode cX8_steps 26 = .ok (.aload_n 0, 1) := by decide +kernel
theorem dX8_steps_27 : decode cX8_steps 27 = .ok (.iconst 2, 1) := by decide +kernel
theorem dX8_steps_28 : decode cX8_steps 28 = .ok (.invokevirtual 70, 3) := by decide +kernel
theorem dX8_steps_31 : decode cX8_steps 31 = .ok (.ireturn, 1) := by decide +kernel
theorem dX8_steps_32 : decode cX8_steps 32 = .ok (.aload_n 0, 1) := by decide +kernel
theorem dX8_steps_33 : decode cX8_steps 33 = .ok (.getfield 12, 3) := by decide +kernel
theorem dX8_steps_36 : decode cX8_steps 36 = .ok (.iload_n 1, 1) := by decide +kernel
theorem dX8_steps_37 : decode cX8_steps 37 = .ok (.iconst 0, 1) := by decide +kernel
theorem dX8_steps_38 : decode cX8_steps 38 = .ok (.iconst 2, 1) := by decide +kernel
theorem dX8_steps_39 : decode cX8_steps 39 = .ok (.iload_n 2, 1) := by decide +kernel
theorem dX8_steps_40 : decode cX8_steps 40 = .ok (.imul, 1) := by decide +kernel
theorem dX8_steps_41 : decode cX8_steps 41 = .ok (.invokevirtual 104, 3) := by decide +kernel
theorem dX8_steps_44 : decode cX8_steps 44 = .ok (.ifCond .ne 9, 3) := by decide +kernel
theorem dX8_steps_47 : decode cX8_steps 47 = .ok (.aload_n 0, 1) := by decide +kernel
theorem dX8_steps_48 : decode cX8_steps 48 = .ok (.iconst 4, 1) := by decide +kernel
theorem dX8_steps_49 : decode cX8_steps 49 = .ok (.invokevirtual 70, 3) := by decide +kernel
theorem dX8_steps_52 : decode cX8_steps 52 = .ok (.ireturn, 1) := by decide +kernel
theorem dX8_steps_53 : decode cX8_steps 53 = .ok (.aload_n 0, 1) := by decide +kernel
theorem dX8_steps_54 : decode cX8_steps 54 = .ok (.iload_n 1, 1) := by decide +kernel
theorem dX8_steps_55 : decode cX8_steps 55 = .ok (.iload_n 2, 1) := by decide +kernel
theorem dX8_steps_56 : decode cX8_steps 56 = .ok (.invokevirtual 114, 3) := by decide +kernel
theorem dX8_steps_59 : decode cX8_steps 59 = .ok (.ifCond .ne 9, 3) := by decide +kernel
theorem dX8_steps_62 : decode cX8_steps 62 = .ok (.aload_n 0, 1) := by decide +kernel
theorem dX8_steps_63 : decode cX8_steps 63 = .ok (.iconst 2, 1) := by decide +kernel
theorem dX8_steps_64 : decode cX8_steps 64 = .ok (.invokevirtual 70, 3) := by decide +kernel
theorem dX8_steps_67 : decode cX8_steps 67 = .ok (.ireturn, 1) := by decide +kernel
theorem dX8_steps_68 : decode cX8_steps 68 = .ok (.iconst 0, 1) := by decide +kernel
theorem dX8_steps_69 : decode cX8_steps 69 = .ok (.istore 4, 2) := by decide +kernel
theorem dX8_steps_71 : decode cX8_steps 71 = .ok (.iload 4, 2) := by decide +kernel
theorem dX8_steps_73 : decode cX8_steps 73 = .ok (.iload_n 2, 1) := by decide +kernel
theorem dX8_steps_74 : decode cX8_steps 74 = .ok (.if_icmp .ge 44, 3) := by decide +kernel
theorem dX8_steps_77 : decode cX8_steps 77 = .ok (.aload_n 0, 1) := by decide +kernel
theorem dX8_steps_78 : decode cX8_steps 78 = .ok (.getfield 19, 3) := by decide +kernel
theorem dX8_steps_81 : decode cX8_steps 81 = .ok (.iload 4, 2) := by decide +kernel
theorem dX8_steps_83 : decode cX8_steps 83 = .ok (.aload_n 0, 1) := by decide +kernel
theorem dX8_steps_84 : decode cX8_steps 84 = .ok (.getfield 12, 3) := by decide +kernel
theorem dX8_steps_87 : decode cX8_steps 87 = .ok (.iload_n 1, 1) := by decide +kernel
theorem dX8_steps_88 : decode cX8_steps 88 = .ok (.iconst 2, 1) := by decide +kernel
theorem dX8_steps_89 : decode cX8_steps 89 = .ok (.iload 4, 2) := by decide +kernel
theorem dX8_steps_91 : decode cX8_steps 91 = .ok (.imul, 1) := by decide +kernel
theorem dX8_steps_92 : decode cX8_steps 92 = .ok (.invokevirtual 92, 3) := by decide +kernel
theorem dX8_steps_95 : decode cX8_steps 95 = .ok (.aload_n 0, 1) := by decide +kernel
theorem dX8_steps_96 : decode cX8_steps 96 = .ok (.getfield 12, 3) := by decide +kernel
theorem dX8_steps_99 : decode cX8_steps 99 = .ok (.iload_n 1, 1) := by decide +kernel
theorem dX8_steps_100 : decode cX8_steps 100 = .ok (.iconst 2, 1) := by decide +kernel
theorem dX8_steps_101 : decode cX8_steps 101 = .ok (.iload 4, 2) := by decide +kernel
theorem dX8_steps_103 : decode cX8_steps 103 = .ok (.imul, 1) := by decide +kernel
theorem dX8_steps_104 : decode cX8_steps 104 = .ok (.iconst 1, 1) := by decide +kernel
theorem dX8_steps_105 : decode cX8_steps 105 = .ok (.iadd, 1) := by decide +kernel
theorem dX8_steps_106 : decode cX8_steps 106 = .ok (.invokevirtual 92, 3) := by decide +kernel
theorem dX8_steps_109 : decode cX8_steps 109 = .ok (.invokevirtual 118, 3) := by decide +kernel
theorem dX8_steps_112 : decode cX8_steps 112 = .ok (.iinc 4 1, 3) := by decide +kernel
theorem dX8_steps_115 : decode cX8_steps 115 = .ok (.goto (-44), 3) := by decide +kernel
theorem dX8_steps_118 : decode cX8_steps 118 = .ok (.aload_n 0, 1) := by decide +kernel
theorem dX8_steps_119 : decode cX8_steps 119 = .ok (.getfield 19, 3) := by decide +kernel
theorem dX8_steps_122 : decode cX8_steps 122 = .ok (.iload_n 2, 1) := by decide +kernel
theorem dX8_steps_123 : decode cX8_steps 123 = .ok (.invokevirtual 121, 3) := by decide +kernel
theorem dX8_steps_126 : decode cX8_steps 126 = .ok (.aload_n 0, 1) := by decide +kernel
theorem dX8_steps_127 : decode cX8_steps 127 = .ok (.invokevirtual 125, 3) := by decide +kernel
theorem dX8_steps_130 : decode cX8_steps 130 = .ok (.aload_n 0, 1) := by decide +kernel
theorem dX8_steps_131 : decode cX8_steps 131 = .ok (.invokevirtual 77, 3) := by decide +kernel
theorem dX8_steps_134 : decode cX8_steps 134 = .ok (.ireturn, 1) := by decide +kernel
set_option maxRecDepth 20000 in
theorem ggX8_step_X8_within : GoodIn wsX8_step wsX8_within := goodIn_r _ [8] (by decide +kernel) (by decide +kernel)
set_option maxRecDepth 20000 in
theorem gX8_step_X8_within : GoodIn wsX8_step (va_wsS RX8 66 yX8_within wsX8_within) := goodIn_app (goodIn_of _ (by decide +kernel)) ggX8_step_X8_within
set_option maxRecDepth 20000 in
theorem ggX8_step_X8_refused : GoodIn wsX8_step wsX8_refused := goodIn_r _ [12, 13, 24, 25, 26, 27, 28, 29, 30, 31, 32, 33, 34, 35] (by decide +kernel) (by decide +kernel)
set_option maxRecDepth 20000 in
theorem gX8_step_X8_refused : GoodIn wsX8_step (wsV RX8 88 RX8 yX8_refused wsX8_refused) := goodIn_app (goodIn_of _ (by decide +kernel)) ggX8_step_X8_refused
set_option maxRecDepth 20000 in
theorem ggX8_step_X4_hasStep : GoodIn wsX8_step wsX4_hasStep := goodIn_r _ [18, 19, 36, 37, 38, 39, 40, 41, 42, 43, 44, 45, 46, 47, 48, 49, 50] (by decide +kernel) (by decide +kernel)
set_option maxRecDepth 20000 in
theorem gX8_step_X4_hasStep : GoodIn wsX8_step (wsV RX8 128 RX4 yX4_hasStep wsX4_hasStep) := goodIn_app (goodIn_of _ (by decide +kernel)) ggX8_step_X4_hasStep
set_option maxRecDepth 20000 in
theorem ggX8_step_X8_given : GoodIn wsX8_step wsX8_given := goodIn_r _ [23, 13, 24, 25, 26, 27, 28, 29, 30, 31, 32, 33, 34, 35] (by decide +kernel) (by decide +kernel)
set_option maxRecDepth 20000 in
theorem gX8_step_X8_given : GoodIn wsX8_step (wsV RX8 95 RX8 yX8_given wsX8_given) := goodIn_app (goodIn_of _ (by decide +kernel)) ggX8_step_X8_given
theorem dX8_step_0 : decode cX8_step 0 = .ok (.iload_n 2, 1) := by decide +kernel
theorem dX8_step_1 : decode cX8_step 1 = .ok (.iconst 0, 1) := by decide +kernel
theorem dX8_step_2 : decode cX8_step 2 = .ok (.iconst 2, 1) := by decide +kernel
theorem dX8_step_3 : decode cX8_step 3 = .ok (.invokestatic 66, 3) := by decide +kernel
theorem dX8_step_6 : decode cX8_step 6 = .ok (.ifCond .ne 9, 3) := by decide +kernel
theorem dX8_step_9 : decode cX8_step 9 = .ok (.aload_n 0, 1) := by decide +kernel
theorem dX8_step_10 : decode cX8_step 10 = .ok (.iconst 2, 1) := by decide +kernel
theorem dX8_step_11 : decode cX8_step 11 = .ok (.invokevirtual 88, 3) := by decide +kernel
theorem dX8_step_14 : decode cX8_step 14 = .ok (.ireturn, 1) := by decide +kernel
theorem dX8_step_15 : decode cX8_step 15 = .ok (.aload_n 0, 1) := by decide +kernel
theorem dX8_step_16 : decode cX8_step 16 = .ok (.getfield 19, 3) := by decide +kernel
theorem dX8_step_19 : decode cX8_step 19 = .ok (.iload_n 1, 1) := by decide +kernel
theorem dX8_step_20 : decode cX8_step 20 = .ok (.invokevirtual 128, 3) := by decide +kernel
theorem dX8_step_23 : decode cX8_step 23 = .ok (.ifCond .ne 10, 3) := by decide +kernel
theorem dX8_step_26 : decode cX8_step 26 = .ok (.aload_n 0, 1) := by decide +kernel
theorem dX8_step_27 : decode cX8_step 27 = .ok (.bipush 8, 2) := by decide +kernel
theorem dX8_step_29 : decode cX8_step 29 = .ok (.invokevirtual 88, 3) := by decide +kernel
theorem dX8_step_32 : decode cX8_step 32 = .ok (.ireturn, 1) := by decide +kernel
theorem dX8_step_33 : decode cX8_step 33 = .ok (.iload_n 2, 1) := by decide +kernel
theorem dX8_step_34 : decode cX8_step 34 = .ok (.ifCond .ne 17, 3) := by decide +kernel
theorem dX8_step_37 : decode cX8_step 37 = .ok (.aload_n 0, 1) := by decide +kernel
theorem dX8_step_38 : decode cX8_step 38 = .ok (.aload_n 0, 1) := by decide +kernel
theorem dX8_step_39 : decode cX8_step 39 = .ok (.getfield 19, 3) := by decide +kernel
theorem dX8_step_42 : decode cX8_step 42 = .ok (.getfield 131, 3) := by decide +kernel
theorem dX8_step_45 : decode cX8_step 45 = .ok (.iload_n 1, 1) := by decide +kernel
theorem dX8_step_46 : decode cX8_step 46 = .ok (.iaload, 1) := by decide +kernel
theorem dX8_step_47 : decode cX8_step 47 = .ok (.invokevirtual 95, 3) := by decide +kernel
theorem dX8_step_50 : decode cX8_step 50 = .ok (.ireturn, 1) := by decide +kernel
theorem dX8_step_51 : decode cX8_step 51 = .ok (.aload_n 0, 1) := by decide +kernel
theorem dX8_step_52 : decode cX8_step 52 = .ok (.iload_n 2, 1) := by decide +kernel
theorem dX8_step_53 : decode cX8_step 53 = .ok (.iconst 1, 1) := by decide +kernel
theorem dX8_step_54 : decode cX8_step 54 = .ok (.if_icmp .ne 15, 3) := by decide +kernel
theorem dX8_step_57 : decode cX8_step 57 = .ok (.aload_n 0, 1) := by decide +kernel
theorem dX8_step_58 : decode cX8_step 58 = .ok (.getfield 19, 3) := by decide +kernel
theorem dX8_step_61 : decode cX8_step 61 = .ok (.getfield 134, 3) := by decide +kernel
theorem dX8_step_64 : decode cX8_step 64 = .ok (.iload_n 1, 1) := by decide +kernel
theorem dX8_step_65 : decode cX8_step 65 = .ok (.iaload, 1) := by decide +kernel
theorem dX8_step_66 : decode cX8_step 66 = .ok (.goto 12, 3) := by decide +kernel
theorem dX8_step_69 : decode cX8_step 69 = .ok (.aload_n 0, 1) := by decide +kernel
theorem dX8_step_70 : decode cX8_step 70 = .ok (.getfield 19, 3) := by decide +kernel
theorem dX8_step_73 : decode cX8_step 73 = .ok (.getfield 137, 3) := by decide +kernel
theorem dX8_step_76 : decode cX8_step 76 = .ok (.iload_n 1, 1) := by decide +kernel
theorem dX8_step_77 : decode cX8_step 77 = .ok (.iaload, 1) := by decide +kernel
theorem dX8_step_78 : decode cX8_step 78 = .ok (.invokevirtual 95, 3) := by decide +kernel
theorem dX8_step_81 : decode cX8_step 81 = .ok (.ireturn, 1) := by decide +kernel
set_option maxRecDepth 20000 in
theorem ggX8_told_X4_hasStep : GoodIn wsX8_told wsX4_hasStep := goodIn_r _ [7, 8, 34, 35, 36, 37, 38, 39, 40, 41, 42, 43, 44, 45, 46, 47, 48] (by decide +kernel) (by decide +kernel)
set_option maxRecDepth 20000 in
theorem gX8_told_X4_hasStep : GoodIn wsX8_told (wsV RX8 128 RX4 yX4_hasStep wsX4_hasStep) := goodIn_app (goodIn_of _ (by decide +kernel)) ggX8_told_X4_hasStep
set_option maxRecDepth 20000 in
theorem ggX8_told_X8_denied : GoodIn wsX8_told wsX8_denied := goodIn_r _ [13, 14, 22, 23, 24, 25, 26, 27, 28, 29, 30, 31, 32, 33] (by decide +kernel) (by decide +kernel)
set_option maxRecDepth 20000 in
theorem gX8_told_X8_denied : GoodIn wsX8_told (wsV RX8 70 RX8 yX8_denied wsX8_denied) := goodIn_app (goodIn_of _ (by decide +kernel)) ggX8_told_X8_denied
set_option maxRecDepth 20000 in
theorem ggX8_told_X8_within : GoodIn wsX8_told wsX8_within := goodIn_r _ [17] (by decide +kernel) (by decide +kernel)
set_option maxRecDepth 20000 in
theorem gX8_told_X8_within : GoodIn wsX8_told (va_wsS RX8 66 yX8_within wsX8_within) := goodIn_app (goodIn_of _ (by decide +kernel)) ggX8_told_X8_within
set_option maxRecDepth 20000 in
theorem ggX8_told_X8_granted : GoodIn wsX8_told wsX8_granted := goodIn_r _ [21, 14, 22, 23, 24, 25, 26, 27, 28, 29, 30, 31, 32, 33] (by decide +kernel) (by decide +kernel)
set_option maxRecDepth 20000 in
theorem gX8_told_X8_granted : GoodIn wsX8_told (wsV RX8 77 RX8 yX8_granted wsX8_granted) := goodIn_app (goodIn_of _ (by decide +kernel)) ggX8_told_X8_granted
theorem dX8_told_0 : decode cX8_told 0 = .ok (.aload_n 0, 1) := by decide +kernel
theorem dX8_told_1 : decode cX8_told 1 = .ok (.getfield 19, 3) := by decide +kernel
theorem dX8_told_4 : decode cX8_told 4 = .ok (.iload_n 1, 1) := by decide +kernel
theorem dX8_told_5 : decode cX8_told 5 = .ok (.invokevirtual 128, 3) := by decide +kernel
theorem dX8_told_8 : decode cX8_told 8 = .ok (.ifCond .ne 10, 3) := by decide +kernel
theorem dX8_told_11 : decode cX8_told 11 = .ok (.aload_n 0, 1) := by decide +kernel
theorem dX8_told_12 : decode cX8_told 12 = .ok (.bipush 8, 2) := by decide +kernel
theorem dX8_told_14 : decode cX8_told 14 = .ok (.invokevirtual 70, 3) := by decide +kernel
theorem dX8_told_17 : decode cX8_told 17 = .ok (.ireturn, 1) := by decide +kernel
theorem dX8_told_18 : decode cX8_told 18 = .ok (.iload_n 2, 1) := by decide +kernel
theorem dX8_told_19 : decode cX8_told 19 = .ok (.iconst 0, 1) := by decide +kernel
theorem dX8_told_20 : decode cX8_told 20 = .ok (.bipush 9, 2) := by decide +kernel
theorem dX8_told_22 : decode cX8_told 22 = .ok (.invokestatic 66, 3) := by decide +kernel
theorem dX8_told_25 : decode cX8_told 25 = .ok (.ifCond .ne 9, 3) := by decide +kernel
theorem dX8_told_28 : decode cX8_told 28 = .ok (.aload_n 0, 1) := by decide +kernel
theorem dX8_told_29 : decode cX8_told 29 = .ok (.iconst 2, 1) := by decide +kernel
theorem dX8_told_30 : decode cX8_told 30 = .ok (.invokevirtual 70, 3) := by decide +kernel
theorem dX8_told_33 : decode cX8_told 33 = .ok (.ireturn, 1) := by decide +kernel
theorem dX8_told_34 : decode cX8_told 34 = .ok (.aload_n 0, 1) := by decide +kernel
theorem dX8_told_35 : decode cX8_told 35 = .ok (.getfield 19, 3) := by decide +kernel
theorem dX8_told_38 : decode cX8_told 38 = .ok (.getfield 137, 3) := by decide +kernel
theorem dX8_told_41 : decode cX8_told 41 = .ok (.iload_n 1, 1) := by decide +kernel
theorem dX8_told_42 : decode cX8_told 42 = .ok (.iload_n 2, 1) := by decide +kernel
theorem dX8_told_43 : decode cX8_told 43 = .ok (.iastore, 1) := by decide +kernel
theorem dX8_told_44 : decode cX8_told 44 = .ok (.aload_n 0, 1) := by decide +kernel
theorem dX8_told_45 : decode cX8_told 45 = .ok (.invokevirtual 77, 3) := by decide +kernel
theorem dX8_told_48 : decode cX8_told 48 = .ok (.ireturn, 1) := by decide +kernel
set_option maxRecDepth 20000 in
theorem ggX8_kind_X8_within : GoodIn wsX8_kind wsX8_within := goodIn_r _ [5] (by decide +kernel) (by decide +kernel)
set_option maxRecDepth 20000 in
theorem gX8_kind_X8_within : GoodIn wsX8_kind (va_wsS RX8 66 yX8_within wsX8_within) := goodIn_app (goodIn_of _ (by decide +kernel)) ggX8_kind_X8_within
set_option maxRecDepth 20000 in
theorem ggX8_kind_X8_denied : GoodIn wsX8_kind wsX8_denied := goodIn_r _ [9, 10, 51, 52, 53, 54, 55, 56, 57, 58, 59, 60, 61, 62] (by decide +kernel) (by decide +kernel)
set_option maxRecDepth 20000 in
theorem gX8_kind_X8_denied : GoodIn wsX8_kind (wsV RX8 70 RX8 yX8_denied wsX8_denied) := goodIn_app (goodIn_of _ (by decide +kernel)) ggX8_kind_X8_denied
set_option maxRecDepth 20000 in
theorem ggX8_kind_X4_setKind : GoodIn wsX8_kind wsX4_setKind := goodIn_r _ [15, 16, 17, 18, 19, 20, 21, 14, 22, 23, 24, 25, 26, 27, 28, 29, 30, 31, 32, 33, 34, 35, 63, 64, 65, 66, 67, 68, 69, 70, 71, 72, 73, 74, 75, 76, 77] (by decide +kernel) (by decide +kernel)
set_option maxRecDepth 20000 in
theorem gX8_kind_X4_setKind : GoodIn wsX8_kind (wsV RX8 140 RX4 yX4_setKind wsX4_setKind) := goodIn_app (goodIn_of _ (by decide +kernel)) ggX8_kind_X4_setKind
set_option maxRecDepth 20000 in
theorem ggX8_kind_X8_forgetWays : GoodIn wsX8_kind wsX8_forgetWays := goodIn_r _ [39, 40, 41, 42, 43, 44, 45, 46, 51, 52, 53, 54, 55, 56, 57, 58, 59, 60, 61, 62, 78, 79, 80, 81] (by decide +kernel) (by decide +kernel)
set_option maxRecDepth 20000 in
theorem gX8_kind_X8_forgetWays : GoodIn wsX8_kind (wsV RX8 125 RX8 yX8_forgetWays wsX8_forgetWays) := goodIn_app (goodIn_of _ (by decide +kernel)) ggX8_kind_X8_forgetWays
set_option maxRecDepth 20000 in
theorem ggX8_kind_X8_granted : GoodIn wsX8_kind wsX8_granted := goodIn_r _ [50, 10, 51, 52, 53, 54, 55, 56, 57, 58, 59, 60, 61, 62] (by decide +kernel) (by decide +kernel)
set_option maxRecDepth 20000 in
theorem gX8_kind_X8_granted : GoodIn wsX8_kind (wsV RX8 77 RX8 yX8_granted wsX8_granted) := goodIn_app (goodIn_of _ (by decide +kernel)) ggX8_kind_X8_granted
theorem dX8_kind_0 : decode cX8_kind 0 = .ok (.iload_n 1, 1) := by decide +kernel
theorem dX8_kind_1 : decode cX8_kind 1 = .ok (.iconst 0, 1) := by decide +kernel
theorem dX8_kind_2 : decode cX8_kind 2 = .ok (.iconst 4, 1) := by decide +kernel
theorem dX8_kind_3 : decode cX8_kind 3 = .ok (.invokestatic 66, 3) := by decide +kernel
theorem dX8_kind_6 : decode cX8_kind 6 = .ok (.ifCond .ne 9, 3) := by decide +kernel
theorem dX8_kind_9 : decode cX8_kind 9 = .ok (.aload_n 0, 1) := by decide +kernel
theorem dX8_kind_10 : decode cX8_kind 10 = .ok (.iconst 2, 1) := by decide +kernel
theorem dX8_kind_11 : decode cX8_kind 11 = .ok (.invokevirtual 70, 3) := by decide +kernel
theorem dX8_kind_14 : decode cX8_kind 14 = .ok (.ireturn, 1) := by decide +kernel
theorem dX8_kind_15 : decode cX8_kind 15 = .ok (.iload_n 1, 1) := by decide +kernel
theorem dX8_kind_16 : decode cX8_kind 16 = .ok (.iconst 4, 1) := by decide +kernel
theorem dX8_kind_17 : decode cX8_kind 17 = .ok (.if_icmp .ne 7, 3) := by decide +kernel
theorem dX8_kind_20 : decode cX8_kind 20 = .ok (.iconst 1, 1) := by decide +kernel
theorem dX8_kind_21 : decode cX8_kind 21 = .ok (.goto 4, 3) := by decide +kernel
theorem dX8_kind_24 : decode cX8_kind 24 = .ok (.iconst 0, 1) := by decide +kernel
theorem dX8_kind_25 : decode cX8_kind 25 = .ok (.istore_n 3, 1) := by decide +kernel
theorem dX8_kind_26 : decode cX8_kind 26 = .ok (.iload_n 1, 1) := by decide +kernel
theorem dX8_kind_27 : decode cX8_kind 27 = .ok (.iconst 2, 1) := by decide +kernel
theorem dX8_kind_28 : decode cX8_kind 28 = .ok (.if_icmp .eq 8, 3) := by decide +kernel
theorem dX8_kind_31 : decode cX8_kind 31 = .ok (.iload_n 1, 1) := by decide +kernel
theorem dX8_kind_32 : decode cX8_kind 32 = .ok (.iconst 4, 1) := by decide +kernel
theorem dX8_kind_33 : decode cX8_kind 33 = .ok (.if_icmp .ne 8, 3) := by decide +kernel
theorem dX8_kind_36 : decode cX8_kind 36 = .ok (.bipush 30, 2) := by decide +kernel
theorem dX8_kind_38 : decode cX8_kind 38 = .ok (.goto 4, 3) := by decide +kernel
theorem dX8_kind_41 : decode cX8_kind 41 = .ok (.iconst 0, 1) := by decide +kernel
theorem dX8_kind_42 : decode cX8_kind 42 = .ok (.istore 4, 2) := by decide +kernel
theorem dX8_kind_44 : decode cX8_kind 44 = .ok (.iload_n 2, 1) := by decide +kernel
theorem dX8_kind_45 : decode cX8_kind 45 = .ok (.iload_n 3, 1) := by decide +kernel
theorem dX8_kind_46 : decode cX8_kind 46 = .ok (.iload 4, 2) := by decide +kernel
theorem dX8_kind_48 : decode cX8_kind 48 = .ok (.invokestatic 66, 3) := by decide +kernel
theorem dX8_kind_51 : decode cX8_kind 51 = .ok (.ifCond .ne 9, 3) := by decide +kernel
theorem dX8_kind_54 : decode cX8_kind 54 = .ok (.aload_n 0, 1) := by decide +kernel
theorem dX8_kind_55 : decode cX8_kind 55 = .ok (.iconst 2, 1) := by decide +kernel
theorem dX8_kind_56 : decode cX8_kind 56 = .ok (.invokevirtual 70, 3) := by decide +kernel
theorem dX8_kind_59 : decode cX8_kind 59 = .ok (.ireturn, 1) := by decide +kernel
theorem dX8_kind_60 : decode cX8_kind 60 = .ok (.aload_n 0, 1) := by decide +kernel
theorem dX8_kind_61 : decode cX8_kind 61 = .ok (.getfield 19, 3) := by decide +kernel
theorem dX8_kind_64 : decode cX8_kind 64 = .ok (.iload_n 1, 1) := by decide +kernel
theorem dX8_kind_65 : decode cX8_kind 65 = .ok (.iload_n 2, 1) := by decide +kernel
theorem dX8_kind_66 : decode cX8_kind 66 = .ok (.invokevirtual 140, 3) := by decide +kernel
theorem dX8_kind_69 : decode cX8_kind 69 = .ok (.aload_n 0, 1) := by decide +kernel
theorem dX8_kind_70 : decode cX8_kind 70 = .ok (.invokevirtual 125, 3) := by decide +kernel
theorem dX8_kind_73 : decode cX8_kind 73 = .ok (.aload_n 0, 1) := by decide +kernel
theorem dX8_kind_74 : decode cX8_kind 74 = .ok (.invokevirtual 77, 3) := by decide +kernel
theorem dX8_kind_77 : decode cX8_kind 77 = .ok (.ireturn, 1) := by decide +kernel
set_option maxRecDepth 20000 in
theorem ggX8_bar_X4_isSquare : GoodIn wsX8_bar wsX4_isSquare := goodIn_r _ [5] (by decide +kernel) (by decide +kernel)
set_option maxRecDepth 20000 in
theorem gX8_bar_X4_isSquare : GoodIn wsX8_bar (va_wsS RX8 144 yX4_isSquare wsX4_isSquare) := goodIn_app (goodIn_of _ (by decide +kernel)) ggX8_bar_X4_isSquare
set_option maxRecDepth 20000 in
theorem ggX8_bar_X8_denied : GoodIn wsX8_bar wsX8_denied := goodIn_r _ [10, 11, 53, 54, 55, 56, 57, 58, 59, 60, 61, 62, 63, 64] (by decide +kernel) (by decide +kernel)
set_option maxRecDepth 20000 in
theorem gX8_bar_X8_denied : GoodIn wsX8_bar (wsV RX8 70 RX8 yX8_denied wsX8_denied) := goodIn_app (goodIn_of _ (by decide +kernel)) ggX8_bar_X8_denied
set_option maxRecDepth 20000 in
theorem ggX8_bar_X4_setBarred : GoodIn wsX8_bar wsX4_setBarred := goodIn_r _ [15, 16, 17, 18, 3, 4, 5, 19, 20, 21, 22, 23, 24, 25, 26, 27, 28, 29, 30, 31, 32, 33, 34, 35, 36, 37, 65, 66, 67, 68, 69, 70, 71, 72, 73, 74, 75, 76, 77, 78, 79] (by decide +kernel) (by decide +kernel)
set_option maxRecDepth 20000 in
theorem gX8_bar_X4_setBarred : GoodIn wsX8_bar (wsV RX8 147 RX4 yX4_setBarred wsX4_setBarred) := goodIn_app (goodIn_of _ (by decide +kernel)) ggX8_bar_X4_setBarred
set_option maxRecDepth 20000 in
theorem ggX8_bar_X8_forgetWays : GoodIn wsX8_bar wsX8_forgetWays := goodIn_r _ [41, 42, 43, 44, 45, 46, 47, 48, 53, 54, 55, 56, 57, 58, 59, 60, 61, 62, 63, 64, 80, 81, 82, 83] (by decide +kernel) (by decide +kernel)
set_option maxRecDepth 20000 in
theorem gX8_bar_X8_forgetWays : GoodIn wsX8_bar (wsV RX8 125 RX8 yX8_forgetWays wsX8_forgetWays) := goodIn_app (goodIn_of _ (by decide +kernel)) ggX8_bar_X8_forgetWays
set_option maxRecDepth 20000 in
theorem ggX8_bar_X8_granted : GoodIn wsX8_bar wsX8_granted := goodIn_r _ [52, 11, 53, 54, 55, 56, 57, 58, 59, 60, 61, 62, 63, 64] (by decide +kernel) (by decide +kernel)
set_option maxRecDepth 20000 in
theorem gX8_bar_X8_granted : GoodIn wsX8_bar (wsV RX8 77 RX8 yX8_granted wsX8_granted) := goodIn_app (goodIn_of _ (by decide +kernel)) ggX8_bar_X8_granted
theorem dX8_bar_0 : decode cX8_bar 0 = .ok (.iload_n 1, 1) := by decide +kernel
theorem dX8_bar_1 : decode cX8_bar 1 = .ok (.iload_n 2, 1) := by decide +kernel
theorem dX8_bar_2 : decode cX8_bar 2 = .ok (.invokestatic 144, 3) := by decide +kernel
theorem dX8_bar_5 : decode cX8_bar 5 = .ok (.ifCond .ne 9, 3) := by decide +kernel
theorem dX8_bar_8 : decode cX8_bar 8 = .ok (.aload_n 0, 1) := by decide +kernel
theorem dX8_bar_9 : decode cX8_bar 9 = .ok (.iconst 2, 1) := by decide +kernel
theorem dX8_bar_10 : decode cX8_bar 10 = .ok (.invokevirtual 70, 3) := by decide +kernel
theorem dX8_bar_13 : decode cX8_bar 13 = .ok (.ireturn, 1) := by decide +kernel
theorem dX8_bar_14 : decode cX8_bar 14 = .ok (.aload_n 0, 1) := by decide +kernel
theorem dX8_bar_15 : decode cX8_bar 15 = .ok (.getfield 19, 3) := by decide +kernel
theorem dX8_bar_18 : decode cX8_bar 18 = .ok (.iload_n 1, 1) := by decide +kernel
theorem dX8_bar_19 : decode cX8_bar 19 = .ok (.iload_n 2, 1) := by decide +kernel
theorem dX8_bar_20 : decode cX8_bar 20 = .ok (.iload_n 3, 1) := by decide +kernel
theorem dX8_bar_21 : decode cX8_bar 21 = .ok (.invokevirtual 147, 3) := by decide +kernel
theorem dX8_bar_24 : decode cX8_bar 24 = .ok (.aload_n 0, 1) := by decide +kernel
theorem dX8_bar_25 : decode cX8_bar 25 = .ok (.invokevirtual 125, 3) := by decide +kernel
theorem dX8_bar_28 : decode cX8_bar 28 = .ok (.aload_n 0, 1) := by decide +kernel
theorem dX8_bar_29 : decode cX8_bar 29 = .ok (.invokevirtual 77, 3) := by decide +kernel
theorem dX8_bar_32 : decode cX8_bar 32 = .ok (.ireturn, 1) := by decide +kernel
set_option maxRecDepth 20000 in
theorem ggX8_wall_X8_sheetFault : GoodIn wsX8_wall wsX8_sheetFault := goodIn_r _ [8, 1, 9, 10, 11, 12, 13, 14, 15, 16, 17, 18, 79, 80, 81, 82, 83, 84, 85, 86, 87, 88, 89, 90, 106, 107, 108] (by decide +kernel) (by decide +kernel)
set_option maxRecDepth 20000 in
theorem gX8_wall_X8_sheetFault : GoodIn wsX8_wall (wsV RX8 111 RX8 yX8_sheetFault wsX8_sheetFault) := goodIn_app (goodIn_of _ (by decide +kernel)) ggX8_wall_X8_sheetFault
set_option maxRecDepth 20000 in
theorem ggX8_wall_X8_refused : GoodIn wsX8_wall wsX8_refused := goodIn_r _ [22, 23, 79, 80, 81, 82, 83, 84, 85, 86, 87, 88, 89, 90] (by decide +kernel) (by decide +kernel)
set_option maxRecDepth 20000 in
theorem gX8_wall_X8_refused : GoodIn wsX8_wall (wsV RX8 88 RX8 yX8_refused wsX8_refused) := goodIn_app (goodIn_of _ (by decide +kernel)) ggX8_wall_X8_refused
set_option maxRecDepth 20000 in
theorem ggX8_wall_X5_holds : GoodIn wsX8_wall wsX5_holds := goodIn_r _ [27, 17, 18, 10, 11, 12, 106, 107, 108] (by decide +kernel) (by decide +kernel)
set_option maxRecDepth 20000 in
theorem gX8_wall_X5_holds : GoodIn wsX8_wall (wsV RX8 104 RX5 yX5_holds wsX5_holds) := goodIn_app (goodIn_of _ (by decide +kernel)) ggX8_wall_X5_holds
set_option maxRecDepth 20000 in
theorem ggX8_wall_X5_at : GoodIn wsX8_wall wsX5_at := goodIn_r _ [31, 32, 33, 25, 26, 11, 27, 17, 18, 10, 12, 106, 107, 108] (by decide +kernel) (by decide +kernel)
set_option maxRecDepth 20000 in
theorem gX8_wall_X5_at : GoodIn wsX8_wall (wsV RX8 92 RX5 yX5_at wsX5_at) := goodIn_app (goodIn_of _ (by decide +kernel)) ggX8_wall_X5_at
set_option maxRecDepth 20000 in
theorem ggX8_wall_X4_isSquare : GoodIn wsX8_wall wsX4_isSquare := goodIn_r _ [37] (by decide +kernel) (by decide +kernel)
set_option maxRecDepth 20000 in
theorem gX8_wall_X4_isSquare : GoodIn wsX8_wall (va_wsS RX8 144 yX4_isSquare wsX4_isSquare) := goodIn_app (goodIn_of _ (by decide +kernel)) ggX8_wall_X4_isSquare
set_option maxRecDepth 20000 in
theorem ggX8_wall_X4_setBarred : GoodIn wsX8_wall wsX4_setBarred := goodIn_r _ [41, 42, 43, 44, 35, 36, 37, 45, 46, 47, 48, 49, 50, 51, 52, 53, 54, 55, 56, 57, 58, 59, 60, 61, 62, 63, 91, 92, 93, 94, 95, 96, 97, 98, 99, 100, 101, 102, 103, 104, 105] (by decide +kernel) (by decide +kernel)
set_option maxRecDepth 20000 in
theorem gX8_wall_X4_setBarred : GoodIn wsX8_wall (wsV RX8 147 RX4 yX4_setBarred wsX4_setBarred) := goodIn_app (goodIn_of _ (by decide +kernel)) ggX8_wall_X4_setBarred
set_option maxRecDepth 20000 in
theorem ggX8_wall_X8_forgetWays : GoodIn wsX8_wall wsX8_forgetWays := goodIn_r _ [67, 68, 69, 70, 71, 72, 73, 74, 79, 80, 81, 82, 83, 84, 85, 86, 87, 88, 89, 90, 109, 110, 111, 112] (by decide +kernel) (by decide +kernel)
set_option maxRecDepth 20000 in
theorem gX8_wall_X8_forgetWays : GoodIn wsX8_wall (wsV RX8 125 RX8 yX8_forgetWays wsX8_forgetWays) := goodIn_app (goodIn_of _ (by decide +kernel)) ggX8_wall_X8_forgetWays
set_option maxRecDepth 20000 in
theorem ggX8_wall_X8_given : GoodIn wsX8_wall wsX8_given := goodIn_r _ [78, 23, 79, 80, 81, 82, 83, 84, 85, 86, 87, 88, 89, 90] (by decide +kernel) (by decide +kernel)
set_option maxRecDepth 20000 in
theorem gX8_wall_X8_given : GoodIn wsX8_wall (wsV RX8 95 RX8 yX8_given wsX8_given) := goodIn_app (goodIn_of _ (by decide +kernel)) ggX8_wall_X8_given
theorem dX8_wall_0 : decode cX8_wall 0 = .ok (.aload_n 0, 1) := by decide +kernel
theorem dX8_wall_1 : decode cX8_wall 1 = .ok (.iload_n 1, 1) := by decide +kernel
theorem dX8_wall_2 : decode cX8_wall 2 = .ok (.invokevirtual 111, 3) := by decide +kernel
theorem dX8_wall_5 : decode cX8_wall 5 = .ok (.istore_n 3, 1) := by decide +kernel
theorem dX8_wall_6 : decode cX8_wall 6 = .ok (.iload_n 3, 1) := by decide +kernel
theorem dX8_wall_7 : decode cX8_wall 7 = .ok (.ifCond .eq 9, 3) := by decide +kernel
theorem dX8_wall_10 : decode cX8_wall 10 = .ok (.aload_n 0, 1) := by decide +kernel
theorem dX8_wall_11 : decode cX8_wall 11 = .ok (.iload_n 3, 1) := by decide +kernel
theorem dX8_wall_12 : decode cX8_wall 12 = .ok (.invokevirtual 88, 3) := by decide +kernel
theorem dX8_wall_15 : decode cX8_wall 15 = .ok (.ireturn, 1) := by decide +kernel
theorem dX8_wall_16 : decode cX8_wall 16 = .ok (.iload_n 2, 1) := by decide +kernel
theorem dX8_wall_17 : decode cX8_wall 17 = .ok (.ifCond .ge 9, 3) := by decide +kernel
theorem dX8_wall_20 : decode cX8_wall 20 = .ok (.aload_n 0, 1) := by decide +kernel
theorem dX8_wall_21 : decode cX8_wall 21 = .ok (.iconst 2, 1) := by decide +kernel
theorem dX8_wall_22 : decode cX8_wall 22 = .ok (.invokevirtual 88, 3) := by decide +kernel
theorem dX8_wall_25 : decode cX8_wall 25 = .ok (.ireturn, 1) := by decide +kernel
theorem dX8_wall_26 : decode cX8_wall 26 = .ok (.iload_n 2, 1) := by decide +kernel
theorem dX8_wall_27 : decode cX8_wall 27 = .ok (.bipush 64, 2) := by decide +kernel
theorem dX8_wall_29 : decode cX8_wall 29 = .ok (.if_icmp .gt 18, 3) := by decide +kernel
theorem dX8_wall_32 : decode cX8_wall 32 = .ok (.aload_n 0, 1) := by decide +kernel
theorem dX8_wall_33 : decode cX8_wall 33 = .ok (.getfield 12, 3) := by decide +kernel
theorem dX8_wall_36 : decode cX8_wall 36 = .ok (.iload_n 1, 1) := by decide +kernel
theorem dX8_wall_37 : decode cX8_wall 37 = .ok (.iconst 0, 1) := by decide +kernel
theorem dX8_wall_38 : decode cX8_wall 38 = .ok (.iconst 2, 1) := by decide +kernel
theorem dX8_wall_39 : decode cX8_wall 39 = .ok (.iload_n 2, 1) := by decide +kernel
theorem dX8_wall_40 : decode cX8_wall 40 = .ok (.imul, 1) := by decide +kernel
theorem dX8_wall_41 : decode cX8_wall 41 = .ok (.invokevirtual 104, 3) := by decide +kernel
theorem dX8_wall_44 : decode cX8_wall 44 = .ok (.ifCond .ne 9, 3) := by decide +kernel
theorem dX8_wall_47 : decode cX8_wall 47 = .ok (.aload_n 0, 1) := by decide +kernel
theorem dX8_wall_48 : decode cX8_wall 48 = .ok (.iconst 4, 1) := by decide +kernel
theorem dX8_wall_49 : decode cX8_wall 49 = .ok (.invokevirtual 88, 3) := by decide +kernel
theorem dX8_wall_52 : decode cX8_wall 52 = .ok (.ireturn, 1) := by decide +kernel
theorem dX8_wall_53 : decode cX8_wall 53 = .ok (.iconst 0, 1) := by decide +kernel
theorem dX8_wall_54 : decode cX8_wall 54 = .ok (.istore 4, 2) := by decide +kernel
theorem dX8_wall_56 : decode cX8_wall 56 = .ok (.iload 4, 2) := by decide +kernel
theorem dX8_wall_58 : decode cX8_wall 58 = .ok (.iload_n 2, 1) := by decide +kernel
theorem dX8_wall_59 : decode cX8_wall 59 = .ok (.if_icmp .ge 47, 3) := by decide +kernel
theorem dX8_wall_62 : decode cX8_wall 62 = .ok (.aload_n 0, 1) := by decide +kernel
theorem dX8_wall_63 : decode cX8_wall 63 = .ok (.getfield 12, 3) := by decide +kernel
theorem dX8_wall_66 : decode cX8_wall 66 = .ok (.iload_n 1, 1) := by decide +kernel
theorem dX8_wall_67 : decode cX8_wall 67 = .ok (.iconst 2, 1) := by decide +kernel
theorem dX8_wall_68 : decode cX8_wall 68 = .ok (.iload 4, 2) := by decide +kernel
theorem dX8_wall_70 : decode cX8_wall 70 = .ok (.imul, 1) := by decide +kernel
theorem dX8_wall_71 : decode cX8_wall 71 = .ok (.invokevirtual 92, 3) := by decide +kernel
theorem dX8_wall_74 : decode cX8_wall 74 = .ok (.aload_n 0, 1) := by decide +kernel
theorem dX8_wall_75 : decode cX8_wall 75 = .ok (.getfield 12, 3) := by decide +kernel
theorem dX8_wall_78 : decode cX8_wall 78 = .ok (.iload_n 1, 1) := by decide +kernel
theorem dX8_wall_79 : decode cX8_wall 79 = .ok (.iconst 2, 1) := by decide +kernel
theorem dX8_wall_80 : decode cX8_wall 80 = .ok (.iload 4, 2) := by decide +kernel
theorem dX8_wall_82 : decode cX8_wall 82 = .ok (.imul, 1) := by decide +kernel
theorem dX8_wall_83 : decode cX8_wall 83 = .ok (.iconst 1, 1) := by decide +kernel
theorem dX8_wall_84 : decode cX8_wall 84 = .ok (.iadd, 1) := by decide +kernel
theorem dX8_wall_85 : decode cX8_wall 85 = .ok (.invokevirtual 92, 3) := by decide +kernel
theorem dX8_wall_88 : decode cX8_wall 88 = .ok (.invokestatic 144, 3) := by decide +kernel
theorem dX8_wall_91 : decode cX8_wall 91 = .ok (.ifCond .ne 9, 3) := by decide +kernel
theorem dX8_wall_94 : decode cX8_wall 94 = .ok (.aload_n 0, 1) := by decide +kernel
theorem dX8_wall_95 : decode cX8_wall 95 = .ok (.iconst 2, 1) := by decide +kernel
theorem dX8_wall_96 : decode cX8_wall 96 = .ok (.invokevirtual 88, 3) := by decide +kernel
theorem dX8_wall_99 : decode cX8_wall 99 = .ok (.ireturn, 1) := by decide +kernel
theorem dX8_wall_100 : decode cX8_wall 100 = .ok (.iinc 4 1, 3) := by decide +kernel
theorem dX8_wall_103 : decode cX8_wall 103 = .ok (.goto (-47), 3) := by decide +kernel
theorem dX8_wall_106 : decode cX8_wall 106 = .ok (.aload_n 0, 1) := by decide +kernel
theorem dX8_wall_107 : decode cX8_wall 107 = .ok (.getfield 19, 3) := by decide +kernel
theorem dX8_wall_110 : decode cX8_wall 110 = .ok (.getfield 151, 3) := by decide +kernel
theorem dX8_wall_113 : decode cX8_wall 113 = .ok (.istore 4, 2) := by decide +kernel
theorem dX8_wall_115 : decode cX8_wall 115 = .ok (.iconst 0, 1) := by decide +kernel
theorem dX8_wall_116 : decode cX8_wall 116 = .ok (.istore 5, 2) := by decide +kernel
theorem dX8_wall_118 : decode cX8_wall 118 = .ok (.iload 5, 2) := by decide +kernel
theorem dX8_wall_120 : decode cX8_wall 120 = .ok (.iload_n 2, 1) := by decide +kernel
theorem dX8_wall_121 : decode cX8_wall 121 = .ok (.if_icmp .ge 43, 3) := by decide +kernel
theorem dX8_wall_124 : decode cX8_wall 124 = .ok (.aload_n 0, 1) := by decide +kernel
theorem dX8_wall_125 : decode cX8_wall 125 = .ok (.getfield 19, 3) := by decide +kernel
theorem dX8_wall_128 : decode cX8_wall 128 = .ok (.aload_n 0, 1) := by decide +kernel
theorem dX8_wall_129 : decode cX8_wall 129 = .ok (.getfield 12, 3) := by decide +kernel
theorem dX8_wall_132 : decode cX8_wall 132 = .ok (.iload_n 1, 1) := by decide +kernel
theorem dX8_wall_133 : decode cX8_wall 133 = .ok (.iconst 2, 1) := by decide +kernel
theorem dX8_wall_134 : decode cX8_wall 134 = .ok (.iload 5, 2) := by decide +kernel
theorem dX8_wall_136 : decode cX8_wall 136 = .ok (.imul, 1) := by decide +kernel
theorem dX8_wall_137 : decode cX8_wall 137 = .ok (.invokevirtual 92, 3) := by decide +kernel
theorem dX8_wall_140 : decode cX8_wall 140 = .ok (.aload_n 0, 1) := by decide +kernel
theorem dX8_wall_141 : decode cX8_wall 141 = .ok (.getfield 12, 3) := by decide +kernel
theorem dX8_wall_144 : decode cX8_wall 144 = .ok (.iload_n 1, 1) := by decide +kernel
theorem dX8_wall_145 : decode cX8_wall 145 = .ok (.iconst 2, 1) := by decide +kernel
theorem dX8_wall_146 : decode cX8_wall 146 = .ok (.iload 5, 2) := by decide +kernel
theorem dX8_wall_148 : decode cX8_wall 148 = .ok (.imul, 1) := by decide +kernel
theorem dX8_wall_149 : decode cX8_wall 149 = .ok (.iconst 1, 1) := by decide +kernel
theorem dX8_wall_150 : decode cX8_wall 150 = .ok (.iadd, 1) := by decide +kernel
theorem dX8_wall_151 : decode cX8_wall 151 = .ok (.invokevirtual 92, 3) := by decide +kernel
theorem dX8_wall_154 : decode cX8_wall 154 = .ok (.iconst 1, 1) := by decide +kernel
theorem dX8_wall_155 : decode cX8_wall 155 = .ok (.invokevirtual 147, 3) := by decide +kernel
theorem dX8_wall_158 : decode cX8_wall 158 = .ok (.iinc 5 1, 3) := by decide +kernel
theorem dX8_wall_161 : decode cX8_wall 161 = .ok (.goto (-43), 3) := by decide +kernel
theorem dX8_wall_164 : decode cX8_wall 164 = .ok (.aload_n 0, 1) := by decide +kernel
theorem dX8_wall_165 : decode cX8_wall 165 = .ok (.invokevirtual 125, 3) := by decide +kernel
theorem dX8_wall_168 : decode cX8_wall 168 = .ok (.aload_n 0, 1) := by decide +kernel
theorem dX8_wall_169 : decode cX8_wall 169 = .ok (.aload_n 0, 1) := by decide +kernel
theorem dX8_wall_170 : decode cX8_wall 170 = .ok (.getfield 19, 3) := by decide +kernel
theorem dX8_wall_173 : decode cX8_wall 173 = .ok (.getfield 151, 3) := by decide +kernel
theorem dX8_wall_176 : decode cX8_wall 176 = .ok (.iload 4, 2) := by decide +kernel
theorem dX8_wall_178 : decode cX8_wall 178 = .ok (.isub, 1) := by decide +kernel
theorem dX8_wall_179 : decode cX8_wall 179 = .ok (.invokevirtual 95, 3) := by decide +kernel
theorem dX8_wall_182 : decode cX8_wall 182 = .ok (.ireturn, 1) := by decide +kernel
set_option maxRecDepth 20000 in
theorem ggX8_from_X4_isSquare : GoodIn wsX8_from wsX4_isSquare := goodIn_r _ [7] (by decide +kernel) (by decide +kernel)
set_option maxRecDepth 20000 in
theorem gX8_from_X4_isSquare : GoodIn wsX8_from (va_wsS RX8 144 yX4_isSquare wsX4_isSquare) := goodIn_app (goodIn_of _ (by decide +kernel)) ggX8_from_X4_isSquare
set_option maxRecDepth 20000 in
theorem ggX8_from_X8_denied : GoodIn wsX8_from wsX8_denied := goodIn_r _ [12, 13, 18, 19, 20, 21, 22, 23, 24, 25, 26, 27, 28, 29] (by decide +kernel) (by decide +kernel)
set_option maxRecDepth 20000 in
theorem gX8_from_X8_denied : GoodIn wsX8_from (wsV RX8 70 RX8 yX8_denied wsX8_denied) := goodIn_app (goodIn_of _ (by decide +kernel)) ggX8_from_X8_denied
set_option maxRecDepth 20000 in
theorem ggX8_from_X8_granted : GoodIn wsX8_from wsX8_granted := goodIn_r _ [17, 13, 18, 19, 20, 21, 22, 23, 24, 25, 26, 27, 28, 29] (by decide +kernel) (by decide +kernel)
set_option maxRecDepth 20000 in
theorem gX8_from_X8_granted : GoodIn wsX8_from (wsV RX8 77 RX8 yX8_granted wsX8_granted) := goodIn_app (goodIn_of _ (by decide +kernel)) ggX8_from_X8_granted
theorem dX8_from_0 : decode cX8_from 0 = .ok (.iload_n 1, 1) := by decide +kernel
theorem dX8_from_1 : decode cX8_from 1 = .ok (.iload_n 2, 1) := by decide +kernel
theorem dX8_from_2 : decode cX8_from 2 = .ok (.invokestatic 144, 3) := by decide +kernel
theorem dX8_from_5 : decode cX8_from 5 = .ok (.ifCond .ne 9, 3) := by decide +kernel
theorem dX8_from_8 : decode cX8_from 8 = .ok (.aload_n 0, 1) := by decide +kernel
theorem dX8_from_9 : decode cX8_from 9 = .ok (.iconst 2, 1) := by decide +kernel
theorem dX8_from_10 : decode cX8_from 10 = .ok (.invokevirtual 70, 3) := by decide +kernel
theorem dX8_from_13 : decode cX8_from 13 = .ok (.ireturn, 1) := by decide +kernel
theorem dX8_from_14 : decode cX8_from 14 = .ok (.aload_n 0, 1) := by decide +kernel
theorem dX8_from_15 : decode cX8_from 15 = .ok (.getfield 19, 3) := by decide +kernel
theorem dX8_from_18 : decode cX8_from 18 = .ok (.iload_n 1, 1) := by decide +kernel
theorem dX8_from_19 : decode cX8_from 19 = .ok (.putfield 154, 3) := by decide +kernel
theorem dX8_from_22 : decode cX8_from 22 = .ok (.aload_n 0, 1) := by decide +kernel
theorem dX8_from_23 : decode cX8_from 23 = .ok (.getfield 19, 3) := by decide +kernel
theorem dX8_from_26 : decode cX8_from 26 = .ok (.iload_n 2, 1) := by decide +kernel
theorem dX8_from_27 : decode cX8_from 27 = .ok (.putfield 157, 3) := by decide +kernel
theorem dX8_from_30 : decode cX8_from 30 = .ok (.aload_n 0, 1) := by decide +kernel
theorem dX8_from_31 : decode cX8_from 31 = .ok (.invokevirtual 77, 3) := by decide +kernel
theorem dX8_from_34 : decode cX8_from 34 = .ok (.ireturn, 1) := by decide +kernel
set_option maxRecDepth 20000 in
theorem ggX8_to_X4_isSquare : GoodIn wsX8_to wsX4_isSquare := goodIn_r _ [7] (by decide +kernel) (by decide +kernel)
set_option maxRecDepth 20000 in
theorem gX8_to_X4_isSquare : GoodIn wsX8_to (va_wsS RX8 144 yX4_isSquare wsX4_isSquare) := goodIn_app (goodIn_of _ (by decide +kernel)) ggX8_to_X4_isSquare
set_option maxRecDepth 20000 in
theorem ggX8_to_X8_denied : GoodIn wsX8_to wsX8_denied := goodIn_r _ [12, 13, 29, 30, 31, 32, 33, 34, 35, 36, 37, 38, 39, 40] (by decide +kernel) (by decide +kernel)
set_option maxRecDepth 20000 in
theorem gX8_to_X8_denied : GoodIn wsX8_to (wsV RX8 70 RX8 yX8_denied wsX8_denied) := goodIn_app (goodIn_of _ (by decide +kernel)) ggX8_to_X8_denied
set_option maxRecDepth 20000 in
theorem ggX8_to_X8_forgetWays : GoodIn wsX8_to wsX8_forgetWays := goodIn_r _ [17, 18, 19, 20, 21, 22, 23, 24, 29, 30, 31, 32, 33, 34, 35, 36, 37, 38, 39, 40, 56, 57, 58, 59] (by decide +kernel) (by decide +kernel)
set_option maxRecDepth 20000 in
theorem gX8_to_X8_forgetWays : GoodIn wsX8_to (wsV RX8 125 RX8 yX8_forgetWays wsX8_forgetWays) := goodIn_app (goodIn_of _ (by decide +kernel)) ggX8_to_X8_forgetWays
set_option maxRecDepth 20000 in
theorem ggX8_to_X8_granted : GoodIn wsX8_to wsX8_granted := goodIn_r _ [28, 13, 29, 30, 31, 32, 33, 34, 35, 36, 37, 38, 39, 40] (by decide +kernel) (by decide +kernel)
set_option maxRecDepth 20000 in
theorem gX8_to_X8_granted : GoodIn wsX8_to (wsV RX8 77 RX8 yX8_granted wsX8_granted) := goodIn_app (goodIn_of _ (by decide +kernel)) ggX8_to_X8_granted
theorem dX8_to_0 : decode cX8_to 0 = .ok (.iload_n 1, 1) := by decide +kernel
theorem dX8_to_1 : decode cX8_to 1 = .ok (.iload_n 2, 1) := by decide +kernel
theorem dX8_to_2 : decode cX8_to 2 = .ok (.invokestatic 144, 3) := by decide +kernel
theorem dX8_to_5 : decode cX8_to 5 = .ok (.ifCond .ne 9, 3) := by decide +kernel
theorem dX8_to_8 : decode cX8_to 8 = .ok (.aload_n 0, 1) := by decide +kernel
theorem dX8_to_9 : decode cX8_to 9 = .ok (.iconst 2, 1) := by decide +kernel
theorem dX8_to_10 : decode cX8_to 10 = .ok (.invokevirtual 70, 3) := by decide +kernel
theorem dX8_to_13 : decode cX8_to 13 = .ok (.ireturn, 1) := by decide +kernel
theorem dX8_to_14 : decode cX8_to 14 = .ok (.aload_n 0, 1) := by decide +kernel
theorem dX8_to_15 : decode cX8_to 15 = .ok (.getfield 19, 3) := by decide +kernel
theorem dX8_to_18 : decode cX8_to 18 = .ok (.iload_n 1, 1) := by decide +kernel
theorem dX8_to_19 : decode cX8_to 19 = .ok (.putfield 160, 3) := by decide +kernel
theorem dX8_to_22 : decode cX8_to 22 = .ok (.aload_n 0, 1) := by decide +kernel
theorem dX8_to_23 : decode cX8_to 23 = .ok (.getfield 19, 3) := by decide +kernel
theorem dX8_to_26 : decode cX8_to 26 = .ok (.iload_n 2, 1) := by decide +kernel
theorem dX8_to_27 : decode cX8_to 27 = .ok (.putfield 163, 3) := by decide +kernel
theorem dX8_to_30 : decode cX8_to 30 = .ok (.aload_n 0, 1) := by decide +kernel
theorem dX8_to_31 : decode cX8_to 31 = .ok (.invokevirtual 125, 3) := by decide +kernel
theorem dX8_to_34 : decode cX8_to 34 = .ok (.aload_n 0, 1) := by decide +kernel
theorem dX8_to_35 : decode cX8_to 35 = .ok (.invokevirtual 77, 3) := by decide +kernel
theorem dX8_to_38 : decode cX8_to 38 = .ok (.ireturn, 1) := by decide +kernel
set_option maxRecDepth 20000 in
theorem ggX8_open_X4_isSquare : GoodIn wsX8_open wsX4_isSquare := goodIn_r _ [5] (by decide +kernel) (by decide +kernel)
set_option maxRecDepth 20000 in
theorem gX8_open_X4_isSquare : GoodIn wsX8_open (va_wsS RX8 144 yX4_isSquare wsX4_isSquare) := goodIn_app (goodIn_of _ (by decide +kernel)) ggX8_open_X4_isSquare
set_option maxRecDepth 20000 in
theorem ggX8_open_X8_refused : GoodIn wsX8_open wsX8_refused := goodIn_r _ [10, 11, 25, 26, 27, 28, 29, 30, 31, 32, 33, 34, 35, 36] (by decide +kernel) (by decide +kernel)
set_option maxRecDepth 20000 in
theorem gX8_open_X8_refused : GoodIn wsX8_open (wsV RX8 88 RX8 yX8_refused wsX8_refused) := goodIn_app (goodIn_of _ (by decide +kernel)) ggX8_open_X8_refused
set_option maxRecDepth 20000 in
theorem ggX8_open_X4_isOpen : GoodIn wsX8_open wsX4_isOpen := goodIn_r _ [15, 16, 17, 3, 4, 5, 18, 19, 20, 37, 38, 39, 40, 41, 42, 43, 44, 45, 46, 47, 48, 49, 50, 51] (by decide +kernel) (by decide +kernel)
set_option maxRecDepth 20000 in
theorem gX8_open_X4_isOpen : GoodIn wsX8_open (wsV RX8 166 RX4 yX4_isOpen wsX4_isOpen) := goodIn_app (goodIn_of _ (by decide +kernel)) ggX8_open_X4_isOpen
set_option maxRecDepth 20000 in
theorem ggX8_open_X8_given : GoodIn wsX8_open wsX8_given := goodIn_r _ [24, 11, 25, 26, 27, 28, 29, 30, 31, 32, 33, 34, 35, 36] (by decide +kernel) (by decide +kernel)
set_option maxRecDepth 20000 in
theorem gX8_open_X8_given : GoodIn wsX8_open (wsV RX8 95 RX8 yX8_given wsX8_given) := goodIn_app (goodIn_of _ (by decide +kernel)) ggX8_open_X8_given
theorem dX8_open_0 : decode cX8_open 0 = .ok (.iload_n 1, 1) := by decide +kernel
theorem dX8_open_1 : decode cX8_open 1 = .ok (.iload_n 2, 1) := by decide +kernel
theorem dX8_open_2 : decode cX8_open 2 = .ok (.invokestatic 144, 3) := by decide +kernel
theorem dX8_open_5 : decode cX8_open 5 = .ok (.ifCond .ne 9, 3) := by decide +kernel
theorem dX8_open_8 : decode cX8_open 8 = .ok (.aload_n 0, 1) := by decide +kernel
theorem dX8_open_9 : decode cX8_open 9 = .ok (.iconst 2, 1) := by decide +kernel
theorem dX8_open_10 : decode cX8_open 10 = .ok (.invokevirtual 88, 3) := by decide +kernel
theorem dX8_open_13 : decode cX8_open 13 = .ok (.ireturn, 1) := by decide +kernel
theorem dX8_open_14 : decode cX8_open 14 = .ok (.aload_n 0, 1) := by decide +kernel
theorem dX8_open_15 : decode cX8_open 15 = .ok (.aload_n 0, 1) := by decide +kernel
theorem dX8_open_16 : decode cX8_open 16 = .ok (.getfield 19, 3) := by decide +kernel
theorem dX8_open_19 : decode cX8_open 19 = .ok (.iload_n 1, 1) := by decide +kernel
theorem dX8_open_20 : decode cX8_open 20 = .ok (.iload_n 2, 1) := by decide +kernel
theorem dX8_open_21 : decode cX8_open 21 = .ok (.invokevirtual 166, 3) := by decide +kernel
theorem dX8_open_24 : decode cX8_open 24 = .ok (.ifCond .eq 7, 3) := by decide +kernel
theorem dX8_open_27 : decode cX8_open 27 = .ok (.iconst 1, 1) := by decide +kernel
theorem dX8_open_28 : decode cX8_open 28 = .ok (.goto 4, 3) := by decide +kernel
theorem dX8_open_31 : decode cX8_open 31 = .ok (.iconst 0, 1) := by decide +kernel
theorem dX8_open_32 : decode cX8_open 32 = .ok (.invokevirtual 95, 3) := by decide +kernel
theorem dX8_open_35 : decode cX8_open 35 = .ok (.ireturn, 1) := by decide +kernel
set_option maxRecDepth 20000 in
theorem ggX8_count_X8_walkFault : GoodIn wsX8_count wsX8_walkFault := goodIn_r _ [6, 1, 7, 8, 5, 9, 10, 11, 12, 13, 14, 15, 16, 17, 18, 19, 20, 21, 22, 23, 24, 25, 26, 27, 28, 29, 135, 136, 137, 138, 139, 140, 141, 142, 143, 144, 145, 146, 147, 148, 149, 150, 151, 152, 153, 154, 155, 156, 157, 158, 159, 160, 161] (by decide +kernel) (by decide +kernel)
set_option maxRecDepth 20000 in
theorem gX8_count_X8_walkFault : GoodIn wsX8_count (wsV RX8 169 RX8 yX8_walkFault wsX8_walkFault) := goodIn_app (goodIn_of _ (by decide +kernel)) ggX8_count_X8_walkFault
set_option maxRecDepth 20000 in
theorem ggX8_count_X8_refused : GoodIn wsX8_count wsX8_refused := goodIn_r _ [33, 34, 135, 136, 137, 138, 139, 140, 141, 142, 143, 144, 145, 146] (by decide +kernel) (by decide +kernel)
set_option maxRecDepth 20000 in
theorem gX8_count_X8_refused : GoodIn wsX8_count (wsV RX8 88 RX8 yX8_refused wsX8_refused) := goodIn_app (goodIn_of _ (by decide +kernel)) ggX8_count_X8_refused
set_option maxRecDepth 20000 in
theorem ggX8_count_X8_waysFor : GoodIn wsX8_count wsX8_waysFor := goodIn_r _ [38, 39, 40, 41, 5, 42, 43, 44, 45, 46, 1, 47, 48, 49, 50, 51, 52, 53, 54, 55, 56, 57, 58, 59, 60, 61, 62, 63, 64, 65, 66, 13, 67, 17, 18, 27, 28, 29, 68, 69, 70, 71, 72, 73, 74, 75, 23, 76, 77, 78, 79, 80, 81, 82, 83, 84, 85, 86, 87, 88, 89, 90, 91, 92, 93, 94, 95, 96, 97, 98, 99, 100, 101, 102, 103, 104, 105, 106, 107, 108, 109, 110, 111, 112, 113, 114, 115, 116, 117, 135, 136, 137, 138, 139, 140, 141, 142, 143, 144, 145, 146, 162, 163, 164, 165, 147, 148, 149, 150, 151, 152, 153, 154, 155, 156, 157, 158, 159, 160, 161] (by decide +kernel) (by decide +kernel)
set_option maxRecDepth 20000 in
theorem gX8_count_X8_waysFor : GoodIn wsX8_count (wsV RX8 172 RX8 yX8_waysFor wsX8_waysFor) := goodIn_app (goodIn_of _ (by decide +kernel)) ggX8_count_X8_waysFor
set_option maxRecDepth 20000 in
theorem ggX8_count_X4_cellA : GoodIn wsX8_count wsX4_cellA := goodIn_r _ [121, 15, 16, 27, 28, 13, 29, 147, 148, 149, 150, 151, 152, 153, 154, 155, 156, 157, 158, 159, 160, 161] (by decide +kernel) (by decide +kernel)
set_option maxRecDepth 20000 in
theorem gX8_count_X4_cellA : GoodIn wsX8_count (wsV RX8 176 RX4 yX4_cellA wsX4_cellA) := goodIn_app (goodIn_of _ (by decide +kernel)) ggX8_count_X4_cellA
set_option maxRecDepth 20000 in
theorem ggX8_count_X6_onward : GoodIn wsX8_count wsX6_onward := goodIn_r _ [125, 62, 55, 162, 163, 164, 165] (by decide +kernel) (by decide +kernel)
set_option maxRecDepth 20000 in
theorem gX8_count_X6_onward : GoodIn wsX8_count (wsV RX8 180 RX6 yX6_onward wsX6_onward) := goodIn_app (goodIn_of _ (by decide +kernel)) ggX8_count_X6_onward
set_option maxRecDepth 20000 in
theorem ggX8_count_X8_givenUnlessGreat : GoodIn wsX8_count wsX8_givenUnlessGreat := goodIn_r _ [129, 130, 30, 31, 32, 5, 33, 34, 131, 132, 133, 134, 135, 136, 137, 138, 139, 140, 141, 142, 143, 144, 145, 146] (by decide +kernel) (by decide +kernel)
set_option maxRecDepth 20000 in
theorem gX8_count_X8_givenUnlessGreat : GoodIn wsX8_count (wsV RX8 186 RX8 yX8_givenUnlessGreat wsX8_givenUnlessGreat) := goodIn_app (goodIn_of _ (by decide +kernel)) ggX8_count_X8_givenUnlessGreat
theorem dX8_count_0 : decode cX8_count 0 = .ok (.aload_n 0, 1) := by decide +kernel
theorem dX8_count_1 : decode cX8_count 1 = .ok (.iload_n 1, 1) := by decide +kernel
theorem dX8_count_2 : decode cX8_count 2 = .ok (.bipush 60, 2) := by decide +kernel
theorem dX8_count_4 : decode cX8_count 4 = .ok (.invokevirtual 169, 3) := by decide +kernel
theorem dX8_count_7 : decode cX8_count 7 = .ok (.istore_n 2, 1) := by decide +kernel
theorem dX8_count_8 : decode cX8_count 8 = .ok (.iload_n 2, 1) := by decide +kernel
theorem dX8_count_9 : decode cX8_count 9 = .ok (.ifCond .eq 10, 3) := by decide +kernel
theorem dX8_count_12 : decode cX8_count 12 = .ok (.aload_n 0, 1) := by decide +kernel
theorem dX8_count_13 : decode cX8_count 13 = .ok (.iload_n 2, 1) := by decide +kernel
theorem dX8_count_14 : decode cX8_count 14 = .ok (.invokevirtual 88, 3) := by decide +kernel
theorem dX8_count_17 : decode cX8_count 17 = .ok (.i2l, 1) := by decide +kernel
theorem dX8_count_18 : decode cX8_count 18 = .ok (.lreturn, 1) := by decide +kernel
theorem dX8_count_19 : decode cX8_count 19 = .ok (.aload_n 0, 1) := by decide +kernel
theorem dX8_count_20 : decode cX8_count 20 = .ok (.aload_n 0, 1) := by decide +kernel
theorem dX8_count_21 : decode cX8_count 21 = .ok (.iload_n 1, 1) := by decide +kernel
theorem dX8_count_22 : decode cX8_count 22 = .ok (.invokevirtual 172, 3) := by decide +kernel
theorem dX8_count_25 : decode cX8_count 25 = .ok (.iload_n 1, 1) := by decide +kernel
theorem dX8_count_26 : decode cX8_count 26 = .ok (.aload_n 0, 1) := by decide +kernel
theorem dX8_count_27 : decode cX8_count 27 = .ok (.getfield 19, 3) := by decide +kernel
theorem dX8_count_30 : decode cX8_count 30 = .ok (.invokevirtual 176, 3) := by decide +kernel
theorem dX8_count_33 : decode cX8_count 33 = .ok (.invokevirtual 180, 3) := by decide +kernel
theorem dX8_count_36 : decode cX8_count 36 = .ok (.invokevirtual 186, 3) := by decide +kernel
theorem dX8_count_39 : decode cX8_count 39 = .ok (.lreturn, 1) := by decide +kernel
set_option maxRecDepth 20000 in
theorem ggX8_all_X8_within : GoodIn wsX8_all wsX8_within := goodIn_r _ [7] (by decide +kernel) (by decide +kernel)
set_option maxRecDepth 20000 in
theorem gX8_all_X8_within : GoodIn wsX8_all (va_wsS RX8 66 yX8_within wsX8_within) := goodIn_app (goodIn_of _ (by decide +kernel)) ggX8_all_X8_within
set_option maxRecDepth 20000 in
theorem ggX8_all_X8_refused : GoodIn wsX8_all wsX8_refused := goodIn_r _ [11, 12, 114, 115, 116, 117, 118, 119, 120, 121, 122, 123, 124, 125] (by decide +kernel) (by decide +kernel)
set_option maxRecDepth 20000 in
theorem gX8_all_X8_refused : GoodIn wsX8_all (wsV RX8 88 RX8 yX8_refused wsX8_refused) := goodIn_app (goodIn_of _ (by decide +kernel)) ggX8_all_X8_refused
set_option maxRecDepth 20000 in
theorem ggX8_all_X4_isOpen : GoodIn wsX8_all wsX4_isOpen := goodIn_r _ [17, 18, 19, 20, 16, 21, 22, 23, 24, 126, 127, 128, 129, 130, 131, 132, 133, 134, 135, 136, 137, 138, 139, 140] (by decide +kernel) (by decide +kernel)
set_option maxRecDepth 20000 in
theorem gX8_all_X4_isOpen : GoodIn wsX8_all (wsV RX8 166 RX4 yX4_isOpen wsX4_isOpen) := goodIn_app (goodIn_of _ (by decide +kernel)) ggX8_all_X4_isOpen
set_option maxRecDepth 20000 in
theorem ggX8_all_X8_waysKept : GoodIn wsX8_all wsX8_waysKept := goodIn_r _ [28, 29, 30, 31, 32, 1, 33, 34, 35, 36, 37, 38, 39, 40, 41, 42, 43, 114, 115, 116, 117, 118, 119, 120, 121, 122, 123, 124, 125, 141, 142, 143, 144] (by decide +kernel) (by decide +kernel)
set_option maxRecDepth 20000 in
theorem gX8_all_X8_waysKept : GoodIn wsX8_all (wsV RX8 190 RX8 yX8_waysKept wsX8_waysKept) := goodIn_app (goodIn_of _ (by decide +kernel)) ggX8_all_X8_waysKept
set_option maxRecDepth 20000 in
theorem ggX8_all_X6_anywhere : GoodIn wsX8_all wsX6_anywhere := goodIn_r _ [47, 42, 43, 48, 49, 50, 51, 32, 52, 53, 54, 55, 16, 56, 18, 57, 58, 59, 60, 61, 62, 63, 23, 24, 64, 65, 66, 67, 68, 69, 70, 71, 72, 73, 74, 75, 76, 77, 78, 79, 80, 81, 82, 83, 84, 85, 86, 87, 88, 89, 90, 91, 92, 93, 94, 95, 96, 97, 98, 99, 100, 101, 102, 103, 104, 22, 141, 142, 143, 144, 126, 127, 128, 129, 130, 131, 132, 133, 134, 135, 136, 137, 138, 139, 140] (by decide +kernel) (by decide +kernel)
set_option maxRecDepth 20000 in
theorem gX8_all_X6_anywhere : GoodIn wsX8_all (wsV RX8 194 RX6 yX6_anywhere wsX6_anywhere) := goodIn_app (goodIn_of _ (by decide +kernel)) ggX8_all_X6_anywhere
set_option maxRecDepth 20000 in
theorem ggX8_all_X8_givenUnlessGreat : GoodIn wsX8_all wsX8_givenUnlessGreat := goodIn_r _ [108, 109, 8, 9, 10, 6, 11, 12, 110, 111, 112, 113, 114, 115, 116, 117, 118, 119, 120, 121, 122, 123, 124, 125] (by decide +kernel) (by decide +kernel)
set_option maxRecDepth 20000 in
theorem gX8_all_X8_givenUnlessGreat : GoodIn wsX8_all (wsV RX8 186 RX8 yX8_givenUnlessGreat wsX8_givenUnlessGreat) := goodIn_app (goodIn_of _ (by decide +kernel)) ggX8_all_X8_givenUnlessGreat
theorem dX8_all_0 : decode cX8_all 0 = .ok (.iload_n 1, 1) := by decide +kernel
theorem dX8_all_1 : decode cX8_all 1 = .ok (.iconst 0, 1) := by decide +kernel
theorem dX8_all_2 : decode cX8_all 2 = .ok (.bipush 60, 2) := by decide +kernel
theorem dX8_all_4 : decode cX8_all 4 = .ok (.invokestatic 66, 3) := by decide +kernel
theorem dX8_all_7 : decode cX8_all 7 = .ok (.ifCond .ne 10, 3) := by decide +kernel
theorem dX8_all_10 : decode cX8_all 10 = .ok (.aload_n 0, 1) := by decide +kernel
theorem dX8_all_11 : decode cX8_all 11 = .ok (.iconst 2, 1) := by decide +kernel
theorem dX8_all_12 : decode cX8_all 12 = .ok (.invokevirtual 88, 3) := by decide +kernel
theorem dX8_all_15 : decode cX8_all 15 = .ok (.i2l, 1) := by decide +kernel
theorem dX8_all_16 : decode cX8_all 16 = .ok (.lreturn, 1) := by decide +kernel
theorem dX8_all_17 : decode cX8_all 17 = .ok (.aload_n 0, 1) := by decide +kernel
theorem dX8_all_18 : decode cX8_all 18 = .ok (.getfield 19, 3) := by decide +kernel
theorem dX8_all_21 : decode cX8_all 21 = .ok (.aload_n 0, 1) := by decide +kernel
theorem dX8_all_22 : decode cX8_all 22 = .ok (.getfield 19, 3) := by decide +kernel
theorem dX8_all_25 : decode cX8_all 25 = .ok (.getfield 154, 3) := by decide +kernel
theorem dX8_all_28 : decode cX8_all 28 = .ok (.aload_n 0, 1) := by decide +kernel
theorem dX8_all_29 : decode cX8_all 29 = .ok (.getfield 19, 3) := by decide +kernel
theorem dX8_all_32 : decode cX8_all 32 = .ok (.getfield 157, 3) := by decide +kernel
theorem dX8_all_35 : decode cX8_all 35 = .ok (.invokevirtual 166, 3) := by decide +kernel
theorem dX8_all_38 : decode cX8_all 38 = .ok (.ifCond .ne 11, 3) := by decide +kernel
theorem dX8_all_41 : decode cX8_all 41 = .ok (.aload_n 0, 1) := by decide +kernel
theorem dX8_all_42 : decode cX8_all 42 = .ok (.bipush 7, 2) := by decide +kernel
theorem dX8_all_44 : decode cX8_all 44 = .ok (.invokevirtual 88, 3) := by decide +kernel
theorem dX8_all_47 : decode cX8_all 47 = .ok (.i2l, 1) := by decide +kernel
theorem dX8_all_48 : decode cX8_all 48 = .ok (.lreturn, 1) := by decide +kernel
theorem dX8_all_49 : decode cX8_all 49 = .ok (.aload_n 0, 1) := by decide +kernel
theorem dX8_all_50 : decode cX8_all 50 = .ok (.aload_n 0, 1) := by decide +kernel
theorem dX8_all_51 : decode cX8_all 51 = .ok (.invokevirtual 190, 3) := by decide +kernel
theorem dX8_all_54 : decode cX8_all 54 = .ok (.iload_n 1, 1) := by decide +kernel
theorem dX8_all_55 : decode cX8_all 55 = .ok (.invokevirtual 194, 3) := by decide +kernel
theorem dX8_all_58 : decode cX8_all 58 = .ok (.invokevirtual 186, 3) := by decide +kernel
theorem dX8_all_61 : decode cX8_all 61 = .ok (.lreturn, 1) := by decide +kernel
set_option maxRecDepth 20000 in
theorem ggX8_least_X4_endsOpen : GoodIn wsX8_least wsX4_endsOpen := goodIn_r _ [6, 7, 8, 9, 10, 11, 12, 13, 5, 14, 15, 16, 17, 18, 19, 20, 21, 135, 136, 137, 138, 139, 140, 141, 142, 143, 144, 145, 146, 147, 148, 149] (by decide +kernel) (by decide +kernel)
set_option maxRecDepth 20000 in
theorem gX8_least_X4_endsOpen : GoodIn wsX8_least (wsV RX8 198 RX4 yX4_endsOpen wsX4_endsOpen) := goodIn_app (goodIn_of _ (by decide +kernel)) ggX8_least_X4_endsOpen
set_option maxRecDepth 20000 in
theorem ggX8_least_X8_refused : GoodIn wsX8_least wsX8_refused := goodIn_r _ [26, 27, 123, 124, 125, 126, 127, 128, 129, 130, 131, 132, 133, 134] (by decide +kernel) (by decide +kernel)
set_option maxRecDepth 20000 in
theorem gX8_least_X8_refused : GoodIn wsX8_least (wsV RX8 88 RX8 yX8_refused wsX8_refused) := goodIn_app (goodIn_of _ (by decide +kernel)) ggX8_least_X8_refused
set_option maxRecDepth 20000 in
theorem ggX8_least_X8_waysFor : GoodIn wsX8_least wsX8_waysFor := goodIn_r _ [31, 32, 33, 34, 25, 35, 36, 37, 38, 39, 1, 40, 41, 42, 43, 44, 45, 46, 47, 48, 49, 50, 51, 52, 53, 54, 55, 56, 57, 58, 59, 5, 60, 9, 10, 19, 20, 21, 61, 62, 63, 64, 65, 66, 67, 68, 15, 69, 70, 71, 72, 73, 74, 75, 76, 77, 78, 79, 80, 81, 82, 83, 84, 85, 86, 87, 88, 89, 90, 91, 92, 93, 94, 95, 96, 97, 98, 99, 100, 101, 102, 103, 104, 105, 106, 107, 108, 109, 110, 123, 124, 125, 126, 127, 128, 129, 130, 131, 132, 133, 134, 150, 151, 152, 153, 135, 136, 137, 138, 139, 140, 141, 142, 143, 144, 145, 146, 147, 148, 149] (by decide +kernel) (by decide +kernel)
set_option maxRecDepth 20000 in
theorem gX8_least_X8_waysFor : GoodIn wsX8_least (wsV RX8 172 RX8 yX8_waysFor wsX8_waysFor) := goodIn_app (goodIn_of _ (by decide +kernel)) ggX8_least_X8_waysFor
set_option maxRecDepth 20000 in
theorem ggX8_least_X4_cellA : GoodIn wsX8_least wsX4_cellA := goodIn_r _ [114, 7, 8, 19, 20, 5, 21, 135, 136, 137, 138, 139, 140, 141, 142, 143, 144, 145, 146, 147, 148, 149] (by decide +kernel) (by decide +kernel)
set_option maxRecDepth 20000 in
theorem gX8_least_X4_cellA : GoodIn wsX8_least (wsV RX8 176 RX4 yX4_cellA wsX4_cellA) := goodIn_app (goodIn_of _ (by decide +kernel)) ggX8_least_X4_cellA
set_option maxRecDepth 20000 in
theorem ggX8_least_X6_onward : GoodIn wsX8_least wsX6_onward := goodIn_r _ [118, 55, 48, 150, 151, 152, 153] (by decide +kernel) (by decide +kernel)
set_option maxRecDepth 20000 in
theorem gX8_least_X6_onward : GoodIn wsX8_least (wsV RX8 180 RX6 yX6_onward wsX6_onward) := goodIn_app (goodIn_of _ (by decide +kernel)) ggX8_least_X6_onward
set_option maxRecDepth 20000 in
theorem ggX8_least_X8_given : GoodIn wsX8_least wsX8_given := goodIn_r _ [122, 27, 123, 124, 125, 126, 127, 128, 129, 130, 131, 132, 133, 134] (by decide +kernel) (by decide +kernel)
set_option maxRecDepth 20000 in
theorem gX8_least_X8_given : GoodIn wsX8_least (wsV RX8 95 RX8 yX8_given wsX8_given) := goodIn_app (goodIn_of _ (by decide +kernel)) ggX8_least_X8_given
theorem dX8_least_0 : decode cX8_least 0 = .ok (.aload_n 0, 1) := by decide +kernel
theorem dX8_least_1 : decode cX8_least 1 = .ok (.getfield 19, 3) := by decide +kernel
theorem dX8_least_4 : decode cX8_least 4 = .ok (.invokevirtual 198, 3) := by decide +kernel
theorem dX8_least_7 : decode cX8_least 7 = .ok (.ifCond .ne 10, 3) := by decide +kernel
theorem dX8_least_10 : decode cX8_least 10 = .ok (.aload_n 0, 1) := by decide +kernel
theorem dX8_least_11 : decode cX8_least 11 = .ok (.bipush 7, 2) := by decide +kernel
theorem dX8_least_13 : decode cX8_least 13 = .ok (.invokevirtual 88, 3) := by decide +kernel
theorem dX8_least_16 : decode cX8_least 16 = .ok (.ireturn, 1) := by decide +kernel
theorem dX8_least_17 : decode cX8_least 17 = .ok (.iconst 0, 1) := by decide +kernel
theorem dX8_least_18 : decode cX8_least 18 = .ok (.istore_n 1, 1) := by decide +kernel
theorem dX8_least_19 : decode cX8_least 19 = .ok (.iload_n 1, 1) := by decide +kernel
theorem dX8_least_20 : decode cX8_least 20 = .ok (.bipush 60, 2) := by decide +kernel
theorem dX8_least_22 : decode cX8_least 22 = .ok (.if_icmp .gt 36, 3) := by decide +kernel
theorem dX8_least_25 : decode cX8_least 25 = .ok (.aload_n 0, 1) := by decide +kernel
theorem dX8_least_26 : decode cX8_least 26 = .ok (.iload_n 1, 1) := by decide +kernel
theorem dX8_least_27 : decode cX8_least 27 = .ok (.invokevirtual 172, 3) := by decide +kernel
theorem dX8_least_30 : decode cX8_least 30 = .ok (.iload_n 1, 1) := by decide +kernel
theorem dX8_least_31 : decode cX8_least 31 = .ok (.aload_n 0, 1) := by decide +kernel
theorem dX8_least_32 : decode cX8_least 32 = .ok (.getfield 19, 3) := by decide +kernel
theorem dX8_least_35 : decode cX8_least 35 = .ok (.invokevirtual 176, 3) := by decide +kernel
theorem dX8_least_38 : decode cX8_least 38 = .ok (.invokevirtual 180, 3) := by decide +kernel
theorem dX8_least_41 : decode cX8_least 41 = .ok (.lconst 0, 1) := by decide +kernel
theorem dX8_least_42 : decode cX8_least 42 = .ok (.lcmp, 1) := by decide +kernel
theorem dX8_least_43 : decode cX8_least 43 = .ok (.ifCond .le 9, 3) := by decide +kernel
theorem dX8_least_46 : decode cX8_least 46 = .ok (.aload_n 0, 1) := by decide +kernel
theorem dX8_least_47 : decode cX8_least 47 = .ok (.iload_n 1, 1) := by decide +kernel
theorem dX8_least_48 : decode cX8_least 48 = .ok (.invokevirtual 95, 3) := by decide +kernel
theorem dX8_least_51 : decode cX8_least 51 = .ok (.ireturn, 1) := by decide +kernel
theorem dX8_least_52 : decode cX8_least 52 = .ok (.iinc 1 1, 3) := by decide +kernel
theorem dX8_least_55 : decode cX8_least 55 = .ok (.goto (-36), 3) := by decide +kernel
theorem dX8_least_58 : decode cX8_least 58 = .ok (.aload_n 0, 1) := by decide +kernel
theorem dX8_least_59 : decode cX8_least 59 = .ok (.bipush 8, 2) := by decide +kernel
theorem dX8_least_61 : decode cX8_least 61 = .ok (.invokevirtual 88, 3) := by decide +kernel
theorem dX8_least_64 : decode cX8_least 64 = .ok (.ireturn, 1) := by decide +kernel
set_option maxRecDepth 20000 in
theorem ggX8_sum_X8_within : GoodIn wsX8_sum wsX8_within := goodIn_r _ [5] (by decide +kernel) (by decide +kernel)
set_option maxRecDepth 20000 in
theorem gX8_sum_X8_within : GoodIn wsX8_sum (va_wsS RX8 66 yX8_within wsX8_within) := goodIn_app (goodIn_of _ (by decide +kernel)) ggX8_sum_X8_within
set_option maxRecDepth 20000 in
theorem ggX8_sum_X8_refused : GoodIn wsX8_sum wsX8_refused := goodIn_r _ [9, 10, 222, 223, 224, 225, 226, 227, 228, 229, 230, 231, 232, 233] (by decide +kernel) (by decide +kernel)
set_option maxRecDepth 20000 in
theorem gX8_sum_X8_refused : GoodIn wsX8_sum (wsV RX8 88 RX8 yX8_refused wsX8_refused) := goodIn_app (goodIn_of _ (by decide +kernel)) ggX8_sum_X8_refused
set_option maxRecDepth 20000 in
theorem ggX8_sum_X8_weighFault : GoodIn wsX8_sum wsX8_weighFault := goodIn_r _ [14, 1, 15, 2, 3, 4, 5, 16, 17, 18, 19, 20, 21, 22, 23, 24, 25, 26, 27, 28, 29, 30, 31, 32, 33, 34, 35, 222, 223, 224, 225, 226, 227, 228, 229, 230, 231, 232, 233, 234, 235, 236, 237, 238, 239, 240, 241, 242, 243, 244, 245, 246, 247, 248] (by decide +kernel) (by decide +kernel)
set_option maxRecDepth 20000 in
theorem gX8_sum_X8_weighFault : GoodIn wsX8_sum (wsV RX8 201 RX8 yX8_weighFault wsX8_weighFault) := goodIn_app (goodIn_of _ (by decide +kernel)) ggX8_sum_X8_weighFault
set_option maxRecDepth 20000 in
theorem ggX8_sum_X8_waysFor : GoodIn wsX8_sum wsX8_waysFor := goodIn_r _ [39, 40, 41, 42, 4, 43, 44, 45, 46, 47, 1, 48, 49, 50, 51, 52, 53, 54, 55, 56, 57, 58, 59, 60, 61, 62, 63, 64, 65, 66, 67, 19, 68, 23, 24, 33, 34, 35, 69, 70, 71, 72, 73, 74, 75, 76, 29, 77, 78, 79, 80, 81, 82, 83, 84, 85, 86, 87, 88, 89, 90, 91, 92, 93, 94, 95, 96, 97, 98, 99, 100, 101, 102, 103, 104, 105, 106, 107, 108, 109, 110, 111, 112, 113, 114, 115, 116, 117, 118, 222, 223, 224, 225, 226, 227, 228, 229, 230, 231, 232, 233, 249, 250, 251, 252, 234, 235, 236, 237, 238, 239, 240, 241, 242, 243, 244, 245, 246, 247, 248] (by decide +kernel) (by decide +kernel)
set_option maxRecDepth 20000 in
theorem gX8_sum_X8_waysFor : GoodIn wsX8_sum (wsV RX8 172 RX8 yX8_waysFor wsX8_waysFor) := goodIn_app (goodIn_of _ (by decide +kernel)) ggX8_sum_X8_waysFor
set_option maxRecDepth 20000 in
theorem ggX8_sum_X4_cellA : GoodIn wsX8_sum wsX4_cellA := goodIn_r _ [122, 21, 22, 33, 34, 19, 35, 234, 235, 236, 237, 238, 239, 240, 241, 242, 243, 244, 245, 246, 247, 248] (by decide +kernel) (by decide +kernel)
set_option maxRecDepth 20000 in
theorem gX8_sum_X4_cellA : GoodIn wsX8_sum (wsV RX8 176 RX4 yX4_cellA wsX4_cellA) := goodIn_app (goodIn_of _ (by decide +kernel)) ggX8_sum_X4_cellA
set_option maxRecDepth 20000 in
theorem ggX8_sum_X6_onward : GoodIn wsX8_sum wsX6_onward := goodIn_r _ [126, 63, 56, 249, 250, 251, 252] (by decide +kernel) (by decide +kernel)
set_option maxRecDepth 20000 in
theorem gX8_sum_X6_onward : GoodIn wsX8_sum (wsV RX8 180 RX6 yX6_onward wsX6_onward) := goodIn_app (goodIn_of _ (by decide +kernel)) ggX8_sum_X6_onward
set_option maxRecDepth 20000 in
theorem ggX8_sum_X8_givenLong : GoodIn wsX8_sum wsX8_givenLong := goodIn_r _ [130, 10, 222, 223, 224, 225, 226, 227, 228, 229, 230, 231, 232, 233] (by decide +kernel) (by decide +kernel)
set_option maxRecDepth 20000 in
theorem gX8_sum_X8_givenLong : GoodIn wsX8_sum (wsV RX8 204 RX8 yX8_givenLong wsX8_givenLong) := goodIn_app (goodIn_of _ (by decide +kernel)) ggX8_sum_X8_givenLong
set_option maxRecDepth 20000 in
theorem ggX8_sum_X8_weigherKept : GoodIn wsX8_sum wsX8_weigherKept := goodIn_r _ [134, 135, 136, 137, 138, 1, 40, 41, 42, 4, 43, 44, 45, 46, 47, 48, 49, 50, 51, 52, 53, 54, 55, 56, 57, 58, 139, 140, 141, 142, 143, 144, 145, 146, 147, 148, 149, 150, 151, 222, 223, 224, 225, 226, 227, 228, 229, 230, 231, 232, 233, 253, 254, 255, 256, 257, 258, 259, 260, 261, 262, 263, 264, 265, 266, 249, 250, 251, 252] (by decide +kernel) (by decide +kernel)
set_option maxRecDepth 20000 in
theorem gX8_sum_X8_weigherKept : GoodIn wsX8_sum (wsV RX8 207 RX8 yX8_weigherKept wsX8_weigherKept) := goodIn_app (goodIn_of _ (by decide +kernel)) ggX8_sum_X8_weigherKept
set_option maxRecDepth 20000 in
theorem ggX8_sum_X7_tallied : GoodIn wsX8_sum wsX7_tallied := goodIn_r _ [155, 156, 157, 158, 148, 159, 160, 161, 138, 162, 145, 150, 163, 164, 165, 120, 121, 19, 122, 21, 22, 33, 34, 35, 166, 167, 168, 169, 170, 171, 151, 144, 146, 172, 107, 96, 108, 173, 174, 175, 176, 177, 178, 179, 180, 181, 182, 183, 184, 92, 185, 85, 86, 87, 186, 74, 75, 76, 29, 187, 124, 125, 47, 126, 63, 56, 188, 189, 190, 191, 149, 192, 193, 194, 195, 196, 197, 198, 199, 200, 201, 202, 203, 204, 205, 206, 207, 208, 209, 210, 211, 212, 213, 214, 215, 216, 217, 218, 219, 220, 221, 253, 254, 255, 256, 257, 258, 259, 260, 261, 262, 263, 264, 265, 266, 234, 235, 236, 237, 238, 239, 240, 241, 242, 243, 244, 245, 246, 247, 248, 249, 250, 251, 252] (by decide +kernel) (by decide +kernel)
set_option maxRecDepth 20000 in
theorem gX8_sum_X7_tallied : GoodIn wsX8_sum (wsV RX8 211 RX7 yX7_tallied wsX7_tallied) := goodIn_app (goodIn_of _ (by decide +kernel)) ggX8_sum_X7_tallied
theorem dX8_sum_0 : decode cX8_sum 0 = .ok (.iload_n 3, 1) := by decide +kernel
theorem dX8_sum_1 : decode cX8_sum 1 = .ok (.iconst 0, 1) := by decide +kernel
theorem dX8_sum_2 : decode cX8_sum 2 = .ok (.bipush 120, 2) := by decide +kernel
theorem dX8_sum_4 : decode cX8_sum 4 = .ok (.invokestatic 66, 3) := by decide +kernel
theorem dX8_sum_7 : decode cX8_sum 7 = .ok (.ifCond .ne 10, 3) := by decide +kernel
theorem dX8_sum_10 : decode cX8_sum 10 = .ok (.aload_n 0, 1) := by decide +kernel
theorem dX8_sum_11 : decode cX8_sum 11 = .ok (.iconst 2, 1) := by decide +kernel
theorem dX8_sum_12 : decode cX8_sum 12 = .ok (.invokevirtual 88, 3) := by decide +kernel
theorem dX8_sum_15 : decode cX8_sum 15 = .ok (.i2l, 1) := by decide +kernel
theorem dX8_sum_16 : decode cX8_sum 16 = .ok (.lreturn, 1) := by decide +kernel
theorem dX8_sum_17 : decode cX8_sum 17 = .ok (.aload_n 0, 1) := by decide +kernel
theorem dX8_sum_18 : decode cX8_sum 18 = .ok (.iload_n 1, 1) := by decide +kernel
theorem dX8_sum_19 : decode cX8_sum 19 = .ok (.iload_n 2, 1) := by decide +kernel
theorem dX8_sum_20 : decode cX8_sum 20 = .ok (.invokevirtual 201, 3) := by decide +kernel
theorem dX8_sum_23 : decode cX8_sum 23 = .ok (.istore 4, 2) := by decide +kernel
theorem dX8_sum_25 : decode cX8_sum 25 = .ok (.iload 4, 2) := by decide +kernel
theorem dX8_sum_27 : decode cX8_sum 27 = .ok (.ifCond .eq 11, 3) := by decide +kernel
theorem dX8_sum_30 : decode cX8_sum 30 = .ok (.aload_n 0, 1) := by decide +kernel
theorem dX8_sum_31 : decode cX8_sum 31 = .ok (.iload 4, 2) := by decide +kernel
theorem dX8_sum_33 : decode cX8_sum 33 = .ok (.invokevirtual 88, 3) := by decide +kernel
theorem dX8_sum_36 : decode cX8_sum 36 = .ok (.i2l, 1) := by decide +kernel
theorem dX8_sum_37 : decode cX8_sum 37 = .ok (.lreturn, 1) := by decide +kernel
theorem dX8_sum_38 : decode cX8_sum 38 = .ok (.aload_n 0, 1) := by decide +kernel
theorem dX8_sum_39 : decode cX8_sum 39 = .ok (.iload_n 2, 1) := by decide +kernel
theorem dX8_sum_40 : decode cX8_sum 40 = .ok (.invokevirtual 172, 3) := by decide +kernel
theorem dX8_sum_43 : decode cX8_sum 43 = .ok (.iload_n 2, 1) := by decide +kernel
theorem dX8_sum_44 : decode cX8_sum 44 = .ok (.aload_n 0, 1) := by decide +kernel
theorem dX8_sum_45 : decode cX8_sum 45 = .ok (.getfield 19, 3) := by decide +kernel
theorem dX8_sum_48 : decode cX8_sum 48 = .ok (.invokevirtual 176, 3) := by decide +kernel
theorem dX8_sum_51 : decode cX8_sum 51 = .ok (.invokevirtual 180, 3) := by decide +kernel
theorem dX8_sum_54 : decode cX8_sum 54 = .ok (.lconst 0, 1) := by decide +kernel
theorem dX8_sum_55 : decode cX8_sum 55 = .ok (.lcmp, 1) := by decide +kernel
theorem dX8_sum_56 : decode cX8_sum 56 = .ok (.ifCond .ne 9, 3) := by decide +kernel
theorem dX8_sum_59 : decode cX8_sum 59 = .ok (.aload_n 0, 1) := by decide +kernel
theorem dX8_sum_60 : decode cX8_sum 60 = .ok (.lconst 0, 1) := by decide +kernel
theorem dX8_sum_61 : decode cX8_sum 61 = .ok (.invokevirtual 204, 3) := by decide +kernel
theorem dX8_sum_64 : decode cX8_sum 64 = .ok (.lreturn, 1) := by decide +kernel
theorem dX8_sum_65 : decode cX8_sum 65 = .ok (.aload_n 0, 1) := by decide +kernel
theorem dX8_sum_66 : decode cX8_sum 66 = .ok (.aload_n 0, 1) := by decide +kernel
theorem dX8_sum_67 : decode cX8_sum 67 = .ok (.invokevirtual 207, 3) := by decide +kernel
theorem dX8_sum_70 : decode cX8_sum 70 = .ok (.iload_n 1, 1) := by decide +kernel
theorem dX8_sum_71 : decode cX8_sum 71 = .ok (.iload_n 2, 1) := by decide +kernel
theorem dX8_sum_72 : decode cX8_sum 72 = .ok (.iload_n 3, 1) := by decide +kernel
theorem dX8_sum_73 : decode cX8_sum 73 = .ok (.invokevirtual 211, 3) := by decide +kernel
theorem dX8_sum_76 : decode cX8_sum 76 = .ok (.invokevirtual 204, 3) := by decide +kernel
theorem dX8_sum_79 : decode cX8_sum 79 = .ok (.lreturn, 1) := by decide +kernel
set_option maxRecDepth 20000 in
theorem ggX8_best_X8_weighFault : GoodIn wsX8_best wsX8_weighFault := goodIn_r _ [6, 1, 7, 8, 9, 5, 10, 11, 12, 13, 14, 15, 16, 17, 18, 19, 20, 21, 22, 23, 24, 25, 26, 27, 28, 29, 30, 222, 223, 224, 225, 226, 227, 228, 229, 230, 231, 232, 233, 234, 235, 236, 237, 238, 239, 240, 241, 242, 243, 244, 245, 246, 247, 248] (by decide +kernel) (by decide +kernel)
set_option maxRecDepth 20000 in
theorem gX8_best_X8_weighFault : GoodIn wsX8_best (wsV RX8 201 RX8 yX8_weighFault wsX8_weighFault) := goodIn_app (goodIn_of _ (by decide +kernel)) ggX8_best_X8_weighFault
set_option maxRecDepth 20000 in
theorem ggX8_best_X8_refused : GoodIn wsX8_best wsX8_refused := goodIn_r _ [34, 35, 222, 223, 224, 225, 226, 227, 228, 229, 230, 231, 232, 233] (by decide +kernel) (by decide +kernel)
set_option maxRecDepth 20000 in
theorem gX8_best_X8_refused : GoodIn wsX8_best (wsV RX8 88 RX8 yX8_refused wsX8_refused) := goodIn_app (goodIn_of _ (by decide +kernel)) ggX8_best_X8_refused
set_option maxRecDepth 20000 in
theorem ggX8_best_X8_waysFor : GoodIn wsX8_best wsX8_waysFor := goodIn_r _ [39, 40, 41, 42, 5, 43, 44, 45, 46, 47, 1, 48, 49, 50, 51, 52, 53, 54, 55, 56, 57, 58, 59, 60, 61, 62, 63, 64, 65, 66, 67, 14, 68, 18, 19, 28, 29, 30, 69, 70, 71, 72, 73, 74, 75, 76, 24, 77, 78, 79, 80, 81, 82, 83, 84, 85, 86, 87, 88, 89, 90, 91, 92, 93, 94, 95, 96, 97, 98, 99, 100, 101, 102, 103, 104, 105, 106, 107, 108, 109, 110, 111, 112, 113, 114, 115, 116, 117, 118, 222, 223, 224, 225, 226, 227, 228, 229, 230, 231, 232, 233, 249, 250, 251, 252, 234, 235, 236, 237, 238, 239, 240, 241, 242, 243, 244, 245, 246, 247, 248] (by decide +kernel) (by decide +kernel)
set_option maxRecDepth 20000 in
theorem gX8_best_X8_waysFor : GoodIn wsX8_best (wsV RX8 172 RX8 yX8_waysFor wsX8_waysFor) := goodIn_app (goodIn_of _ (by decide +kernel)) ggX8_best_X8_waysFor
set_option maxRecDepth 20000 in
theorem ggX8_best_X4_cellA : GoodIn wsX8_best wsX4_cellA := goodIn_r _ [122, 16, 17, 28, 29, 14, 30, 234, 235, 236, 237, 238, 239, 240, 241, 242, 243, 244, 245, 246, 247, 248] (by decide +kernel) (by decide +kernel)
set_option maxRecDepth 20000 in
theorem gX8_best_X4_cellA : GoodIn wsX8_best (wsV RX8 176 RX4 yX4_cellA wsX4_cellA) := goodIn_app (goodIn_of _ (by decide +kernel)) ggX8_best_X4_cellA
set_option maxRecDepth 20000 in
theorem ggX8_best_X6_onward : GoodIn wsX8_best wsX6_onward := goodIn_r _ [126, 63, 56, 249, 250, 251, 252] (by decide +kernel) (by decide +kernel)
set_option maxRecDepth 20000 in
theorem gX8_best_X6_onward : GoodIn wsX8_best (wsV RX8 180 RX6 yX6_onward wsX6_onward) := goodIn_app (goodIn_of _ (by decide +kernel)) ggX8_best_X6_onward
set_option maxRecDepth 20000 in
theorem ggX8_best_X8_weigherKept : GoodIn wsX8_best wsX8_weigherKept := goodIn_r _ [130, 131, 132, 133, 134, 1, 40, 41, 42, 5, 43, 44, 45, 46, 47, 48, 49, 50, 51, 52, 53, 54, 55, 56, 57, 58, 135, 136, 137, 138, 139, 140, 141, 142, 143, 144, 145, 146, 147, 222, 223, 224, 225, 226, 227, 228, 229, 230, 231, 232, 233, 253, 254, 255, 256, 257, 258, 259, 260, 261, 262, 263, 264, 265, 266, 249, 250, 251, 252] (by decide +kernel) (by decide +kernel)
set_option maxRecDepth 20000 in
theorem gX8_best_X8_weigherKept : GoodIn wsX8_best (wsV RX8 207 RX8 yX8_weigherKept wsX8_weigherKept) := goodIn_app (goodIn_of _ (by decide +kernel)) ggX8_best_X8_weigherKept
set_option maxRecDepth 20000 in
theorem ggX8_best_X7_extreme : GoodIn wsX8_best wsX7_extreme := goodIn_r _ [151, 152, 153, 154, 144, 155, 156, 157, 134, 158, 141, 146, 159, 160, 161, 120, 121, 14, 122, 16, 17, 28, 29, 30, 162, 163, 164, 165, 166, 167, 147, 140, 142, 168, 169, 107, 96, 108, 170, 171, 172, 173, 174, 175, 176, 177, 178, 179, 180, 181, 92, 182, 85, 86, 87, 183, 74, 75, 76, 24, 184, 124, 125, 47, 126, 63, 56, 185, 186, 187, 188, 145, 189, 190, 191, 192, 193, 194, 195, 196, 197, 198, 199, 200, 201, 202, 203, 204, 205, 206, 207, 208, 209, 210, 211, 212, 213, 214, 215, 216, 217, 253, 254, 255, 256, 257, 258, 259, 260, 261, 262, 263, 264, 265, 266, 234, 235, 236, 237, 238, 239, 240, 241, 242, 243, 244, 245, 246, 247, 248, 249, 250, 251, 252] (by decide +kernel) (by decide +kernel)
set_option maxRecDepth 20000 in
theorem gX8_best_X7_extreme : GoodIn wsX8_best (wsV RX8 217 RX7 yX7_extreme wsX7_extreme) := goodIn_app (goodIn_of _ (by decide +kernel)) ggX8_best_X7_extreme
set_option maxRecDepth 20000 in
theorem ggX8_best_X8_given : GoodIn wsX8_best wsX8_given := goodIn_r _ [221, 35, 222, 223, 224, 225, 226, 227, 228, 229, 230, 231, 232, 233] (by decide +kernel) (by decide +kernel)
set_option maxRecDepth 20000 in
theorem gX8_best_X8_given : GoodIn wsX8_best (wsV RX8 95 RX8 yX8_given wsX8_given) := goodIn_app (goodIn_of _ (by decide +kernel)) ggX8_best_X8_given
theorem dX8_best_0 : decode cX8_best 0 = .ok (.aload_n 0, 1) := by decide +kernel
theorem dX8_best_1 : decode cX8_best 1 = .ok (.iload_n 1, 1) := by decide +kernel
theorem dX8_best_2 : decode cX8_best 2 = .ok (.iload_n 2, 1) := by decide +kernel
theorem dX8_best_3 : decode cX8_best 3 = .ok (.invokevirtual 201, 3) := by decide +kernel
theorem dX8_best_6 : decode cX8_best 6 = .ok (.istore 4, 2) := by decide +kernel
theorem dX8_best_8 : decode cX8_best 8 = .ok (.iload 4, 2) := by decide +kernel
theorem dX8_best_10 : decode cX8_best 10 = .ok (.ifCond .eq 10, 3) := by decide +kernel
theorem dX8_best_13 : decode cX8_best 13 = .ok (.aload_n 0, 1) := by decide +kernel
theorem dX8_best_14 : decode cX8_best 14 = .ok (.iload 4, 2) := by decide +kernel
theorem dX8_best_16 : decode cX8_best 16 = .ok (.invokevirtual 88, 3) := by decide +kernel
theorem dX8_best_19 : decode cX8_best 19 = .ok (.ireturn, 1) := by decide +kernel
theorem dX8_best_20 : decode cX8_best 20 = .ok (.aload_n 0, 1) := by decide +kernel
theorem dX8_best_21 : decode cX8_best 21 = .ok (.iload_n 2, 1) := by decide +kernel
theorem dX8_best_22 : decode cX8_best 22 = .ok (.invokevirtual 172, 3) := by decide +kernel
theorem dX8_best_25 : decode cX8_best 25 = .ok (.iload_n 2, 1) := by decide +kernel
theorem dX8_best_26 : decode cX8_best 26 = .ok (.aload_n 0, 1) := by decide +kernel
theorem dX8_best_27 : decode cX8_best 27 = .ok (.getfield 19, 3) := by decide +kernel
theorem dX8_best_30 : decode cX8_best 30 = .ok (.invokevirtual 176, 3) := by decide +kernel
theorem dX8_best_33 : decode cX8_best 33 = .ok (.invokevirtual 180, 3) := by decide +kernel
theorem dX8_best_36 : decode cX8_best 36 = .ok (.lconst 0, 1) := by decide +kernel
theorem dX8_best_37 : decode cX8_best 37 = .ok (.lcmp, 1) := by decide +kernel
theorem dX8_best_38 : decode cX8_best 38 = .ok (.ifCond .ne 10, 3) := by decide +kernel
theorem dX8_best_41 : decode cX8_best 41 = .ok (.aload_n 0, 1) := by decide +kernel
theorem dX8_best_42 : decode cX8_best 42 = .ok (.bipush 8, 2) := by decide +kernel
theorem dX8_best_44 : decode cX8_best 44 = .ok (.invokevirtual 88, 3) := by decide +kernel
theorem dX8_best_47 : decode cX8_best 47 = .ok (.ireturn, 1) := by decide +kernel
theorem dX8_best_48 : decode cX8_best 48 = .ok (.aload_n 0, 1) := by decide +kernel
theorem dX8_best_49 : decode cX8_best 49 = .ok (.aload_n 0, 1) := by decide +kernel
theorem dX8_best_50 : decode cX8_best 50 = .ok (.invokevirtual 207, 3) := by decide +kernel
theorem dX8_best_53 : decode cX8_best 53 = .ok (.iload_n 1, 1) := by decide +kernel
theorem dX8_best_54 : decode cX8_best 54 = .ok (.iload_n 2, 1) := by decide +kernel
theorem dX8_best_55 : decode cX8_best 55 = .ok (.iload_n 3, 1) := by decide +kernel
theorem dX8_best_56 : decode cX8_best 56 = .ok (.invokevirtual 217, 3) := by decide +kernel
theorem dX8_best_59 : decode cX8_best 59 = .ok (.invokevirtual 95, 3) := by decide +kernel
theorem dX8_best_62 : decode cX8_best 62 = .ok (.ireturn, 1) := by decide +kernel
set_option maxRecDepth 20000 in
theorem ggX8_walk_X8_walkFault : GoodIn wsX8_walk wsX8_walkFault := goodIn_r _ [7, 1, 8, 9, 6, 10, 11, 12, 13, 14, 15, 16, 17, 18, 19, 20, 21, 22, 23, 24, 25, 26, 27, 28, 29, 30, 152, 153, 154, 155, 156, 157, 158, 159, 160, 161, 162, 163, 164, 165, 166, 167, 168, 169, 170, 171, 172, 173, 174, 175, 176, 177, 178] (by decide +kernel) (by decide +kernel)
set_option maxRecDepth 20000 in
theorem gX8_walk_X8_walkFault : GoodIn wsX8_walk (wsV RX8 169 RX8 yX8_walkFault wsX8_walkFault) := goodIn_app (goodIn_of _ (by decide +kernel)) ggX8_walk_X8_walkFault
set_option maxRecDepth 20000 in
theorem ggX8_walk_X8_refused : GoodIn wsX8_walk wsX8_refused := goodIn_r _ [34, 35, 152, 153, 154, 155, 156, 157, 158, 159, 160, 161, 162, 163] (by decide +kernel) (by decide +kernel)
set_option maxRecDepth 20000 in
theorem gX8_walk_X8_refused : GoodIn wsX8_walk (wsV RX8 88 RX8 yX8_refused wsX8_refused) := goodIn_app (goodIn_of _ (by decide +kernel)) ggX8_walk_X8_refused
set_option maxRecDepth 20000 in
theorem ggX8_walk_X8_waysFor : GoodIn wsX8_walk wsX8_waysFor := goodIn_r _ [39, 40, 41, 42, 6, 43, 44, 45, 46, 47, 1, 48, 49, 50, 51, 52, 53, 54, 55, 56, 57, 58, 59, 60, 61, 62, 63, 64, 65, 66, 67, 14, 68, 18, 19, 28, 29, 30, 69, 70, 71, 72, 73, 74, 75, 76, 24, 77, 78, 79, 80, 81, 82, 83, 84, 85, 86, 87, 88, 89, 90, 91, 92, 93, 94, 95, 96, 97, 98, 99, 100, 101, 102, 103, 104, 105, 106, 107, 108, 109, 110, 111, 112, 113, 114, 115, 116, 117, 118, 152, 153, 154, 155, 156, 157, 158, 159, 160, 161, 162, 163, 179, 180, 181, 182, 164, 165, 166, 167, 168, 169, 170, 171, 172, 173, 174, 175, 176, 177, 178] (by decide +kernel) (by decide +kernel)
set_option maxRecDepth 20000 in
theorem gX8_walk_X8_waysFor : GoodIn wsX8_walk (wsV RX8 172 RX8 yX8_waysFor wsX8_waysFor) := goodIn_app (goodIn_of _ (by decide +kernel)) ggX8_walk_X8_waysFor
set_option maxRecDepth 20000 in
theorem ggX8_walk_X4_cellA : GoodIn wsX8_walk wsX4_cellA := goodIn_r _ [122, 16, 17, 28, 29, 14, 30, 164, 165, 166, 167, 168, 169, 170, 171, 172, 173, 174, 175, 176, 177, 178] (by decide +kernel) (by decide +kernel)
set_option maxRecDepth 20000 in
theorem gX8_walk_X4_cellA : GoodIn wsX8_walk (wsV RX8 176 RX4 yX4_cellA wsX4_cellA) := goodIn_app (goodIn_of _ (by decide +kernel)) ggX8_walk_X4_cellA
set_option maxRecDepth 20000 in
theorem ggX8_walk_X6_onward : GoodIn wsX8_walk wsX6_onward := goodIn_r _ [126, 63, 56, 179, 180, 181, 182] (by decide +kernel) (by decide +kernel)
set_option maxRecDepth 20000 in
theorem gX8_walk_X6_onward : GoodIn wsX8_walk (wsV RX8 180 RX6 yX6_onward wsX6_onward) := goodIn_app (goodIn_of _ (by decide +kernel)) ggX8_walk_X6_onward
set_option maxRecDepth 20000 in
theorem ggX8_walk_X8_showWalk : GoodIn wsX8_walk wsX8_showWalk := goodIn_r _ [130, 1, 131, 132, 133, 119, 120, 121, 14, 122, 16, 17, 28, 29, 30, 40, 41, 42, 6, 43, 44, 45, 46, 47, 48, 49, 50, 51, 52, 53, 54, 55, 56, 57, 58, 134, 135, 136, 137, 138, 139, 140, 141, 142, 143, 144, 145, 92, 146, 85, 86, 87, 147, 74, 75, 76, 24, 123, 124, 125, 126, 63, 152, 153, 154, 155, 156, 157, 158, 159, 160, 161, 162, 163, 164, 165, 166, 167, 168, 169, 170, 171, 172, 173, 174, 175, 176, 177, 178, 179, 180, 181, 182] (by decide +kernel) (by decide +kernel)
set_option maxRecDepth 20000 in
theorem gX8_walk_X8_showWalk : GoodIn wsX8_walk (wsV RX8 223 RX8 yX8_showWalk wsX8_showWalk) := goodIn_app (goodIn_of _ (by decide +kernel)) ggX8_walk_X8_showWalk
set_option maxRecDepth 20000 in
theorem ggX8_walk_X8_given : GoodIn wsX8_walk wsX8_given := goodIn_r _ [151, 35, 152, 153, 154, 155, 156, 157, 158, 159, 160, 161, 162, 163] (by decide +kernel) (by decide +kernel)
set_option maxRecDepth 20000 in
theorem gX8_walk_X8_given : GoodIn wsX8_walk (wsV RX8 95 RX8 yX8_given wsX8_given) := goodIn_app (goodIn_of _ (by decide +kernel)) ggX8_walk_X8_given
theorem dX8_walk_0 : decode cX8_walk 0 = .ok (.aload_n 0, 1) := by decide +kernel
theorem dX8_walk_1 : decode cX8_walk 1 = .ok (.iload_n 1, 1) := by decide +kernel
theorem dX8_walk_2 : decode cX8_walk 2 = .ok (.bipush 60, 2) := by decide +kernel
theorem dX8_walk_4 : decode cX8_walk 4 = .ok (.invokevirtual 169, 3) := by decide +kernel
theorem dX8_walk_7 : decode cX8_walk 7 = .ok (.istore 4, 2) := by decide +kernel
theorem dX8_walk_9 : decode cX8_walk 9 = .ok (.iload 4, 2) := by decide +kernel
theorem dX8_walk_11 : decode cX8_walk 11 = .ok (.ifCond .eq 10, 3) := by decide +kernel
theorem dX8_walk_14 : decode cX8_walk 14 = .ok (.aload_n 0, 1) := by decide +kernel
theorem dX8_walk_15 : decode cX8_walk 15 = .ok (.iload 4, 2) := by decide +kernel
theorem dX8_walk_17 : decode cX8_walk 17 = .ok (.invokevirtual 88, 3) := by decide +kernel
theorem dX8_walk_20 : decode cX8_walk 20 = .ok (.ireturn, 1) := by decide +kernel
theorem dX8_walk_21 : decode cX8_walk 21 = .ok (.lload_n 2, 1) := by decide +kernel
theorem dX8_walk_22 : decode cX8_walk 22 = .ok (.lconst 0, 1) := by decide +kernel
theorem dX8_walk_23 : decode cX8_walk 23 = .ok (.lcmp, 1) := by decide +kernel
theorem dX8_walk_24 : decode cX8_walk 24 = .ok (.ifCond .ge 10, 3) := by decide +kernel
theorem dX8_walk_27 : decode cX8_walk 27 = .ok (.aload_n 0, 1) := by decide +kernel
theorem dX8_walk_28 : decode cX8_walk 28 = .ok (.bipush 8, 2) := by decide +kernel
theorem dX8_walk_30 : decode cX8_walk 30 = .ok (.invokevirtual 88, 3) := by decide +kernel
theorem dX8_walk_33 : decode cX8_walk 33 = .ok (.ireturn, 1) := by decide +kernel
theorem dX8_walk_34 : decode cX8_walk 34 = .ok (.aload_n 0, 1) := by decide +kernel
theorem dX8_walk_35 : decode cX8_walk 35 = .ok (.iload_n 1, 1) := by decide +kernel
theorem dX8_walk_36 : decode cX8_walk 36 = .ok (.invokevirtual 172, 3) := by decide +kernel
theorem dX8_walk_39 : decode cX8_walk 39 = .ok (.iload_n 1, 1) := by decide +kernel
theorem dX8_walk_40 : decode cX8_walk 40 = .ok (.aload_n 0, 1) := by decide +kernel
theorem dX8_walk_41 : decode cX8_walk 41 = .ok (.getfield 19, 3) := by decide +kernel
theorem dX8_walk_44 : decode cX8_walk 44 = .ok (.invokevirtual 176, 3) := by decide +kernel
theorem dX8_walk_47 : decode cX8_walk 47 = .ok (.invokevirtual 180, 3) := by decide +kernel
theorem dX8_walk_50 : decode cX8_walk 50 = .ok (.lstore 5, 2) := by decide +kernel
theorem dX8_walk_52 : decode cX8_walk 52 = .ok (.lload 5, 2) := by decide +kernel
theorem dX8_walk_54 : decode cX8_walk 54 = .ok (.ldc2_w 221, 3) := by decide +kernel
theorem dX8_walk_57 : decode cX8_walk 57 = .ok (.lcmp, 1) := by decide +kernel
theorem dX8_walk_58 : decode cX8_walk 58 = .ok (.ifCond .lt 10, 3) := by decide +kernel
theorem dX8_walk_61 : decode cX8_walk 61 = .ok (.aload_n 0, 1) := by decide +kernel
theorem dX8_walk_62 : decode cX8_walk 62 = .ok (.bipush 9, 2) := by decide +kernel
theorem dX8_walk_64 : decode cX8_walk 64 = .ok (.invokevirtual 88, 3) := by decide +kernel
theorem dX8_walk_67 : decode cX8_walk 67 = .ok (.ireturn, 1) := by decide +kernel
theorem dX8_walk_68 : decode cX8_walk 68 = .ok (.lload_n 2, 1) := by decide +kernel
theorem dX8_walk_69 : decode cX8_walk 69 = .ok (.lload 5, 2) := by decide +kernel
theorem dX8_walk_71 : decode cX8_walk 71 = .ok (.lcmp, 1) := by decide +kernel
theorem dX8_walk_72 : decode cX8_walk 72 = .ok (.ifCond .lt 10, 3) := by decide +kernel
theorem dX8_walk_75 : decode cX8_walk 75 = .ok (.aload_n 0, 1) := by decide +kernel
theorem dX8_walk_76 : decode cX8_walk 76 = .ok (.bipush 8, 2) := by decide +kernel
theorem dX8_walk_78 : decode cX8_walk 78 = .ok (.invokevirtual 88, 3) := by decide +kernel
theorem dX8_walk_81 : decode cX8_walk 81 = .ok (.ireturn, 1) := by decide +kernel
theorem dX8_walk_82 : decode cX8_walk 82 = .ok (.aload_n 0, 1) := by decide +kernel
theorem dX8_walk_83 : decode cX8_walk 83 = .ok (.iload_n 1, 1) := by decide +kernel
theorem dX8_walk_84 : decode cX8_walk 84 = .ok (.lload_n 2, 1) := by decide +kernel
theorem dX8_walk_85 : decode cX8_walk 85 = .ok (.invokevirtual 223, 3) := by decide +kernel
theorem dX8_walk_88 : decode cX8_walk 88 = .ok (.aload_n 0, 1) := by decide +kernel
theorem dX8_walk_89 : decode cX8_walk 89 = .ok (.iload_n 1, 1) := by decide +kernel
theorem dX8_walk_90 : decode cX8_walk 90 = .ok (.invokevirtual 95, 3) := by decide +kernel
theorem dX8_walk_93 : decode cX8_walk 93 = .ok (.ireturn, 1) := by decide +kernel
set_option maxRecDepth 20000 in
theorem ggX8_number_X8_rowFault : GoodIn wsX8_number wsX8_rowFault := goodIn_r _ [7, 8, 9, 10, 11, 12, 13, 14, 6, 15, 16, 17, 18, 19, 20, 21, 22, 23, 24, 25, 176, 177, 178, 179, 180, 181, 182, 183, 184, 185, 186, 187, 188, 189, 190] (by decide +kernel) (by decide +kernel)
set_option maxRecDepth 20000 in
theorem gX8_number_X8_rowFault : GoodIn wsX8_number (wsV RX8 227 RX8 yX8_rowFault wsX8_rowFault) := goodIn_app (goodIn_of _ (by decide +kernel)) ggX8_number_X8_rowFault
set_option maxRecDepth 20000 in
theorem ggX8_number_X8_refused : GoodIn wsX8_number wsX8_refused := goodIn_r _ [29, 30, 176, 177, 178, 179, 180, 181, 182, 183, 184, 185, 186, 187] (by decide +kernel) (by decide +kernel)
set_option maxRecDepth 20000 in
theorem gX8_number_X8_refused : GoodIn wsX8_number (wsV RX8 88 RX8 yX8_refused wsX8_refused) := goodIn_app (goodIn_of _ (by decide +kernel)) ggX8_number_X8_refused
set_option maxRecDepth 20000 in
theorem ggX8_number_X4_endsOpen : GoodIn wsX8_number wsX4_endsOpen := goodIn_r _ [35, 36, 37, 38, 39, 40, 41, 42, 34, 43, 44, 45, 46, 47, 48, 49, 50, 191, 192, 193, 194, 195, 196, 197, 198, 199, 200, 201, 202, 203, 204, 205] (by decide +kernel) (by decide +kernel)
set_option maxRecDepth 20000 in
theorem gX8_number_X4_endsOpen : GoodIn wsX8_number (wsV RX8 198 RX4 yX4_endsOpen wsX4_endsOpen) := goodIn_app (goodIn_of _ (by decide +kernel)) ggX8_number_X4_endsOpen
set_option maxRecDepth 20000 in
theorem ggX8_number_X8_isWalk : GoodIn wsX8_number wsX8_isWalk := goodIn_r _ [54, 1, 8, 55, 56, 57, 34, 58, 36, 37, 48, 49, 50, 59, 60, 61, 11, 62, 63, 64, 23, 24, 25, 20, 21, 10, 12, 65, 66, 67, 68, 69, 70, 71, 72, 73, 74, 75, 76, 77, 78, 79, 80, 81, 82, 83, 84, 85, 86, 44, 87, 88, 89, 90, 38, 39, 176, 177, 178, 179, 180, 181, 182, 183, 184, 185, 186, 187, 191, 192, 193, 194, 195, 196, 197, 198, 199, 200, 201, 202, 203, 204, 205, 188, 189, 190] (by decide +kernel) (by decide +kernel)
set_option maxRecDepth 20000 in
theorem gX8_number_X8_isWalk : GoodIn wsX8_number (wsV RX8 231 RX8 yX8_isWalk wsX8_isWalk) := goodIn_app (goodIn_of _ (by decide +kernel)) ggX8_number_X8_isWalk
set_option maxRecDepth 20000 in
theorem ggX8_number_X8_waysFor : GoodIn wsX8_number wsX8_waysFor := goodIn_r _ [94, 95, 96, 97, 6, 98, 99, 100, 101, 102, 1, 103, 104, 105, 106, 107, 108, 109, 110, 111, 112, 113, 114, 115, 116, 117, 118, 119, 120, 88, 89, 34, 90, 38, 39, 48, 49, 50, 121, 122, 123, 124, 125, 84, 85, 86, 44, 126, 127, 128, 129, 130, 131, 132, 133, 80, 81, 82, 134, 135, 136, 137, 69, 138, 139, 140, 141, 142, 143, 144, 145, 146, 147, 148, 149, 150, 151, 152, 153, 154, 155, 156, 157, 158, 159, 160, 161, 162, 163, 176, 177, 178, 179, 180, 181, 182, 183, 184, 185, 186, 187, 206, 207, 208, 209, 191, 192, 193, 194, 195, 196, 197, 198, 199, 200, 201, 202, 203, 204, 205] (by decide +kernel) (by decide +kernel)
set_option maxRecDepth 20000 in
theorem gX8_number_X8_waysFor : GoodIn wsX8_number (wsV RX8 172 RX8 yX8_waysFor wsX8_waysFor) := goodIn_app (goodIn_of _ (by decide +kernel)) ggX8_number_X8_waysFor
set_option maxRecDepth 20000 in
theorem ggX8_number_X4_cellA : GoodIn wsX8_number wsX4_cellA := goodIn_r _ [58, 36, 37, 48, 49, 34, 50, 191, 192, 193, 194, 195, 196, 197, 198, 199, 200, 201, 202, 203, 204, 205] (by decide +kernel) (by decide +kernel)
set_option maxRecDepth 20000 in
theorem gX8_number_X4_cellA : GoodIn wsX8_number (wsV RX8 176 RX4 yX4_cellA wsX4_cellA) := goodIn_app (goodIn_of _ (by decide +kernel)) ggX8_number_X4_cellA
set_option maxRecDepth 20000 in
theorem ggX8_number_X6_onward : GoodIn wsX8_number wsX6_onward := goodIn_r _ [167, 118, 111, 206, 207, 208, 209] (by decide +kernel) (by decide +kernel)
set_option maxRecDepth 20000 in
theorem gX8_number_X6_onward : GoodIn wsX8_number (wsV RX8 180 RX6 yX6_onward wsX6_onward) := goodIn_app (goodIn_of _ (by decide +kernel)) ggX8_number_X6_onward
set_option maxRecDepth 20000 in
theorem ggX8_number_X8_walkNumber : GoodIn wsX8_number wsX8_walkNumber := goodIn_r _ [171, 1, 8, 55, 56, 57, 34, 58, 36, 37, 48, 49, 50, 59, 60, 61, 11, 62, 63, 64, 23, 24, 25, 20, 21, 10, 12, 95, 96, 97, 6, 98, 99, 100, 101, 102, 103, 104, 105, 106, 107, 108, 109, 110, 111, 112, 113, 70, 71, 72, 73, 74, 75, 76, 77, 78, 66, 67, 68, 69, 79, 80, 81, 82, 83, 84, 85, 86, 44, 164, 165, 166, 167, 118, 176, 177, 178, 179, 180, 181, 182, 183, 184, 185, 186, 187, 191, 192, 193, 194, 195, 196, 197, 198, 199, 200, 201, 202, 203, 204, 205, 188, 189, 190, 206, 207, 208, 209] (by decide +kernel) (by decide +kernel)
set_option maxRecDepth 20000 in
theorem gX8_number_X8_walkNumber : GoodIn wsX8_number (wsV RX8 234 RX8 yX8_walkNumber wsX8_walkNumber) := goodIn_app (goodIn_of _ (by decide +kernel)) ggX8_number_X8_walkNumber
set_option maxRecDepth 20000 in
theorem ggX8_number_X8_givenLong : GoodIn wsX8_number wsX8_givenLong := goodIn_r _ [175, 30, 176, 177, 178, 179, 180, 181, 182, 183, 184, 185, 186, 187] (by decide +kernel) (by decide +kernel)
set_option maxRecDepth 20000 in
theorem gX8_number_X8_givenLong : GoodIn wsX8_number (wsV RX8 204 RX8 yX8_givenLong wsX8_givenLong) := goodIn_app (goodIn_of _ (by decide +kernel)) ggX8_number_X8_givenLong
theorem dX8_number_0 : decode cX8_number 0 = .ok (.aload_n 0, 1) := by decide +kernel
theorem dX8_number_1 : decode cX8_number 1 = .ok (.iload_n 1, 1) := by decide +kernel
theorem dX8_number_2 : decode cX8_number 2 = .ok (.iload_n 2, 1) := by decide +kernel
theorem dX8_number_3 : decode cX8_number 3 = .ok (.bipush 60, 2) := by decide +kernel
theorem dX8_number_5 : decode cX8_number 5 = .ok (.invokevirtual 227, 3) := by decide +kernel
theorem dX8_number_8 : decode cX8_number 8 = .ok (.istore_n 3, 1) := by decide +kernel
theorem dX8_number_9 : decode cX8_number 9 = .ok (.iload_n 3, 1) := by decide +kernel
theorem dX8_number_10 : decode cX8_number 10 = .ok (.ifCond .eq 10, 3) := by decide +kernel
theorem dX8_number_13 : decode cX8_number 13 = .ok (.aload_n 0, 1) := by decide +kernel
theorem dX8_number_14 : decode cX8_number 14 = .ok (.iload_n 3, 1) := by decide +kernel
theorem dX8_number_15 : decode cX8_number 15 = .ok (.invokevirtual 88, 3) := by decide +kernel
theorem dX8_number_18 : decode cX8_number 18 = .ok (.i2l, 1) := by decide +kernel
theorem dX8_number_19 : decode cX8_number 19 = .ok (.lreturn, 1) := by decide +kernel
theorem dX8_number_20 : decode cX8_number 20 = .ok (.aload_n 0, 1) := by decide +kernel
theorem dX8_number_21 : decode cX8_number 21 = .ok (.getfield 19, 3) := by decide +kernel
theorem dX8_number_24 : decode cX8_number 24 = .ok (.invokevirtual 198, 3) := by decide +kernel
theorem dX8_number_27 : decode cX8_number 27 = .ok (.ifCond .ne 11, 3) := by decide +kernel
theorem dX8_number_30 : decode cX8_number 30 = .ok (.aload_n 0, 1) := by decide +kernel
theorem dX8_number_31 : decode cX8_number 31 = .ok (.bipush 7, 2) := by decide +kernel
theorem dX8_number_33 : decode cX8_number 33 = .ok (.invokevirtual 88, 3) := by decide +kernel
theorem dX8_number_36 : decode cX8_number 36 = .ok (.i2l, 1) := by decide +kernel
theorem dX8_number_37 : decode cX8_number 37 = .ok (.lreturn, 1) := by decide +kernel
theorem dX8_number_38 : decode cX8_number 38 = .ok (.aload_n 0, 1) := by decide +kernel
theorem dX8_number_39 : decode cX8_number 39 = .ok (.iload_n 1, 1) := by decide +kernel
theorem dX8_number_40 : decode cX8_number 40 = .ok (.iload_n 2, 1) := by decide +kernel
theorem dX8_number_41 : decode cX8_number 41 = .ok (.invokevirtual 231, 3) := by decide +kernel
theorem dX8_number_44 : decode cX8_number 44 = .ok (.ifCond .ne 11, 3) := by decide +kernel
theorem dX8_number_47 : decode cX8_number 47 = .ok (.aload_n 0, 1) := by decide +kernel
theorem dX8_number_48 : decode cX8_number 48 = .ok (.bipush 8, 2) := by decide +kernel
theorem dX8_number_50 : decode cX8_number 50 = .ok (.invokevirtual 88, 3) := by decide +kernel
theorem dX8_number_53 : decode cX8_number 53 = .ok (.i2l, 1) := by decide +kernel
theorem dX8_number_54 : decode cX8_number 54 = .ok (.lreturn, 1) := by decide +kernel
theorem dX8_number_55 : decode cX8_number 55 = .ok (.aload_n 0, 1) := by decide +kernel
theorem dX8_number_56 : decode cX8_number 56 = .ok (.iload_n 2, 1) := by decide +kernel
theorem dX8_number_57 : decode cX8_number 57 = .ok (.invokevirtual 172, 3) := by decide +kernel
theorem dX8_number_60 : decode cX8_number 60 = .ok (.iload_n 2, 1) := by decide +kernel
theorem dX8_number_61 : decode cX8_number 61 = .ok (.aload_n 0, 1) := by decide +kernel
theorem dX8_number_62 : decode cX8_number 62 = .ok (.getfield 19, 3) := by decide +kernel
theorem dX8_number_65 : decode cX8_number 65 = .ok (.invokevirtual 176, 3) := by decide +kernel
theorem dX8_number_68 : decode cX8_number 68 = .ok (.invokevirtual 180, 3) := by decide +kernel
theorem dX8_number_71 : decode cX8_number 71 = .ok (.ldc2_w 221, 3) := by decide +kernel
theorem dX8_number_74 : decode cX8_number 74 = .ok (.lcmp, 1) := by decide +kernel
theorem dX8_number_75 : decode cX8_number 75 = .ok (.ifCond .lt 11, 3) := by decide +kernel
theorem dX8_number_78 : decode cX8_number 78 = .ok (.aload_n 0, 1) := by decide +kernel
theorem dX8_number_79 : decode cX8_number 79 = .ok (.bipush 9, 2) := by decide +kernel
theorem dX8_number_81 : decode cX8_number 81 = .ok (.invokevirtual 88, 3) := by decide +kernel
theorem dX8_number_84 : decode cX8_number 84 = .ok (.i2l, 1) := by decide +kernel
theorem dX8_number_85 : decode cX8_number 85 = .ok (.lreturn, 1) := by decide +kernel
theorem dX8_number_86 : decode cX8_number 86 = .ok (.aload_n 0, 1) := by decide +kernel
theorem dX8_number_87 : decode cX8_number 87 = .ok (.aload_n 0, 1) := by decide +kernel
theorem dX8_number_88 : decode cX8_number 88 = .ok (.iload_n 1, 1) := by decide +kernel
theorem dX8_number_89 : decode cX8_number 89 = .ok (.iload_n 2, 1) := by decide +kernel
theorem dX8_number_90 : decode cX8_number 90 = .ok (.invokevirtual 234, 3) := by decide +kernel
theorem dX8_number_93 : decode cX8_number 93 = .ok (.invokevirtual 204, 3) := by decide +kernel
theorem dX8_number_96 : decode cX8_number 96 = .ok (.lreturn, 1) := by decide +kernel
set_option maxRecDepth 20000 in
theorem ggX8_draw_X8_refused : GoodIn wsX8_draw wsX8_refused := goodIn_r _ [7, 8, 139, 140, 141, 142, 143, 144, 145, 146, 147, 148, 149, 150] (by decide +kernel) (by decide +kernel)
set_option maxRecDepth 20000 in
theorem gX8_draw_X8_refused : GoodIn wsX8_draw (wsV RX8 88 RX8 yX8_refused wsX8_refused) := goodIn_app (goodIn_of _ (by decide +kernel)) ggX8_draw_X8_refused
set_option maxRecDepth 20000 in
theorem ggX8_draw_X8_walkFault : GoodIn wsX8_draw wsX8_walkFault := goodIn_r _ [12, 1, 13, 14, 6, 15, 16, 17, 18, 19, 20, 21, 22, 23, 24, 25, 26, 27, 28, 29, 30, 31, 32, 33, 34, 35, 139, 140, 141, 142, 143, 144, 145, 146, 147, 148, 149, 150, 151, 152, 153, 154, 155, 156, 157, 158, 159, 160, 161, 162, 163, 164, 165] (by decide +kernel) (by decide +kernel)
set_option maxRecDepth 20000 in
theorem gX8_draw_X8_walkFault : GoodIn wsX8_draw (wsV RX8 169 RX8 yX8_walkFault wsX8_walkFault) := goodIn_app (goodIn_of _ (by decide +kernel)) ggX8_draw_X8_walkFault
set_option maxRecDepth 20000 in
theorem ggX8_draw_X8_waysFor : GoodIn wsX8_draw wsX8_waysFor := goodIn_r _ [39, 40, 41, 42, 6, 43, 44, 45, 46, 47, 1, 48, 49, 50, 51, 52, 53, 54, 55, 56, 57, 58, 59, 60, 61, 62, 63, 64, 65, 66, 67, 19, 68, 23, 24, 33, 34, 35, 69, 70, 71, 72, 73, 74, 75, 76, 29, 77, 78, 79, 80, 81, 82, 83, 84, 85, 86, 87, 88, 89, 90, 91, 92, 93, 94, 95, 96, 97, 98, 99, 100, 101, 102, 103, 104, 105, 106, 107, 108, 109, 110, 111, 112, 113, 114, 115, 116, 117, 118, 139, 140, 141, 142, 143, 144, 145, 146, 147, 148, 149, 150, 166, 167, 168, 169, 151, 152, 153, 154, 155, 156, 157, 158, 159, 160, 161, 162, 163, 164, 165] (by decide +kernel) (by decide +kernel)
set_option maxRecDepth 20000 in
theorem gX8_draw_X8_waysFor : GoodIn wsX8_draw (wsV RX8 172 RX8 yX8_waysFor wsX8_waysFor) := goodIn_app (goodIn_of _ (by decide +kernel)) ggX8_draw_X8_waysFor
set_option maxRecDepth 20000 in
theorem ggX8_draw_X4_cellA : GoodIn wsX8_draw wsX4_cellA := goodIn_r _ [122, 21, 22, 33, 34, 19, 35, 151, 152, 153, 154, 155, 156, 157, 158, 159, 160, 161, 162, 163, 164, 165] (by decide +kernel) (by decide +kernel)
set_option maxRecDepth 20000 in
theorem gX8_draw_X4_cellA : GoodIn wsX8_draw (wsV RX8 176 RX4 yX4_cellA wsX4_cellA) := goodIn_app (goodIn_of _ (by decide +kernel)) ggX8_draw_X4_cellA
set_option maxRecDepth 20000 in
theorem ggX8_draw_X6_onward : GoodIn wsX8_draw wsX6_onward := goodIn_r _ [126, 63, 56, 166, 167, 168, 169] (by decide +kernel) (by decide +kernel)
set_option maxRecDepth 20000 in
theorem gX8_draw_X6_onward : GoodIn wsX8_draw (wsV RX8 180 RX6 yX6_onward wsX6_onward) := goodIn_app (goodIn_of _ (by decide +kernel)) ggX8_draw_X6_onward
set_option maxRecDepth 20000 in
theorem ggX8_draw_X8_drawn : GoodIn wsX8_draw wsX8_drawn := goodIn_r _ [129, 130, 131, 132, 133, 134] (by decide +kernel) (by decide +kernel)
set_option maxRecDepth 20000 in
theorem gX8_draw_X8_drawn : GoodIn wsX8_draw (va_wsS RX8 237 yX8_drawn wsX8_drawn) := goodIn_app (goodIn_of _ (by decide +kernel)) ggX8_draw_X8_drawn
set_option maxRecDepth 20000 in
theorem ggX8_draw_X8_givenLong : GoodIn wsX8_draw wsX8_givenLong := goodIn_r _ [138, 8, 139, 140, 141, 142, 143, 144, 145, 146, 147, 148, 149, 150] (by decide +kernel) (by decide +kernel)
set_option maxRecDepth 20000 in
theorem gX8_draw_X8_givenLong : GoodIn wsX8_draw (wsV RX8 204 RX8 yX8_givenLong wsX8_givenLong) := goodIn_app (goodIn_of _ (by decide +kernel)) ggX8_draw_X8_givenLong
theorem dX8_draw_0 : decode cX8_draw 0 = .ok (.iload_n 2, 1) := by decide +kernel
theorem dX8_draw_1 : decode cX8_draw 1 = .ok (.ifCond .ge 10, 3) := by decide +kernel
theorem dX8_draw_4 : decode cX8_draw 4 = .ok (.aload_n 0, 1) := by decide +kernel
theorem dX8_draw_5 : decode cX8_draw 5 = .ok (.iconst 2, 1) := by decide +kernel
theorem dX8_draw_6 : decode cX8_draw 6 = .ok (.invokevirtual 88, 3) := by decide +kernel
theorem dX8_draw_9 : decode cX8_draw 9 = .ok (.i2l, 1) := by decide +kernel
theorem dX8_draw_10 : decode cX8_draw 10 = .ok (.lreturn, 1) := by decide +kernel
theorem dX8_draw_11 : decode cX8_draw 11 = .ok (.aload_n 0, 1) := by decide +kernel
theorem dX8_draw_12 : decode cX8_draw 12 = .ok (.iload_n 1, 1) := by decide +kernel
theorem dX8_draw_13 : decode cX8_draw 13 = .ok (.bipush 60, 2) := by decide +kernel
theorem dX8_draw_15 : decode cX8_draw 15 = .ok (.invokevirtual 169, 3) := by decide +kernel
theorem dX8_draw_18 : decode cX8_draw 18 = .ok (.istore_n 3, 1) := by decide +kernel
theorem dX8_draw_19 : decode cX8_draw 19 = .ok (.iload_n 3, 1) := by decide +kernel
theorem dX8_draw_20 : decode cX8_draw 20 = .ok (.ifCond .eq 10, 3) := by decide +kernel
theorem dX8_draw_23 : decode cX8_draw 23 = .ok (.aload_n 0, 1) := by decide +kernel
theorem dX8_draw_24 : decode cX8_draw 24 = .ok (.iload_n 3, 1) := by decide +kernel
theorem dX8_draw_25 : decode cX8_draw 25 = .ok (.invokevirtual 88, 3) := by decide +kernel
theorem dX8_draw_28 : decode cX8_draw 28 = .ok (.i2l, 1) := by decide +kernel
theorem dX8_draw_29 : decode cX8_draw 29 = .ok (.lreturn, 1) := by decide +kernel
theorem dX8_draw_30 : decode cX8_draw 30 = .ok (.aload_n 0, 1) := by decide +kernel
theorem dX8_draw_31 : decode cX8_draw 31 = .ok (.iload_n 1, 1) := by decide +kernel
theorem dX8_draw_32 : decode cX8_draw 32 = .ok (.invokevirtual 172, 3) := by decide +kernel
theorem dX8_draw_35 : decode cX8_draw 35 = .ok (.iload_n 1, 1) := by decide +kernel
theorem dX8_draw_36 : decode cX8_draw 36 = .ok (.aload_n 0, 1) := by decide +kernel
theorem dX8_draw_37 : decode cX8_draw 37 = .ok (.getfield 19, 3) := by decide +kernel
theorem dX8_draw_40 : decode cX8_draw 40 = .ok (.invokevirtual 176, 3) := by decide +kernel
theorem dX8_draw_43 : decode cX8_draw 43 = .ok (.invokevirtual 180, 3) := by decide +kernel
theorem dX8_draw_46 : decode cX8_draw 46 = .ok (.lstore 4, 2) := by decide +kernel
theorem dX8_draw_48 : decode cX8_draw 48 = .ok (.lload 4, 2) := by decide +kernel
theorem dX8_draw_50 : decode cX8_draw 50 = .ok (.lconst 0, 1) := by decide +kernel
theorem dX8_draw_51 : decode cX8_draw 51 = .ok (.lcmp, 1) := by decide +kernel
theorem dX8_draw_52 : decode cX8_draw 52 = .ok (.ifCond .gt 11, 3) := by decide +kernel
theorem dX8_draw_55 : decode cX8_draw 55 = .ok (.aload_n 0, 1) := by decide +kernel
theorem dX8_draw_56 : decode cX8_draw 56 = .ok (.bipush 8, 2) := by decide +kernel
theorem dX8_draw_58 : decode cX8_draw 58 = .ok (.invokevirtual 88, 3) := by decide +kernel
theorem dX8_draw_61 : decode cX8_draw 61 = .ok (.i2l, 1) := by decide +kernel
theorem dX8_draw_62 : decode cX8_draw 62 = .ok (.lreturn, 1) := by decide +kernel
theorem dX8_draw_63 : decode cX8_draw 63 = .ok (.lload 4, 2) := by decide +kernel
theorem dX8_draw_65 : decode cX8_draw 65 = .ok (.ldc2_w 221, 3) := by decide +kernel
theorem dX8_draw_68 : decode cX8_draw 68 = .ok (.lcmp, 1) := by decide +kernel
theorem dX8_draw_69 : decode cX8_draw 69 = .ok (.ifCond .lt 11, 3) := by decide +kernel
theorem dX8_draw_72 : decode cX8_draw 72 = .ok (.aload_n 0, 1) := by decide +kernel
theorem dX8_draw_73 : decode cX8_draw 73 = .ok (.bipush 9, 2) := by decide +kernel
theorem dX8_draw_75 : decode cX8_draw 75 = .ok (.invokevirtual 88, 3) := by decide +kernel
theorem dX8_draw_78 : decode cX8_draw 78 = .ok (.i2l, 1) := by decide +kernel
theorem dX8_draw_79 : decode cX8_draw 79 = .ok (.lreturn, 1) := by decide +kernel
theorem dX8_draw_80 : decode cX8_draw 80 = .ok (.aload_n 0, 1) := by decide +kernel
theorem dX8_draw_81 : decode cX8_draw 81 = .ok (.lload 4, 2) := by decide +kernel
theorem dX8_draw_83 : decode cX8_draw 83 = .ok (.iload_n 2, 1) := by decide +kernel
theorem dX8_draw_84 : decode cX8_draw 84 = .ok (.invokestatic 237, 3) := by decide +kernel
theorem dX8_draw_87 : decode cX8_draw 87 = .ok (.invokevirtual 204, 3) := by decide +kernel
theorem dX8_draw_90 : decode cX8_draw 90 = .ok (.lreturn, 1) := by decide +kernel
set_option maxRecDepth 20000 in
theorem ggX8_mirror_X8_within : GoodIn wsX8_mirror wsX8_within := goodIn_r _ [18] (by decide +kernel) (by decide +kernel)
set_option maxRecDepth 20000 in
theorem gX8_mirror_X8_within : GoodIn wsX8_mirror (va_wsS RX8 66 yX8_within wsX8_within) := goodIn_app (goodIn_of _ (by decide +kernel)) ggX8_mirror_X8_within
set_option maxRecDepth 20000 in
theorem ggX8_mirror_X8_refused : GoodIn wsX8_mirror wsX8_refused := goodIn_r _ [22, 23, 89, 90, 91, 92, 93, 94, 95, 96, 97, 98, 99, 100] (by decide +kernel) (by decide +kernel)
set_option maxRecDepth 20000 in
theorem gX8_mirror_X8_refused : GoodIn wsX8_mirror (wsV RX8 88 RX8 yX8_refused wsX8_refused) := goodIn_app (goodIn_of _ (by decide +kernel)) ggX8_mirror_X8_refused
set_option maxRecDepth 20000 in
theorem ggX8_mirror_X4_stepsMirrored : GoodIn wsX8_mirror wsX4_stepsMirrored := goodIn_r _ [28, 29, 30, 31, 32, 33, 34, 27, 35, 101, 102, 103, 104, 105, 106, 107, 108, 109, 110, 111, 112, 113, 114, 115] (by decide +kernel) (by decide +kernel)
set_option maxRecDepth 20000 in
theorem gX8_mirror_X4_stepsMirrored : GoodIn wsX8_mirror (wsV RX8 244 RX4 yX4_stepsMirrored wsX4_stepsMirrored) := goodIn_app (goodIn_of _ (by decide +kernel)) ggX8_mirror_X4_stepsMirrored
set_option maxRecDepth 20000 in
theorem ggX8_mirror_X4_endsOpen : GoodIn wsX8_mirror wsX4_endsOpen := goodIn_r _ [39, 40, 41, 42, 43, 44, 45, 46, 27, 47, 48, 49, 50, 51, 52, 53, 54, 101, 102, 103, 104, 105, 106, 107, 108, 109, 110, 111, 112, 113, 114, 115] (by decide +kernel) (by decide +kernel)
set_option maxRecDepth 20000 in
theorem gX8_mirror_X4_endsOpen : GoodIn wsX8_mirror (wsV RX8 198 RX4 yX4_endsOpen wsX4_endsOpen) := goodIn_app (goodIn_of _ (by decide +kernel)) ggX8_mirror_X4_endsOpen
set_option maxRecDepth 20000 in
theorem ggX8_mirror_X2_mirrored : GoodIn wsX8_mirror wsX2_mirrored := goodIn_r _ [59, 60, 61, 62, 63, 9, 10, 11, 64, 65, 66, 67, 68, 69, 70, 58, 71, 72, 73, 74, 75, 76, 77, 78, 79, 80, 81, 82, 83, 84, 101, 102, 103, 104, 105, 106, 107, 108, 109, 110, 111, 112, 113, 114, 115, 116, 117] (by decide +kernel) (by decide +kernel)
set_option maxRecDepth 20000 in
theorem gX8_mirror_X2_mirrored : GoodIn wsX8_mirror (wsV RX8 258 RX2 yX2_mirrored wsX2_mirrored) := goodIn_app (goodIn_of _ (by decide +kernel)) ggX8_mirror_X2_mirrored
set_option maxRecDepth 20000 in
theorem ggX8_mirror_X8_givenLong : GoodIn wsX8_mirror wsX8_givenLong := goodIn_r _ [88, 23, 89, 90, 91, 92, 93, 94, 95, 96, 97, 98, 99, 100] (by decide +kernel) (by decide +kernel)
set_option maxRecDepth 20000 in
theorem gX8_mirror_X8_givenLong : GoodIn wsX8_mirror (wsV RX8 204 RX8 yX8_givenLong wsX8_givenLong) := goodIn_app (goodIn_of _ (by decide +kernel)) ggX8_mirror_X8_givenLong
theorem dX8_mirror_0 : decode cX8_mirror 0 = .ok (.iload_n 1, 1) := by decide +kernel
theorem dX8_mirror_1 : decode cX8_mirror 1 = .ok (.ifCond .lt 12, 3) := by decide +kernel
theorem dX8_mirror_4 : decode cX8_mirror 4 = .ok (.iload_n 2, 1) := by decide +kernel
theorem dX8_mirror_5 : decode cX8_mirror 5 = .ok (.iconst 0, 1) := by decide +kernel
theorem dX8_mirror_6 : decode cX8_mirror 6 = .ok (.iconst 1, 1) := by decide +kernel
theorem dX8_mirror_7 : decode cX8_mirror 7 = .ok (.invokestatic 66, 3) := by decide +kernel
theorem dX8_mirror_10 : decode cX8_mirror 10 = .ok (.ifCond .ne 10, 3) := by decide +kernel
theorem dX8_mirror_13 : decode cX8_mirror 13 = .ok (.aload_n 0, 1) := by decide +kernel
theorem dX8_mirror_14 : decode cX8_mirror 14 = .ok (.iconst 2, 1) := by decide +kernel
theorem dX8_mirror_15 : decode cX8_mirror 15 = .ok (.invokevirtual 88, 3) := by decide +kernel
theorem dX8_mirror_18 : decode cX8_mirror 18 = .ok (.i2l, 1) := by decide +kernel
theorem dX8_mirror_19 : decode cX8_mirror 19 = .ok (.lreturn, 1) := by decide +kernel
theorem dX8_mirror_20 : decode cX8_mirror 20 = .ok (.aload_n 0, 1) := by decide +kernel
theorem dX8_mirror_21 : decode cX8_mirror 21 = .ok (.getfield 19, 3) := by decide +kernel
theorem dX8_mirror_24 : decode cX8_mirror 24 = .ok (.getfield 241, 3) := by decide +kernel
theorem dX8_mirror_27 : decode cX8_mirror 27 = .ok (.iconst 1, 1) := by decide +kernel
theorem dX8_mirror_28 : decode cX8_mirror 28 = .ok (.if_icmp .ne 13, 3) := by decide +kernel
theorem dX8_mirror_31 : decode cX8_mirror 31 = .ok (.aload_n 0, 1) := by decide +kernel
theorem dX8_mirror_32 : decode cX8_mirror 32 = .ok (.getfield 19, 3) := by decide +kernel
theorem dX8_mirror_35 : decode cX8_mirror 35 = .ok (.invokevirtual 244, 3) := by decide +kernel
theorem dX8_mirror_38 : decode cX8_mirror 38 = .ok (.ifCond .ne 10, 3) := by decide +kernel
theorem dX8_mirror_41 : decode cX8_mirror 41 = .ok (.aload_n 0, 1) := by decide +kernel
theorem dX8_mirror_42 : decode cX8_mirror 42 = .ok (.iconst 5, 1) := by decide +kernel
theorem dX8_mirror_43 : decode cX8_mirror 43 = .ok (.invokevirtual 88, 3) := by decide +kernel
theorem dX8_mirror_46 : decode cX8_mirror 46 = .ok (.i2l, 1) := by decide +kernel
theorem dX8_mirror_47 : decode cX8_mirror 47 = .ok (.lreturn, 1) := by decide +kernel
theorem dX8_mirror_48 : decode cX8_mirror 48 = .ok (.aload_n 0, 1) := by decide +kernel
theorem dX8_mirror_49 : decode cX8_mirror 49 = .ok (.getfield 19, 3) := by decide +kernel
theorem dX8_mirror_52 : decode cX8_mirror 52 = .ok (.invokevirtual 198, 3) := by decide +kernel
theorem dX8_mirror_55 : decode cX8_mirror 55 = .ok (.ifCond .eq 13, 3) := by decide +kernel
theorem dX8_mirror_58 : decode cX8_mirror 58 = .ok (.aload_n 0, 1) := by decide +kernel
theorem dX8_mirror_59 : decode cX8_mirror 59 = .ok (.getfield 19, 3) := by decide +kernel
theorem dX8_mirror_62 : decode cX8_mirror 62 = .ok (.getfield 151, 3) := by decide +kernel
theorem dX8_mirror_65 : decode cX8_mirror 65 = .ok (.ifCond .le 11, 3) := by decide +kernel
theorem dX8_mirror_68 : decode cX8_mirror 68 = .ok (.aload_n 0, 1) := by decide +kernel
theorem dX8_mirror_69 : decode cX8_mirror 69 = .ok (.bipush 7, 2) := by decide +kernel
theorem dX8_mirror_71 : decode cX8_mirror 71 = .ok (.invokevirtual 88, 3) := by decide +kernel
theorem dX8_mirror_74 : decode cX8_mirror 74 = .ok (.i2l, 1) := by decide +kernel
theorem dX8_mirror_75 : decode cX8_mirror 75 = .ok (.lreturn, 1) := by decide +kernel
theorem dX8_mirror_76 : decode cX8_mirror 76 = .ok (.iload_n 1, 1) := by decide +kernel
theorem dX8_mirror_77 : decode cX8_mirror 77 = .ok (.i2l, 1) := by decide +kernel
theorem dX8_mirror_78 : decode cX8_mirror 78 = .ok (.aload_n 0, 1) := by decide +kernel
theorem dX8_mirror_79 : decode cX8_mirror 79 = .ok (.getfield 19, 3) := by decide +kernel
theorem dX8_mirror_82 : decode cX8_mirror 82 = .ok (.getfield 157, 3) := by decide +kernel
theorem dX8_mirror_85 : decode cX8_mirror 85 = .ok (.i2l, 1) := by decide +kernel
theorem dX8_mirror_86 : decode cX8_mirror 86 = .ok (.ladd, 1) := by decide +kernel
theorem dX8_mirror_87 : decode cX8_mirror 87 = .ok (.ldc2_w 247, 3) := by decide +kernel
theorem dX8_mirror_90 : decode cX8_mirror 90 = .ok (.lcmp, 1) := by decide +kernel
theorem dX8_mirror_91 : decode cX8_mirror 91 = .ok (.ifCond .gt 28, 3) := by decide +kernel
theorem dX8_mirror_94 : decode cX8_mirror 94 = .ok (.ldc2_w 249, 3) := by decide +kernel
theorem dX8_mirror_97 : decode cX8_mirror 97 = .ok (.iload_n 1, 1) := by decide +kernel
theorem dX8_mirror_98 : decode cX8_mirror 98 = .ok (.i2l, 1) := by decide +kernel
theorem dX8_mirror_99 : decode cX8_mirror 99 = .ok (.lmul, 1) := by decide +kernel
theorem dX8_mirror_100 : decode cX8_mirror 100 = .ok (.aload_n 0, 1) := by decide +kernel
theorem dX8_mirror_101 : decode cX8_mirror 101 = .ok (.getfield 19, 3) := by decide +kernel
theorem dX8_mirror_104 : decode cX8_mirror 104 = .ok (.getfield 154, 3) := by decide +kernel
theorem dX8_mirror_107 : decode cX8_mirror 107 = .ok (.invokestatic 251, 3) := by decide +kernel
theorem dX8_mirror_110 : decode cX8_mirror 110 = .ok (.i2l, 1) := by decide +kernel
theorem dX8_mirror_111 : decode cX8_mirror 111 = .ok (.ladd, 1) := by decide +kernel
theorem dX8_mirror_112 : decode cX8_mirror 112 = .ok (.ldc2_w 256, 3) := by decide +kernel
theorem dX8_mirror_115 : decode cX8_mirror 115 = .ok (.lcmp, 1) := by decide +kernel
theorem dX8_mirror_116 : decode cX8_mirror 116 = .ok (.ifCond .le 11, 3) := by decide +kernel
theorem dX8_mirror_119 : decode cX8_mirror 119 = .ok (.aload_n 0, 1) := by decide +kernel
theorem dX8_mirror_120 : decode cX8_mirror 120 = .ok (.bipush 10, 2) := by decide +kernel
theorem dX8_mirror_122 : decode cX8_mirror 122 = .ok (.invokevirtual 88, 3) := by decide +kernel
theorem dX8_mirror_125 : decode cX8_mirror 125 = .ok (.i2l, 1) := by decide +kernel
theorem dX8_mirror_126 : decode cX8_mirror 126 = .ok (.lreturn, 1) := by decide +kernel
theorem dX8_mirror_127 : decode cX8_mirror 127 = .ok (.iload_n 2, 1) := by decide +kernel
theorem dX8_mirror_128 : decode cX8_mirror 128 = .ok (.ifCond .ne 13, 3) := by decide +kernel
theorem dX8_mirror_131 : decode cX8_mirror 131 = .ok (.aload_n 0, 1) := by decide +kernel
theorem dX8_mirror_132 : decode cX8_mirror 132 = .ok (.getfield 19, 3) := by decide +kernel
theorem dX8_mirror_135 : decode cX8_mirror 135 = .ok (.getfield 163, 3) := by decide +kernel
theorem dX8_mirror_138 : decode cX8_mirror 138 = .ok (.goto 13, 3) := by decide +kernel
theorem dX8_mirror_141 : decode cX8_mirror 141 = .ok (.bipush (-2), 2) := by decide +kernel
theorem dX8_mirror_143 : decode cX8_mirror 143 = .ok (.aload_n 0, 1) := by decide +kernel
theorem dX8_mirror_144 : decode cX8_mirror 144 = .ok (.getfield 19, 3) := by decide +kernel
theorem dX8_mirror_147 : decode cX8_mirror 147 = .ok (.getfield 163, 3) := by decide +kernel
theorem dX8_mirror_150 : decode cX8_mirror 150 = .ok (.isub, 1) := by decide +kernel
theorem dX8_mirror_151 : decode cX8_mirror 151 = .ok (.istore_n 3, 1) := by decide +kernel
theorem dX8_mirror_152 : decode cX8_mirror 152 = .ok (.aload_n 0, 1) := by decide +kernel
theorem dX8_mirror_153 : decode cX8_mirror 153 = .ok (.aload_n 0, 1) := by decide +kernel
theorem dX8_mirror_154 : decode cX8_mirror 154 = .ok (.getfield 33, 3) := by decide +kernel
theorem dX8_mirror_157 : decode cX8_mirror 157 = .ok (.aload_n 0, 1) := by decide +kernel
theorem dX8_mirror_158 : decode cX8_mirror 158 = .ok (.getfield 19, 3) := by decide +kernel
theorem dX8_mirror_161 : decode cX8_mirror 161 = .ok (.iload_n 1, 1) := by decide +kernel
theorem dX8_mirror_162 : decode cX8_mirror 162 = .ok (.iload_n 3, 1) := by decide +kernel
theorem dX8_mirror_163 : decode cX8_mirror 163 = .ok (.invokevirtual 258, 3) := by decide +kernel
theorem dX8_mirror_166 : decode cX8_mirror 166 = .ok (.invokevirtual 204, 3) := by decide +kernel
theorem dX8_mirror_169 : decode cX8_mirror 169 = .ok (.lreturn, 1) := by decide +kernel
set_option maxRecDepth 20000 in
theorem ggX8_first_X8_comingFault : GoodIn wsX8_first wsX8_comingFault := goodIn_r _ [7, 2, 8, 9, 10, 6, 11, 12, 13, 14, 15, 16, 17, 18, 59, 60, 61, 62, 63, 64, 65, 66, 67, 68, 69, 70, 71, 72, 73, 74, 75, 76, 77, 78, 79, 80, 81, 82, 83, 84, 85] (by decide +kernel) (by decide +kernel)
set_option maxRecDepth 20000 in
theorem gX8_first_X8_comingFault : GoodIn wsX8_first (wsV RX8 262 RX8 yX8_comingFault wsX8_comingFault) := goodIn_app (goodIn_of _ (by decide +kernel)) ggX8_first_X8_comingFault
set_option maxRecDepth 20000 in
theorem ggX8_first_X8_refused : GoodIn wsX8_first wsX8_refused := goodIn_r _ [22, 23, 59, 60, 61, 62, 63, 64, 65, 66, 67, 68, 69, 70] (by decide +kernel) (by decide +kernel)
set_option maxRecDepth 20000 in
theorem gX8_first_X8_refused : GoodIn wsX8_first (wsV RX8 88 RX8 yX8_refused wsX8_refused) := goodIn_app (goodIn_of _ (by decide +kernel)) ggX8_first_X8_refused
set_option maxRecDepth 20000 in
theorem ggX8_first_X2_comings : GoodIn wsX8_first wsX2_comings := goodIn_r _ [28, 29, 30, 31, 32, 33, 34, 35, 27, 36, 37, 38, 39, 40, 41, 42, 43, 44, 45, 46, 47, 48, 49, 71, 72, 73, 74, 75, 76, 77, 78, 79, 80, 81, 82, 83, 84, 85, 86, 87] (by decide +kernel) (by decide +kernel)
set_option maxRecDepth 20000 in
theorem gX8_first_X2_comings : GoodIn wsX8_first (wsV RX8 265 RX2 yX2_comings wsX2_comings) := goodIn_app (goodIn_of _ (by decide +kernel)) ggX8_first_X2_comings
set_option maxRecDepth 20000 in
theorem ggX8_first_X8_givenUnlessGreat : GoodIn wsX8_first wsX8_givenUnlessGreat := goodIn_r _ [53, 54, 19, 20, 21, 6, 22, 23, 55, 56, 57, 58, 59, 60, 61, 62, 63, 64, 65, 66, 67, 68, 69, 70] (by decide +kernel) (by decide +kernel)
set_option maxRecDepth 20000 in
theorem gX8_first_X8_givenUnlessGreat : GoodIn wsX8_first (wsV RX8 186 RX8 yX8_givenUnlessGreat wsX8_givenUnlessGreat) := goodIn_app (goodIn_of _ (by decide +kernel)) ggX8_first_X8_givenUnlessGreat
theorem dX8_first_0 : decode cX8_first 0 = .ok (.aload_n 0, 1) := by decide +kernel
theorem dX8_first_1 : decode cX8_first 1 = .ok (.iload_n 1, 1) := by decide +kernel
theorem dX8_first_2 : decode cX8_first 2 = .ok (.invokevirtual 262, 3) := by decide +kernel
theorem dX8_first_5 : decode cX8_first 5 = .ok (.istore_n 2, 1) := by decide +kernel
theorem dX8_first_6 : decode cX8_first 6 = .ok (.iload_n 2, 1) := by decide +kernel
theorem dX8_first_7 : decode cX8_first 7 = .ok (.ifCond .eq 10, 3) := by decide +kernel
theorem dX8_first_10 : decode cX8_first 10 = .ok (.aload_n 0, 1) := by decide +kernel
theorem dX8_first_11 : decode cX8_first 11 = .ok (.iload_n 2, 1) := by decide +kernel
theorem dX8_first_12 : decode cX8_first 12 = .ok (.invokevirtual 88, 3) := by decide +kernel
theorem dX8_first_15 : decode cX8_first 15 = .ok (.i2l, 1) := by decide +kernel
theorem dX8_first_16 : decode cX8_first 16 = .ok (.lreturn, 1) := by decide +kernel
theorem dX8_first_17 : decode cX8_first 17 = .ok (.aload_n 0, 1) := by decide +kernel
theorem dX8_first_18 : decode cX8_first 18 = .ok (.aload_n 0, 1) := by decide +kernel
theorem dX8_first_19 : decode cX8_first 19 = .ok (.getfield 33, 3) := by decide +kernel
theorem dX8_first_22 : decode cX8_first 22 = .ok (.aload_n 0, 1) := by decide +kernel
theorem dX8_first_23 : decode cX8_first 23 = .ok (.getfield 19, 3) := by decide +kernel
theorem dX8_first_26 : decode cX8_first 26 = .ok (.iload_n 1, 1) := by decide +kernel
theorem dX8_first_27 : decode cX8_first 27 = .ok (.iconst 1, 1) := by decide +kernel
theorem dX8_first_28 : decode cX8_first 28 = .ok (.invokevirtual 265, 3) := by decide +kernel
theorem dX8_first_31 : decode cX8_first 31 = .ok (.invokevirtual 186, 3) := by decide +kernel
theorem dX8_first_34 : decode cX8_first 34 = .ok (.lreturn, 1) := by decide +kernel
set_option maxRecDepth 20000 in
theorem ggX8_turnings_X8_comingFault : GoodIn wsX8_turnings wsX8_comingFault := goodIn_r _ [7, 2, 8, 9, 10, 6, 11, 12, 13, 14, 15, 16, 17, 18, 59, 60, 61, 62, 63, 64, 65, 66, 67, 68, 69, 70, 71, 72, 73, 74, 75, 76, 77, 78, 79, 80, 81, 82, 83, 84, 85] (by decide +kernel) (by decide +kernel)
set_option maxRecDepth 20000 in
theorem gX8_turnings_X8_comingFault : GoodIn wsX8_turnings (wsV RX8 262 RX8 yX8_comingFault wsX8_comingFault) := goodIn_app (goodIn_of _ (by decide +kernel)) ggX8_turnings_X8_comingFault
set_option maxRecDepth 20000 in
theorem ggX8_turnings_X8_refused : GoodIn wsX8_turnings wsX8_refused := goodIn_r _ [22, 23, 59, 60, 61, 62, 63, 64, 65, 66, 67, 68, 69, 70] (by decide +kernel) (by decide +kernel)
set_option maxRecDepth 20000 in
theorem gX8_turnings_X8_refused : GoodIn wsX8_turnings (wsV RX8 88 RX8 yX8_refused wsX8_refused) := goodIn_app (goodIn_of _ (by decide +kernel)) ggX8_turnings_X8_refused
set_option maxRecDepth 20000 in
theorem ggX8_turnings_X2_comings : GoodIn wsX8_turnings wsX2_comings := goodIn_r _ [28, 29, 30, 31, 32, 33, 34, 35, 27, 36, 37, 38, 39, 40, 41, 42, 43, 44, 45, 46, 47, 48, 49, 71, 72, 73, 74, 75, 76, 77, 78, 79, 80, 81, 82, 83, 84, 85, 86, 87] (by decide +kernel) (by decide +kernel)
set_option maxRecDepth 20000 in
theorem gX8_turnings_X2_comings : GoodIn wsX8_turnings (wsV RX8 265 RX2 yX2_comings wsX2_comings) := goodIn_app (goodIn_of _ (by decide +kernel)) ggX8_turnings_X2_comings
set_option maxRecDepth 20000 in
theorem ggX8_turnings_X8_givenUnlessGreat : GoodIn wsX8_turnings wsX8_givenUnlessGreat := goodIn_r _ [53, 54, 19, 20, 21, 6, 22, 23, 55, 56, 57, 58, 59, 60, 61, 62, 63, 64, 65, 66, 67, 68, 69, 70] (by decide +kernel) (by decide +kernel)
set_option maxRecDepth 20000 in
theorem gX8_turnings_X8_givenUnlessGreat : GoodIn wsX8_turnings (wsV RX8 186 RX8 yX8_givenUnlessGreat wsX8_givenUnlessGreat) := goodIn_app (goodIn_of _ (by decide +kernel)) ggX8_turnings_X8_givenUnlessGreat
theorem dX8_turnings_0 : decode cX8_turnings 0 = .ok (.aload_n 0, 1) := by decide +kernel
theorem dX8_turnings_1 : decode cX8_turnings 1 = .ok (.iload_n 1, 1) := by decide +kernel
theorem dX8_turnings_2 : decode cX8_turnings 2 = .ok (.invokevirtual 262, 3) := by decide +kernel
theorem dX8_turnings_5 : decode cX8_turnings 5 = .ok (.istore_n 2, 1) := by decide +kernel
theorem dX8_turnings_6 : decode cX8_turnings 6 = .ok (.iload_n 2, 1) := by decide +kernel
theorem dX8_turnings_7 : decode cX8_turnings 7 = .ok (.ifCond .eq 10, 3) := by decide +kernel
theorem dX8_turnings_10 : decode cX8_turnings 10 = .ok (.aload_n 0, 1) := by decide +kernel
theorem dX8_turnings_11 : decode cX8_turnings 11 = .ok (.iload_n 2, 1) := by decide +kernel
theorem dX8_turnings_12 : decode cX8_turnings 12 = .ok (.invokevirtual 88, 3) := by decide +kernel
theorem dX8_turnings_15 : decode cX8_turnings 15 = .ok (.i2l, 1) := by decide +kernel
theorem dX8_turnings_16 : decode cX8_turnings 16 = .ok (.lreturn, 1) := by decide +kernel
theorem dX8_turnings_17 : decode cX8_turnings 17 = .ok (.aload_n 0, 1) := by decide +kernel
theorem dX8_turnings_18 : decode cX8_turnings 18 = .ok (.aload_n 0, 1) := by decide +kernel
theorem dX8_turnings_19 : decode cX8_turnings 19 = .ok (.getfield 33, 3) := by decide +kernel
theorem dX8_turnings_22 : decode cX8_turnings 22 = .ok (.aload_n 0, 1) := by decide +kernel
theorem dX8_turnings_23 : decode cX8_turnings 23 = .ok (.getfield 19, 3) := by decide +kernel
theorem dX8_turnings_26 : decode cX8_turnings 26 = .ok (.iload_n 1, 1) := by decide +kernel
theorem dX8_turnings_27 : decode cX8_turnings 27 = .ok (.iconst 0, 1) := by decide +kernel
theorem dX8_turnings_28 : decode cX8_turnings 28 = .ok (.invokevirtual 265, 3) := by decide +kernel
theorem dX8_turnings_31 : decode cX8_turnings 31 = .ok (.invokevirtual 186, 3) := by decide +kernel
theorem dX8_turnings_34 : decode cX8_turnings 34 = .ok (.lreturn, 1) := by decide +kernel
set_option maxRecDepth 20000 in
theorem ggX8_family_X8_within : GoodIn wsX8_family wsX8_within := goodIn_r _ [5] (by decide +kernel) (by decide +kernel)
set_option maxRecDepth 20000 in
theorem gX8_family_X8_within : GoodIn wsX8_family (va_wsS RX8 66 yX8_within wsX8_within) := goodIn_app (goodIn_of _ (by decide +kernel)) ggX8_family_X8_within
set_option maxRecDepth 20000 in
theorem ggX8_family_X8_denied : GoodIn wsX8_family wsX8_denied := goodIn_r _ [9, 10, 23, 24, 25, 26, 27, 28, 29, 30, 31, 32, 33, 34] (by decide +kernel) (by decide +kernel)
set_option maxRecDepth 20000 in
theorem gX8_family_X8_denied : GoodIn wsX8_family (wsV RX8 70 RX8 yX8_denied wsX8_denied) := goodIn_app (goodIn_of _ (by decide +kernel)) ggX8_family_X8_denied
set_option maxRecDepth 20000 in
theorem ggX8_family_X1_begin : GoodIn wsX8_family wsX1_begin := goodIn_r _ [15, 16, 17, 18, 35, 36, 37, 38, 39] (by decide +kernel) (by decide +kernel)
set_option maxRecDepth 20000 in
theorem gX8_family_X1_begin : GoodIn wsX8_family (wsV RX8 269 RX1 yX1_begin wsX1_begin) := goodIn_app (goodIn_of _ (by decide +kernel)) ggX8_family_X1_begin
set_option maxRecDepth 20000 in
theorem ggX8_family_X8_granted : GoodIn wsX8_family wsX8_granted := goodIn_r _ [22, 10, 23, 24, 25, 26, 27, 28, 29, 30, 31, 32, 33, 34] (by decide +kernel) (by decide +kernel)
set_option maxRecDepth 20000 in
theorem gX8_family_X8_granted : GoodIn wsX8_family (wsV RX8 77 RX8 yX8_granted wsX8_granted) := goodIn_app (goodIn_of _ (by decide +kernel)) ggX8_family_X8_granted
theorem dX8_family_0 : decode cX8_family 0 = .ok (.iload_n 1, 1) := by decide +kernel
theorem dX8_family_1 : decode cX8_family 1 = .ok (.iconst 1, 1) := by decide +kernel
theorem dX8_family_2 : decode cX8_family 2 = .ok (.iconst 4, 1) := by decide +kernel
theorem dX8_family_3 : decode cX8_family 3 = .ok (.invokestatic 66, 3) := by decide +kernel
theorem dX8_family_6 : decode cX8_family 6 = .ok (.ifCond .ne 9, 3) := by decide +kernel
theorem dX8_family_9 : decode cX8_family 9 = .ok (.aload_n 0, 1) := by decide +kernel
theorem dX8_family_10 : decode cX8_family 10 = .ok (.iconst 2, 1) := by decide +kernel
theorem dX8_family_11 : decode cX8_family 11 = .ok (.invokevirtual 70, 3) := by decide +kernel
theorem dX8_family_14 : decode cX8_family 14 = .ok (.ireturn, 1) := by decide +kernel
theorem dX8_family_15 : decode cX8_family 15 = .ok (.aload_n 0, 1) := by decide +kernel
theorem dX8_family_16 : decode cX8_family 16 = .ok (.getfield 26, 3) := by decide +kernel
theorem dX8_family_19 : decode cX8_family 19 = .ok (.iload_n 1, 1) := by decide +kernel
theorem dX8_family_20 : decode cX8_family 20 = .ok (.invokevirtual 269, 3) := by decide +kernel
theorem dX8_family_23 : decode cX8_family 23 = .ok (.aload_n 0, 1) := by decide +kernel
theorem dX8_family_24 : decode cX8_family 24 = .ok (.invokevirtual 77, 3) := by decide +kernel
theorem dX8_family_27 : decode cX8_family 27 = .ok (.ireturn, 1) := by decide +kernel
set_option maxRecDepth 20000 in
theorem ggX8_place_X4_isSquare : GoodIn wsX8_place wsX4_isSquare := goodIn_r _ [5] (by decide +kernel) (by decide +kernel)
set_option maxRecDepth 20000 in
theorem gX8_place_X4_isSquare : GoodIn wsX8_place (va_wsS RX8 144 yX4_isSquare wsX4_isSquare) := goodIn_app (goodIn_of _ (by decide +kernel)) ggX8_place_X4_isSquare
set_option maxRecDepth 20000 in
theorem ggX8_place_X8_denied : GoodIn wsX8_place wsX8_denied := goodIn_r _ [10, 11, 29, 30, 31, 32, 33, 34, 35, 36, 37, 38, 39, 40] (by decide +kernel) (by decide +kernel)
set_option maxRecDepth 20000 in
theorem gX8_place_X8_denied : GoodIn wsX8_place (wsV RX8 70 RX8 yX8_denied wsX8_denied) := goodIn_app (goodIn_of _ (by decide +kernel)) ggX8_place_X8_denied
set_option maxRecDepth 20000 in
theorem ggX8_place_X1_has : GoodIn wsX8_place wsX1_has := goodIn_r _ [16, 17, 41, 42, 43, 44, 45] (by decide +kernel) (by decide +kernel)
set_option maxRecDepth 20000 in
theorem gX8_place_X1_has : GoodIn wsX8_place (wsV RX8 272 RX1 yX1_has wsX1_has) := goodIn_app (goodIn_of _ (by decide +kernel)) ggX8_place_X1_has
set_option maxRecDepth 20000 in
theorem ggX8_place_X1_setPlace : GoodIn wsX8_place wsX1_setPlace := goodIn_r _ [21, 22, 23, 24, 13, 14, 15, 16, 17, 41, 42, 43, 44, 45] (by decide +kernel) (by decide +kernel)
set_option maxRecDepth 20000 in
theorem gX8_place_X1_setPlace : GoodIn wsX8_place (wsV RX8 275 RX1 yX1_setPlace wsX1_setPlace) := goodIn_app (goodIn_of _ (by decide +kernel)) ggX8_place_X1_setPlace
set_option maxRecDepth 20000 in
theorem ggX8_place_X8_granted : GoodIn wsX8_place wsX8_granted := goodIn_r _ [28, 11, 29, 30, 31, 32, 33, 34, 35, 36, 37, 38, 39, 40] (by decide +kernel) (by decide +kernel)
set_option maxRecDepth 20000 in
theorem gX8_place_X8_granted : GoodIn wsX8_place (wsV RX8 77 RX8 yX8_granted wsX8_granted) := goodIn_app (goodIn_of _ (by decide +kernel)) ggX8_place_X8_granted
theorem dX8_place_0 : decode cX8_place 0 = .ok (.iload_n 3, 1) := by decide +kernel
theorem dX8_place_1 : decode cX8_place 1 = .ok (.iload 4, 2) := by decide +kernel
theorem dX8_place_3 : decode cX8_place 3 = .ok (.invokestatic 144, 3) := by decide +kernel
theorem dX8_place_6 : decode cX8_place 6 = .ok (.ifCond .ne 9, 3) := by decide +kernel
theorem dX8_place_9 : decode cX8_place 9 = .ok (.aload_n 0, 1) := by decide +kernel
theorem dX8_place_10 : decode cX8_place 10 = .ok (.iconst 2, 1) := by decide +kernel
theorem dX8_place_11 : decode cX8_place 11 = .ok (.invokevirtual 70, 3) := by decide +kernel
theorem dX8_place_14 : decode cX8_place 14 = .ok (.ireturn, 1) := by decide +kernel
theorem dX8_place_15 : decode cX8_place 15 = .ok (.aload_n 0, 1) := by decide +kernel
theorem dX8_place_16 : decode cX8_place 16 = .ok (.getfield 26, 3) := by decide +kernel
theorem dX8_place_19 : decode cX8_place 19 = .ok (.iload_n 1, 1) := by decide +kernel
theorem dX8_place_20 : decode cX8_place 20 = .ok (.invokevirtual 272, 3) := by decide +kernel
theorem dX8_place_23 : decode cX8_place 23 = .ok (.ifCond .ne 10, 3) := by decide +kernel
theorem dX8_place_26 : decode cX8_place 26 = .ok (.aload_n 0, 1) := by decide +kernel
theorem dX8_place_27 : decode cX8_place 27 = .ok (.bipush 8, 2) := by decide +kernel
theorem dX8_place_29 : decode cX8_place 29 = .ok (.invokevirtual 70, 3) := by decide +kernel
theorem dX8_place_32 : decode cX8_place 32 = .ok (.ireturn, 1) := by decide +kernel
theorem dX8_place_33 : decode cX8_place 33 = .ok (.aload_n 0, 1) := by decide +kernel
theorem dX8_place_34 : decode cX8_place 34 = .ok (.getfield 26, 3) := by decide +kernel
theorem dX8_place_37 : decode cX8_place 37 = .ok (.iload_n 1, 1) := by decide +kernel
theorem dX8_place_38 : decode cX8_place 38 = .ok (.iload_n 2, 1) := by decide +kernel
theorem dX8_place_39 : decode cX8_place 39 = .ok (.iload_n 3, 1) := by decide +kernel
theorem dX8_place_40 : decode cX8_place 40 = .ok (.iload 4, 2) := by decide +kernel
theorem dX8_place_42 : decode cX8_place 42 = .ok (.invokevirtual 275, 3) := by decide +kernel
theorem dX8_place_45 : decode cX8_place 45 = .ok (.aload_n 0, 1) := by decide +kernel
theorem dX8_place_46 : decode cX8_place 46 = .ok (.invokevirtual 77, 3) := by decide +kernel
theorem dX8_place_49 : decode cX8_place 49 = .ok (.ireturn, 1) := by decide +kernel
set_option maxRecDepth 20000 in
theorem ggX8_table_X1_has : GoodIn wsX8_table wsX1_has := goodIn_r _ [7, 8, 59, 60, 61, 62, 63] (by decide +kernel) (by decide +kernel)
set_option maxRecDepth 20000 in
theorem gX8_table_X1_has : GoodIn wsX8_table (wsV RX8 272 RX1 yX1_has wsX1_has) := goodIn_app (goodIn_of _ (by decide +kernel)) ggX8_table_X1_has
set_option maxRecDepth 20000 in
theorem ggX8_table_X8_refused : GoodIn wsX8_table wsX8_refused := goodIn_r _ [13, 14, 47, 48, 49, 50, 51, 52, 53, 54, 55, 56, 57, 58] (by decide +kernel) (by decide +kernel)
set_option maxRecDepth 20000 in
theorem gX8_table_X8_refused : GoodIn wsX8_table (wsV RX8 88 RX8 yX8_refused wsX8_refused) := goodIn_app (goodIn_of _ (by decide +kernel)) ggX8_table_X8_refused
set_option maxRecDepth 20000 in
theorem ggX8_table_X1_barredAt : GoodIn wsX8_table wsX1_barredAt := goodIn_r _ [18, 19, 20, 21, 4, 5, 6, 7, 8, 22, 23, 24, 25, 26, 27, 28, 29, 30, 31, 32, 33, 59, 60, 61, 62, 63, 64, 65, 66, 67, 68, 69, 70, 71, 72, 73, 74, 75, 76, 77, 78] (by decide +kernel) (by decide +kernel)
set_option maxRecDepth 20000 in
theorem gX8_table_X1_barredAt : GoodIn wsX8_table (wsV RX8 279 RX1 yX1_barredAt wsX1_barredAt) := goodIn_app (goodIn_of _ (by decide +kernel)) ggX8_table_X1_barredAt
set_option maxRecDepth 20000 in
theorem ggX8_table_X1_entry : GoodIn wsX8_table wsX1_entry := goodIn_r _ [37, 19, 38, 20, 39, 40, 41, 42, 21, 4, 5, 6, 7, 8, 22, 23, 24, 25, 26, 27, 28, 29, 30, 31, 32, 33, 59, 60, 61, 62, 63, 64, 65, 66, 67, 68, 69, 70, 71, 72, 73, 74, 75, 76, 77, 78] (by decide +kernel) (by decide +kernel)
set_option maxRecDepth 20000 in
theorem gX8_table_X1_entry : GoodIn wsX8_table (wsV RX8 283 RX1 yX1_entry wsX1_entry) := goodIn_app (goodIn_of _ (by decide +kernel)) ggX8_table_X1_entry
set_option maxRecDepth 20000 in
theorem ggX8_table_X8_given : GoodIn wsX8_table wsX8_given := goodIn_r _ [46, 14, 47, 48, 49, 50, 51, 52, 53, 54, 55, 56, 57, 58] (by decide +kernel) (by decide +kernel)
set_option maxRecDepth 20000 in
theorem gX8_table_X8_given : GoodIn wsX8_table (wsV RX8 95 RX8 yX8_given wsX8_given) := goodIn_app (goodIn_of _ (by decide +kernel)) ggX8_table_X8_given
theorem dX8_table_0 : decode cX8_table 0 = .ok (.aload_n 0, 1) := by decide +kernel
theorem dX8_table_1 : decode cX8_table 1 = .ok (.getfield 26, 3) := by decide +kernel
theorem dX8_table_4 : decode cX8_table 4 = .ok (.iload_n 1, 1) := by decide +kernel
theorem dX8_table_5 : decode cX8_table 5 = .ok (.invokevirtual 272, 3) := by decide +kernel
theorem dX8_table_8 : decode cX8_table 8 = .ok (.ifCond .eq 14, 3) := by decide +kernel
theorem dX8_table_11 : decode cX8_table 11 = .ok (.aload_n 0, 1) := by decide +kernel
theorem dX8_table_12 : decode cX8_table 12 = .ok (.getfield 26, 3) := by decide +kernel
theorem dX8_table_15 : decode cX8_table 15 = .ok (.iload_n 2, 1) := by decide +kernel
theorem dX8_table_16 : decode cX8_table 16 = .ok (.invokevirtual 272, 3) := by decide +kernel
theorem dX8_table_19 : decode cX8_table 19 = .ok (.ifCond .ne 10, 3) := by decide +kernel
theorem dX8_table_22 : decode cX8_table 22 = .ok (.aload_n 0, 1) := by decide +kernel
theorem dX8_table_23 : decode cX8_table 23 = .ok (.bipush 8, 2) := by decide +kernel
theorem dX8_table_25 : decode cX8_table 25 = .ok (.invokevirtual 88, 3) := by decide +kernel
theorem dX8_table_28 : decode cX8_table 28 = .ok (.ireturn, 1) := by decide +kernel
theorem dX8_table_29 : decode cX8_table 29 = .ok (.aload_n 0, 1) := by decide +kernel
theorem dX8_table_30 : decode cX8_table 30 = .ok (.getfield 26, 3) := by decide +kernel
theorem dX8_table_33 : decode cX8_table 33 = .ok (.aload_n 0, 1) := by decide +kernel
theorem dX8_table_34 : decode cX8_table 34 = .ok (.getfield 19, 3) := by decide +kernel
theorem dX8_table_37 : decode cX8_table 37 = .ok (.iload_n 1, 1) := by decide +kernel
theorem dX8_table_38 : decode cX8_table 38 = .ok (.iload_n 2, 1) := by decide +kernel
theorem dX8_table_39 : decode cX8_table 39 = .ok (.invokevirtual 279, 3) := by decide +kernel
theorem dX8_table_42 : decode cX8_table 42 = .ok (.ifCond .eq 10, 3) := by decide +kernel
theorem dX8_table_45 : decode cX8_table 45 = .ok (.aload_n 0, 1) := by decide +kernel
theorem dX8_table_46 : decode cX8_table 46 = .ok (.bipush 7, 2) := by decide +kernel
theorem dX8_table_48 : decode cX8_table 48 = .ok (.invokevirtual 88, 3) := by decide +kernel
theorem dX8_table_51 : decode cX8_table 51 = .ok (.ireturn, 1) := by decide +kernel
theorem dX8_table_52 : decode cX8_table 52 = .ok (.aload_n 0, 1) := by decide +kernel
theorem dX8_table_53 : decode cX8_table 53 = .ok (.getfield 26, 3) := by decide +kernel
theorem dX8_table_56 : decode cX8_table 56 = .ok (.aload_n 0, 1) := by decide +kernel
theorem dX8_table_57 : decode cX8_table 57 = .ok (.getfield 19, 3) := by decide +kernel
theorem dX8_table_60 : decode cX8_table 60 = .ok (.iload_n 1, 1) := by decide +kernel
theorem dX8_table_61 : decode cX8_table 61 = .ok (.iload_n 2, 1) := by decide +kernel
theorem dX8_table_62 : decode cX8_table 62 = .ok (.invokevirtual 283, 3) := by decide +kernel
theorem dX8_table_65 : decode cX8_table 65 = .ok (.istore_n 3, 1) := by decide +kernel
theorem dX8_table_66 : decode cX8_table 66 = .ok (.iload_n 3, 1) := by decide +kernel
theorem dX8_table_67 : decode cX8_table 67 = .ok (.sipush 20000, 3) := by decide +kernel
theorem dX8_table_70 : decode cX8_table 70 = .ok (.if_icmp .le 12, 3) := by decide +kernel
theorem dX8_table_73 : decode cX8_table 73 = .ok (.aload_n 0, 1) := by decide +kernel
theorem dX8_table_74 : decode cX8_table 74 = .ok (.bipush 9, 2) := by decide +kernel
theorem dX8_table_76 : decode cX8_table 76 = .ok (.invokevirtual 88, 3) := by decide +kernel
theorem dX8_table_79 : decode cX8_table 79 = .ok (.goto 8, 3) := by decide +kernel
theorem dX8_table_82 : decode cX8_table 82 = .ok (.aload_n 0, 1) := by decide +kernel
theorem dX8_table_83 : decode cX8_table 83 = .ok (.iload_n 3, 1) := by decide +kernel
theorem dX8_table_84 : decode cX8_table 84 = .ok (.invokevirtual 95, 3) := by decide +kernel
theorem dX8_table_87 : decode cX8_table 87 = .ok (.ireturn, 1) := by decide +kernel
set_option maxRecDepth 20000 in
theorem ggX8_worth_X1_has : GoodIn wsX8_worth wsX1_has := goodIn_r _ [7, 8, 76, 77, 78, 79, 80] (by decide +kernel) (by decide +kernel)
set_option maxRecDepth 20000 in
theorem gX8_worth_X1_has : GoodIn wsX8_worth (wsV RX8 272 RX1 yX1_has wsX1_has) := goodIn_app (goodIn_of _ (by decide +kernel)) ggX8_worth_X1_has
set_option maxRecDepth 20000 in
theorem ggX8_worth_X8_refused : GoodIn wsX8_worth wsX8_refused := goodIn_r _ [13, 14, 64, 65, 66, 67, 68, 69, 70, 71, 72, 73, 74, 75] (by decide +kernel) (by decide +kernel)
set_option maxRecDepth 20000 in
theorem gX8_worth_X8_refused : GoodIn wsX8_worth (wsV RX8 88 RX8 yX8_refused wsX8_refused) := goodIn_app (goodIn_of _ (by decide +kernel)) ggX8_worth_X8_refused
set_option maxRecDepth 20000 in
theorem ggX8_worth_X1_anyBarred : GoodIn wsX8_worth wsX1_anyBarred := goodIn_r _ [18, 8, 19, 20, 21, 6, 22, 23, 24, 25, 4, 5, 7, 26, 27, 28, 29, 30, 31, 32, 33, 34, 35, 36, 37, 76, 77, 78, 79, 80, 81, 82, 83, 84, 85, 86, 87, 88, 89, 90, 91, 92, 93, 94, 95] (by decide +kernel) (by decide +kernel)
set_option maxRecDepth 20000 in
theorem gX8_worth_X1_anyBarred : GoodIn wsX8_worth (wsV RX8 287 RX1 yX1_anyBarred wsX1_anyBarred) := goodIn_app (goodIn_of _ (by decide +kernel)) ggX8_worth_X1_anyBarred
set_option maxRecDepth 20000 in
theorem ggX8_worth_X1_fillTable : GoodIn wsX8_worth wsX1_fillTable := goodIn_r _ [41, 42, 25, 4, 5, 6, 7, 8, 43, 44, 45, 46, 23, 47, 24, 48, 49, 50, 51, 26, 27, 28, 29, 30, 31, 32, 33, 34, 35, 36, 37, 76, 77, 78, 79, 80, 81, 82, 83, 84, 85, 86, 87, 88, 89, 90, 91, 92, 93, 94, 95] (by decide +kernel) (by decide +kernel)
set_option maxRecDepth 20000 in
theorem gX8_worth_X1_fillTable : GoodIn wsX8_worth (wsV RX8 291 RX1 yX1_fillTable wsX1_fillTable) := goodIn_app (goodIn_of _ (by decide +kernel)) ggX8_worth_X1_fillTable
set_option maxRecDepth 20000 in
theorem ggX8_worth_X1_determinant : GoodIn wsX8_worth wsX1_determinant := goodIn_r _ [55, 56, 57, 58, 6, 59, 42, 76, 77, 78, 79, 80] (by decide +kernel) (by decide +kernel)
set_option maxRecDepth 20000 in
theorem gX8_worth_X1_determinant : GoodIn wsX8_worth (wsV RX8 294 RX1 yX1_determinant wsX1_determinant) := goodIn_app (goodIn_of _ (by decide +kernel)) ggX8_worth_X1_determinant
set_option maxRecDepth 20000 in
theorem ggX8_worth_X8_givenLong : GoodIn wsX8_worth wsX8_givenLong := goodIn_r _ [63, 14, 64, 65, 66, 67, 68, 69, 70, 71, 72, 73, 74, 75] (by decide +kernel) (by decide +kernel)
set_option maxRecDepth 20000 in
theorem gX8_worth_X8_givenLong : GoodIn wsX8_worth (wsV RX8 204 RX8 yX8_givenLong wsX8_givenLong) := goodIn_app (goodIn_of _ (by decide +kernel)) ggX8_worth_X8_givenLong
theorem dX8_worth_0 : decode cX8_worth 0 = .ok (.aload_n 0, 1) := by decide +kernel
theorem dX8_worth_1 : decode cX8_worth 1 = .ok (.getfield 26, 3) := by decide +kernel
theorem dX8_worth_4 : decode cX8_worth 4 = .ok (.iconst 0, 1) := by decide +kernel
theorem dX8_worth_5 : decode cX8_worth 5 = .ok (.invokevirtual 272, 3) := by decide +kernel
theorem dX8_worth_8 : decode cX8_worth 8 = .ok (.ifCond .ne 11, 3) := by decide +kernel
theorem dX8_worth_11 : decode cX8_worth 11 = .ok (.aload_n 0, 1) := by decide +kernel
theorem dX8_worth_12 : decode cX8_worth 12 = .ok (.bipush 8, 2) := by decide +kernel
theorem dX8_worth_14 : decode cX8_worth 14 = .ok (.invokevirtual 88, 3) := by decide +kernel
theorem dX8_worth_17 : decode cX8_worth 17 = .ok (.i2l, 1) := by decide +kernel
theorem dX8_worth_18 : decode cX8_worth 18 = .ok (.lreturn, 1) := by decide +kernel
theorem dX8_worth_19 : decode cX8_worth 19 = .ok (.aload_n 0, 1) := by decide +kernel
theorem dX8_worth_20 : decode cX8_worth 20 = .ok (.getfield 26, 3) := by decide +kernel
theorem dX8_worth_23 : decode cX8_worth 23 = .ok (.aload_n 0, 1) := by decide +kernel
theorem dX8_worth_24 : decode cX8_worth 24 = .ok (.getfield 19, 3) := by decide +kernel
theorem dX8_worth_27 : decode cX8_worth 27 = .ok (.invokevirtual 287, 3) := by decide +kernel
theorem dX8_worth_30 : decode cX8_worth 30 = .ok (.ifCond .eq 11, 3) := by decide +kernel
theorem dX8_worth_33 : decode cX8_worth 33 = .ok (.aload_n 0, 1) := by decide +kernel
theorem dX8_worth_34 : decode cX8_worth 34 = .ok (.bipush 7, 2) := by decide +kernel
theorem dX8_worth_36 : decode cX8_worth 36 = .ok (.invokevirtual 88, 3) := by decide +kernel
theorem dX8_worth_39 : decode cX8_worth 39 = .ok (.i2l, 1) := by decide +kernel
theorem dX8_worth_40 : decode cX8_worth 40 = .ok (.lreturn, 1) := by decide +kernel
theorem dX8_worth_41 : decode cX8_worth 41 = .ok (.aload_n 0, 1) := by decide +kernel
theorem dX8_worth_42 : decode cX8_worth 42 = .ok (.getfield 26, 3) := by decide +kernel
theorem dX8_worth_45 : decode cX8_worth 45 = .ok (.aload_n 0, 1) := by decide +kernel
theorem dX8_worth_46 : decode cX8_worth 46 = .ok (.getfield 19, 3) := by decide +kernel
theorem dX8_worth_49 : decode cX8_worth 49 = .ok (.invokevirtual 291, 3) := by decide +kernel
theorem dX8_worth_52 : decode cX8_worth 52 = .ok (.ifCond .ne 11, 3) := by decide +kernel
theorem dX8_worth_55 : decode cX8_worth 55 = .ok (.aload_n 0, 1) := by decide +kernel
theorem dX8_worth_56 : decode cX8_worth 56 = .ok (.bipush 9, 2) := by decide +kernel
theorem dX8_worth_58 : decode cX8_worth 58 = .ok (.invokevirtual 88, 3) := by decide +kernel
theorem dX8_worth_61 : decode cX8_worth 61 = .ok (.i2l, 1) := by decide +kernel
theorem dX8_worth_62 : decode cX8_worth 62 = .ok (.lreturn, 1) := by decide +kernel
theorem dX8_worth_63 : decode cX8_worth 63 = .ok (.aload_n 0, 1) := by decide +kernel
theorem dX8_worth_64 : decode cX8_worth 64 = .ok (.aload_n 0, 1) := by decide +kernel
theorem dX8_worth_65 : decode cX8_worth 65 = .ok (.getfield 26, 3) := by decide +kernel
theorem dX8_worth_68 : decode cX8_worth 68 = .ok (.invokevirtual 294, 3) := by decide +kernel
theorem dX8_worth_71 : decode cX8_worth 71 = .ok (.invokevirtual 204, 3) := by decide +kernel
theorem dX8_worth_74 : decode cX8_worth 74 = .ok (.lreturn, 1) := by decide +kernel
set_option maxRecDepth 20000 in
theorem ggX8_boxes_X8_within : GoodIn wsX8_boxes wsX8_within := goodIn_r _ [4] (by decide +kernel) (by decide +kernel)
set_option maxRecDepth 20000 in
theorem gX8_boxes_X8_within : GoodIn wsX8_boxes (va_wsS RX8 66 yX8_within wsX8_within) := goodIn_app (goodIn_of _ (by decide +kernel)) ggX8_boxes_X8_within
set_option maxRecDepth 20000 in
theorem ggX8_boxes_X8_refused : GoodIn wsX8_boxes wsX8_refused := goodIn_r _ [8, 9, 22, 23, 24, 25, 26, 27, 28, 29, 30, 31, 32, 33] (by decide +kernel) (by decide +kernel)
set_option maxRecDepth 20000 in
theorem gX8_boxes_X8_refused : GoodIn wsX8_boxes (wsV RX8 88 RX8 yX8_refused wsX8_refused) := goodIn_app (goodIn_of _ (by decide +kernel)) ggX8_boxes_X8_refused
set_option maxRecDepth 20000 in
theorem ggX8_boxes_X8_heaped : GoodIn wsX8_boxes wsX8_heaped := goodIn_r _ [13, 14, 15, 16, 3, 17, 22, 23, 24, 25, 26, 27, 28, 29, 30, 31, 32, 33] (by decide +kernel) (by decide +kernel)
set_option maxRecDepth 20000 in
theorem gX8_boxes_X8_heaped : GoodIn wsX8_boxes (wsV RX8 298 RX8 yX8_heaped wsX8_heaped) := goodIn_app (goodIn_of _ (by decide +kernel)) ggX8_boxes_X8_heaped
set_option maxRecDepth 20000 in
theorem ggX8_boxes_X8_givenLong : GoodIn wsX8_boxes wsX8_givenLong := goodIn_r _ [21, 9, 22, 23, 24, 25, 26, 27, 28, 29, 30, 31, 32, 33] (by decide +kernel) (by decide +kernel)
set_option maxRecDepth 20000 in
theorem gX8_boxes_X8_givenLong : GoodIn wsX8_boxes (wsV RX8 204 RX8 yX8_givenLong wsX8_givenLong) := goodIn_app (goodIn_of _ (by decide +kernel)) ggX8_boxes_X8_givenLong
theorem dX8_boxes_0 : decode cX8_boxes 0 = .ok (.iload_n 1, 1) := by decide +kernel
theorem dX8_boxes_1 : decode cX8_boxes 1 = .ok (.iconst 0, 1) := by decide +kernel
theorem dX8_boxes_2 : decode cX8_boxes 2 = .ok (.bipush 6, 2) := by decide +kernel
theorem dX8_boxes_4 : decode cX8_boxes 4 = .ok (.invokestatic 66, 3) := by decide +kernel
theorem dX8_boxes_7 : decode cX8_boxes 7 = .ok (.ifCond .eq 23, 3) := by decide +kernel
theorem dX8_boxes_10 : decode cX8_boxes 10 = .ok (.iload_n 2, 1) := by decide +kernel
theorem dX8_boxes_11 : decode cX8_boxes 11 = .ok (.iconst 0, 1) := by decide +kernel
theorem dX8_boxes_12 : decode cX8_boxes 12 = .ok (.bipush 6, 2) := by decide +kernel
theorem dX8_boxes_14 : decode cX8_boxes 14 = .ok (.invokestatic 66, 3) := by decide +kernel
theorem dX8_boxes_17 : decode cX8_boxes 17 = .ok (.ifCond .eq 13, 3) := by decide +kernel
theorem dX8_boxes_20 : decode cX8_boxes 20 = .ok (.iload_n 3, 1) := by decide +kernel
theorem dX8_boxes_21 : decode cX8_boxes 21 = .ok (.iconst 0, 1) := by decide +kernel
theorem dX8_boxes_22 : decode cX8_boxes 22 = .ok (.bipush 6, 2) := by decide +kernel
theorem dX8_boxes_24 : decode cX8_boxes 24 = .ok (.invokestatic 66, 3) := by decide +kernel
theorem dX8_boxes_27 : decode cX8_boxes 27 = .ok (.ifCond .ne 10, 3) := by decide +kernel
theorem dX8_boxes_30 : decode cX8_boxes 30 = .ok (.aload_n 0, 1) := by decide +kernel
theorem dX8_boxes_31 : decode cX8_boxes 31 = .ok (.iconst 2, 1) := by decide +kernel
theorem dX8_boxes_32 : decode cX8_boxes 32 = .ok (.invokevirtual 88, 3) := by decide +kernel
theorem dX8_boxes_35 : decode cX8_boxes 35 = .ok (.i2l, 1) := by decide +kernel
theorem dX8_boxes_36 : decode cX8_boxes 36 = .ok (.lreturn, 1) := by decide +kernel
theorem dX8_boxes_37 : decode cX8_boxes 37 = .ok (.aload_n 0, 1) := by decide +kernel
theorem dX8_boxes_38 : decode cX8_boxes 38 = .ok (.aload_n 0, 1) := by decide +kernel
theorem dX8_boxes_39 : decode cX8_boxes 39 = .ok (.iload_n 1, 1) := by decide +kernel
theorem dX8_boxes_40 : decode cX8_boxes 40 = .ok (.iload_n 2, 1) := by decide +kernel
theorem dX8_boxes_41 : decode cX8_boxes 41 = .ok (.iload_n 3, 1) := by decide +kernel
theorem dX8_boxes_42 : decode cX8_boxes 42 = .ok (.invokevirtual 298, 3) := by decide +kernel
theorem dX8_boxes_45 : decode cX8_boxes 45 = .ok (.invokevirtual 204, 3) := by decide +kernel
theorem dX8_boxes_48 : decode cX8_boxes 48 = .ok (.lreturn, 1) := by decide +kernel
set_option maxRecDepth 20000 in
theorem ggX8_brackets_X8_within : GoodIn wsX8_brackets wsX8_within := goodIn_r _ [7] (by decide +kernel) (by decide +kernel)
set_option maxRecDepth 20000 in
theorem gX8_brackets_X8_within : GoodIn wsX8_brackets (va_wsS RX8 66 yX8_within wsX8_within) := goodIn_app (goodIn_of _ (by decide +kernel)) ggX8_brackets_X8_within
set_option maxRecDepth 20000 in
theorem ggX8_brackets_X8_refused : GoodIn wsX8_brackets wsX8_refused := goodIn_r _ [11, 12, 33, 34, 35, 36, 37, 38, 39, 40, 41, 42, 43, 44] (by decide +kernel) (by decide +kernel)
set_option maxRecDepth 20000 in
theorem gX8_brackets_X8_refused : GoodIn wsX8_brackets (wsV RX8 88 RX8 yX8_refused wsX8_refused) := goodIn_app (goodIn_of _ (by decide +kernel)) ggX8_brackets_X8_refused
set_option maxRecDepth 20000 in
theorem ggX8_brackets_X0_endings : GoodIn wsX8_brackets wsX0_endings := goodIn_r _ [17, 18, 19, 20, 21, 16, 22, 23, 45, 46] (by decide +kernel) (by decide +kernel)
set_option maxRecDepth 20000 in
theorem gX8_brackets_X0_endings : GoodIn wsX8_brackets (wsV RX8 301 RX0 yX0_endings wsX0_endings) := goodIn_app (goodIn_of _ (by decide +kernel)) ggX8_brackets_X0_endings
set_option maxRecDepth 20000 in
theorem ggX8_brackets_X0_spell : GoodIn wsX8_brackets wsX0_spell := goodIn_r _ [27, 28, 14, 15, 16, 17, 18, 19, 20, 21, 22, 23, 45, 46] (by decide +kernel) (by decide +kernel)
set_option maxRecDepth 20000 in
theorem gX8_brackets_X0_spell : GoodIn wsX8_brackets (wsV RX8 304 RX0 yX0_spell wsX0_spell) := goodIn_app (goodIn_of _ (by decide +kernel)) ggX8_brackets_X0_spell
set_option maxRecDepth 20000 in
theorem ggX8_brackets_X8_given : GoodIn wsX8_brackets wsX8_given := goodIn_r _ [32, 12, 33, 34, 35, 36, 37, 38, 39, 40, 41, 42, 43, 44] (by decide +kernel) (by decide +kernel)
set_option maxRecDepth 20000 in
theorem gX8_brackets_X8_given : GoodIn wsX8_brackets (wsV RX8 95 RX8 yX8_given wsX8_given) := goodIn_app (goodIn_of _ (by decide +kernel)) ggX8_brackets_X8_given
theorem dX8_brackets_0 : decode cX8_brackets 0 = .ok (.iload_n 1, 1) := by decide +kernel
theorem dX8_brackets_1 : decode cX8_brackets 1 = .ok (.iconst 0, 1) := by decide +kernel
theorem dX8_brackets_2 : decode cX8_brackets 2 = .ok (.bipush 30, 2) := by decide +kernel
theorem dX8_brackets_4 : decode cX8_brackets 4 = .ok (.invokestatic 66, 3) := by decide +kernel
theorem dX8_brackets_7 : decode cX8_brackets 7 = .ok (.ifCond .ne 9, 3) := by decide +kernel
theorem dX8_brackets_10 : decode cX8_brackets 10 = .ok (.aload_n 0, 1) := by decide +kernel
theorem dX8_brackets_11 : decode cX8_brackets 11 = .ok (.iconst 2, 1) := by decide +kernel
theorem dX8_brackets_12 : decode cX8_brackets 12 = .ok (.invokevirtual 88, 3) := by decide +kernel
theorem dX8_brackets_15 : decode cX8_brackets 15 = .ok (.ireturn, 1) := by decide +kernel
theorem dX8_brackets_16 : decode cX8_brackets 16 = .ok (.lload_n 2, 1) := by decide +kernel
theorem dX8_brackets_17 : decode cX8_brackets 17 = .ok (.lconst 0, 1) := by decide +kernel
theorem dX8_brackets_18 : decode cX8_brackets 18 = .ok (.lcmp, 1) := by decide +kernel
theorem dX8_brackets_19 : decode cX8_brackets 19 = .ok (.ifCond .lt 19, 3) := by decide +kernel
theorem dX8_brackets_22 : decode cX8_brackets 22 = .ok (.lload_n 2, 1) := by decide +kernel
theorem dX8_brackets_23 : decode cX8_brackets 23 = .ok (.aload_n 0, 1) := by decide +kernel
theorem dX8_brackets_24 : decode cX8_brackets 24 = .ok (.getfield 47, 3) := by decide +kernel
theorem dX8_brackets_27 : decode cX8_brackets 27 = .ok (.iconst 2, 1) := by decide +kernel
theorem dX8_brackets_28 : decode cX8_brackets 28 = .ok (.iload_n 1, 1) := by decide +kernel
theorem dX8_brackets_29 : decode cX8_brackets 29 = .ok (.imul, 1) := by decide +kernel
theorem dX8_brackets_30 : decode cX8_brackets 30 = .ok (.iconst 0, 1) := by decide +kernel
theorem dX8_brackets_31 : decode cX8_brackets 31 = .ok (.invokevirtual 301, 3) := by decide +kernel
theorem dX8_brackets_34 : decode cX8_brackets 34 = .ok (.lcmp, 1) := by decide +kernel
theorem dX8_brackets_35 : decode cX8_brackets 35 = .ok (.ifCond .lt 10, 3) := by decide +kernel
theorem dX8_brackets_38 : decode cX8_brackets 38 = .ok (.aload_n 0, 1) := by decide +kernel
theorem dX8_brackets_39 : decode cX8_brackets 39 = .ok (.bipush 8, 2) := by decide +kernel
theorem dX8_brackets_41 : decode cX8_brackets 41 = .ok (.invokevirtual 88, 3) := by decide +kernel
theorem dX8_brackets_44 : decode cX8_brackets 44 = .ok (.ireturn, 1) := by decide +kernel
theorem dX8_brackets_45 : decode cX8_brackets 45 = .ok (.aload_n 0, 1) := by decide +kernel
theorem dX8_brackets_46 : decode cX8_brackets 46 = .ok (.getfield 47, 3) := by decide +kernel
theorem dX8_brackets_49 : decode cX8_brackets 49 = .ok (.iload_n 1, 1) := by decide +kernel
theorem dX8_brackets_50 : decode cX8_brackets 50 = .ok (.lload_n 2, 1) := by decide +kernel
theorem dX8_brackets_51 : decode cX8_brackets 51 = .ok (.aload_n 0, 1) := by decide +kernel
theorem dX8_brackets_52 : decode cX8_brackets 52 = .ok (.getfield 51, 3) := by decide +kernel
theorem dX8_brackets_55 : decode cX8_brackets 55 = .ok (.invokevirtual 304, 3) := by decide +kernel
theorem dX8_brackets_58 : decode cX8_brackets 58 = .ok (.aload_n 0, 1) := by decide +kernel
theorem dX8_brackets_59 : decode cX8_brackets 59 = .ok (.iconst 2, 1) := by decide +kernel
theorem dX8_brackets_60 : decode cX8_brackets 60 = .ok (.iload_n 1, 1) := by decide +kernel
theorem dX8_brackets_61 : decode cX8_brackets 61 = .ok (.imul, 1) := by decide +kernel
theorem dX8_brackets_62 : decode cX8_brackets 62 = .ok (.putfield 308, 3) := by decide +kernel
theorem dX8_brackets_65 : decode cX8_brackets 65 = .ok (.aload_n 0, 1) := by decide +kernel
theorem dX8_brackets_66 : decode cX8_brackets 66 = .ok (.aload_n 0, 1) := by decide +kernel
theorem dX8_brackets_67 : decode cX8_brackets 67 = .ok (.getfield 308, 3) := by decide +kernel
theorem dX8_brackets_70 : decode cX8_brackets 70 = .ok (.invokevirtual 95, 3) := by decide +kernel
theorem dX8_brackets_73 : decode cX8_brackets 73 = .ok (.ireturn, 1) := by decide +kernel
set_option maxRecDepth 20000 in
theorem ggX8_order_X5_known : GoodIn wsX8_order wsX5_known := goodIn_r _ [6] (by decide +kernel) (by decide +kernel)
set_option maxRecDepth 20000 in
theorem gX8_order_X5_known : GoodIn wsX8_order (va_wsS RX8 62 yX5_known wsX5_known) := goodIn_app (goodIn_of _ (by decide +kernel)) ggX8_order_X5_known
set_option maxRecDepth 20000 in
theorem ggX8_order_X8_refused : GoodIn wsX8_order wsX8_refused := goodIn_r _ [11, 12, 56, 57, 58, 59, 60, 61, 62, 63, 64, 65, 66, 67] (by decide +kernel) (by decide +kernel)
set_option maxRecDepth 20000 in
theorem gX8_order_X8_refused : GoodIn wsX8_order (wsV RX8 88 RX8 yX8_refused wsX8_refused) := goodIn_app (goodIn_of _ (by decide +kernel)) ggX8_order_X8_refused
set_option maxRecDepth 20000 in
theorem ggX8_order_X8_rowFault : GoodIn wsX8_order wsX8_rowFault := goodIn_r _ [16, 2, 3, 4, 5, 6, 17, 18, 10, 19, 20, 21, 22, 23, 24, 25, 26, 27, 28, 29, 56, 57, 58, 59, 60, 61, 62, 63, 64, 65, 66, 67, 68, 69, 70] (by decide +kernel) (by decide +kernel)
set_option maxRecDepth 20000 in
theorem gX8_order_X8_rowFault : GoodIn wsX8_order (wsV RX8 227 RX8 yX8_rowFault wsX8_rowFault) := goodIn_app (goodIn_of _ (by decide +kernel)) ggX8_order_X8_rowFault
set_option maxRecDepth 20000 in
theorem ggX8_order_X0_numberOf : GoodIn wsX8_order wsX0_numberOf := goodIn_r _ [34, 35, 36, 37, 38, 5, 39, 40, 41, 27, 28, 29, 24, 25, 4, 6, 42, 43, 44, 33, 45, 46, 47, 48, 49, 50, 51, 68, 69, 70, 71, 72] (by decide +kernel) (by decide +kernel)
set_option maxRecDepth 20000 in
theorem gX8_order_X0_numberOf : GoodIn wsX8_order (wsV RX8 311 RX0 yX0_numberOf wsX0_numberOf) := goodIn_app (goodIn_of _ (by decide +kernel)) ggX8_order_X0_numberOf
set_option maxRecDepth 20000 in
theorem ggX8_order_X8_givenLong : GoodIn wsX8_order wsX8_givenLong := goodIn_r _ [55, 12, 56, 57, 58, 59, 60, 61, 62, 63, 64, 65, 66, 67] (by decide +kernel) (by decide +kernel)
set_option maxRecDepth 20000 in
theorem gX8_order_X8_givenLong : GoodIn wsX8_order (wsV RX8 204 RX8 yX8_givenLong wsX8_givenLong) := goodIn_app (goodIn_of _ (by decide +kernel)) ggX8_order_X8_givenLong
theorem dX8_order_0 : decode cX8_order 0 = .ok (.iload_n 1, 1) := by decide +kernel
theorem dX8_order_1 : decode cX8_order 1 = .ok (.invokestatic 62, 3) := by decide +kernel
theorem dX8_order_4 : decode cX8_order 4 = .ok (.ifCond .eq 16, 3) := by decide +kernel
theorem dX8_order_7 : decode cX8_order 7 = .ok (.iload_n 2, 1) := by decide +kernel
theorem dX8_order_8 : decode cX8_order 8 = .ok (.iconst 1, 1) := by decide +kernel
theorem dX8_order_9 : decode cX8_order 9 = .ok (.iand, 1) := by decide +kernel
theorem dX8_order_10 : decode cX8_order 10 = .ok (.ifCond .eq 10, 3) := by decide +kernel
theorem dX8_order_13 : decode cX8_order 13 = .ok (.aload_n 0, 1) := by decide +kernel
theorem dX8_order_14 : decode cX8_order 14 = .ok (.iconst 2, 1) := by decide +kernel
theorem dX8_order_15 : decode cX8_order 15 = .ok (.invokevirtual 88, 3) := by decide +kernel
theorem dX8_order_18 : decode cX8_order 18 = .ok (.i2l, 1) := by decide +kernel
theorem dX8_order_19 : decode cX8_order 19 = .ok (.lreturn, 1) := by decide +kernel
theorem dX8_order_20 : decode cX8_order 20 = .ok (.aload_n 0, 1) := by decide +kernel
theorem dX8_order_21 : decode cX8_order 21 = .ok (.iload_n 1, 1) := by decide +kernel
theorem dX8_order_22 : decode cX8_order 22 = .ok (.iload_n 2, 1) := by decide +kernel
theorem dX8_order_23 : decode cX8_order 23 = .ok (.bipush 60, 2) := by decide +kernel
theorem dX8_order_25 : decode cX8_order 25 = .ok (.invokevirtual 227, 3) := by decide +kernel
theorem dX8_order_28 : decode cX8_order 28 = .ok (.istore_n 3, 1) := by decide +kernel
theorem dX8_order_29 : decode cX8_order 29 = .ok (.iload_n 3, 1) := by decide +kernel
theorem dX8_order_30 : decode cX8_order 30 = .ok (.ifCond .eq 10, 3) := by decide +kernel
theorem dX8_order_33 : decode cX8_order 33 = .ok (.aload_n 0, 1) := by decide +kernel
theorem dX8_order_34 : decode cX8_order 34 = .ok (.iload_n 3, 1) := by decide +kernel
theorem dX8_order_35 : decode cX8_order 35 = .ok (.invokevirtual 88, 3) := by decide +kernel
theorem dX8_order_38 : decode cX8_order 38 = .ok (.i2l, 1) := by decide +kernel
theorem dX8_order_39 : decode cX8_order 39 = .ok (.lreturn, 1) := by decide +kernel
theorem dX8_order_40 : decode cX8_order 40 = .ok (.aload_n 0, 1) := by decide +kernel
theorem dX8_order_41 : decode cX8_order 41 = .ok (.getfield 47, 3) := by decide +kernel
theorem dX8_order_44 : decode cX8_order 44 = .ok (.aload_n 0, 1) := by decide +kernel
theorem dX8_order_45 : decode cX8_order 45 = .ok (.getfield 12, 3) := by decide +kernel
theorem dX8_order_48 : decode cX8_order 48 = .ok (.iload_n 1, 1) := by decide +kernel
theorem dX8_order_49 : decode cX8_order 49 = .ok (.iload_n 2, 1) := by decide +kernel
theorem dX8_order_50 : decode cX8_order 50 = .ok (.invokevirtual 311, 3) := by decide +kernel
theorem dX8_order_53 : decode cX8_order 53 = .ok (.lstore 4, 2) := by decide +kernel
theorem dX8_order_55 : decode cX8_order 55 = .ok (.lload 4, 2) := by decide +kernel
theorem dX8_order_57 : decode cX8_order 57 = .ok (.lconst 0, 1) := by decide +kernel
theorem dX8_order_58 : decode cX8_order 58 = .ok (.lcmp, 1) := by decide +kernel
theorem dX8_order_59 : decode cX8_order 59 = .ok (.ifCond .ge 13, 3) := by decide +kernel
theorem dX8_order_62 : decode cX8_order 62 = .ok (.aload_n 0, 1) := by decide +kernel
theorem dX8_order_63 : decode cX8_order 63 = .ok (.bipush 8, 2) := by decide +kernel
theorem dX8_order_65 : decode cX8_order 65 = .ok (.invokevirtual 88, 3) := by decide +kernel
theorem dX8_order_68 : decode cX8_order 68 = .ok (.i2l, 1) := by decide +kernel
theorem dX8_order_69 : decode cX8_order 69 = .ok (.goto 9, 3) := by decide +kernel
theorem dX8_order_72 : decode cX8_order 72 = .ok (.aload_n 0, 1) := by decide +kernel
theorem dX8_order_73 : decode cX8_order 73 = .ok (.lload 4, 2) := by decide +kernel
theorem dX8_order_75 : decode cX8_order 75 = .ok (.invokevirtual 204, 3) := by decide +kernel
theorem dX8_order_78 : decode cX8_order 78 = .ok (.lreturn, 1) := by decide +kernel
set_option maxRecDepth 20000 in
theorem ggX8_far_X8_refused : GoodIn wsX8_far wsX8_refused := goodIn_r _ [7, 8, 87, 88, 89, 90, 91, 92, 93, 94, 95, 96, 97, 98] (by decide +kernel) (by decide +kernel)
set_option maxRecDepth 20000 in
theorem gX8_far_X8_refused : GoodIn wsX8_far (wsV RX8 88 RX8 yX8_refused wsX8_refused) := goodIn_app (goodIn_of _ (by decide +kernel)) ggX8_far_X8_refused
set_option maxRecDepth 20000 in
theorem ggX8_far_X4_endsBetweenLines : GoodIn wsX8_far wsX4_endsBetweenLines := goodIn_r _ [13, 14, 15, 16, 99, 100, 101, 102, 103, 104, 105, 106, 107, 108, 109, 110, 111, 112, 113] (by decide +kernel) (by decide +kernel)
set_option maxRecDepth 20000 in
theorem gX8_far_X4_endsBetweenLines : GoodIn wsX8_far (wsV RX8 315 RX4 yX4_endsBetweenLines wsX4_endsBetweenLines) := goodIn_app (goodIn_of _ (by decide +kernel)) ggX8_far_X4_endsBetweenLines
set_option maxRecDepth 20000 in
theorem ggX8_far_X3_after : GoodIn wsX8_far wsX3_after := goodIn_r _ [21, 22, 23, 24, 25, 26, 20, 27, 28, 29, 30, 31, 32, 33, 34, 35, 36, 37, 38, 39, 40, 41, 42, 43, 44, 45, 46, 47, 48, 49, 50, 51, 52, 53, 54, 55, 56, 57, 58, 59, 60, 61, 62, 63, 64, 65, 66, 67, 68, 69, 70, 71, 72, 73, 74, 75, 76, 77, 78, 79, 80, 81, 82, 114, 115, 116, 117, 118, 119, 120, 121, 122, 123, 124, 125, 99, 100, 101, 102, 103, 104, 105, 106, 107, 108, 109, 110, 111, 112, 113] (by decide +kernel) (by decide +kernel)
set_option maxRecDepth 20000 in
theorem gX8_far_X3_after : GoodIn wsX8_far (wsV RX8 318 RX3 yX3_after wsX3_after) := goodIn_app (goodIn_of _ (by decide +kernel)) ggX8_far_X3_after
set_option maxRecDepth 20000 in
theorem ggX8_far_X8_given : GoodIn wsX8_far wsX8_given := goodIn_r _ [86, 8, 87, 88, 89, 90, 91, 92, 93, 94, 95, 96, 97, 98] (by decide +kernel) (by decide +kernel)
set_option maxRecDepth 20000 in
theorem gX8_far_X8_given : GoodIn wsX8_far (wsV RX8 95 RX8 yX8_given wsX8_given) := goodIn_app (goodIn_of _ (by decide +kernel)) ggX8_far_X8_given
theorem dX8_far_0 : decode cX8_far 0 = .ok (.lload_n 1, 1) := by decide +kernel
theorem dX8_far_1 : decode cX8_far 1 = .ok (.lconst 0, 1) := by decide +kernel
theorem dX8_far_2 : decode cX8_far 2 = .ok (.lcmp, 1) := by decide +kernel
theorem dX8_far_3 : decode cX8_far 3 = .ok (.ifCond .ge 9, 3) := by decide +kernel
theorem dX8_far_6 : decode cX8_far 6 = .ok (.aload_n 0, 1) := by decide +kernel
theorem dX8_far_7 : decode cX8_far 7 = .ok (.iconst 2, 1) := by decide +kernel
theorem dX8_far_8 : decode cX8_far 8 = .ok (.invokevirtual 88, 3) := by decide +kernel
theorem dX8_far_11 : decode cX8_far 11 = .ok (.ireturn, 1) := by decide +kernel
theorem dX8_far_12 : decode cX8_far 12 = .ok (.aload_n 0, 1) := by decide +kernel
theorem dX8_far_13 : decode cX8_far 13 = .ok (.getfield 19, 3) := by decide +kernel
theorem dX8_far_16 : decode cX8_far 16 = .ok (.invokevirtual 315, 3) := by decide +kernel
theorem dX8_far_19 : decode cX8_far 19 = .ok (.ifCond .ne 10, 3) := by decide +kernel
theorem dX8_far_22 : decode cX8_far 22 = .ok (.aload_n 0, 1) := by decide +kernel
theorem dX8_far_23 : decode cX8_far 23 = .ok (.bipush 7, 2) := by decide +kernel
theorem dX8_far_25 : decode cX8_far 25 = .ok (.invokevirtual 88, 3) := by decide +kernel
theorem dX8_far_28 : decode cX8_far 28 = .ok (.ireturn, 1) := by decide +kernel
theorem dX8_far_29 : decode cX8_far 29 = .ok (.aload_n 0, 1) := by decide +kernel
theorem dX8_far_30 : decode cX8_far 30 = .ok (.aload_n 0, 1) := by decide +kernel
theorem dX8_far_31 : decode cX8_far 31 = .ok (.getfield 40, 3) := by decide +kernel
theorem dX8_far_34 : decode cX8_far 34 = .ok (.aload_n 0, 1) := by decide +kernel
theorem dX8_far_35 : decode cX8_far 35 = .ok (.getfield 19, 3) := by decide +kernel
theorem dX8_far_38 : decode cX8_far 38 = .ok (.lload_n 1, 1) := by decide +kernel
theorem dX8_far_39 : decode cX8_far 39 = .ok (.invokevirtual 318, 3) := by decide +kernel
theorem dX8_far_42 : decode cX8_far 42 = .ok (.invokevirtual 95, 3) := by decide +kernel
theorem dX8_far_45 : decode cX8_far 45 = .ok (.ireturn, 1) := by decide +kernel
set_option maxRecDepth 20000 in
theorem ggX8_rule_X4_endsBetweenLines : GoodIn wsX8_rule wsX4_endsBetweenLines := goodIn_r _ [7, 8, 9, 10, 82, 83, 84, 85, 86, 87, 88, 89, 90, 91, 92, 93, 94, 95, 96] (by decide +kernel) (by decide +kernel)
set_option maxRecDepth 20000 in
theorem gX8_rule_X4_endsBetweenLines : GoodIn wsX8_rule (wsV RX8 315 RX4 yX4_endsBetweenLines wsX4_endsBetweenLines) := goodIn_app (goodIn_of _ (by decide +kernel)) ggX8_rule_X4_endsBetweenLines
set_option maxRecDepth 20000 in
theorem ggX8_rule_X8_refused : GoodIn wsX8_rule wsX8_refused := goodIn_r _ [15, 16, 70, 71, 72, 73, 74, 75, 76, 77, 78, 79, 80, 81] (by decide +kernel) (by decide +kernel)
set_option maxRecDepth 20000 in
theorem gX8_rule_X8_refused : GoodIn wsX8_rule (wsV RX8 88 RX8 yX8_refused wsX8_refused) := goodIn_app (goodIn_of _ (by decide +kernel)) ggX8_rule_X8_refused
set_option maxRecDepth 20000 in
theorem ggX8_rule_X3_keepRule : GoodIn wsX8_rule wsX3_keepRule := goodIn_r _ [21, 22, 23, 24, 25, 26, 27, 28, 20, 29, 30, 31, 32, 33, 34, 35, 36, 37, 38, 39, 40, 41, 42, 43, 44, 45, 46, 47, 48, 49, 50, 51, 52, 53, 54, 55, 56, 57, 58, 59, 60, 61, 62, 63, 64, 65, 97, 98, 99, 100, 101, 102, 103, 104, 105, 106, 107, 108, 82, 83, 84, 85, 86, 87, 88, 89, 90, 91, 92, 93, 94, 95, 96] (by decide +kernel) (by decide +kernel)
set_option maxRecDepth 20000 in
theorem gX8_rule_X3_keepRule : GoodIn wsX8_rule (wsV RX8 322 RX3 yX3_keepRule wsX3_keepRule) := goodIn_app (goodIn_of _ (by decide +kernel)) ggX8_rule_X3_keepRule
set_option maxRecDepth 20000 in
theorem ggX8_rule_X8_given : GoodIn wsX8_rule wsX8_given := goodIn_r _ [69, 16, 70, 71, 72, 73, 74, 75, 76, 77, 78, 79, 80, 81] (by decide +kernel) (by decide +kernel)
set_option maxRecDepth 20000 in
theorem gX8_rule_X8_given : GoodIn wsX8_rule (wsV RX8 95 RX8 yX8_given wsX8_given) := goodIn_app (goodIn_of _ (by decide +kernel)) ggX8_rule_X8_given
theorem dX8_rule_0 : decode cX8_rule 0 = .ok (.aload_n 0, 1) := by decide +kernel
theorem dX8_rule_1 : decode cX8_rule 1 = .ok (.getfield 19, 3) := by decide +kernel
theorem dX8_rule_4 : decode cX8_rule 4 = .ok (.invokevirtual 315, 3) := by decide +kernel
theorem dX8_rule_7 : decode cX8_rule 7 = .ok (.ifCond .ne 10, 3) := by decide +kernel
theorem dX8_rule_10 : decode cX8_rule 10 = .ok (.aload_n 0, 1) := by decide +kernel
theorem dX8_rule_11 : decode cX8_rule 11 = .ok (.bipush 7, 2) := by decide +kernel
theorem dX8_rule_13 : decode cX8_rule 13 = .ok (.invokevirtual 88, 3) := by decide +kernel
theorem dX8_rule_16 : decode cX8_rule 16 = .ok (.ireturn, 1) := by decide +kernel
theorem dX8_rule_17 : decode cX8_rule 17 = .ok (.aload_n 0, 1) := by decide +kernel
theorem dX8_rule_18 : decode cX8_rule 18 = .ok (.aload_n 0, 1) := by decide +kernel
theorem dX8_rule_19 : decode cX8_rule 19 = .ok (.getfield 40, 3) := by decide +kernel
theorem dX8_rule_22 : decode cX8_rule 22 = .ok (.aload_n 0, 1) := by decide +kernel
theorem dX8_rule_23 : decode cX8_rule 23 = .ok (.getfield 19, 3) := by decide +kernel
theorem dX8_rule_26 : decode cX8_rule 26 = .ok (.invokevirtual 322, 3) := by decide +kernel
theorem dX8_rule_29 : decode cX8_rule 29 = .ok (.invokevirtual 95, 3) := by decide +kernel
theorem dX8_rule_32 : decode cX8_rule 32 = .ok (.ireturn, 1) := by decide +kernel
set_option maxRecDepth 20000 in
theorem ggX8_part_X3_keeps : GoodIn wsX8_part wsX3_keeps := goodIn_r _ [6, 7, 36, 37, 38, 39, 40, 41, 42, 43, 44, 45, 46, 47] (by decide +kernel) (by decide +kernel)
set_option maxRecDepth 20000 in
theorem gX8_part_X3_keeps : GoodIn wsX8_part (wsV RX8 326 RX3 yX3_keeps wsX3_keeps) := goodIn_app (goodIn_of _ (by decide +kernel)) ggX8_part_X3_keeps
set_option maxRecDepth 20000 in
theorem ggX8_part_X8_refused : GoodIn wsX8_part wsX8_refused := goodIn_r _ [12, 13, 24, 25, 26, 27, 28, 29, 30, 31, 32, 33, 34, 35] (by decide +kernel) (by decide +kernel)
set_option maxRecDepth 20000 in
theorem gX8_part_X8_refused : GoodIn wsX8_part (wsV RX8 88 RX8 yX8_refused wsX8_refused) := goodIn_app (goodIn_of _ (by decide +kernel)) ggX8_part_X8_refused
set_option maxRecDepth 20000 in
theorem ggX8_part_X3_kept : GoodIn wsX8_part wsX3_kept := goodIn_r _ [17, 18, 19, 3, 4, 5, 6, 7, 36, 37, 38, 39, 40, 41, 42, 43, 44, 45, 46, 47] (by decide +kernel) (by decide +kernel)
set_option maxRecDepth 20000 in
theorem gX8_part_X3_kept : GoodIn wsX8_part (wsV RX8 329 RX3 yX3_kept wsX3_kept) := goodIn_app (goodIn_of _ (by decide +kernel)) ggX8_part_X3_kept
set_option maxRecDepth 20000 in
theorem ggX8_part_X8_given : GoodIn wsX8_part wsX8_given := goodIn_r _ [23, 13, 24, 25, 26, 27, 28, 29, 30, 31, 32, 33, 34, 35] (by decide +kernel) (by decide +kernel)
set_option maxRecDepth 20000 in
theorem gX8_part_X8_given : GoodIn wsX8_part (wsV RX8 95 RX8 yX8_given wsX8_given) := goodIn_app (goodIn_of _ (by decide +kernel)) ggX8_part_X8_given
theorem dX8_part_0 : decode cX8_part 0 = .ok (.aload_n 0, 1) := by decide +kernel
theorem dX8_part_1 : decode cX8_part 1 = .ok (.getfield 40, 3) := by decide +kernel
theorem dX8_part_4 : decode cX8_part 4 = .ok (.iload_n 1, 1) := by decide +kernel
theorem dX8_part_5 : decode cX8_part 5 = .ok (.invokevirtual 326, 3) := by decide +kernel
theorem dX8_part_8 : decode cX8_part 8 = .ok (.ifCond .ne 10, 3) := by decide +kernel
theorem dX8_part_11 : decode cX8_part 11 = .ok (.aload_n 0, 1) := by decide +kernel
theorem dX8_part_12 : decode cX8_part 12 = .ok (.bipush 8, 2) := by decide +kernel
theorem dX8_part_14 : decode cX8_part 14 = .ok (.invokevirtual 88, 3) := by decide +kernel
theorem dX8_part_17 : decode cX8_part 17 = .ok (.ireturn, 1) := by decide +kernel
theorem dX8_part_18 : decode cX8_part 18 = .ok (.aload_n 0, 1) := by decide +kernel
theorem dX8_part_19 : decode cX8_part 19 = .ok (.aload_n 0, 1) := by decide +kernel
theorem dX8_part_20 : decode cX8_part 20 = .ok (.getfield 40, 3) := by decide +kernel
theorem dX8_part_23 : decode cX8_part 23 = .ok (.iload_n 1, 1) := by decide +kernel
theorem dX8_part_24 : decode cX8_part 24 = .ok (.invokevirtual 329, 3) := by decide +kernel
theorem dX8_part_27 : decode cX8_part 27 = .ok (.invokevirtual 95, 3) := by decide +kernel
theorem dX8_part_30 : decode cX8_part 30 = .ok (.ireturn, 1) := by decide +kernel
theorem dX8_out_0 : decode cX8_out 0 = .ok (.iload_n 1, 1) := by decide +kernel
theorem dX8_out_1 : decode cX8_out 1 = .ok (.ifCond .lt 17, 3) := by decide +kernel
theorem dX8_out_4 : decode cX8_out 4 = .ok (.iload_n 1, 1) := by decide +kernel
theorem dX8_out_5 : decode cX8_out 5 = .ok (.aload_n 0, 1) := by decide +kernel
theorem dX8_out_6 : decode cX8_out 6 = .ok (.getfield 308, 3) := by decide +kernel
theorem dX8_out_9 : decode cX8_out 9 = .ok (.if_icmp .ge 9, 3) := by decide +kernel
theorem dX8_out_12 : decode cX8_out 12 = .ok (.iload_n 1, 1) := by decide +kernel
theorem dX8_out_13 : decode cX8_out 13 = .ok (.bipush 60, 2) := by decide +kernel
theorem dX8_out_15 : decode cX8_out 15 = .ok (.if_icmp .lt 11, 3) := by decide +kernel
theorem dX8_out_18 : decode cX8_out 18 = .ok (.new 332, 3) := by decide +kernel
theorem dX8_out_21 : decode cX8_out 21 = .ok (.dup, 1) := by decide +kernel
theorem dX8_out_22 : decode cX8_out 22 = .ok (.invokespecial 334, 3) := by decide +kernel
theorem dX8_out_25 : decode cX8_out 25 = .ok (.athrow, 1) := by decide +kernel
theorem dX8_out_26 : decode cX8_out 26 = .ok (.aload_n 0, 1) := by decide +kernel
theorem dX8_out_27 : decode cX8_out 27 = .ok (.getfield 51, 3) := by decide +kernel
theorem dX8_out_30 : decode cX8_out 30 = .ok (.iload_n 1, 1) := by decide +kernel
theorem dX8_out_31 : decode cX8_out 31 = .ok (.iaload, 1) := by decide +kernel
theorem dX8_out_32 : decode cX8_out 32 = .ok (.ireturn, 1) := by decide +kernel
theorem dX8_denied_0 : decode cX8_denied 0 = .ok (.aload_n 0, 1) := by decide +kernel
theorem dX8_denied_1 : decode cX8_denied 1 = .ok (.iload_n 1, 1) := by decide +kernel
theorem dX8_denied_2 : decode cX8_denied 2 = .ok (.putfield 58, 3) := by decide +kernel
theorem dX8_denied_5 : decode cX8_denied 5 = .ok (.iconst 0, 1) := by decide +kernel
theorem dX8_denied_6 : decode cX8_denied 6 = .ok (.ireturn, 1) := by decide +kernel
theorem dX8_refused_0 : decode cX8_refused 0 = .ok (.aload_n 0, 1) := by decide +kernel
theorem dX8_refused_1 : decode cX8_refused 1 = .ok (.iload_n 1, 1) := by decide +kernel
theorem dX8_refused_2 : decode cX8_refused 2 = .ok (.putfield 58, 3) := by decide +kernel
theorem dX8_refused_5 : decode cX8_refused 5 = .ok (.iconst (-1), 1) := by decide +kernel
theorem dX8_refused_6 : decode cX8_refused 6 = .ok (.ireturn, 1) := by decide +kernel
theorem dX8_granted_0 : decode cX8_granted 0 = .ok (.aload_n 0, 1) := by decide +kernel
theorem dX8_granted_1 : decode cX8_granted 1 = .ok (.iconst 0, 1) := by decide +kernel
theorem dX8_granted_2 : decode cX8_granted 2 = .ok (.putfield 58, 3) := by decide +kernel
theorem dX8_granted_5 : decode cX8_granted 5 = .ok (.iconst 1, 1) := by decide +kernel
theorem dX8_granted_6 : decode cX8_granted 6 = .ok (.ireturn, 1) := by decide +kernel
theorem dX8_given_0 : decode cX8_given 0 = .ok (.aload_n 0, 1) := by decide +kernel
theorem dX8_given_1 : decode cX8_given 1 = .ok (.iconst 0, 1) := by decide +kernel
theorem dX8_given_2 : decode cX8_given 2 = .ok (.putfield 58, 3) := by decide +kernel
theorem dX8_given_5 : decode cX8_given 5 = .ok (.iload_n 1, 1) := by decide +kernel
theorem dX8_given_6 : decode cX8_given 6 = .ok (.ireturn, 1) := by decide +kernel
theorem dX8_givenLong_0 : decode cX8_givenLong 0 = .ok (.aload_n 0, 1) := by decide +kernel
theorem dX8_givenLong_1 : decode cX8_givenLong 1 = .ok (.iconst 0, 1) := by decide +kernel
theorem dX8_givenLong_2 : decode cX8_givenLong 2 = .ok (.putfield 58, 3) := by decide +kernel
theorem dX8_givenLong_5 : decode cX8_givenLong 5 = .ok (.lload_n 1, 1) := by decide +kernel
theorem dX8_givenLong_6 : decode cX8_givenLong 6 = .ok (.lreturn, 1) := by decide +kernel
set_option maxRecDepth 20000 in
theorem ggX8_givenUnlessGreat_X8_refused : GoodIn wsX8_givenUnlessGreat wsX8_refused := goodIn_r _ [6, 7, 12, 13, 14, 15, 16, 17, 18, 19, 20, 21, 22, 23] (by decide +kernel) (by decide +kernel)
set_option maxRecDepth 20000 in
theorem gX8_givenUnlessGreat_X8_refused : GoodIn wsX8_givenUnlessGreat (wsV RX8 88 RX8 yX8_refused wsX8_refused) := goodIn_app (goodIn_of _ (by decide +kernel)) ggX8_givenUnlessGreat_X8_refused
set_option maxRecDepth 20000 in
theorem ggX8_givenUnlessGreat_X8_givenLong : GoodIn wsX8_givenUnlessGreat wsX8_givenLong := goodIn_r _ [11, 7, 12, 13, 14, 15, 16, 17, 18, 19, 20, 21, 22, 23] (by decide +kernel) (by decide +kernel)
set_option maxRecDepth 20000 in
theorem gX8_givenUnlessGreat_X8_givenLong : GoodIn wsX8_givenUnlessGreat (wsV RX8 204 RX8 yX8_givenLong wsX8_givenLong) := goodIn_app (goodIn_of _ (by decide +kernel)) ggX8_givenUnlessGreat_X8_givenLong
theorem dX8_givenUnlessGreat_0 : decode cX8_givenUnlessGreat 0 = .ok (.lload_n 1, 1) := by decide +kernel
theorem dX8_givenUnlessGreat_1 : decode cX8_givenUnlessGreat 1 = .ok (.ldc2_w 221, 3) := by decide +kernel
theorem dX8_givenUnlessGreat_4 : decode cX8_givenUnlessGreat 4 = .ok (.lcmp, 1) := by decide +kernel
theorem dX8_givenUnlessGreat_5 : decode cX8_givenUnlessGreat 5 = .ok (.ifCond .lt 13, 3) := by decide +kernel
theorem dX8_givenUnlessGreat_8 : decode cX8_givenUnlessGreat 8 = .ok (.aload_n 0, 1) := by decide +kernel
theorem dX8_givenUnlessGreat_9 : decode cX8_givenUnlessGreat 9 = .ok (.bipush 9, 2) := by decide +kernel
theorem dX8_givenUnlessGreat_11 : decode cX8_givenUnlessGreat 11 = .ok (.invokevirtual 88, 3) := by decide +kernel
theorem dX8_givenUnlessGreat_14 : decode cX8_givenUnlessGreat 14 = .ok (.i2l, 1) := by decide +kernel
theorem dX8_givenUnlessGreat_15 : decode cX8_givenUnlessGreat 15 = .ok (.goto 8, 3) := by decide +kernel
theorem dX8_givenUnlessGreat_18 : decode cX8_givenUnlessGreat 18 = .ok (.aload_n 0, 1) := by decide +kernel
theorem dX8_givenUnlessGreat_19 : decode cX8_givenUnlessGreat 19 = .ok (.lload_n 1, 1) := by decide +kernel
theorem dX8_givenUnlessGreat_20 : decode cX8_givenUnlessGreat 20 = .ok (.invokevirtual 204, 3) := by decide +kernel
theorem dX8_givenUnlessGreat_23 : decode cX8_givenUnlessGreat 23 = .ok (.lreturn, 1) := by decide +kernel
theorem dX8_within_0 : decode cX8_within 0 = .ok (.iload_n 0, 1) := by decide +kernel
theorem dX8_within_1 : decode cX8_within 1 = .ok (.iload_n 1, 1) := by decide +kernel
theorem dX8_within_2 : decode cX8_within 2 = .ok (.if_icmp .lt 12, 3) := by decide +kernel
theorem dX8_within_5 : decode cX8_within 5 = .ok (.iload_n 0, 1) := by decide +kernel
theorem dX8_within_6 : decode cX8_within 6 = .ok (.iload_n 2, 1) := by decide +kernel
theorem dX8_within_7 : decode cX8_within 7 = .ok (.if_icmp .gt 7, 3) := by decide +kernel
theorem dX8_within_10 : decode cX8_within 10 = .ok (.iconst 1, 1) := by decide +kernel
theorem dX8_within_11 : decode cX8_within 11 = .ok (.goto 4, 3) := by decide +kernel
theorem dX8_within_14 : decode cX8_within 14 = .ok (.iconst 0, 1) := by decide +kernel
theorem dX8_within_15 : decode cX8_within 15 = .ok (.ireturn, 1) := by decide +kernel
set_option maxRecDepth 20000 in
theorem ggX8_sheetFault_X5_known : GoodIn wsX8_sheetFault wsX5_known := goodIn_r _ [5] (by decide +kernel) (by decide +kernel)
set_option maxRecDepth 20000 in
theorem gX8_sheetFault_X5_known : GoodIn wsX8_sheetFault (va_wsS RX8 62 yX5_known wsX5_known) := goodIn_app (goodIn_of _ (by decide +kernel)) ggX8_sheetFault_X5_known
set_option maxRecDepth 20000 in
theorem ggX8_sheetFault_X5_missing : GoodIn wsX8_sheetFault wsX5_missing := goodIn_r _ [9, 10, 11, 3, 4, 5, 24, 25, 26] (by decide +kernel) (by decide +kernel)
set_option maxRecDepth 20000 in
theorem gX8_sheetFault_X5_missing : GoodIn wsX8_sheetFault (wsV RX8 98 RX5 yX5_missing wsX5_missing) := goodIn_app (goodIn_of _ (by decide +kernel)) ggX8_sheetFault_X5_missing
theorem dX8_sheetFault_0 : decode cX8_sheetFault 0 = .ok (.iload_n 1, 1) := by decide +kernel
theorem dX8_sheetFault_1 : decode cX8_sheetFault 1 = .ok (.invokestatic 62, 3) := by decide +kernel
theorem dX8_sheetFault_4 : decode cX8_sheetFault 4 = .ok (.ifCond .ne 5, 3) := by decide +kernel
theorem dX8_sheetFault_7 : decode cX8_sheetFault 7 = .ok (.iconst 1, 1) := by decide +kernel
theorem dX8_sheetFault_8 : decode cX8_sheetFault 8 = .ok (.ireturn, 1) := by decide +kernel
theorem dX8_sheetFault_9 : decode cX8_sheetFault 9 = .ok (.aload_n 0, 1) := by decide +kernel
theorem dX8_sheetFault_10 : decode cX8_sheetFault 10 = .ok (.getfield 12, 3) := by decide +kernel
theorem dX8_sheetFault_13 : decode cX8_sheetFault 13 = .ok (.iload_n 1, 1) := by decide +kernel
theorem dX8_sheetFault_14 : decode cX8_sheetFault 14 = .ok (.invokevirtual 98, 3) := by decide +kernel
theorem dX8_sheetFault_17 : decode cX8_sheetFault 17 = .ok (.ifCond .eq 7, 3) := by decide +kernel
theorem dX8_sheetFault_20 : decode cX8_sheetFault 20 = .ok (.iconst 3, 1) := by decide +kernel
theorem dX8_sheetFault_21 : decode cX8_sheetFault 21 = .ok (.goto 4, 3) := by decide +kernel
theorem dX8_sheetFault_24 : decode cX8_sheetFault 24 = .ok (.iconst 0, 1) := by decide +kernel
theorem dX8_sheetFault_25 : decode cX8_sheetFault 25 = .ok (.ireturn, 1) := by decide +kernel
set_option maxRecDepth 20000 in
theorem ggX8_placeFault_X8_sheetFault : GoodIn wsX8_placeFault wsX8_sheetFault := goodIn_r _ [6, 1, 7, 8, 9, 10, 11, 12, 13, 14, 15, 16, 21, 22, 23, 24, 25, 26, 27, 28, 29, 30, 31, 32, 33, 34, 35] (by decide +kernel) (by decide +kernel)
set_option maxRecDepth 20000 in
theorem gX8_placeFault_X8_sheetFault : GoodIn wsX8_placeFault (wsV RX8 111 RX8 yX8_sheetFault wsX8_sheetFault) := goodIn_app (goodIn_of _ (by decide +kernel)) ggX8_placeFault_X8_sheetFault
set_option maxRecDepth 20000 in
theorem ggX8_placeFault_X5_holds : GoodIn wsX8_placeFault wsX5_holds := goodIn_r _ [20, 15, 16, 8, 9, 10, 33, 34, 35] (by decide +kernel) (by decide +kernel)
set_option maxRecDepth 20000 in
theorem gX8_placeFault_X5_holds : GoodIn wsX8_placeFault (wsV RX8 104 RX5 yX5_holds wsX5_holds) := goodIn_app (goodIn_of _ (by decide +kernel)) ggX8_placeFault_X5_holds
theorem dX8_placeFault_0 : decode cX8_placeFault 0 = .ok (.aload_n 0, 1) := by decide +kernel
theorem dX8_placeFault_1 : decode cX8_placeFault 1 = .ok (.iload_n 1, 1) := by decide +kernel
theorem dX8_placeFault_2 : decode cX8_placeFault 2 = .ok (.invokevirtual 111, 3) := by decide +kernel
theorem dX8_placeFault_5 : decode cX8_placeFault 5 = .ok (.istore_n 3, 1) := by decide +kernel
theorem dX8_placeFault_6 : decode cX8_placeFault 6 = .ok (.iload_n 3, 1) := by decide +kernel
theorem dX8_placeFault_7 : decode cX8_placeFault 7 = .ok (.ifCond .eq 5, 3) := by decide +kernel
theorem dX8_placeFault_10 : decode cX8_placeFault 10 = .ok (.iload_n 3, 1) := by decide +kernel
theorem dX8_placeFault_11 : decode cX8_placeFault 11 = .ok (.ireturn, 1) := by decide +kernel
theorem dX8_placeFault_12 : decode cX8_placeFault 12 = .ok (.aload_n 0, 1) := by decide +kernel
theorem dX8_placeFault_13 : decode cX8_placeFault 13 = .ok (.getfield 12, 3) := by decide +kernel
theorem dX8_placeFault_16 : decode cX8_placeFault 16 = .ok (.iload_n 1, 1) := by decide +kernel
theorem dX8_placeFault_17 : decode cX8_placeFault 17 = .ok (.iload_n 2, 1) := by decide +kernel
theorem dX8_placeFault_18 : decode cX8_placeFault 18 = .ok (.iconst 1, 1) := by decide +kernel
theorem dX8_placeFault_19 : decode cX8_placeFault 19 = .ok (.invokevirtual 104, 3) := by decide +kernel
theorem dX8_placeFault_22 : decode cX8_placeFault 22 = .ok (.ifCond .eq 7, 3) := by decide +kernel
theorem dX8_placeFault_25 : decode cX8_placeFault 25 = .ok (.iconst 0, 1) := by decide +kernel
theorem dX8_placeFault_26 : decode cX8_placeFault 26 = .ok (.goto 4, 3) := by decide +kernel
theorem dX8_placeFault_29 : decode cX8_placeFault 29 = .ok (.iconst 4, 1) := by decide +kernel
theorem dX8_placeFault_30 : decode cX8_placeFault 30 = .ok (.ireturn, 1) := by decide +kernel
set_option maxRecDepth 20000 in
theorem ggX8_rowFault_X5_known : GoodIn wsX8_rowFault wsX5_known := goodIn_r _ [5] (by decide +kernel) (by decide +kernel)
set_option maxRecDepth 20000 in
theorem gX8_rowFault_X5_known : GoodIn wsX8_rowFault (va_wsS RX8 62 yX5_known wsX5_known) := goodIn_app (goodIn_of _ (by decide +kernel)) ggX8_rowFault_X5_known
set_option maxRecDepth 20000 in
theorem ggX8_rowFault_X8_within : GoodIn wsX8_rowFault wsX8_within := goodIn_r _ [9] (by decide +kernel) (by decide +kernel)
set_option maxRecDepth 20000 in
theorem gX8_rowFault_X8_within : GoodIn wsX8_rowFault (va_wsS RX8 66 yX8_within wsX8_within) := goodIn_app (goodIn_of _ (by decide +kernel)) ggX8_rowFault_X8_within
set_option maxRecDepth 20000 in
theorem ggX8_rowFault_X5_missing : GoodIn wsX8_rowFault wsX5_missing := goodIn_r _ [13, 14, 15, 3, 4, 5, 32, 33, 34] (by decide +kernel) (by decide +kernel)
set_option maxRecDepth 20000 in
theorem gX8_rowFault_X5_missing : GoodIn wsX8_rowFault (wsV RX8 98 RX5 yX5_missing wsX5_missing) := goodIn_app (goodIn_of _ (by decide +kernel)) ggX8_rowFault_X5_missing
set_option maxRecDepth 20000 in
theorem ggX8_rowFault_X5_holds : GoodIn wsX8_rowFault wsX5_holds := goodIn_r _ [19, 14, 15, 3, 4, 5, 32, 33, 34] (by decide +kernel) (by decide +kernel)
set_option maxRecDepth 20000 in
theorem gX8_rowFault_X5_holds : GoodIn wsX8_rowFault (wsV RX8 104 RX5 yX5_holds wsX5_holds) := goodIn_app (goodIn_of _ (by decide +kernel)) ggX8_rowFault_X5_holds
theorem dX8_rowFault_0 : decode cX8_rowFault 0 = .ok (.iload_n 1, 1) := by decide +kernel
theorem dX8_rowFault_1 : decode cX8_rowFault 1 = .ok (.invokestatic 62, 3) := by decide +kernel
theorem dX8_rowFault_4 : decode cX8_rowFault 4 = .ok (.ifCond .ne 5, 3) := by decide +kernel
theorem dX8_rowFault_7 : decode cX8_rowFault 7 = .ok (.iconst 1, 1) := by decide +kernel
theorem dX8_rowFault_8 : decode cX8_rowFault 8 = .ok (.ireturn, 1) := by decide +kernel
theorem dX8_rowFault_9 : decode cX8_rowFault 9 = .ok (.iload_n 2, 1) := by decide +kernel
theorem dX8_rowFault_10 : decode cX8_rowFault 10 = .ok (.iconst 0, 1) := by decide +kernel
theorem dX8_rowFault_11 : decode cX8_rowFault 11 = .ok (.iload_n 3, 1) := by decide +kernel
theorem dX8_rowFault_12 : decode cX8_rowFault 12 = .ok (.invokestatic 66, 3) := by decide +kernel
theorem dX8_rowFault_15 : decode cX8_rowFault 15 = .ok (.ifCond .ne 5, 3) := by decide +kernel
theorem dX8_rowFault_18 : decode cX8_rowFault 18 = .ok (.iconst 2, 1) := by decide +kernel
theorem dX8_rowFault_19 : decode cX8_rowFault 19 = .ok (.ireturn, 1) := by decide +kernel
theorem dX8_rowFault_20 : decode cX8_rowFault 20 = .ok (.aload_n 0, 1) := by decide +kernel
theorem dX8_rowFault_21 : decode cX8_rowFault 21 = .ok (.getfield 12, 3) := by decide +kernel
theorem dX8_rowFault_24 : decode cX8_rowFault 24 = .ok (.iload_n 1, 1) := by decide +kernel
theorem dX8_rowFault_25 : decode cX8_rowFault 25 = .ok (.invokevirtual 98, 3) := by decide +kernel
theorem dX8_rowFault_28 : decode cX8_rowFault 28 = .ok (.ifCond .eq 5, 3) := by decide +kernel
theorem dX8_rowFault_31 : decode cX8_rowFault 31 = .ok (.iconst 3, 1) := by decide +kernel
theorem dX8_rowFault_32 : decode cX8_rowFault 32 = .ok (.ireturn, 1) := by decide +kernel
theorem dX8_rowFault_33 : decode cX8_rowFault 33 = .ok (.aload_n 0, 1) := by decide +kernel
theorem dX8_rowFault_34 : decode cX8_rowFault 34 = .ok (.getfield 12, 3) := by decide +kernel
theorem dX8_rowFault_37 : decode cX8_rowFault 37 = .ok (.iload_n 1, 1) := by decide +kernel
theorem dX8_rowFault_38 : decode cX8_rowFault 38 = .ok (.iconst 0, 1) := by decide +kernel
theorem dX8_rowFault_39 : decode cX8_rowFault 39 = .ok (.iload_n 2, 1) := by decide +kernel
theorem dX8_rowFault_40 : decode cX8_rowFault 40 = .ok (.invokevirtual 104, 3) := by decide +kernel
theorem dX8_rowFault_43 : decode cX8_rowFault 43 = .ok (.ifCond .eq 7, 3) := by decide +kernel
theorem dX8_rowFault_46 : decode cX8_rowFault 46 = .ok (.iconst 0, 1) := by decide +kernel
theorem dX8_rowFault_47 : decode cX8_rowFault 47 = .ok (.goto 4, 3) := by decide +kernel
theorem dX8_rowFault_50 : decode cX8_rowFault 50 = .ok (.iconst 4, 1) := by decide +kernel
theorem dX8_rowFault_51 : decode cX8_rowFault 51 = .ok (.ireturn, 1) := by decide +kernel
set_option maxRecDepth 20000 in
theorem ggX8_walkFault_X8_within : GoodIn wsX8_walkFault wsX8_within := goodIn_r _ [5] (by decide +kernel) (by decide +kernel)
set_option maxRecDepth 20000 in
theorem gX8_walkFault_X8_within : GoodIn wsX8_walkFault (va_wsS RX8 66 yX8_within wsX8_within) := goodIn_app (goodIn_of _ (by decide +kernel)) ggX8_walkFault_X8_within
set_option maxRecDepth 20000 in
theorem ggX8_walkFault_X4_endsOpen : GoodIn wsX8_walkFault wsX4_endsOpen := goodIn_r _ [10, 11, 12, 13, 14, 15, 16, 17, 9, 18, 19, 20, 21, 22, 23, 24, 25, 38, 39, 40, 41, 42, 43, 44, 45, 46, 47, 48, 49, 50, 51, 52] (by decide +kernel) (by decide +kernel)
set_option maxRecDepth 20000 in
theorem gX8_walkFault_X4_endsOpen : GoodIn wsX8_walkFault (wsV RX8 198 RX4 yX4_endsOpen wsX4_endsOpen) := goodIn_app (goodIn_of _ (by decide +kernel)) ggX8_walkFault_X4_endsOpen
theorem dX8_walkFault_0 : decode cX8_walkFault 0 = .ok (.iload_n 1, 1) := by decide +kernel
theorem dX8_walkFault_1 : decode cX8_walkFault 1 = .ok (.iconst 0, 1) := by decide +kernel
theorem dX8_walkFault_2 : decode cX8_walkFault 2 = .ok (.iload_n 2, 1) := by decide +kernel
theorem dX8_walkFault_3 : decode cX8_walkFault 3 = .ok (.invokestatic 66, 3) := by decide +kernel
theorem dX8_walkFault_6 : decode cX8_walkFault 6 = .ok (.ifCond .ne 5, 3) := by decide +kernel
theorem dX8_walkFault_9 : decode cX8_walkFault 9 = .ok (.iconst 2, 1) := by decide +kernel
theorem dX8_walkFault_10 : decode cX8_walkFault 10 = .ok (.ireturn, 1) := by decide +kernel
theorem dX8_walkFault_11 : decode cX8_walkFault 11 = .ok (.aload_n 0, 1) := by decide +kernel
theorem dX8_walkFault_12 : decode cX8_walkFault 12 = .ok (.getfield 19, 3) := by decide +kernel
theorem dX8_walkFault_15 : decode cX8_walkFault 15 = .ok (.invokevirtual 198, 3) := by decide +kernel
theorem dX8_walkFault_18 : decode cX8_walkFault 18 = .ok (.ifCond .eq 7, 3) := by decide +kernel
theorem dX8_walkFault_21 : decode cX8_walkFault 21 = .ok (.iconst 0, 1) := by decide +kernel
theorem dX8_walkFault_22 : decode cX8_walkFault 22 = .ok (.goto 5, 3) := by decide +kernel
theorem dX8_walkFault_25 : decode cX8_walkFault 25 = .ok (.bipush 7, 2) := by decide +kernel
theorem dX8_walkFault_27 : decode cX8_walkFault 27 = .ok (.ireturn, 1) := by decide +kernel
set_option maxRecDepth 20000 in
theorem ggX8_weighFault_X8_within : GoodIn wsX8_weighFault wsX8_within := goodIn_r _ [6] (by decide +kernel) (by decide +kernel)
set_option maxRecDepth 20000 in
theorem gX8_weighFault_X8_within : GoodIn wsX8_weighFault (va_wsS RX8 66 yX8_within wsX8_within) := goodIn_app (goodIn_of _ (by decide +kernel)) ggX8_weighFault_X8_within
set_option maxRecDepth 20000 in
theorem ggX8_weighFault_X4_endsOpen : GoodIn wsX8_weighFault wsX4_endsOpen := goodIn_r _ [11, 12, 13, 14, 15, 16, 17, 18, 10, 19, 20, 21, 22, 23, 24, 25, 26, 39, 40, 41, 42, 43, 44, 45, 46, 47, 48, 49, 50, 51, 52, 53] (by decide +kernel) (by decide +kernel)
set_option maxRecDepth 20000 in
theorem gX8_weighFault_X4_endsOpen : GoodIn wsX8_weighFault (wsV RX8 198 RX4 yX4_endsOpen wsX4_endsOpen) := goodIn_app (goodIn_of _ (by decide +kernel)) ggX8_weighFault_X4_endsOpen
theorem dX8_weighFault_0 : decode cX8_weighFault 0 = .ok (.iload_n 1, 1) := by decide +kernel
theorem dX8_weighFault_1 : decode cX8_weighFault 1 = .ok (.iconst 0, 1) := by decide +kernel
theorem dX8_weighFault_2 : decode cX8_weighFault 2 = .ok (.iconst 3, 1) := by decide +kernel
theorem dX8_weighFault_3 : decode cX8_weighFault 3 = .ok (.invokestatic 66, 3) := by decide +kernel
theorem dX8_weighFault_6 : decode cX8_weighFault 6 = .ok (.ifCond .eq 13, 3) := by decide +kernel
theorem dX8_weighFault_9 : decode cX8_weighFault 9 = .ok (.iload_n 2, 1) := by decide +kernel
theorem dX8_weighFault_10 : decode cX8_weighFault 10 = .ok (.iconst 0, 1) := by decide +kernel
theorem dX8_weighFault_11 : decode cX8_weighFault 11 = .ok (.bipush 14, 2) := by decide +kernel
theorem dX8_weighFault_13 : decode cX8_weighFault 13 = .ok (.invokestatic 66, 3) := by decide +kernel
theorem dX8_weighFault_16 : decode cX8_weighFault 16 = .ok (.ifCond .ne 5, 3) := by decide +kernel
theorem dX8_weighFault_19 : decode cX8_weighFault 19 = .ok (.iconst 2, 1) := by decide +kernel
theorem dX8_weighFault_20 : decode cX8_weighFault 20 = .ok (.ireturn, 1) := by decide +kernel
theorem dX8_weighFault_21 : decode cX8_weighFault 21 = .ok (.iload_n 1, 1) := by decide +kernel
theorem dX8_weighFault_22 : decode cX8_weighFault 22 = .ok (.iconst 2, 1) := by decide +kernel
theorem dX8_weighFault_23 : decode cX8_weighFault 23 = .ok (.if_icmp .ne 20, 3) := by decide +kernel
theorem dX8_weighFault_26 : decode cX8_weighFault 26 = .ok (.aload_n 0, 1) := by decide +kernel
theorem dX8_weighFault_27 : decode cX8_weighFault 27 = .ok (.getfield 19, 3) := by decide +kernel
theorem dX8_weighFault_30 : decode cX8_weighFault 30 = .ok (.getfield 241, 3) := by decide +kernel
theorem dX8_weighFault_33 : decode cX8_weighFault 33 = .ok (.iconst 1, 1) := by decide +kernel
theorem dX8_weighFault_34 : decode cX8_weighFault 34 = .ok (.iconst 3, 1) := by decide +kernel
theorem dX8_weighFault_35 : decode cX8_weighFault 35 = .ok (.invokestatic 66, 3) := by decide +kernel
theorem dX8_weighFault_38 : decode cX8_weighFault 38 = .ok (.ifCond .ne 5, 3) := by decide +kernel
theorem dX8_weighFault_41 : decode cX8_weighFault 41 = .ok (.iconst 5, 1) := by decide +kernel
theorem dX8_weighFault_42 : decode cX8_weighFault 42 = .ok (.ireturn, 1) := by decide +kernel
theorem dX8_weighFault_43 : decode cX8_weighFault 43 = .ok (.aload_n 0, 1) := by decide +kernel
theorem dX8_weighFault_44 : decode cX8_weighFault 44 = .ok (.getfield 19, 3) := by decide +kernel
theorem dX8_weighFault_47 : decode cX8_weighFault 47 = .ok (.invokevirtual 198, 3) := by decide +kernel
theorem dX8_weighFault_50 : decode cX8_weighFault 50 = .ok (.ifCond .eq 7, 3) := by decide +kernel
theorem dX8_weighFault_53 : decode cX8_weighFault 53 = .ok (.iconst 0, 1) := by decide +kernel
theorem dX8_weighFault_54 : decode cX8_weighFault 54 = .ok (.goto 5, 3) := by decide +kernel
theorem dX8_weighFault_57 : decode cX8_weighFault 57 = .ok (.bipush 7, 2) := by decide +kernel
theorem dX8_weighFault_59 : decode cX8_weighFault 59 = .ok (.ireturn, 1) := by decide +kernel
set_option maxRecDepth 20000 in
theorem ggX8_comingFault_X8_within : GoodIn wsX8_comingFault wsX8_within := goodIn_r _ [6] (by decide +kernel) (by decide +kernel)
set_option maxRecDepth 20000 in
theorem gX8_comingFault_X8_within : GoodIn wsX8_comingFault (va_wsS RX8 66 yX8_within wsX8_within) := goodIn_app (goodIn_of _ (by decide +kernel)) ggX8_comingFault_X8_within
set_option maxRecDepth 20000 in
theorem ggX8_comingFault_X4_stepsFallDeep : GoodIn wsX8_comingFault wsX4_stepsFallDeep := goodIn_r _ [11, 12, 13, 26, 27, 28, 29, 30, 31, 32, 33, 34, 35, 36, 37, 38, 39, 40] (by decide +kernel) (by decide +kernel)
set_option maxRecDepth 20000 in
theorem gX8_comingFault_X4_stepsFallDeep : GoodIn wsX8_comingFault (wsV RX8 335 RX4 yX4_stepsFallDeep wsX4_stepsFallDeep) := goodIn_app (goodIn_of _ (by decide +kernel)) ggX8_comingFault_X4_stepsFallDeep
theorem dX8_comingFault_0 : decode cX8_comingFault 0 = .ok (.iload_n 1, 1) := by decide +kernel
theorem dX8_comingFault_1 : decode cX8_comingFault 1 = .ok (.iconst 1, 1) := by decide +kernel
theorem dX8_comingFault_2 : decode cX8_comingFault 2 = .ok (.bipush 60, 2) := by decide +kernel
theorem dX8_comingFault_4 : decode cX8_comingFault 4 = .ok (.invokestatic 66, 3) := by decide +kernel
theorem dX8_comingFault_7 : decode cX8_comingFault 7 = .ok (.ifCond .ne 5, 3) := by decide +kernel
theorem dX8_comingFault_10 : decode cX8_comingFault 10 = .ok (.iconst 2, 1) := by decide +kernel
theorem dX8_comingFault_11 : decode cX8_comingFault 11 = .ok (.ireturn, 1) := by decide +kernel
theorem dX8_comingFault_12 : decode cX8_comingFault 12 = .ok (.aload_n 0, 1) := by decide +kernel
theorem dX8_comingFault_13 : decode cX8_comingFault 13 = .ok (.getfield 19, 3) := by decide +kernel
theorem dX8_comingFault_16 : decode cX8_comingFault 16 = .ok (.invokevirtual 335, 3) := by decide +kernel
theorem dX8_comingFault_19 : decode cX8_comingFault 19 = .ok (.ifCond .eq 5, 3) := by decide +kernel
theorem dX8_comingFault_22 : decode cX8_comingFault 22 = .ok (.iconst 5, 1) := by decide +kernel
theorem dX8_comingFault_23 : decode cX8_comingFault 23 = .ok (.ireturn, 1) := by decide +kernel
theorem dX8_comingFault_24 : decode cX8_comingFault 24 = .ok (.aload_n 0, 1) := by decide +kernel
theorem dX8_comingFault_25 : decode cX8_comingFault 25 = .ok (.getfield 19, 3) := by decide +kernel
theorem dX8_comingFault_28 : decode cX8_comingFault 28 = .ok (.getfield 157, 3) := by decide +kernel
theorem dX8_comingFault_31 : decode cX8_comingFault 31 = .ok (.ifCond .gt 8, 3) := by decide +kernel
theorem dX8_comingFault_34 : decode cX8_comingFault 34 = .ok (.bipush 7, 2) := by decide +kernel
theorem dX8_comingFault_36 : decode cX8_comingFault 36 = .ok (.goto 4, 3) := by decide +kernel
theorem dX8_comingFault_39 : decode cX8_comingFault 39 = .ok (.iconst 0, 1) := by decide +kernel
theorem dX8_comingFault_40 : decode cX8_comingFault 40 = .ok (.ireturn, 1) := by decide +kernel
set_option maxRecDepth 20000 in
theorem ggX8_areSteps_X5_at : GoodIn wsX8_areSteps wsX5_at := goodIn_r _ [6, 7, 8, 9, 10, 5, 11, 12, 13, 14, 15, 32, 33, 34] (by decide +kernel) (by decide +kernel)
set_option maxRecDepth 20000 in
theorem gX8_areSteps_X5_at : GoodIn wsX8_areSteps (wsV RX8 92 RX5 yX5_at wsX5_at) := goodIn_app (goodIn_of _ (by decide +kernel)) ggX8_areSteps_X5_at
set_option maxRecDepth 20000 in
theorem ggX8_areSteps_X8_within : GoodIn wsX8_areSteps wsX8_within := goodIn_r _ [19] (by decide +kernel) (by decide +kernel)
set_option maxRecDepth 20000 in
theorem gX8_areSteps_X8_within : GoodIn wsX8_areSteps (va_wsS RX8 66 yX8_within wsX8_within) := goodIn_app (goodIn_of _ (by decide +kernel)) ggX8_areSteps_X8_within
theorem dX8_areSteps_0 : decode cX8_areSteps 0 = .ok (.iconst 0, 1) := by decide +kernel
theorem dX8_areSteps_1 : decode cX8_areSteps 1 = .ok (.istore_n 3, 1) := by decide +kernel
theorem dX8_areSteps_2 : decode cX8_areSteps 2 = .ok (.iload_n 3, 1) := by decide +kernel
theorem dX8_areSteps_3 : decode cX8_areSteps 3 = .ok (.iload_n 2, 1) := by decide +kernel
theorem dX8_areSteps_4 : decode cX8_areSteps 4 = .ok (.if_icmp .ge 124, 3) := by decide +kernel
theorem dX8_areSteps_7 : decode cX8_areSteps 7 = .ok (.aload_n 0, 1) := by decide +kernel
theorem dX8_areSteps_8 : decode cX8_areSteps 8 = .ok (.getfield 12, 3) := by decide +kernel
theorem dX8_areSteps_11 : decode cX8_areSteps 11 = .ok (.iload_n 1, 1) := by decide +kernel
theorem dX8_areSteps_12 : decode cX8_areSteps 12 = .ok (.iconst 2, 1) := by decide +kernel
theorem dX8_areSteps_13 : decode cX8_areSteps 13 = .ok (.iload_n 3, 1) := by decide +kernel
theorem dX8_areSteps_14 : decode cX8_areSteps 14 = .ok (.imul, 1) := by decide +kernel
theorem dX8_areSteps_15 : decode cX8_areSteps 15 = .ok (.invokevirtual 92, 3) := by decide +kernel
theorem dX8_areSteps_18 : decode cX8_areSteps 18 = .ok (.istore 4, 2) := by decide +kernel
theorem dX8_areSteps_20 : decode cX8_areSteps 20 = .ok (.aload_n 0, 1) := by decide +kernel
theorem dX8_areSteps_21 : decode cX8_areSteps 21 = .ok (.getfield 12, 3) := by decide +kernel
theorem dX8_areSteps_24 : decode cX8_areSteps 24 = .ok (.iload_n 1, 1) := by decide +kernel
theorem dX8_areSteps_25 : decode cX8_areSteps 25 = .ok (.iconst 2, 1) := by decide +kernel
theorem dX8_areSteps_26 : decode cX8_areSteps 26 = .ok (.iload_n 3, 1) := by decide +kernel
theorem dX8_areSteps_27 : decode cX8_areSteps 27 = .ok (.imul, 1) := by decide +kernel
theorem dX8_areSteps_28 : decode cX8_areSteps 28 = .ok (.iconst 1, 1) := by decide +kernel
theorem dX8_areSteps_29 : decode cX8_areSteps 29 = .ok (.iadd, 1) := by decide +kernel
theorem dX8_areSteps_30 : decode cX8_areSteps 30 = .ok (.invokevirtual 92, 3) := by decide +kernel
theorem dX8_areSteps_33 : decode cX8_areSteps 33 = .ok (.istore 5, 2) := by decide +kernel
theorem dX8_areSteps_35 : decode cX8_areSteps 35 = .ok (.iload 4, 2) := by decide +kernel
theorem dX8_areSteps_37 : decode cX8_areSteps 37 = .ok (.bipush (-3), 2) := by decide +kernel
theorem dX8_areSteps_39 : decode cX8_areSteps 39 = .ok (.iconst 3, 1) := by decide +kernel
theorem dX8_areSteps_40 : decode cX8_areSteps 40 = .ok (.invokestatic 66, 3) := by decide +kernel
theorem dX8_areSteps_43 : decode cX8_areSteps 43 = .ok (.ifCond .eq 24, 3) := by decide +kernel
theorem dX8_areSteps_46 : decode cX8_areSteps 46 = .ok (.iload 5, 2) := by decide +kernel
theorem dX8_areSteps_48 : decode cX8_areSteps 48 = .ok (.bipush (-3), 2) := by decide +kernel
theorem dX8_areSteps_50 : decode cX8_areSteps 50 = .ok (.iconst 3, 1) := by decide +kernel
theorem dX8_areSteps_51 : decode cX8_areSteps 51 = .ok (.invokestatic 66, 3) := by decide +kernel
theorem dX8_areSteps_54 : decode cX8_areSteps 54 = .ok (.ifCond .eq 13, 3) := by decide +kernel
theorem dX8_areSteps_57 : decode cX8_areSteps 57 = .ok (.iload 4, 2) := by decide +kernel
theorem dX8_areSteps_59 : decode cX8_areSteps 59 = .ok (.ifCond .ne 10, 3) := by decide +kernel
theorem dX8_areSteps_62 : decode cX8_areSteps 62 = .ok (.iload 5, 2) := by decide +kernel
theorem dX8_areSteps_64 : decode cX8_areSteps 64 = .ok (.ifCond .ne 5, 3) := by decide +kernel
theorem dX8_areSteps_67 : decode cX8_areSteps 67 = .ok (.iconst 0, 1) := by decide +kernel
theorem dX8_areSteps_68 : decode cX8_areSteps 68 = .ok (.ireturn, 1) := by decide +kernel
theorem dX8_areSteps_69 : decode cX8_areSteps 69 = .ok (.iconst 0, 1) := by decide +kernel
theorem dX8_areSteps_70 : decode cX8_areSteps 70 = .ok (.istore 6, 2) := by decide +kernel
theorem dX8_areSteps_72 : decode cX8_areSteps 72 = .ok (.iload 6, 2) := by decide +kernel
theorem dX8_areSteps_74 : decode cX8_areSteps 74 = .ok (.iload_n 3, 1) := by decide +kernel
theorem dX8_areSteps_75 : decode cX8_areSteps 75 = .ok (.if_icmp .ge 47, 3) := by decide +kernel
theorem dX8_areSteps_78 : decode cX8_areSteps 78 = .ok (.aload_n 0, 1) := by decide +kernel
theorem dX8_areSteps_79 : decode cX8_areSteps 79 = .ok (.getfield 12, 3) := by decide +kernel
theorem dX8_areSteps_82 : decode cX8_areSteps 82 = .ok (.iload_n 1, 1) := by decide +kernel
theorem dX8_areSteps_83 : decode cX8_areSteps 83 = .ok (.iconst 2, 1) := by decide +kernel
theorem dX8_areSteps_84 : decode cX8_areSteps 84 = .ok (.iload 6, 2) := by decide +kernel
theorem dX8_areSteps_86 : decode cX8_areSteps 86 = .ok (.imul, 1) := by decide +kernel
theorem dX8_areSteps_87 : decode cX8_areSteps 87 = .ok (.invokevirtual 92, 3) := by decide +kernel
theorem dX8_areSteps_90 : decode cX8_areSteps 90 = .ok (.iload 4, 2) := by decide +kernel
theorem dX8_areSteps_92 : decode cX8_areSteps 92 = .ok (.if_icmp .ne 24, 3) := by decide +kernel
theorem dX8_areSteps_95 : decode cX8_areSteps 95 = .ok (.aload_n 0, 1) := by decide +kernel
theorem dX8_areSteps_96 : decode cX8_areSteps 96 = .ok (.getfield 12, 3) := by decide +kernel
theorem dX8_areSteps_99 : decode cX8_areSteps 99 = .ok (.iload_n 1, 1) := by decide +kernel
theorem dX8_areSteps_100 : decode cX8_areSteps 100 = .ok (.iconst 2, 1) := by decide +kernel
theorem dX8_areSteps_101 : decode cX8_areSteps 101 = .ok (.iload 6, 2) := by decide +kernel
theorem dX8_areSteps_103 : decode cX8_areSteps 103 = .ok (.imul, 1) := by decide +kernel
theorem dX8_areSteps_104 : decode cX8_areSteps 104 = .ok (.iconst 1, 1) := by decide +kernel
theorem dX8_areSteps_105 : decode cX8_areSteps 105 = .ok (.iadd, 1) := by decide +kernel
theorem dX8_areSteps_106 : decode cX8_areSteps 106 = .ok (.invokevirtual 92, 3) := by decide +kernel
theorem dX8_areSteps_109 : decode cX8_areSteps 109 = .ok (.iload 5, 2) := by decide +kernel
theorem dX8_areSteps_111 : decode cX8_areSteps 111 = .ok (.if_icmp .ne 5, 3) := by decide +kernel
theorem dX8_areSteps_114 : decode cX8_areSteps 114 = .ok (.iconst 0, 1) := by decide +kernel
theorem dX8_areSteps_115 : decode cX8_areSteps 115 = .ok (.ireturn, 1) := by decide +kernel
theorem dX8_areSteps_116 : decode cX8_areSteps 116 = .ok (.iinc 6 1, 3) := by decide +kernel
theorem dX8_areSteps_119 : decode cX8_areSteps 119 = .ok (.goto (-47), 3) := by decide +kernel
theorem dX8_areSteps_122 : decode cX8_areSteps 122 = .ok (.iinc 3 1, 3) := by decide +kernel
theorem dX8_areSteps_125 : decode cX8_areSteps 125 = .ok (.goto (-123), 3) := by decide +kernel
theorem dX8_areSteps_128 : decode cX8_areSteps 128 = .ok (.iconst 1, 1) := by decide +kernel
theorem dX8_areSteps_129 : decode cX8_areSteps 129 = .ok (.ireturn, 1) := by decide +kernel
set_option maxRecDepth 20000 in
theorem ggX8_waysKept_X6_init : GoodIn wsX8_waysKept wsX6_init := goodIn_r _ [8, 9, 10, 11, 12, 13, 14, 15, 16, 29, 30, 31, 32] (by decide +kernel) (by decide +kernel)
set_option maxRecDepth 20000 in
theorem gX8_waysKept_X6_init : GoodIn wsX8_waysKept (wsX6_init) := ggX8_waysKept_X6_init
theorem dX8_waysKept_0 : decode cX8_waysKept 0 = .ok (.aload_n 0, 1) := by decide +kernel
theorem dX8_waysKept_1 : decode cX8_waysKept 1 = .ok (.getfield 338, 3) := by decide +kernel
theorem dX8_waysKept_4 : decode cX8_waysKept 4 = .ok (.ifnonnull 18, 3) := by decide +kernel
theorem dX8_waysKept_7 : decode cX8_waysKept 7 = .ok (.aload_n 0, 1) := by decide +kernel
theorem dX8_waysKept_8 : decode cX8_waysKept 8 = .ok (.new 181, 3) := by decide +kernel
theorem dX8_waysKept_11 : decode cX8_waysKept 11 = .ok (.dup, 1) := by decide +kernel
theorem dX8_waysKept_12 : decode cX8_waysKept 12 = .ok (.aload_n 0, 1) := by decide +kernel
theorem dX8_waysKept_13 : decode cX8_waysKept 13 = .ok (.getfield 19, 3) := by decide +kernel
theorem dX8_waysKept_16 : decode cX8_waysKept 16 = .ok (.invokespecial 342, 3) := by decide +kernel
theorem dX8_waysKept_19 : decode cX8_waysKept 19 = .ok (.putfield 338, 3) := by decide +kernel
theorem dX8_waysKept_22 : decode cX8_waysKept 22 = .ok (.aload_n 0, 1) := by decide +kernel
theorem dX8_waysKept_23 : decode cX8_waysKept 23 = .ok (.getfield 338, 3) := by decide +kernel
theorem dX8_waysKept_26 : decode cX8_waysKept 26 = .ok (.areturn, 1) := by decide +kernel
set_option maxRecDepth 20000 in
theorem ggX8_waysFor_X8_waysKept : GoodIn wsX8_waysFor wsX8_waysKept := goodIn_r _ [5, 6, 7, 8, 9, 10, 11, 12, 13, 14, 15, 16, 17, 18, 19, 20, 21, 89, 90, 91, 92, 93, 94, 95, 96, 97, 98, 99, 100, 101, 102, 103, 104] (by decide +kernel) (by decide +kernel)
set_option maxRecDepth 20000 in
theorem gX8_waysFor_X8_waysKept : GoodIn wsX8_waysFor (wsV RX8 190 RX8 yX8_waysKept wsX8_waysKept) := goodIn_app (goodIn_of _ (by decide +kernel)) ggX8_waysFor_X8_waysKept
set_option maxRecDepth 20000 in
theorem ggX8_waysFor_X6_prepare : GoodIn wsX8_waysFor wsX6_prepare := goodIn_r _ [25, 26, 19, 21, 27, 28, 29, 30, 31, 32, 33, 34, 35, 36, 37, 38, 39, 40, 9, 41, 42, 43, 44, 45, 46, 47, 48, 49, 50, 51, 52, 53, 54, 55, 56, 57, 58, 59, 60, 61, 62, 63, 64, 65, 66, 67, 68, 69, 70, 71, 72, 73, 74, 75, 76, 77, 78, 79, 80, 81, 82, 83, 84, 85, 86, 87, 88, 101, 102, 103, 104, 105, 106, 107, 108, 109, 110, 111, 112, 113, 114, 115, 116, 117, 118, 119] (by decide +kernel) (by decide +kernel)
set_option maxRecDepth 20000 in
theorem gX8_waysFor_X6_prepare : GoodIn wsX8_waysFor (wsV RX8 345 RX6 yX6_prepare wsX6_prepare) := goodIn_app (goodIn_of _ (by decide +kernel)) ggX8_waysFor_X6_prepare
theorem dX8_waysFor_0 : decode cX8_waysFor 0 = .ok (.aload_n 0, 1) := by decide +kernel
theorem dX8_waysFor_1 : decode cX8_waysFor 1 = .ok (.invokevirtual 190, 3) := by decide +kernel
theorem dX8_waysFor_4 : decode cX8_waysFor 4 = .ok (.astore_n 2, 1) := by decide +kernel
theorem dX8_waysFor_5 : decode cX8_waysFor 5 = .ok (.aload_n 2, 1) := by decide +kernel
theorem dX8_waysFor_6 : decode cX8_waysFor 6 = .ok (.iload_n 1, 1) := by decide +kernel
theorem dX8_waysFor_7 : decode cX8_waysFor 7 = .ok (.invokevirtual 345, 3) := by decide +kernel
theorem dX8_waysFor_10 : decode cX8_waysFor 10 = .ok (.aload_n 2, 1) := by decide +kernel
theorem dX8_waysFor_11 : decode cX8_waysFor 11 = .ok (.areturn, 1) := by decide +kernel
set_option maxRecDepth 20000 in
theorem ggX8_forgetWays_X6_forget : GoodIn wsX8_forgetWays wsX6_forget := goodIn_r _ [6, 7, 20, 21, 22, 23] (by decide +kernel) (by decide +kernel)
set_option maxRecDepth 20000 in
theorem gX8_forgetWays_X6_forget : GoodIn wsX8_forgetWays (wsV RX8 348 RX6 yX6_forget wsX6_forget) := goodIn_app (goodIn_of _ (by decide +kernel)) ggX8_forgetWays_X6_forget
theorem dX8_forgetWays_0 : decode cX8_forgetWays 0 = .ok (.aload_n 0, 1) := by decide +kernel
theorem dX8_forgetWays_1 : decode cX8_forgetWays 1 = .ok (.getfield 338, 3) := by decide +kernel
theorem dX8_forgetWays_4 : decode cX8_forgetWays 4 = .ok (.ifnull 10, 3) := by decide +kernel
theorem dX8_forgetWays_7 : decode cX8_forgetWays 7 = .ok (.aload_n 0, 1) := by decide +kernel
theorem dX8_forgetWays_8 : decode cX8_forgetWays 8 = .ok (.getfield 338, 3) := by decide +kernel
theorem dX8_forgetWays_11 : decode cX8_forgetWays 11 = .ok (.invokevirtual 348, 3) := by decide +kernel
theorem dX8_forgetWays_14 : decode cX8_forgetWays 14 = .ok (.return_, 1) := by decide +kernel
set_option maxRecDepth 20000 in
theorem ggX8_weigherKept_X8_waysKept : GoodIn wsX8_weigherKept wsX8_waysKept := goodIn_r _ [10, 11, 12, 13, 14, 5, 15, 16, 17, 18, 19, 20, 21, 22, 23, 24, 25, 39, 40, 41, 42, 43, 44, 45, 46, 47, 48, 49, 50, 65, 66, 67, 68] (by decide +kernel) (by decide +kernel)
set_option maxRecDepth 20000 in
theorem gX8_weigherKept_X8_waysKept : GoodIn wsX8_weigherKept (wsV RX8 190 RX8 yX8_waysKept wsX8_waysKept) := goodIn_app (goodIn_of _ (by decide +kernel)) ggX8_weigherKept_X8_waysKept
set_option maxRecDepth 20000 in
theorem ggX8_weigherKept_X7_init : GoodIn wsX8_weigherKept wsX7_init := goodIn_r _ [28, 29, 19, 20, 30, 31, 32, 33, 34, 22, 35, 36, 37, 38, 51, 52, 53, 54, 55, 56, 57, 58, 59, 60, 61, 62, 63, 64] (by decide +kernel) (by decide +kernel)
set_option maxRecDepth 20000 in
theorem gX8_weigherKept_X7_init : GoodIn wsX8_weigherKept (wsX7_init) := ggX8_weigherKept_X7_init
theorem dX8_weigherKept_0 : decode cX8_weigherKept 0 = .ok (.aload_n 0, 1) := by decide +kernel
theorem dX8_weigherKept_1 : decode cX8_weigherKept 1 = .ok (.getfield 351, 3) := by decide +kernel
theorem dX8_weigherKept_4 : decode cX8_weigherKept 4 = .ok (.ifnonnull 22, 3) := by decide +kernel
theorem dX8_weigherKept_7 : decode cX8_weigherKept 7 = .ok (.aload_n 0, 1) := by decide +kernel
theorem dX8_weigherKept_8 : decode cX8_weigherKept 8 = .ok (.new 212, 3) := by decide +kernel
theorem dX8_weigherKept_11 : decode cX8_weigherKept 11 = .ok (.dup, 1) := by decide +kernel
theorem dX8_weigherKept_12 : decode cX8_weigherKept 12 = .ok (.aload_n 0, 1) := by decide +kernel
theorem dX8_weigherKept_13 : decode cX8_weigherKept 13 = .ok (.getfield 19, 3) := by decide +kernel
theorem dX8_weigherKept_16 : decode cX8_weigherKept 16 = .ok (.aload_n 0, 1) := by decide +kernel
theorem dX8_weigherKept_17 : decode cX8_weigherKept 17 = .ok (.invokevirtual 190, 3) := by decide +kernel
theorem dX8_weigherKept_20 : decode cX8_weigherKept 20 = .ok (.invokespecial 355, 3) := by decide +kernel
theorem dX8_weigherKept_23 : decode cX8_weigherKept 23 = .ok (.putfield 351, 3) := by decide +kernel
theorem dX8_weigherKept_26 : decode cX8_weigherKept 26 = .ok (.aload_n 0, 1) := by decide +kernel
theorem dX8_weigherKept_27 : decode cX8_weigherKept 27 = .ok (.getfield 351, 3) := by decide +kernel
theorem dX8_weigherKept_30 : decode cX8_weigherKept 30 = .ok (.areturn, 1) := by decide +kernel
set_option maxRecDepth 20000 in
theorem ggX8_isWalk_X4_cellA : GoodIn wsX8_isWalk wsX4_cellA := goodIn_r _ [7, 8, 9, 10, 11, 6, 12, 68, 69, 70, 71, 72, 73, 74, 75, 76, 77, 78, 79, 80, 81, 82] (by decide +kernel) (by decide +kernel)
set_option maxRecDepth 20000 in
theorem gX8_isWalk_X4_cellA : GoodIn wsX8_isWalk (wsV RX8 176 RX4 yX4_cellA wsX4_cellA) := goodIn_app (goodIn_of _ (by decide +kernel)) ggX8_isWalk_X4_cellA
set_option maxRecDepth 20000 in
theorem ggX8_isWalk_X5_at : GoodIn wsX8_isWalk wsX5_at := goodIn_r _ [17, 18, 19, 20, 21, 16, 22, 23, 24, 25, 26, 83, 84, 85] (by decide +kernel) (by decide +kernel)
set_option maxRecDepth 20000 in
theorem gX8_isWalk_X5_at : GoodIn wsX8_isWalk (wsV RX8 92 RX5 yX5_at wsX5_at) := goodIn_app (goodIn_of _ (by decide +kernel)) ggX8_isWalk_X5_at
set_option maxRecDepth 20000 in
theorem ggX8_isWalk_X4_hasStep : GoodIn wsX8_isWalk wsX4_hasStep := goodIn_r _ [30, 31, 68, 69, 70, 71, 72, 73, 74, 75, 76, 77, 78, 79, 80, 81, 82] (by decide +kernel) (by decide +kernel)
set_option maxRecDepth 20000 in
theorem gX8_isWalk_X4_hasStep : GoodIn wsX8_isWalk (wsV RX8 128 RX4 yX4_hasStep wsX4_hasStep) := goodIn_app (goodIn_of _ (by decide +kernel)) ggX8_isWalk_X4_hasStep
set_option maxRecDepth 20000 in
theorem ggX8_isWalk_X4_ahead : GoodIn wsX8_isWalk wsX4_ahead := goodIn_r _ [35, 36, 37, 38, 39, 40, 28, 29, 6, 30, 31, 41, 42, 43, 44, 45, 46, 47, 48, 49, 68, 69, 70, 71, 72, 73, 74, 75, 76, 77, 78, 79, 80, 81, 82] (by decide +kernel) (by decide +kernel)
set_option maxRecDepth 20000 in
theorem gX8_isWalk_X4_ahead : GoodIn wsX8_isWalk (wsV RX8 358 RX4 yX4_ahead wsX4_ahead) := goodIn_app (goodIn_of _ (by decide +kernel)) ggX8_isWalk_X4_ahead
set_option maxRecDepth 20000 in
theorem ggX8_isWalk_X4_cellB : GoodIn wsX8_isWalk wsX4_cellB := goodIn_r _ [53, 54, 55, 10, 11, 6, 12, 68, 69, 70, 71, 72, 73, 74, 75, 76, 77, 78, 79, 80, 81, 82] (by decide +kernel) (by decide +kernel)
set_option maxRecDepth 20000 in
theorem gX8_isWalk_X4_cellB : GoodIn wsX8_isWalk (wsV RX8 361 RX4 yX4_cellB wsX4_cellB) := goodIn_app (goodIn_of _ (by decide +kernel)) ggX8_isWalk_X4_cellB
theorem dX8_isWalk_0 : decode cX8_isWalk 0 = .ok (.aload_n 0, 1) := by decide +kernel
theorem dX8_isWalk_1 : decode cX8_isWalk 1 = .ok (.getfield 19, 3) := by decide +kernel
theorem dX8_isWalk_4 : decode cX8_isWalk 4 = .ok (.invokevirtual 176, 3) := by decide +kernel
theorem dX8_isWalk_7 : decode cX8_isWalk 7 = .ok (.istore_n 3, 1) := by decide +kernel
theorem dX8_isWalk_8 : decode cX8_isWalk 8 = .ok (.iconst 0, 1) := by decide +kernel
theorem dX8_isWalk_9 : decode cX8_isWalk 9 = .ok (.istore 4, 2) := by decide +kernel
theorem dX8_isWalk_11 : decode cX8_isWalk 11 = .ok (.iload 4, 2) := by decide +kernel
theorem dX8_isWalk_13 : decode cX8_isWalk 13 = .ok (.iload_n 2, 1) := by decide +kernel
theorem dX8_isWalk_14 : decode cX8_isWalk 14 = .ok (.if_icmp .ge 52, 3) := by decide +kernel
theorem dX8_isWalk_17 : decode cX8_isWalk 17 = .ok (.aload_n 0, 1) := by decide +kernel
theorem dX8_isWalk_18 : decode cX8_isWalk 18 = .ok (.getfield 12, 3) := by decide +kernel
theorem dX8_isWalk_21 : decode cX8_isWalk 21 = .ok (.iload_n 1, 1) := by decide +kernel
theorem dX8_isWalk_22 : decode cX8_isWalk 22 = .ok (.iload 4, 2) := by decide +kernel
theorem dX8_isWalk_24 : decode cX8_isWalk 24 = .ok (.invokevirtual 92, 3) := by decide +kernel
theorem dX8_isWalk_27 : decode cX8_isWalk 27 = .ok (.istore 5, 2) := by decide +kernel
theorem dX8_isWalk_29 : decode cX8_isWalk 29 = .ok (.aload_n 0, 1) := by decide +kernel
theorem dX8_isWalk_30 : decode cX8_isWalk 30 = .ok (.getfield 19, 3) := by decide +kernel
theorem dX8_isWalk_33 : decode cX8_isWalk 33 = .ok (.iload 5, 2) := by decide +kernel
theorem dX8_isWalk_35 : decode cX8_isWalk 35 = .ok (.invokevirtual 128, 3) := by decide +kernel
theorem dX8_isWalk_38 : decode cX8_isWalk 38 = .ok (.ifCond .ne 5, 3) := by decide +kernel
theorem dX8_isWalk_41 : decode cX8_isWalk 41 = .ok (.iconst 0, 1) := by decide +kernel
theorem dX8_isWalk_42 : decode cX8_isWalk 42 = .ok (.ireturn, 1) := by decide +kernel
theorem dX8_isWalk_43 : decode cX8_isWalk 43 = .ok (.aload_n 0, 1) := by decide +kernel
theorem dX8_isWalk_44 : decode cX8_isWalk 44 = .ok (.getfield 19, 3) := by decide +kernel
theorem dX8_isWalk_47 : decode cX8_isWalk 47 = .ok (.iload_n 3, 1) := by decide +kernel
theorem dX8_isWalk_48 : decode cX8_isWalk 48 = .ok (.iload 5, 2) := by decide +kernel
theorem dX8_isWalk_50 : decode cX8_isWalk 50 = .ok (.invokevirtual 358, 3) := by decide +kernel
theorem dX8_isWalk_53 : decode cX8_isWalk 53 = .ok (.istore_n 3, 1) := by decide +kernel
theorem dX8_isWalk_54 : decode cX8_isWalk 54 = .ok (.iload_n 3, 1) := by decide +kernel
theorem dX8_isWalk_55 : decode cX8_isWalk 55 = .ok (.ifCond .ge 5, 3) := by decide +kernel
theorem dX8_isWalk_58 : decode cX8_isWalk 58 = .ok (.iconst 0, 1) := by decide +kernel
theorem dX8_isWalk_59 : decode cX8_isWalk 59 = .ok (.ireturn, 1) := by decide +kernel
theorem dX8_isWalk_60 : decode cX8_isWalk 60 = .ok (.iinc 4 1, 3) := by decide +kernel
theorem dX8_isWalk_63 : decode cX8_isWalk 63 = .ok (.goto (-52), 3) := by decide +kernel
theorem dX8_isWalk_66 : decode cX8_isWalk 66 = .ok (.iload_n 3, 1) := by decide +kernel
theorem dX8_isWalk_67 : decode cX8_isWalk 67 = .ok (.aload_n 0, 1) := by decide +kernel
theorem dX8_isWalk_68 : decode cX8_isWalk 68 = .ok (.getfield 19, 3) := by decide +kernel
theorem dX8_isWalk_71 : decode cX8_isWalk 71 = .ok (.invokevirtual 361, 3) := by decide +kernel
theorem dX8_isWalk_74 : decode cX8_isWalk 74 = .ok (.if_icmp .ne 7, 3) := by decide +kernel
theorem dX8_isWalk_77 : decode cX8_isWalk 77 = .ok (.iconst 1, 1) := by decide +kernel
theorem dX8_isWalk_78 : decode cX8_isWalk 78 = .ok (.goto 4, 3) := by decide +kernel
theorem dX8_isWalk_81 : decode cX8_isWalk 81 = .ok (.iconst 0, 1) := by decide +kernel
theorem dX8_isWalk_82 : decode cX8_isWalk 82 = .ok (.ireturn, 1) := by decide +kernel
set_option maxRecDepth 20000 in
theorem ggX8_walkNumber_X4_cellA : GoodIn wsX8_walkNumber wsX4_cellA := goodIn_r _ [7, 8, 9, 10, 11, 6, 12, 86, 87, 88, 89, 90, 91, 92, 93, 94, 95, 96, 97, 98, 99, 100] (by decide +kernel) (by decide +kernel)
set_option maxRecDepth 20000 in
theorem gX8_walkNumber_X4_cellA : GoodIn wsX8_walkNumber (wsV RX8 176 RX4 yX4_cellA wsX4_cellA) := goodIn_app (goodIn_of _ (by decide +kernel)) ggX8_walkNumber_X4_cellA
set_option maxRecDepth 20000 in
theorem ggX8_walkNumber_X5_at : GoodIn wsX8_walkNumber wsX5_at := goodIn_r _ [17, 18, 19, 20, 21, 16, 22, 23, 24, 25, 26, 101, 102, 103] (by decide +kernel) (by decide +kernel)
set_option maxRecDepth 20000 in
theorem gX8_walkNumber_X5_at : GoodIn wsX8_walkNumber (wsV RX8 92 RX5 yX5_at wsX5_at) := goodIn_app (goodIn_of _ (by decide +kernel)) ggX8_walkNumber_X5_at
set_option maxRecDepth 20000 in
theorem ggX8_walkNumber_X8_waysKept : GoodIn wsX8_walkNumber wsX8_waysKept := goodIn_r _ [31, 32, 33, 34, 35, 1, 36, 37, 38, 39, 40, 41, 42, 43, 44, 45, 46, 74, 75, 76, 77, 78, 79, 80, 81, 82, 83, 84, 85, 104, 105, 106, 107] (by decide +kernel) (by decide +kernel)
set_option maxRecDepth 20000 in
theorem gX8_walkNumber_X8_waysKept : GoodIn wsX8_walkNumber (wsV RX8 190 RX8 yX8_waysKept wsX8_waysKept) := goodIn_app (goodIn_of _ (by decide +kernel)) ggX8_walkNumber_X8_waysKept
set_option maxRecDepth 20000 in
theorem ggX8_walkNumber_X4_ahead : GoodIn wsX8_walkNumber wsX4_ahead := goodIn_r _ [50, 51, 52, 53, 54, 55, 56, 57, 6, 58, 59, 60, 61, 62, 63, 64, 65, 66, 67, 68, 86, 87, 88, 89, 90, 91, 92, 93, 94, 95, 96, 97, 98, 99, 100] (by decide +kernel) (by decide +kernel)
set_option maxRecDepth 20000 in
theorem gX8_walkNumber_X4_ahead : GoodIn wsX8_walkNumber (wsV RX8 358 RX4 yX4_ahead wsX4_ahead) := goodIn_app (goodIn_of _ (by decide +kernel)) ggX8_walkNumber_X4_ahead
set_option maxRecDepth 20000 in
theorem ggX8_walkNumber_X6_onward : GoodIn wsX8_walkNumber wsX6_onward := goodIn_r _ [72, 73, 44, 104, 105, 106, 107] (by decide +kernel) (by decide +kernel)
set_option maxRecDepth 20000 in
theorem gX8_walkNumber_X6_onward : GoodIn wsX8_walkNumber (wsV RX8 180 RX6 yX6_onward wsX6_onward) := goodIn_app (goodIn_of _ (by decide +kernel)) ggX8_walkNumber_X6_onward
theorem dX8_walkNumber_0 : decode cX8_walkNumber 0 = .ok (.lconst 0, 1) := by decide +kernel
theorem dX8_walkNumber_1 : decode cX8_walkNumber 1 = .ok (.lstore_n 3, 1) := by decide +kernel
theorem dX8_walkNumber_2 : decode cX8_walkNumber 2 = .ok (.aload_n 0, 1) := by decide +kernel
theorem dX8_walkNumber_3 : decode cX8_walkNumber 3 = .ok (.getfield 19, 3) := by decide +kernel
theorem dX8_walkNumber_6 : decode cX8_walkNumber 6 = .ok (.invokevirtual 176, 3) := by decide +kernel
theorem dX8_walkNumber_9 : decode cX8_walkNumber 9 = .ok (.istore 5, 2) := by decide +kernel
theorem dX8_walkNumber_11 : decode cX8_walkNumber 11 = .ok (.iconst 0, 1) := by decide +kernel
theorem dX8_walkNumber_12 : decode cX8_walkNumber 12 = .ok (.istore 6, 2) := by decide +kernel
theorem dX8_walkNumber_14 : decode cX8_walkNumber 14 = .ok (.iload 6, 2) := by decide +kernel
theorem dX8_walkNumber_16 : decode cX8_walkNumber 16 = .ok (.iload_n 2, 1) := by decide +kernel
theorem dX8_walkNumber_17 : decode cX8_walkNumber 17 = .ok (.if_icmp .ge 77, 3) := by decide +kernel
theorem dX8_walkNumber_20 : decode cX8_walkNumber 20 = .ok (.aload_n 0, 1) := by decide +kernel
theorem dX8_walkNumber_21 : decode cX8_walkNumber 21 = .ok (.getfield 12, 3) := by decide +kernel
theorem dX8_walkNumber_24 : decode cX8_walkNumber 24 = .ok (.iload_n 1, 1) := by decide +kernel
theorem dX8_walkNumber_25 : decode cX8_walkNumber 25 = .ok (.iload 6, 2) := by decide +kernel
theorem dX8_walkNumber_27 : decode cX8_walkNumber 27 = .ok (.invokevirtual 92, 3) := by decide +kernel
theorem dX8_walkNumber_30 : decode cX8_walkNumber 30 = .ok (.istore 7, 2) := by decide +kernel
theorem dX8_walkNumber_32 : decode cX8_walkNumber 32 = .ok (.iconst 0, 1) := by decide +kernel
theorem dX8_walkNumber_33 : decode cX8_walkNumber 33 = .ok (.istore 8, 2) := by decide +kernel
theorem dX8_walkNumber_35 : decode cX8_walkNumber 35 = .ok (.iload 8, 2) := by decide +kernel
theorem dX8_walkNumber_37 : decode cX8_walkNumber 37 = .ok (.iload 7, 2) := by decide +kernel
theorem dX8_walkNumber_39 : decode cX8_walkNumber 39 = .ok (.if_icmp .ge 36, 3) := by decide +kernel
theorem dX8_walkNumber_42 : decode cX8_walkNumber 42 = .ok (.lload_n 3, 1) := by decide +kernel
theorem dX8_walkNumber_43 : decode cX8_walkNumber 43 = .ok (.aload_n 0, 1) := by decide +kernel
theorem dX8_walkNumber_44 : decode cX8_walkNumber 44 = .ok (.invokevirtual 190, 3) := by decide +kernel
theorem dX8_walkNumber_47 : decode cX8_walkNumber 47 = .ok (.iload_n 2, 1) := by decide +kernel
theorem dX8_walkNumber_48 : decode cX8_walkNumber 48 = .ok (.iload 6, 2) := by decide +kernel
theorem dX8_walkNumber_50 : decode cX8_walkNumber 50 = .ok (.isub, 1) := by decide +kernel
theorem dX8_walkNumber_51 : decode cX8_walkNumber 51 = .ok (.iconst 1, 1) := by decide +kernel
theorem dX8_walkNumber_52 : decode cX8_walkNumber 52 = .ok (.isub, 1) := by decide +kernel
theorem dX8_walkNumber_53 : decode cX8_walkNumber 53 = .ok (.aload_n 0, 1) := by decide +kernel
theorem dX8_walkNumber_54 : decode cX8_walkNumber 54 = .ok (.getfield 19, 3) := by decide +kernel
theorem dX8_walkNumber_57 : decode cX8_walkNumber 57 = .ok (.iload 5, 2) := by decide +kernel
theorem dX8_walkNumber_59 : decode cX8_walkNumber 59 = .ok (.iload 8, 2) := by decide +kernel
theorem dX8_walkNumber_61 : decode cX8_walkNumber 61 = .ok (.invokevirtual 358, 3) := by decide +kernel
theorem dX8_walkNumber_64 : decode cX8_walkNumber 64 = .ok (.invokevirtual 180, 3) := by decide +kernel
theorem dX8_walkNumber_67 : decode cX8_walkNumber 67 = .ok (.ladd, 1) := by decide +kernel
theorem dX8_walkNumber_68 : decode cX8_walkNumber 68 = .ok (.lstore_n 3, 1) := by decide +kernel
theorem dX8_walkNumber_69 : decode cX8_walkNumber 69 = .ok (.iinc 8 1, 3) := by decide +kernel
theorem dX8_walkNumber_72 : decode cX8_walkNumber 72 = .ok (.goto (-37), 3) := by decide +kernel
theorem dX8_walkNumber_75 : decode cX8_walkNumber 75 = .ok (.aload_n 0, 1) := by decide +kernel
theorem dX8_walkNumber_76 : decode cX8_walkNumber 76 = .ok (.getfield 19, 3) := by decide +kernel
theorem dX8_walkNumber_79 : decode cX8_walkNumber 79 = .ok (.iload 5, 2) := by decide +kernel
theorem dX8_walkNumber_81 : decode cX8_walkNumber 81 = .ok (.iload 7, 2) := by decide +kernel
theorem dX8_walkNumber_83 : decode cX8_walkNumber 83 = .ok (.invokevirtual 358, 3) := by decide +kernel
theorem dX8_walkNumber_86 : decode cX8_walkNumber 86 = .ok (.istore 5, 2) := by decide +kernel
theorem dX8_walkNumber_88 : decode cX8_walkNumber 88 = .ok (.iinc 6 1, 3) := by decide +kernel
theorem dX8_walkNumber_91 : decode cX8_walkNumber 91 = .ok (.goto (-77), 3) := by decide +kernel
theorem dX8_walkNumber_94 : decode cX8_walkNumber 94 = .ok (.lload_n 3, 1) := by decide +kernel
theorem dX8_walkNumber_95 : decode cX8_walkNumber 95 = .ok (.lreturn, 1) := by decide +kernel
set_option maxRecDepth 20000 in
theorem ggX8_showWalk_X4_cellA : GoodIn wsX8_showWalk wsX4_cellA := goodIn_r _ [9, 10, 11, 12, 13, 8, 14, 74, 75, 76, 77, 78, 79, 80, 81, 82, 83, 84, 85, 86, 87, 88] (by decide +kernel) (by decide +kernel)
set_option maxRecDepth 20000 in
theorem gX8_showWalk_X4_cellA : GoodIn wsX8_showWalk (wsV RX8 176 RX4 yX4_cellA wsX4_cellA) := goodIn_app (goodIn_of _ (by decide +kernel)) ggX8_showWalk_X4_cellA
set_option maxRecDepth 20000 in
theorem ggX8_showWalk_X8_waysKept : GoodIn wsX8_showWalk wsX8_waysKept := goodIn_r _ [19, 20, 21, 22, 23, 1, 24, 25, 26, 27, 28, 29, 30, 31, 32, 33, 34, 62, 63, 64, 65, 66, 67, 68, 69, 70, 71, 72, 73, 89, 90, 91, 92] (by decide +kernel) (by decide +kernel)
set_option maxRecDepth 20000 in
theorem gX8_showWalk_X8_waysKept : GoodIn wsX8_showWalk (wsV RX8 190 RX8 yX8_waysKept wsX8_waysKept) := goodIn_app (goodIn_of _ (by decide +kernel)) ggX8_showWalk_X8_waysKept
set_option maxRecDepth 20000 in
theorem ggX8_showWalk_X4_ahead : GoodIn wsX8_showWalk wsX4_ahead := goodIn_r _ [38, 39, 40, 41, 42, 43, 44, 45, 8, 46, 47, 48, 49, 50, 51, 52, 53, 54, 55, 56, 74, 75, 76, 77, 78, 79, 80, 81, 82, 83, 84, 85, 86, 87, 88] (by decide +kernel) (by decide +kernel)
set_option maxRecDepth 20000 in
theorem gX8_showWalk_X4_ahead : GoodIn wsX8_showWalk (wsV RX8 358 RX4 yX4_ahead wsX4_ahead) := goodIn_app (goodIn_of _ (by decide +kernel)) ggX8_showWalk_X4_ahead
set_option maxRecDepth 20000 in
theorem ggX8_showWalk_X6_onward : GoodIn wsX8_showWalk wsX6_onward := goodIn_r _ [60, 61, 32, 89, 90, 91, 92] (by decide +kernel) (by decide +kernel)
set_option maxRecDepth 20000 in
theorem gX8_showWalk_X6_onward : GoodIn wsX8_showWalk (wsV RX8 180 RX6 yX6_onward wsX6_onward) := goodIn_app (goodIn_of _ (by decide +kernel)) ggX8_showWalk_X6_onward
theorem dX8_showWalk_0 : decode cX8_showWalk 0 = .ok (.lload_n 2, 1) := by decide +kernel
theorem dX8_showWalk_1 : decode cX8_showWalk 1 = .ok (.lstore 4, 2) := by decide +kernel
theorem dX8_showWalk_3 : decode cX8_showWalk 3 = .ok (.aload_n 0, 1) := by decide +kernel
theorem dX8_showWalk_4 : decode cX8_showWalk 4 = .ok (.getfield 19, 3) := by decide +kernel
theorem dX8_showWalk_7 : decode cX8_showWalk 7 = .ok (.invokevirtual 176, 3) := by decide +kernel
theorem dX8_showWalk_10 : decode cX8_showWalk 10 = .ok (.istore 6, 2) := by decide +kernel
theorem dX8_showWalk_12 : decode cX8_showWalk 12 = .ok (.iconst 0, 1) := by decide +kernel
theorem dX8_showWalk_13 : decode cX8_showWalk 13 = .ok (.istore 7, 2) := by decide +kernel
theorem dX8_showWalk_15 : decode cX8_showWalk 15 = .ok (.iload 7, 2) := by decide +kernel
theorem dX8_showWalk_17 : decode cX8_showWalk 17 = .ok (.iload_n 1, 1) := by decide +kernel
theorem dX8_showWalk_18 : decode cX8_showWalk 18 = .ok (.if_icmp .ge 130, 3) := by decide +kernel
theorem dX8_showWalk_21 : decode cX8_showWalk 21 = .ok (.iload 7, 2) := by decide +kernel
theorem dX8_showWalk_23 : decode cX8_showWalk 23 = .ok (.bipush 60, 2) := by decide +kernel
theorem dX8_showWalk_25 : decode cX8_showWalk 25 = .ok (.if_icmp .ge 123, 3) := by decide +kernel
theorem dX8_showWalk_28 : decode cX8_showWalk 28 = .ok (.iconst 0, 1) := by decide +kernel
theorem dX8_showWalk_29 : decode cX8_showWalk 29 = .ok (.istore 8, 2) := by decide +kernel
theorem dX8_showWalk_31 : decode cX8_showWalk 31 = .ok (.aload_n 0, 1) := by decide +kernel
theorem dX8_showWalk_32 : decode cX8_showWalk 32 = .ok (.invokevirtual 190, 3) := by decide +kernel
theorem dX8_showWalk_35 : decode cX8_showWalk 35 = .ok (.iload_n 1, 1) := by decide +kernel
theorem dX8_showWalk_36 : decode cX8_showWalk 36 = .ok (.iload 7, 2) := by decide +kernel
theorem dX8_showWalk_38 : decode cX8_showWalk 38 = .ok (.isub, 1) := by decide +kernel
theorem dX8_showWalk_39 : decode cX8_showWalk 39 = .ok (.iconst 1, 1) := by decide +kernel
theorem dX8_showWalk_40 : decode cX8_showWalk 40 = .ok (.isub, 1) := by decide +kernel
theorem dX8_showWalk_41 : decode cX8_showWalk 41 = .ok (.aload_n 0, 1) := by decide +kernel
theorem dX8_showWalk_42 : decode cX8_showWalk 42 = .ok (.getfield 19, 3) := by decide +kernel
theorem dX8_showWalk_45 : decode cX8_showWalk 45 = .ok (.iload 6, 2) := by decide +kernel
theorem dX8_showWalk_47 : decode cX8_showWalk 47 = .ok (.iconst 0, 1) := by decide +kernel
theorem dX8_showWalk_48 : decode cX8_showWalk 48 = .ok (.invokevirtual 358, 3) := by decide +kernel
theorem dX8_showWalk_51 : decode cX8_showWalk 51 = .ok (.invokevirtual 180, 3) := by decide +kernel
theorem dX8_showWalk_54 : decode cX8_showWalk 54 = .ok (.lstore 9, 2) := by decide +kernel
theorem dX8_showWalk_56 : decode cX8_showWalk 56 = .ok (.lload 4, 2) := by decide +kernel
theorem dX8_showWalk_58 : decode cX8_showWalk 58 = .ok (.lload 9, 2) := by decide +kernel
theorem dX8_showWalk_60 : decode cX8_showWalk 60 = .ok (.lcmp, 1) := by decide +kernel
theorem dX8_showWalk_61 : decode cX8_showWalk 61 = .ok (.ifCond .lt 56, 3) := by decide +kernel
theorem dX8_showWalk_64 : decode cX8_showWalk 64 = .ok (.iload 8, 2) := by decide +kernel
theorem dX8_showWalk_66 : decode cX8_showWalk 66 = .ok (.iconst 1, 1) := by decide +kernel
theorem dX8_showWalk_67 : decode cX8_showWalk 67 = .ok (.iadd, 1) := by decide +kernel
theorem dX8_showWalk_68 : decode cX8_showWalk 68 = .ok (.aload_n 0, 1) := by decide +kernel
theorem dX8_showWalk_69 : decode cX8_showWalk 69 = .ok (.getfield 19, 3) := by decide +kernel
theorem dX8_showWalk_72 : decode cX8_showWalk 72 = .ok (.getfield 364, 3) := by decide +kernel
theorem dX8_showWalk_75 : decode cX8_showWalk 75 = .ok (.if_icmp .ge 42, 3) := by decide +kernel
theorem dX8_showWalk_78 : decode cX8_showWalk 78 = .ok (.lload 4, 2) := by decide +kernel
theorem dX8_showWalk_80 : decode cX8_showWalk 80 = .ok (.lload 9, 2) := by decide +kernel
theorem dX8_showWalk_82 : decode cX8_showWalk 82 = .ok (.lsub, 1) := by decide +kernel
theorem dX8_showWalk_83 : decode cX8_showWalk 83 = .ok (.lstore 4, 2) := by decide +kernel
theorem dX8_showWalk_85 : decode cX8_showWalk 85 = .ok (.iinc 8 1, 3) := by decide +kernel
theorem dX8_showWalk_88 : decode cX8_showWalk 88 = .ok (.aload_n 0, 1) := by decide +kernel
theorem dX8_showWalk_89 : decode cX8_showWalk 89 = .ok (.invokevirtual 190, 3) := by decide +kernel
theorem dX8_showWalk_92 : decode cX8_showWalk 92 = .ok (.iload_n 1, 1) := by decide +kernel
theorem dX8_showWalk_93 : decode cX8_showWalk 93 = .ok (.iload 7, 2) := by decide +kernel
theorem dX8_showWalk_95 : decode cX8_showWalk 95 = .ok (.isub, 1) := by decide +kernel
theorem dX8_showWalk_96 : decode cX8_showWalk 96 = .ok (.iconst 1, 1) := by decide +kernel
theorem dX8_showWalk_97 : decode cX8_showWalk 97 = .ok (.isub, 1) := by decide +kernel
theorem dX8_showWalk_98 : decode cX8_showWalk 98 = .ok (.aload_n 0, 1) := by decide +kernel
theorem dX8_showWalk_99 : decode cX8_showWalk 99 = .ok (.getfield 19, 3) := by decide +kernel
theorem dX8_showWalk_102 : decode cX8_showWalk 102 = .ok (.iload 6, 2) := by decide +kernel
theorem dX8_showWalk_104 : decode cX8_showWalk 104 = .ok (.iload 8, 2) := by decide +kernel
theorem dX8_showWalk_106 : decode cX8_showWalk 106 = .ok (.invokevirtual 358, 3) := by decide +kernel
theorem dX8_showWalk_109 : decode cX8_showWalk 109 = .ok (.invokevirtual 180, 3) := by decide +kernel
theorem dX8_showWalk_112 : decode cX8_showWalk 112 = .ok (.lstore 9, 2) := by decide +kernel
theorem dX8_showWalk_114 : decode cX8_showWalk 114 = .ok (.goto (-58), 3) := by decide +kernel
theorem dX8_showWalk_117 : decode cX8_showWalk 117 = .ok (.aload_n 0, 1) := by decide +kernel
theorem dX8_showWalk_118 : decode cX8_showWalk 118 = .ok (.getfield 51, 3) := by decide +kernel
theorem dX8_showWalk_121 : decode cX8_showWalk 121 = .ok (.iload 7, 2) := by decide +kernel
theorem dX8_showWalk_123 : decode cX8_showWalk 123 = .ok (.bipush 48, 2) := by decide +kernel
theorem dX8_showWalk_125 : decode cX8_showWalk 125 = .ok (.iload 8, 2) := by decide +kernel
theorem dX8_showWalk_127 : decode cX8_showWalk 127 = .ok (.iadd, 1) := by decide +kernel
theorem dX8_showWalk_128 : decode cX8_showWalk 128 = .ok (.iastore, 1) := by decide +kernel
theorem dX8_showWalk_129 : decode cX8_showWalk 129 = .ok (.aload_n 0, 1) := by decide +kernel
theorem dX8_showWalk_130 : decode cX8_showWalk 130 = .ok (.getfield 19, 3) := by decide +kernel
theorem dX8_showWalk_133 : decode cX8_showWalk 133 = .ok (.iload 6, 2) := by decide +kernel
theorem dX8_showWalk_135 : decode cX8_showWalk 135 = .ok (.iload 8, 2) := by decide +kernel
theorem dX8_showWalk_137 : decode cX8_showWalk 137 = .ok (.invokevirtual 358, 3) := by decide +kernel
theorem dX8_showWalk_140 : decode cX8_showWalk 140 = .ok (.istore 6, 2) := by decide +kernel
theorem dX8_showWalk_142 : decode cX8_showWalk 142 = .ok (.iinc 7 1, 3) := by decide +kernel
theorem dX8_showWalk_145 : decode cX8_showWalk 145 = .ok (.goto (-130), 3) := by decide +kernel
theorem dX8_showWalk_148 : decode cX8_showWalk 148 = .ok (.aload_n 0, 1) := by decide +kernel
theorem dX8_showWalk_149 : decode cX8_showWalk 149 = .ok (.iload_n 1, 1) := by decide +kernel
theorem dX8_showWalk_150 : decode cX8_showWalk 150 = .ok (.putfield 308, 3) := by decide +kernel
theorem dX8_showWalk_153 : decode cX8_showWalk 153 = .ok (.return_, 1) := by decide +kernel
theorem dX8_drawn_0 : decode cX8_drawn 0 = .ok (.iload_n 2, 1) := by decide +kernel
theorem dX8_drawn_1 : decode cX8_drawn 1 = .ok (.i2l, 1) := by decide +kernel
theorem dX8_drawn_2 : decode cX8_drawn 2 = .ok (.lstore_n 3, 1) := by decide +kernel
theorem dX8_drawn_3 : decode cX8_drawn 3 = .ok (.lconst 0, 1) := by decide +kernel
theorem dX8_drawn_4 : decode cX8_drawn 4 = .ok (.lstore 5, 2) := by decide +kernel
theorem dX8_drawn_6 : decode cX8_drawn 6 = .ok (.iconst 0, 1) := by decide +kernel
theorem dX8_drawn_7 : decode cX8_drawn 7 = .ok (.istore 7, 2) := by decide +kernel
theorem dX8_drawn_9 : decode cX8_drawn 9 = .ok (.iload 7, 2) := by decide +kernel
theorem dX8_drawn_11 : decode cX8_drawn 11 = .ok (.bipush 62, 2) := by decide +kernel
theorem dX8_drawn_13 : decode cX8_drawn 13 = .ok (.if_icmp .ge 28, 3) := by decide +kernel
theorem dX8_drawn_16 : decode cX8_drawn 16 = .ok (.lload 5, 2) := by decide +kernel
theorem dX8_drawn_18 : decode cX8_drawn 18 = .ok (.lload_n 0, 1) := by decide +kernel
theorem dX8_drawn_19 : decode cX8_drawn 19 = .ok (.lconst 1, 1) := by decide +kernel
theorem dX8_drawn_20 : decode cX8_drawn 20 = .ok (.lsub, 1) := by decide +kernel
theorem dX8_drawn_21 : decode cX8_drawn 21 = .ok (.lcmp, 1) := by decide +kernel
theorem dX8_drawn_22 : decode cX8_drawn 22 = .ok (.ifCond .ge 19, 3) := by decide +kernel
theorem dX8_drawn_25 : decode cX8_drawn 25 = .ok (.ldc2_w 367, 3) := by decide +kernel
theorem dX8_drawn_28 : decode cX8_drawn 28 = .ok (.lload 5, 2) := by decide +kernel
theorem dX8_drawn_30 : decode cX8_drawn 30 = .ok (.lmul, 1) := by decide +kernel
theorem dX8_drawn_31 : decode cX8_drawn 31 = .ok (.lconst 1, 1) := by decide +kernel
theorem dX8_drawn_32 : decode cX8_drawn 32 = .ok (.ladd, 1) := by decide +kernel
theorem dX8_drawn_33 : decode cX8_drawn 33 = .ok (.lstore 5, 2) := by decide +kernel
theorem dX8_drawn_35 : decode cX8_drawn 35 = .ok (.iinc 7 1, 3) := by decide +kernel
theorem dX8_drawn_38 : decode cX8_drawn 38 = .ok (.goto (-29), 3) := by decide +kernel
theorem dX8_drawn_41 : decode cX8_drawn 41 = .ok (.lconst 0, 1) := by decide +kernel
theorem dX8_drawn_42 : decode cX8_drawn 42 = .ok (.lstore 7, 2) := by decide +kernel
theorem dX8_drawn_44 : decode cX8_drawn 44 = .ok (.iconst 0, 1) := by decide +kernel
theorem dX8_drawn_45 : decode cX8_drawn 45 = .ok (.istore 9, 2) := by decide +kernel
theorem dX8_drawn_47 : decode cX8_drawn 47 = .ok (.iload 9, 2) := by decide +kernel
theorem dX8_drawn_49 : decode cX8_drawn 49 = .ok (.bipush 64, 2) := by decide +kernel
theorem dX8_drawn_51 : decode cX8_drawn 51 = .ok (.if_icmp .ge 74, 3) := by decide +kernel
theorem dX8_drawn_54 : decode cX8_drawn 54 = .ok (.lconst 0, 1) := by decide +kernel
theorem dX8_drawn_55 : decode cX8_drawn 55 = .ok (.lstore 7, 2) := by decide +kernel
theorem dX8_drawn_57 : decode cX8_drawn 57 = .ok (.iconst 0, 1) := by decide +kernel
theorem dX8_drawn_58 : decode cX8_drawn 58 = .ok (.istore 10, 2) := by decide +kernel
theorem dX8_drawn_60 : decode cX8_drawn 60 = .ok (.iload 10, 2) := by decide +kernel
theorem dX8_drawn_62 : decode cX8_drawn 62 = .ok (.iconst 5, 1) := by decide +kernel
theorem dX8_drawn_63 : decode cX8_drawn 63 = .ok (.if_icmp .ge 39, 3) := by decide +kernel
theorem dX8_drawn_66 : decode cX8_drawn 66 = .ok (.ldc2_w 369, 3) := by decide +kernel
theorem dX8_drawn_69 : decode cX8_drawn 69 = .ok (.lload_n 3, 1) := by decide +kernel
theorem dX8_drawn_70 : decode cX8_drawn 70 = .ok (.lmul, 1) := by decide +kernel
theorem dX8_drawn_71 : decode cX8_drawn 71 = .ok (.ldc2_w 371, 3) := by decide +kernel
theorem dX8_drawn_74 : decode cX8_drawn 74 = .ok (.ladd, 1) := by decide +kernel
theorem dX8_drawn_75 : decode cX8_drawn 75 = .ok (.ldc2_w 373, 3) := by decide +kernel
theorem dX8_drawn_78 : decode cX8_drawn 78 = .ok (.land, 1) := by decide +kernel
theorem dX8_drawn_79 : decode cX8_drawn 79 = .ok (.lstore_n 3, 1) := by decide +kernel
theorem dX8_drawn_80 : decode cX8_drawn 80 = .ok (.lload 7, 2) := by decide +kernel
theorem dX8_drawn_82 : decode cX8_drawn 82 = .ok (.bipush 15, 2) := by decide +kernel
theorem dX8_drawn_84 : decode cX8_drawn 84 = .ok (.lshl, 1) := by decide +kernel
theorem dX8_drawn_85 : decode cX8_drawn 85 = .ok (.lload_n 3, 1) := by decide +kernel
theorem dX8_drawn_86 : decode cX8_drawn 86 = .ok (.bipush 16, 2) := by decide +kernel
theorem dX8_drawn_88 : decode cX8_drawn 88 = .ok (.lshr, 1) := by decide +kernel
theorem dX8_drawn_89 : decode cX8_drawn 89 = .ok (.ldc2_w 375, 3) := by decide +kernel
theorem dX8_drawn_92 : decode cX8_drawn 92 = .ok (.land, 1) := by decide +kernel
theorem dX8_drawn_93 : decode cX8_drawn 93 = .ok (.lor, 1) := by decide +kernel
theorem dX8_drawn_94 : decode cX8_drawn 94 = .ok (.lstore 7, 2) := by decide +kernel
theorem dX8_drawn_96 : decode cX8_drawn 96 = .ok (.iinc 10 1, 3) := by decide +kernel
theorem dX8_drawn_99 : decode cX8_drawn 99 = .ok (.goto (-39), 3) := by decide +kernel
theorem dX8_drawn_102 : decode cX8_drawn 102 = .ok (.lload 7, 2) := by decide +kernel
theorem dX8_drawn_104 : decode cX8_drawn 104 = .ok (.lload 5, 2) := by decide +kernel
theorem dX8_drawn_106 : decode cX8_drawn 106 = .ok (.land, 1) := by decide +kernel
theorem dX8_drawn_107 : decode cX8_drawn 107 = .ok (.lstore 7, 2) := by decide +kernel
theorem dX8_drawn_109 : decode cX8_drawn 109 = .ok (.lload 7, 2) := by decide +kernel
theorem dX8_drawn_111 : decode cX8_drawn 111 = .ok (.lload_n 0, 1) := by decide +kernel
theorem dX8_drawn_112 : decode cX8_drawn 112 = .ok (.lcmp, 1) := by decide +kernel
theorem dX8_drawn_113 : decode cX8_drawn 113 = .ok (.ifCond .ge 6, 3) := by decide +kernel
theorem dX8_drawn_116 : decode cX8_drawn 116 = .ok (.lload 7, 2) := by decide +kernel
theorem dX8_drawn_118 : decode cX8_drawn 118 = .ok (.lreturn, 1) := by decide +kernel
theorem dX8_drawn_119 : decode cX8_drawn 119 = .ok (.iinc 9 1, 3) := by decide +kernel
theorem dX8_drawn_122 : decode cX8_drawn 122 = .ok (.goto (-75), 3) := by decide +kernel
theorem dX8_drawn_125 : decode cX8_drawn 125 = .ok (.lload_n 0, 1) := by decide +kernel
theorem dX8_drawn_126 : decode cX8_drawn 126 = .ok (.lconst 0, 1) := by decide +kernel
theorem dX8_drawn_127 : decode cX8_drawn 127 = .ok (.lcmp, 1) := by decide +kernel
theorem dX8_drawn_128 : decode cX8_drawn 128 = .ok (.ifCond .le 10, 3) := by decide +kernel
theorem dX8_drawn_131 : decode cX8_drawn 131 = .ok (.lload 7, 2) := by decide +kernel
theorem dX8_drawn_133 : decode cX8_drawn 133 = .ok (.lload_n 0, 1) := by decide +kernel
theorem dX8_drawn_134 : decode cX8_drawn 134 = .ok (.lrem, 1) := by decide +kernel
theorem dX8_drawn_135 : decode cX8_drawn 135 = .ok (.goto 4, 3) := by decide +kernel
theorem dX8_drawn_138 : decode cX8_drawn 138 = .ok (.lconst 0, 1) := by decide +kernel
theorem dX8_drawn_139 : decode cX8_drawn 139 = .ok (.lreturn, 1) := by decide +kernel
set_option maxRecDepth 20000 in
theorem ggX8_heaped_X8_leastDivisor : GoodIn wsX8_heaped wsX8_leastDivisor := goodIn_r _ [5] (by decide +kernel) (by decide +kernel)
set_option maxRecDepth 20000 in
theorem gX8_heaped_X8_leastDivisor : GoodIn wsX8_heaped (va_wsS RX8 377 yX8_leastDivisor wsX8_leastDivisor) := goodIn_app (goodIn_of _ (by decide +kernel)) ggX8_heaped_X8_leastDivisor
theorem dX8_heaped_0 : decode cX8_heaped 0 = .ok (.iconst 0, 1) := by decide +kernel
theorem dX8_heaped_1 : decode cX8_heaped 1 = .ok (.istore 4, 2) := by decide +kernel
theorem dX8_heaped_3 : decode cX8_heaped 3 = .ok (.iload 4, 2) := by decide +kernel
theorem dX8_heaped_5 : decode cX8_heaped 5 = .ok (.aload_n 0, 1) := by decide +kernel
theorem dX8_heaped_6 : decode cX8_heaped 6 = .ok (.getfield 55, 3) := by decide +kernel
theorem dX8_heaped_9 : decode cX8_heaped 9 = .ok (.arraylength, 1) := by decide +kernel
theorem dX8_heaped_10 : decode cX8_heaped 10 = .ok (.if_icmp .ge 17, 3) := by decide +kernel
theorem dX8_heaped_13 : decode cX8_heaped 13 = .ok (.aload_n 0, 1) := by decide +kernel
theorem dX8_heaped_14 : decode cX8_heaped 14 = .ok (.getfield 55, 3) := by decide +kernel
theorem dX8_heaped_17 : decode cX8_heaped 17 = .ok (.iload 4, 2) := by decide +kernel
theorem dX8_heaped_19 : decode cX8_heaped 19 = .ok (.iconst 0, 1) := by decide +kernel
theorem dX8_heaped_20 : decode cX8_heaped 20 = .ok (.iastore, 1) := by decide +kernel
theorem dX8_heaped_21 : decode cX8_heaped 21 = .ok (.iinc 4 1, 3) := by decide +kernel
theorem dX8_heaped_24 : decode cX8_heaped 24 = .ok (.goto (-21), 3) := by decide +kernel
theorem dX8_heaped_27 : decode cX8_heaped 27 = .ok (.iconst 1, 1) := by decide +kernel
theorem dX8_heaped_28 : decode cX8_heaped 28 = .ok (.istore 4, 2) := by decide +kernel
theorem dX8_heaped_30 : decode cX8_heaped 30 = .ok (.iload 4, 2) := by decide +kernel
theorem dX8_heaped_32 : decode cX8_heaped 32 = .ok (.iload_n 1, 1) := by decide +kernel
theorem dX8_heaped_33 : decode cX8_heaped 33 = .ok (.if_icmp .gt 58, 3) := by decide +kernel
theorem dX8_heaped_36 : decode cX8_heaped 36 = .ok (.iconst 1, 1) := by decide +kernel
theorem dX8_heaped_37 : decode cX8_heaped 37 = .ok (.istore 5, 2) := by decide +kernel
theorem dX8_heaped_39 : decode cX8_heaped 39 = .ok (.iload 5, 2) := by decide +kernel
theorem dX8_heaped_41 : decode cX8_heaped 41 = .ok (.iload_n 2, 1) := by decide +kernel
theorem dX8_heaped_42 : decode cX8_heaped 42 = .ok (.if_icmp .gt 43, 3) := by decide +kernel
theorem dX8_heaped_45 : decode cX8_heaped 45 = .ok (.aload_n 0, 1) := by decide +kernel
theorem dX8_heaped_46 : decode cX8_heaped 46 = .ok (.getfield 55, 3) := by decide +kernel
theorem dX8_heaped_49 : decode cX8_heaped 49 = .ok (.iload 4, 2) := by decide +kernel
theorem dX8_heaped_51 : decode cX8_heaped 51 = .ok (.iload 5, 2) := by decide +kernel
theorem dX8_heaped_53 : decode cX8_heaped 53 = .ok (.iadd, 1) := by decide +kernel
theorem dX8_heaped_54 : decode cX8_heaped 54 = .ok (.iload_n 3, 1) := by decide +kernel
theorem dX8_heaped_55 : decode cX8_heaped 55 = .ok (.iadd, 1) := by decide +kernel
theorem dX8_heaped_56 : decode cX8_heaped 56 = .ok (.iconst 1, 1) := by decide +kernel
theorem dX8_heaped_57 : decode cX8_heaped 57 = .ok (.isub, 1) := by decide +kernel
theorem dX8_heaped_58 : decode cX8_heaped 58 = .ok (.dup2, 1) := by decide +kernel
theorem dX8_heaped_59 : decode cX8_heaped 59 = .ok (.iaload, 1) := by decide +kernel
theorem dX8_heaped_60 : decode cX8_heaped 60 = .ok (.iconst 1, 1) := by decide +kernel
theorem dX8_heaped_61 : decode cX8_heaped 61 = .ok (.iadd, 1) := by decide +kernel
theorem dX8_heaped_62 : decode cX8_heaped 62 = .ok (.iastore, 1) := by decide +kernel
theorem dX8_heaped_63 : decode cX8_heaped 63 = .ok (.aload_n 0, 1) := by decide +kernel
theorem dX8_heaped_64 : decode cX8_heaped 64 = .ok (.getfield 55, 3) := by decide +kernel
theorem dX8_heaped_67 : decode cX8_heaped 67 = .ok (.iload 4, 2) := by decide +kernel
theorem dX8_heaped_69 : decode cX8_heaped 69 = .ok (.iload 5, 2) := by decide +kernel
theorem dX8_heaped_71 : decode cX8_heaped 71 = .ok (.iadd, 1) := by decide +kernel
theorem dX8_heaped_72 : decode cX8_heaped 72 = .ok (.iconst 1, 1) := by decide +kernel
theorem dX8_heaped_73 : decode cX8_heaped 73 = .ok (.isub, 1) := by decide +kernel
theorem dX8_heaped_74 : decode cX8_heaped 74 = .ok (.dup2, 1) := by decide +kernel
theorem dX8_heaped_75 : decode cX8_heaped 75 = .ok (.iaload, 1) := by decide +kernel
theorem dX8_heaped_76 : decode cX8_heaped 76 = .ok (.iconst 1, 1) := by decide +kernel
theorem dX8_heaped_77 : decode cX8_heaped 77 = .ok (.isub, 1) := by decide +kernel
theorem dX8_heaped_78 : decode cX8_heaped 78 = .ok (.iastore, 1) := by decide +kernel
theorem dX8_heaped_79 : decode cX8_heaped 79 = .ok (.iinc 5 1, 3) := by decide +kernel
theorem dX8_heaped_82 : decode cX8_heaped 82 = .ok (.goto (-43), 3) := by decide +kernel
theorem dX8_heaped_85 : decode cX8_heaped 85 = .ok (.iinc 4 1, 3) := by decide +kernel
theorem dX8_heaped_88 : decode cX8_heaped 88 = .ok (.goto (-58), 3) := by decide +kernel
theorem dX8_heaped_91 : decode cX8_heaped 91 = .ok (.lconst 1, 1) := by decide +kernel
theorem dX8_heaped_92 : decode cX8_heaped 92 = .ok (.lstore 4, 2) := by decide +kernel
theorem dX8_heaped_94 : decode cX8_heaped 94 = .ok (.aload_n 0, 1) := by decide +kernel
theorem dX8_heaped_95 : decode cX8_heaped 95 = .ok (.getfield 55, 3) := by decide +kernel
theorem dX8_heaped_98 : decode cX8_heaped 98 = .ok (.arraylength, 1) := by decide +kernel
theorem dX8_heaped_99 : decode cX8_heaped 99 = .ok (.iconst 1, 1) := by decide +kernel
theorem dX8_heaped_100 : decode cX8_heaped 100 = .ok (.isub, 1) := by decide +kernel
theorem dX8_heaped_101 : decode cX8_heaped 101 = .ok (.istore 6, 2) := by decide +kernel
theorem dX8_heaped_103 : decode cX8_heaped 103 = .ok (.iload 6, 2) := by decide +kernel
theorem dX8_heaped_105 : decode cX8_heaped 105 = .ok (.iconst 2, 1) := by decide +kernel
theorem dX8_heaped_106 : decode cX8_heaped 106 = .ok (.if_icmp .lt 68, 3) := by decide +kernel
theorem dX8_heaped_109 : decode cX8_heaped 109 = .ok (.iload 6, 2) := by decide +kernel
theorem dX8_heaped_111 : decode cX8_heaped 111 = .ok (.invokestatic 377, 3) := by decide +kernel
theorem dX8_heaped_114 : decode cX8_heaped 114 = .ok (.istore 7, 2) := by decide +kernel
theorem dX8_heaped_116 : decode cX8_heaped 116 = .ok (.iload 7, 2) := by decide +kernel
theorem dX8_heaped_118 : decode cX8_heaped 118 = .ok (.iload 6, 2) := by decide +kernel
theorem dX8_heaped_120 : decode cX8_heaped 120 = .ok (.if_icmp .ge 48, 3) := by decide +kernel
theorem dX8_heaped_123 : decode cX8_heaped 123 = .ok (.aload_n 0, 1) := by decide +kernel
theorem dX8_heaped_124 : decode cX8_heaped 124 = .ok (.getfield 55, 3) := by decide +kernel
theorem dX8_heaped_127 : decode cX8_heaped 127 = .ok (.iload 7, 2) := by decide +kernel
theorem dX8_heaped_129 : decode cX8_heaped 129 = .ok (.dup2, 1) := by decide +kernel
theorem dX8_heaped_130 : decode cX8_heaped 130 = .ok (.iaload, 1) := by decide +kernel
theorem dX8_heaped_131 : decode cX8_heaped 131 = .ok (.aload_n 0, 1) := by decide +kernel
theorem dX8_heaped_132 : decode cX8_heaped 132 = .ok (.getfield 55, 3) := by decide +kernel
theorem dX8_heaped_135 : decode cX8_heaped 135 = .ok (.iload 6, 2) := by decide +kernel
theorem dX8_heaped_137 : decode cX8_heaped 137 = .ok (.iaload, 1) := by decide +kernel
theorem dX8_heaped_138 : decode cX8_heaped 138 = .ok (.iadd, 1) := by decide +kernel
theorem dX8_heaped_139 : decode cX8_heaped 139 = .ok (.iastore, 1) := by decide +kernel
theorem dX8_heaped_140 : decode cX8_heaped 140 = .ok (.aload_n 0, 1) := by decide +kernel
theorem dX8_heaped_141 : decode cX8_heaped 141 = .ok (.getfield 55, 3) := by decide +kernel
theorem dX8_heaped_144 : decode cX8_heaped 144 = .ok (.iload 6, 2) := by decide +kernel
theorem dX8_heaped_146 : decode cX8_heaped 146 = .ok (.iload 7, 2) := by decide +kernel
theorem dX8_heaped_148 : decode cX8_heaped 148 = .ok (.idiv, 1) := by decide +kernel
theorem dX8_heaped_149 : decode cX8_heaped 149 = .ok (.dup2, 1) := by decide +kernel
theorem dX8_heaped_150 : decode cX8_heaped 150 = .ok (.iaload, 1) := by decide +kernel
theorem dX8_heaped_151 : decode cX8_heaped 151 = .ok (.aload_n 0, 1) := by decide +kernel
theorem dX8_heaped_152 : decode cX8_heaped 152 = .ok (.getfield 55, 3) := by decide +kernel
theorem dX8_heaped_155 : decode cX8_heaped 155 = .ok (.iload 6, 2) := by decide +kernel
theorem dX8_heaped_157 : decode cX8_heaped 157 = .ok (.iaload, 1) := by decide +kernel
theorem dX8_heaped_158 : decode cX8_heaped 158 = .ok (.iadd, 1) := by decide +kernel
theorem dX8_heaped_159 : decode cX8_heaped 159 = .ok (.iastore, 1) := by decide +kernel
theorem dX8_heaped_160 : decode cX8_heaped 160 = .ok (.aload_n 0, 1) := by decide +kernel
theorem dX8_heaped_161 : decode cX8_heaped 161 = .ok (.getfield 55, 3) := by decide +kernel
theorem dX8_heaped_164 : decode cX8_heaped 164 = .ok (.iload 6, 2) := by decide +kernel
theorem dX8_heaped_166 : decode cX8_heaped 166 = .ok (.iconst 0, 1) := by decide +kernel
theorem dX8_heaped_167 : decode cX8_heaped 167 = .ok (.iastore, 1) := by decide +kernel
theorem dX8_heaped_168 : decode cX8_heaped 168 = .ok (.iinc 6 (-1), 3) := by decide +kernel
theorem dX8_heaped_171 : decode cX8_heaped 171 = .ok (.goto (-68), 3) := by decide +kernel
theorem dX8_heaped_174 : decode cX8_heaped 174 = .ok (.iconst 2, 1) := by decide +kernel
theorem dX8_heaped_175 : decode cX8_heaped 175 = .ok (.istore 6, 2) := by decide +kernel
theorem dX8_heaped_177 : decode cX8_heaped 177 = .ok (.iload 6, 2) := by decide +kernel
theorem dX8_heaped_179 : decode cX8_heaped 179 = .ok (.aload_n 0, 1) := by decide +kernel
theorem dX8_heaped_180 : decode cX8_heaped 180 = .ok (.getfield 55, 3) := by decide +kernel
theorem dX8_heaped_183 : decode cX8_heaped 183 = .ok (.arraylength, 1) := by decide +kernel
theorem dX8_heaped_184 : decode cX8_heaped 184 = .ok (.if_icmp .ge 38, 3) := by decide +kernel
theorem dX8_heaped_187 : decode cX8_heaped 187 = .ok (.iconst 0, 1) := by decide +kernel
theorem dX8_heaped_188 : decode cX8_heaped 188 = .ok (.istore 7, 2) := by decide +kernel
theorem dX8_heaped_190 : decode cX8_heaped 190 = .ok (.iload 7, 2) := by decide +kernel
theorem dX8_heaped_192 : decode cX8_heaped 192 = .ok (.aload_n 0, 1) := by decide +kernel
theorem dX8_heaped_193 : decode cX8_heaped 193 = .ok (.getfield 55, 3) := by decide +kernel
theorem dX8_heaped_196 : decode cX8_heaped 196 = .ok (.iload 6, 2) := by decide +kernel
theorem dX8_heaped_198 : decode cX8_heaped 198 = .ok (.iaload, 1) := by decide +kernel
theorem dX8_heaped_199 : decode cX8_heaped 199 = .ok (.if_icmp .ge 17, 3) := by decide +kernel
theorem dX8_heaped_202 : decode cX8_heaped 202 = .ok (.lload 4, 2) := by decide +kernel
theorem dX8_heaped_204 : decode cX8_heaped 204 = .ok (.iload 6, 2) := by decide +kernel
theorem dX8_heaped_206 : decode cX8_heaped 206 = .ok (.i2l, 1) := by decide +kernel
theorem dX8_heaped_207 : decode cX8_heaped 207 = .ok (.lmul, 1) := by decide +kernel
theorem dX8_heaped_208 : decode cX8_heaped 208 = .ok (.lstore 4, 2) := by decide +kernel
theorem dX8_heaped_210 : decode cX8_heaped 210 = .ok (.iinc 7 1, 3) := by decide +kernel
theorem dX8_heaped_213 : decode cX8_heaped 213 = .ok (.goto (-23), 3) := by decide +kernel
theorem dX8_heaped_216 : decode cX8_heaped 216 = .ok (.iinc 6 1, 3) := by decide +kernel
theorem dX8_heaped_219 : decode cX8_heaped 219 = .ok (.goto (-42), 3) := by decide +kernel
theorem dX8_heaped_222 : decode cX8_heaped 222 = .ok (.lload 4, 2) := by decide +kernel
theorem dX8_heaped_224 : decode cX8_heaped 224 = .ok (.lreturn, 1) := by decide +kernel
theorem dX8_leastDivisor_0 : decode cX8_leastDivisor 0 = .ok (.iconst 2, 1) := by decide +kernel
theorem dX8_leastDivisor_1 : decode cX8_leastDivisor 1 = .ok (.istore_n 1, 1) := by decide +kernel
theorem dX8_leastDivisor_2 : decode cX8_leastDivisor 2 = .ok (.iload_n 1, 1) := by decide +kernel
theorem dX8_leastDivisor_3 : decode cX8_leastDivisor 3 = .ok (.iload_n 1, 1) := by decide +kernel
theorem dX8_leastDivisor_4 : decode cX8_leastDivisor 4 = .ok (.imul, 1) := by decide +kernel
theorem dX8_leastDivisor_5 : decode cX8_leastDivisor 5 = .ok (.iload_n 0, 1) := by decide +kernel
theorem dX8_leastDivisor_6 : decode cX8_leastDivisor 6 = .ok (.if_icmp .gt 17, 3) := by decide +kernel
theorem dX8_leastDivisor_9 : decode cX8_leastDivisor 9 = .ok (.iload_n 0, 1) := by decide +kernel
theorem dX8_leastDivisor_10 : decode cX8_leastDivisor 10 = .ok (.iload_n 1, 1) := by decide +kernel
theorem dX8_leastDivisor_11 : decode cX8_leastDivisor 11 = .ok (.irem, 1) := by decide +kernel
theorem dX8_leastDivisor_12 : decode cX8_leastDivisor 12 = .ok (.ifCond .ne 5, 3) := by decide +kernel
theorem dX8_leastDivisor_15 : decode cX8_leastDivisor 15 = .ok (.iload_n 1, 1) := by decide +kernel
theorem dX8_leastDivisor_16 : decode cX8_leastDivisor 16 = .ok (.ireturn, 1) := by decide +kernel
theorem dX8_leastDivisor_17 : decode cX8_leastDivisor 17 = .ok (.iinc 1 1, 3) := by decide +kernel
theorem dX8_leastDivisor_20 : decode cX8_leastDivisor 20 = .ok (.goto (-18), 3) := by decide +kernel
theorem dX8_leastDivisor_23 : decode cX8_leastDivisor 23 = .ok (.iload_n 0, 1) := by decide +kernel
theorem dX8_leastDivisor_24 : decode cX8_leastDivisor 24 = .ok (.ireturn, 1) := by decide +kernel
theorem dX9_init_0 : decode cX9_init 0 = .ok (.aload_n 0, 1) := by decide +kernel
theorem dX9_init_1 : decode cX9_init 1 = .ok (.invokespecial 1, 3) := by decide +kernel
theorem dX9_init_4 : decode cX9_init 4 = .ok (.aload_n 0, 1) := by decide +kernel
theorem dX9_init_5 : decode cX9_init 5 = .ok (.iconst 4, 1) := by decide +kernel
theorem dX9_init_6 : decode cX9_init 6 = .ok (.newarray .int, 2) := by decide +kernel
theorem dX9_init_8 : decode cX9_init 8 = .ok (.putfield 7, 3) := by decide +kernel
theorem dX9_init_11 : decode cX9_init 11 = .ok (.aload_n 0, 1) := by decide +kernel
theorem dX9_init_12 : decode cX9_init 12 = .ok (.iconst 4, 1) := by decide +kernel
theorem dX9_init_13 : decode cX9_init 13 = .ok (.newarray .int, 2) := by decide +kernel
theorem dX9_init_15 : decode cX9_init 15 = .ok (.putfield 13, 3) := by decide +kernel
theorem dX9_init_18 : decode cX9_init 18 = .ok (.aload_n 0, 1) := by decide +kernel
theorem dX9_init_19 : decode cX9_init 19 = .ok (.sipush 256, 3) := by decide +kernel
theorem dX9_init_22 : decode cX9_init 22 = .ok (.newarray .int, 2) := by decide +kernel
theorem dX9_init_24 : decode cX9_init 24 = .ok (.putfield 16, 3) := by decide +kernel
theorem dX9_init_27 : decode cX9_init 27 = .ok (.aload_n 0, 1) := by decide +kernel
theorem dX9_init_28 : decode cX9_init 28 = .ok (.iconst 4, 1) := by decide +kernel
theorem dX9_init_29 : decode cX9_init 29 = .ok (.putfield 19, 3) := by decide +kernel
theorem dX9_init_32 : decode cX9_init 32 = .ok (.aload_n 0, 1) := by decide +kernel
theorem dX9_init_33 : decode cX9_init 33 = .ok (.iconst 5, 1) := by decide +kernel
theorem dX9_init_34 : decode cX9_init 34 = .ok (.putfield 23, 3) := by decide +kernel
theorem dX9_init_37 : decode cX9_init 37 = .ok (.aload_n 0, 1) := by decide +kernel
theorem dX9_init_38 : decode cX9_init 38 = .ok (.bipush 6, 2) := by decide +kernel
theorem dX9_init_40 : decode cX9_init 40 = .ok (.putfield 26, 3) := by decide +kernel
theorem dX9_init_43 : decode cX9_init 43 = .ok (.aload_n 0, 1) := by decide +kernel
theorem dX9_init_44 : decode cX9_init 44 = .ok (.bipush 8, 2) := by decide +kernel
theorem dX9_init_46 : decode cX9_init 46 = .ok (.newarray .int, 2) := by decide +kernel
theorem dX9_init_48 : decode cX9_init 48 = .ok (.putfield 29, 3) := by decide +kernel
theorem dX9_init_51 : decode cX9_init 51 = .ok (.aload_n 0, 1) := by decide +kernel
theorem dX9_init_52 : decode cX9_init 52 = .ok (.bipush 8, 2) := by decide +kernel
theorem dX9_init_54 : decode cX9_init 54 = .ok (.newarray .int, 2) := by decide +kernel
theorem dX9_init_56 : decode cX9_init 56 = .ok (.putfield 32, 3) := by decide +kernel
theorem dX9_init_59 : decode cX9_init 59 = .ok (.aload_n 0, 1) := by decide +kernel
theorem dX9_init_60 : decode cX9_init 60 = .ok (.bipush 8, 2) := by decide +kernel
theorem dX9_init_62 : decode cX9_init 62 = .ok (.newarray .int, 2) := by decide +kernel
theorem dX9_init_64 : decode cX9_init 64 = .ok (.putfield 35, 3) := by decide +kernel
theorem dX9_init_67 : decode cX9_init 67 = .ok (.aload_n 0, 1) := by decide +kernel
theorem dX9_init_68 : decode cX9_init 68 = .ok (.sipush 3721, 3) := by decide +kernel
theorem dX9_init_71 : decode cX9_init 71 = .ok (.newarray .boolean, 2) := by decide +kernel
theorem dX9_init_73 : decode cX9_init 73 = .ok (.putfield 38, 3) := by decide +kernel
theorem dX9_init_76 : decode cX9_init 76 = .ok (.aload_n 0, 1) := by decide +kernel
theorem dX9_init_77 : decode cX9_init 77 = .ok (.ldc 42, 2) := by decide +kernel
theorem dX9_init_79 : decode cX9_init 79 = .ok (.newarray .long, 2) := by decide +kernel
theorem dX9_init_81 : decode cX9_init 81 = .ok (.putfield 43, 3) := by decide +kernel
theorem dX9_init_84 : decode cX9_init 84 = .ok (.aload_n 0, 1) := by decide +kernel
theorem dX9_init_85 : decode cX9_init 85 = .ok (.ldc 47, 2) := by decide +kernel
theorem dX9_init_87 : decode cX9_init 87 = .ok (.newarray .long, 2) := by decide +kernel
theorem dX9_init_89 : decode cX9_init 89 = .ok (.putfield 48, 3) := by decide +kernel
theorem dX9_init_92 : decode cX9_init 92 = .ok (.aload_n 0, 1) := by decide +kernel
theorem dX9_init_93 : decode cX9_init 93 = .ok (.ldc 47, 2) := by decide +kernel
theorem dX9_init_95 : decode cX9_init 95 = .ok (.newarray .long, 2) := by decide +kernel
theorem dX9_init_97 : decode cX9_init 97 = .ok (.putfield 51, 3) := by decide +kernel
theorem dX9_init_100 : decode cX9_init 100 = .ok (.aload_n 0, 1) := by decide +kernel
theorem dX9_init_101 : decode cX9_init 101 = .ok (.sipush 29768, 3) := by decide +kernel
theorem dX9_init_104 : decode cX9_init 104 = .ok (.newarray .int, 2) := by decide +kernel
theorem dX9_init_106 : decode cX9_init 106 = .ok (.putfield 54, 3) := by decide +kernel
theorem dX9_init_109 : decode cX9_init 109 = .ok (.aload_n 0, 1) := by decide +kernel
theorem dX9_init_110 : decode cX9_init 110 = .ok (.sipush 29768, 3) := by decide +kernel
theorem dX9_init_113 : decode cX9_init 113 = .ok (.newarray .int, 2) := by decide +kernel
theorem dX9_init_115 : decode cX9_init 115 = .ok (.putfield 57, 3) := by decide +kernel
theorem dX9_init_118 : decode cX9_init 118 = .ok (.aload_n 0, 1) := by decide +kernel
theorem dX9_init_119 : decode cX9_init 119 = .ok (.iconst 4, 1) := by decide +kernel
theorem dX9_init_120 : decode cX9_init 120 = .ok (.newarray .int, 2) := by decide +kernel
theorem dX9_init_122 : decode cX9_init 122 = .ok (.putfield 60, 3) := by decide +kernel
theorem dX9_init_125 : decode cX9_init 125 = .ok (.aload_n 0, 1) := by decide +kernel
theorem dX9_init_126 : decode cX9_init 126 = .ok (.iconst 4, 1) := by decide +kernel
theorem dX9_init_127 : decode cX9_init 127 = .ok (.newarray .int, 2) := by decide +kernel
theorem dX9_init_129 : decode cX9_init 129 = .ok (.putfield 63, 3) := by decide +kernel
theorem dX9_init_132 : decode cX9_init 132 = .ok (.aload_n 0, 1) := by decide +kernel
theorem dX9_init_133 : decode cX9_init 133 = .ok (.iconst 4, 1) := by decide +kernel
theorem dX9_init_134 : decode cX9_init 134 = .ok (.newarray .int, 2) := by decide +kernel
theorem dX9_init_136 : decode cX9_init 136 = .ok (.putfield 66, 3) := by decide +kernel
theorem dX9_init_139 : decode cX9_init 139 = .ok (.aload_n 0, 1) := by decide +kernel
theorem dX9_init_140 : decode cX9_init 140 = .ok (.iconst 4, 1) := by decide +kernel
theorem dX9_init_141 : decode cX9_init 141 = .ok (.newarray .int, 2) := by decide +kernel
theorem dX9_init_143 : decode cX9_init 143 = .ok (.putfield 69, 3) := by decide +kernel
theorem dX9_init_146 : decode cX9_init 146 = .ok (.aload_n 0, 1) := by decide +kernel
theorem dX9_init_147 : decode cX9_init 147 = .ok (.iconst (-1), 1) := by decide +kernel
theorem dX9_init_148 : decode cX9_init 148 = .ok (.putfield 72, 3) := by decide +kernel
theorem dX9_init_151 : decode cX9_init 151 = .ok (.aload_n 0, 1) := by decide +kernel
theorem dX9_init_152 : decode cX9_init 152 = .ok (.bipush 64, 2) := by decide +kernel
theorem dX9_init_154 : decode cX9_init 154 = .ok (.newarray .long, 2) := by decide +kernel
theorem dX9_init_156 : decode cX9_init 156 = .ok (.putfield 75, 3) := by decide +kernel
theorem dX9_init_159 : decode cX9_init 159 = .ok (.aload_n 0, 1) := by decide +kernel
theorem dX9_init_160 : decode cX9_init 160 = .ok (.bipush 64, 2) := by decide +kernel
theorem dX9_init_162 : decode cX9_init 162 = .ok (.newarray .byte, 2) := by decide +kernel
theorem dX9_init_164 : decode cX9_init 164 = .ok (.putfield 78, 3) := by decide +kernel
theorem dX9_init_167 : decode cX9_init 167 = .ok (.aload_n 0, 1) := by decide +kernel
theorem dX9_init_168 : decode cX9_init 168 = .ok (.bipush 16, 2) := by decide +kernel
theorem dX9_init_170 : decode cX9_init 170 = .ok (.newarray .long, 2) := by decide +kernel
theorem dX9_init_172 : decode cX9_init 172 = .ok (.putfield 82, 3) := by decide +kernel
theorem dX9_init_175 : decode cX9_init 175 = .ok (.aload_n 0, 1) := by decide +kernel
theorem dX9_init_176 : decode cX9_init 176 = .ok (.sipush 5550, 3) := by decide +kernel
theorem dX9_init_179 : decode cX9_init 179 = .ok (.newarray .int, 2) := by decide +kernel
theorem dX9_init_181 : decode cX9_init 181 = .ok (.putfield 85, 3) := by decide +kernel
theorem dX9_init_184 : decode cX9_init 184 = .ok (.aload_n 0, 1) := by decide +kernel
theorem dX9_init_185 : decode cX9_init 185 = .ok (.sipush 3782, 3) := by decide +kernel
theorem dX9_init_188 : decode cX9_init 188 = .ok (.newarray .long, 2) := by decide +kernel
theorem dX9_init_190 : decode cX9_init 190 = .ok (.putfield 88, 3) := by decide +kernel
theorem dX9_init_193 : decode cX9_init 193 = .ok (.aload_n 0, 1) := by decide +kernel
theorem dX9_init_194 : decode cX9_init 194 = .ok (.sipush 961, 3) := by decide +kernel
theorem dX9_init_197 : decode cX9_init 197 = .ok (.newarray .long, 2) := by decide +kernel
theorem dX9_init_199 : decode cX9_init 199 = .ok (.putfield 91, 3) := by decide +kernel
theorem dX9_init_202 : decode cX9_init 202 = .ok (.aload_n 0, 1) := by decide +kernel
theorem dX9_init_203 : decode cX9_init 203 = .ok (.sipush 961, 3) := by decide +kernel
theorem dX9_init_206 : decode cX9_init 206 = .ok (.newarray .long, 2) := by decide +kernel
theorem dX9_init_208 : decode cX9_init 208 = .ok (.putfield 94, 3) := by decide +kernel
theorem dX9_init_211 : decode cX9_init 211 = .ok (.aload_n 0, 1) := by decide +kernel
theorem dX9_init_212 : decode cX9_init 212 = .ok (.sipush 961, 3) := by decide +kernel
theorem dX9_init_215 : decode cX9_init 215 = .ok (.newarray .long, 2) := by decide +kernel
theorem dX9_init_217 : decode cX9_init 217 = .ok (.putfield 97, 3) := by decide +kernel
theorem dX9_init_220 : decode cX9_init 220 = .ok (.aload_n 0, 1) := by decide +kernel
theorem dX9_init_221 : decode cX9_init 221 = .ok (.sipush 128, 3) := by decide +kernel
theorem dX9_init_224 : decode cX9_init 224 = .ok (.newarray .long, 2) := by decide +kernel
theorem dX9_init_226 : decode cX9_init 226 = .ok (.putfield 100, 3) := by decide +kernel
theorem dX9_init_229 : decode cX9_init 229 = .ok (.aload_n 0, 1) := by decide +kernel
theorem dX9_init_230 : decode cX9_init 230 = .ok (.bipush 31, 2) := by decide +kernel
theorem dX9_init_232 : decode cX9_init 232 = .ok (.newarray .long, 2) := by decide +kernel
theorem dX9_init_234 : decode cX9_init 234 = .ok (.putfield 103, 3) := by decide +kernel
theorem dX9_init_237 : decode cX9_init 237 = .ok (.aload_n 0, 1) := by decide +kernel
theorem dX9_init_238 : decode cX9_init 238 = .ok (.bipush 31, 2) := by decide +kernel
theorem dX9_init_240 : decode cX9_init 240 = .ok (.newarray .long, 2) := by decide +kernel
theorem dX9_init_242 : decode cX9_init 242 = .ok (.putfield 106, 3) := by decide +kernel
theorem dX9_init_245 : decode cX9_init 245 = .ok (.aload_n 0, 1) := by decide +kernel
theorem dX9_init_246 : decode cX9_init 246 = .ok (.sipush 2048, 3) := by decide +kernel
theorem dX9_init_249 : decode cX9_init 249 = .ok (.newarray .long, 2) := by decide +kernel
theorem dX9_init_251 : decode cX9_init 251 = .ok (.putfield 109, 3) := by decide +kernel
theorem dX9_init_254 : decode cX9_init 254 = .ok (.iconst 0, 1) := by decide +kernel
theorem dX9_init_255 : decode cX9_init 255 = .ok (.istore_n 1, 1) := by decide +kernel
theorem dX9_init_256 : decode cX9_init 256 = .ok (.iload_n 1, 1) := by decide +kernel
theorem dX9_init_257 : decode cX9_init 257 = .ok (.iconst 4, 1) := by decide +kernel
theorem dX9_init_258 : decode cX9_init 258 = .ok (.if_icmp .ge 16, 3) := by decide +kernel
theorem dX9_init_261 : decode cX9_init 261 = .ok (.aload_n 0, 1) := by decide +kernel
theorem dX9_init_262 : decode cX9_init 262 = .ok (.getfield 13, 3) := by decide +kernel
theorem dX9_init_265 : decode cX9_init 265 = .ok (.iload_n 1, 1) := by decide +kernel
theorem dX9_init_266 : decode cX9_init 266 = .ok (.iconst (-1), 1) := by decide +kernel
theorem dX9_init_267 : decode cX9_init 267 = .ok (.iastore, 1) := by decide +kernel
theorem dX9_init_268 : decode cX9_init 268 = .ok (.iinc 1 1, 3) := by decide +kernel
theorem dX9_init_271 : decode cX9_init 271 = .ok (.goto (-15), 3) := by decide +kernel
theorem dX9_init_274 : decode cX9_init 274 = .ok (.aload_n 0, 1) := by decide +kernel
theorem dX9_init_275 : decode cX9_init 275 = .ok (.getfield 29, 3) := by decide +kernel
theorem dX9_init_278 : decode cX9_init 278 = .ok (.iconst 0, 1) := by decide +kernel
theorem dX9_init_279 : decode cX9_init 279 = .ok (.iconst 1, 1) := by decide +kernel
theorem dX9_init_280 : decode cX9_init 280 = .ok (.iastore, 1) := by decide +kernel
theorem dX9_init_281 : decode cX9_init 281 = .ok (.aload_n 0, 1) := by decide +kernel
theorem dX9_init_282 : decode cX9_init 282 = .ok (.getfield 32, 3) := by decide +kernel
theorem dX9_init_285 : decode cX9_init 285 = .ok (.iconst 1, 1) := by decide +kernel
theorem dX9_init_286 : decode cX9_init 286 = .ok (.iconst 1, 1) := by decide +kernel
theorem dX9_init_287 : decode cX9_init 287 = .ok (.iastore, 1) := by decide +kernel
theorem dX9_init_288 : decode cX9_init 288 = .ok (.aload_n 0, 1) := by decide +kernel
theorem dX9_init_289 : decode cX9_init 289 = .ok (.getfield 29, 3) := by decide +kernel
theorem dX9_init_292 : decode cX9_init 292 = .ok (.iconst 2, 1) := by decide +kernel
theorem dX9_init_293 : decode cX9_init 293 = .ok (.iconst (-1), 1) := by decide +kernel
theorem dX9_init_294 : decode cX9_init 294 = .ok (.iastore, 1) := by decide +kernel
theorem dX9_init_295 : decode cX9_init 295 = .ok (.aload_n 0, 1) := by decide +kernel
theorem dX9_init_296 : decode cX9_init 296 = .ok (.getfield 32, 3) := by decide +kernel
theorem dX9_init_299 : decode cX9_init 299 = .ok (.iconst 3, 1) := by decide +kernel
theorem dX9_init_300 : decode cX9_init 300 = .ok (.iconst (-1), 1) := by decide +kernel
theorem dX9_init_301 : decode cX9_init 301 = .ok (.iastore, 1) := by decide +kernel
theorem dX9_init_302 : decode cX9_init 302 = .ok (.iconst 0, 1) := by decide +kernel
theorem dX9_init_303 : decode cX9_init 303 = .ok (.istore_n 1, 1) := by decide +kernel
theorem dX9_init_304 : decode cX9_init 304 = .ok (.iload_n 1, 1) := by decide +kernel
theorem dX9_init_305 : decode cX9_init 305 = .ok (.iconst 4, 1) := by decide +kernel
theorem dX9_init_306 : decode cX9_init 306 = .ok (.if_icmp .ge 16, 3) := by decide +kernel
theorem dX9_init_309 : decode cX9_init 309 = .ok (.aload_n 0, 1) := by decide +kernel
theorem dX9_init_310 : decode cX9_init 310 = .ok (.getfield 35, 3) := by decide +kernel
theorem dX9_init_313 : decode cX9_init 313 = .ok (.iload_n 1, 1) := by decide +kernel
theorem dX9_init_314 : decode cX9_init 314 = .ok (.iconst 1, 1) := by decide +kernel
theorem dX9_init_315 : decode cX9_init 315 = .ok (.iastore, 1) := by decide +kernel
theorem dX9_init_316 : decode cX9_init 316 = .ok (.iinc 1 1, 3) := by decide +kernel
theorem dX9_init_319 : decode cX9_init 319 = .ok (.goto (-15), 3) := by decide +kernel
theorem dX9_init_322 : decode cX9_init 322 = .ok (.return_, 1) := by decide +kernel
theorem dX9_thrown_0 : decode cX9_thrown 0 = .ok (.aload_n 0, 1) := by decide +kernel
theorem dX9_thrown_1 : decode cX9_thrown 1 = .ok (.getfield 112, 3) := by decide +kernel
theorem dX9_thrown_4 : decode cX9_thrown 4 = .ok (.ireturn, 1) := by decide +kernel
theorem dX9_status_0 : decode cX9_status 0 = .ok (.aload_n 0, 1) := by decide +kernel
theorem dX9_status_1 : decode cX9_status 1 = .ok (.iconst 0, 1) := by decide +kernel
theorem dX9_status_2 : decode cX9_status 2 = .ok (.putfield 112, 3) := by decide +kernel
theorem dX9_status_5 : decode cX9_status 5 = .ok (.aload_n 0, 1) := by decide +kernel
theorem dX9_status_6 : decode cX9_status 6 = .ok (.getfield 115, 3) := by decide +kernel
theorem dX9_status_9 : decode cX9_status 9 = .ok (.ireturn, 1) := by decide +kernel
