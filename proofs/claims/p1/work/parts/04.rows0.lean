theorem dX0_init_0 : decode cX0_init 0 = .ok (.aload_n 0, 1) := by decide +kernel
theorem dX0_init_1 : decode cX0_init 1 = .ok (.invokespecial 5, 3) := by decide +kernel
theorem dX0_init_4 : decode cX0_init 4 = .ok (.aload_n 0, 1) := by decide +kernel
theorem dX0_init_5 : decode cX0_init 5 = .ok (.sipush 3782, 3) := by decide +kernel
theorem dX0_init_8 : decode cX0_init 8 = .ok (.newarray .long, 2) := by decide +kernel
theorem dX0_init_10 : decode cX0_init 10 = .ok (.putfield 11, 3) := by decide +kernel
theorem dX0_init_13 : decode cX0_init 13 = .ok (.return_, 1) := by decide +kernel
set_option maxRecDepth 20000 in
theorem ggX0_endings_X0_fill : GoodIn wsX0_endings wsX0_fill := goodIn_r _ [6, 7, 1, 8, 9] (by decide +kernel) (by decide +kernel)
set_option maxRecDepth 20000 in
theorem gX0_endings_X0_fill : GoodIn wsX0_endings (wsV RX0 15 RX0 yX0_fill wsX0_fill) := goodIn_app (goodIn_of _ (by decide +kernel)) ggX0_endings_X0_fill
theorem dX0_endings_0 : decode cX0_endings 0 = .ok (.aload_n 0, 1) := by decide +kernel
theorem dX0_endings_1 : decode cX0_endings 1 = .ok (.invokevirtual 15, 3) := by decide +kernel
theorem dX0_endings_4 : decode cX0_endings 4 = .ok (.iload_n 1, 1) := by decide +kernel
theorem dX0_endings_5 : decode cX0_endings 5 = .ok (.ifCond .lt 19, 3) := by decide +kernel
theorem dX0_endings_8 : decode cX0_endings 8 = .ok (.iload_n 1, 1) := by decide +kernel
theorem dX0_endings_9 : decode cX0_endings 9 = .ok (.bipush 60, 2) := by decide +kernel
theorem dX0_endings_11 : decode cX0_endings 11 = .ok (.if_icmp .gt 13, 3) := by decide +kernel
theorem dX0_endings_14 : decode cX0_endings 14 = .ok (.iload_n 2, 1) := by decide +kernel
theorem dX0_endings_15 : decode cX0_endings 15 = .ok (.ifCond .lt 9, 3) := by decide +kernel
theorem dX0_endings_18 : decode cX0_endings 18 = .ok (.iload_n 2, 1) := by decide +kernel
theorem dX0_endings_19 : decode cX0_endings 19 = .ok (.bipush 62, 2) := by decide +kernel
theorem dX0_endings_21 : decode cX0_endings 21 = .ok (.if_icmp .lt 5, 3) := by decide +kernel
theorem dX0_endings_24 : decode cX0_endings 24 = .ok (.lconst 0, 1) := by decide +kernel
theorem dX0_endings_25 : decode cX0_endings 25 = .ok (.lreturn, 1) := by decide +kernel
theorem dX0_endings_26 : decode cX0_endings 26 = .ok (.aload_n 0, 1) := by decide +kernel
theorem dX0_endings_27 : decode cX0_endings 27 = .ok (.getfield 11, 3) := by decide +kernel
theorem dX0_endings_30 : decode cX0_endings 30 = .ok (.iload_n 1, 1) := by decide +kernel
theorem dX0_endings_31 : decode cX0_endings 31 = .ok (.bipush 62, 2) := by decide +kernel
theorem dX0_endings_33 : decode cX0_endings 33 = .ok (.imul, 1) := by decide +kernel
theorem dX0_endings_34 : decode cX0_endings 34 = .ok (.iload_n 2, 1) := by decide +kernel
theorem dX0_endings_35 : decode cX0_endings 35 = .ok (.iadd, 1) := by decide +kernel
theorem dX0_endings_36 : decode cX0_endings 36 = .ok (.laload, 1) := by decide +kernel
theorem dX0_endings_37 : decode cX0_endings 37 = .ok (.lreturn, 1) := by decide +kernel
theorem dX0_fill_0 : decode cX0_fill 0 = .ok (.aload_n 0, 1) := by decide +kernel
theorem dX0_fill_1 : decode cX0_fill 1 = .ok (.getfield 18, 3) := by decide +kernel
theorem dX0_fill_4 : decode cX0_fill 4 = .ok (.ifCond .eq 4, 3) := by decide +kernel
theorem dX0_fill_7 : decode cX0_fill 7 = .ok (.return_, 1) := by decide +kernel
theorem dX0_fill_8 : decode cX0_fill 8 = .ok (.aload_n 0, 1) := by decide +kernel
theorem dX0_fill_9 : decode cX0_fill 9 = .ok (.iconst 1, 1) := by decide +kernel
theorem dX0_fill_10 : decode cX0_fill 10 = .ok (.putfield 18, 3) := by decide +kernel
theorem dX0_fill_13 : decode cX0_fill 13 = .ok (.aload_n 0, 1) := by decide +kernel
theorem dX0_fill_14 : decode cX0_fill 14 = .ok (.getfield 11, 3) := by decide +kernel
theorem dX0_fill_17 : decode cX0_fill 17 = .ok (.iconst 0, 1) := by decide +kernel
theorem dX0_fill_18 : decode cX0_fill 18 = .ok (.lconst 1, 1) := by decide +kernel
theorem dX0_fill_19 : decode cX0_fill 19 = .ok (.lastore, 1) := by decide +kernel
theorem dX0_fill_20 : decode cX0_fill 20 = .ok (.iconst 1, 1) := by decide +kernel
theorem dX0_fill_21 : decode cX0_fill 21 = .ok (.istore_n 1, 1) := by decide +kernel
theorem dX0_fill_22 : decode cX0_fill 22 = .ok (.iload_n 1, 1) := by decide +kernel
theorem dX0_fill_23 : decode cX0_fill 23 = .ok (.bipush 60, 2) := by decide +kernel
theorem dX0_fill_25 : decode cX0_fill 25 = .ok (.if_icmp .gt 74, 3) := by decide +kernel
theorem dX0_fill_28 : decode cX0_fill 28 = .ok (.iload_n 1, 1) := by decide +kernel
theorem dX0_fill_29 : decode cX0_fill 29 = .ok (.iconst 1, 1) := by decide +kernel
theorem dX0_fill_30 : decode cX0_fill 30 = .ok (.isub, 1) := by decide +kernel
theorem dX0_fill_31 : decode cX0_fill 31 = .ok (.bipush 62, 2) := by decide +kernel
theorem dX0_fill_33 : decode cX0_fill 33 = .ok (.imul, 1) := by decide +kernel
theorem dX0_fill_34 : decode cX0_fill 34 = .ok (.istore_n 2, 1) := by decide +kernel
theorem dX0_fill_35 : decode cX0_fill 35 = .ok (.iconst 0, 1) := by decide +kernel
theorem dX0_fill_36 : decode cX0_fill 36 = .ok (.istore_n 3, 1) := by decide +kernel
theorem dX0_fill_37 : decode cX0_fill 37 = .ok (.iload_n 3, 1) := by decide +kernel
theorem dX0_fill_38 : decode cX0_fill 38 = .ok (.bipush 60, 2) := by decide +kernel
theorem dX0_fill_40 : decode cX0_fill 40 = .ok (.if_icmp .gt 53, 3) := by decide +kernel
theorem dX0_fill_43 : decode cX0_fill 43 = .ok (.iload_n 3, 1) := by decide +kernel
theorem dX0_fill_44 : decode cX0_fill 44 = .ok (.ifCond .le 16, 3) := by decide +kernel
theorem dX0_fill_47 : decode cX0_fill 47 = .ok (.aload_n 0, 1) := by decide +kernel
theorem dX0_fill_48 : decode cX0_fill 48 = .ok (.getfield 11, 3) := by decide +kernel
theorem dX0_fill_51 : decode cX0_fill 51 = .ok (.iload_n 2, 1) := by decide +kernel
theorem dX0_fill_52 : decode cX0_fill 52 = .ok (.iload_n 3, 1) := by decide +kernel
theorem dX0_fill_53 : decode cX0_fill 53 = .ok (.iadd, 1) := by decide +kernel
theorem dX0_fill_54 : decode cX0_fill 54 = .ok (.iconst 1, 1) := by decide +kernel
theorem dX0_fill_55 : decode cX0_fill 55 = .ok (.isub, 1) := by decide +kernel
theorem dX0_fill_56 : decode cX0_fill 56 = .ok (.laload, 1) := by decide +kernel
theorem dX0_fill_57 : decode cX0_fill 57 = .ok (.goto 4, 3) := by decide +kernel
theorem dX0_fill_60 : decode cX0_fill 60 = .ok (.lconst 0, 1) := by decide +kernel
theorem dX0_fill_61 : decode cX0_fill 61 = .ok (.lstore 4, 2) := by decide +kernel
theorem dX0_fill_63 : decode cX0_fill 63 = .ok (.aload_n 0, 1) := by decide +kernel
theorem dX0_fill_64 : decode cX0_fill 64 = .ok (.getfield 11, 3) := by decide +kernel
theorem dX0_fill_67 : decode cX0_fill 67 = .ok (.iload_n 1, 1) := by decide +kernel
theorem dX0_fill_68 : decode cX0_fill 68 = .ok (.bipush 62, 2) := by decide +kernel
theorem dX0_fill_70 : decode cX0_fill 70 = .ok (.imul, 1) := by decide +kernel
theorem dX0_fill_71 : decode cX0_fill 71 = .ok (.iload_n 3, 1) := by decide +kernel
theorem dX0_fill_72 : decode cX0_fill 72 = .ok (.iadd, 1) := by decide +kernel
theorem dX0_fill_73 : decode cX0_fill 73 = .ok (.lload 4, 2) := by decide +kernel
theorem dX0_fill_75 : decode cX0_fill 75 = .ok (.aload_n 0, 1) := by decide +kernel
theorem dX0_fill_76 : decode cX0_fill 76 = .ok (.getfield 11, 3) := by decide +kernel
theorem dX0_fill_79 : decode cX0_fill 79 = .ok (.iload_n 2, 1) := by decide +kernel
theorem dX0_fill_80 : decode cX0_fill 80 = .ok (.iload_n 3, 1) := by decide +kernel
theorem dX0_fill_81 : decode cX0_fill 81 = .ok (.iadd, 1) := by decide +kernel
theorem dX0_fill_82 : decode cX0_fill 82 = .ok (.iconst 1, 1) := by decide +kernel
theorem dX0_fill_83 : decode cX0_fill 83 = .ok (.iadd, 1) := by decide +kernel
theorem dX0_fill_84 : decode cX0_fill 84 = .ok (.laload, 1) := by decide +kernel
theorem dX0_fill_85 : decode cX0_fill 85 = .ok (.ladd, 1) := by decide +kernel
theorem dX0_fill_86 : decode cX0_fill 86 = .ok (.lastore, 1) := by decide +kernel
theorem dX0_fill_87 : decode cX0_fill 87 = .ok (.iinc 3 1, 3) := by decide +kernel
theorem dX0_fill_90 : decode cX0_fill 90 = .ok (.goto (-53), 3) := by decide +kernel
theorem dX0_fill_93 : decode cX0_fill 93 = .ok (.iinc 1 1, 3) := by decide +kernel
theorem dX0_fill_96 : decode cX0_fill 96 = .ok (.goto (-74), 3) := by decide +kernel
theorem dX0_fill_99 : decode cX0_fill 99 = .ok (.return_, 1) := by decide +kernel
set_option maxRecDepth 20000 in
theorem ggX0_spell_X0_endings : GoodIn wsX0_spell wsX0_endings := goodIn_r _ [5, 6, 7, 8, 9, 4, 10, 11, 12, 13] (by decide +kernel) (by decide +kernel)
set_option maxRecDepth 20000 in
theorem gX0_spell_X0_endings : GoodIn wsX0_spell (wsV RX0 22 RX0 yX0_endings wsX0_endings) := goodIn_app (goodIn_of _ (by decide +kernel)) ggX0_spell_X0_endings
theorem dX0_spell_0 : decode cX0_spell 0 = .ok (.lload_n 2, 1) := by decide +kernel
theorem dX0_spell_1 : decode cX0_spell 1 = .ok (.lstore 5, 2) := by decide +kernel
theorem dX0_spell_3 : decode cX0_spell 3 = .ok (.iconst 0, 1) := by decide +kernel
theorem dX0_spell_4 : decode cX0_spell 4 = .ok (.istore 7, 2) := by decide +kernel
theorem dX0_spell_6 : decode cX0_spell 6 = .ok (.iconst 0, 1) := by decide +kernel
theorem dX0_spell_7 : decode cX0_spell 7 = .ok (.istore 8, 2) := by decide +kernel
theorem dX0_spell_9 : decode cX0_spell 9 = .ok (.iload 8, 2) := by decide +kernel
theorem dX0_spell_11 : decode cX0_spell 11 = .ok (.iconst 2, 1) := by decide +kernel
theorem dX0_spell_12 : decode cX0_spell 12 = .ok (.iload_n 1, 1) := by decide +kernel
theorem dX0_spell_13 : decode cX0_spell 13 = .ok (.imul, 1) := by decide +kernel
theorem dX0_spell_14 : decode cX0_spell 14 = .ok (.if_icmp .ge 73, 3) := by decide +kernel
theorem dX0_spell_17 : decode cX0_spell 17 = .ok (.iload 8, 2) := by decide +kernel
theorem dX0_spell_19 : decode cX0_spell 19 = .ok (.aload 4, 2) := by decide +kernel
theorem dX0_spell_21 : decode cX0_spell 21 = .ok (.arraylength, 1) := by decide +kernel
theorem dX0_spell_22 : decode cX0_spell 22 = .ok (.if_icmp .ge 65, 3) := by decide +kernel
theorem dX0_spell_25 : decode cX0_spell 25 = .ok (.aload_n 0, 1) := by decide +kernel
theorem dX0_spell_26 : decode cX0_spell 26 = .ok (.iconst 2, 1) := by decide +kernel
theorem dX0_spell_27 : decode cX0_spell 27 = .ok (.iload_n 1, 1) := by decide +kernel
theorem dX0_spell_28 : decode cX0_spell 28 = .ok (.imul, 1) := by decide +kernel
theorem dX0_spell_29 : decode cX0_spell 29 = .ok (.iload 8, 2) := by decide +kernel
theorem dX0_spell_31 : decode cX0_spell 31 = .ok (.isub, 1) := by decide +kernel
theorem dX0_spell_32 : decode cX0_spell 32 = .ok (.iconst 1, 1) := by decide +kernel
theorem dX0_spell_33 : decode cX0_spell 33 = .ok (.isub, 1) := by decide +kernel
theorem dX0_spell_34 : decode cX0_spell 34 = .ok (.iload 7, 2) := by decide +kernel
theorem dX0_spell_36 : decode cX0_spell 36 = .ok (.iconst 1, 1) := by decide +kernel
theorem dX0_spell_37 : decode cX0_spell 37 = .ok (.iadd, 1) := by decide +kernel
theorem dX0_spell_38 : decode cX0_spell 38 = .ok (.invokevirtual 22, 3) := by decide +kernel
theorem dX0_spell_41 : decode cX0_spell 41 = .ok (.lstore 9, 2) := by decide +kernel
theorem dX0_spell_43 : decode cX0_spell 43 = .ok (.lload 5, 2) := by decide +kernel
theorem dX0_spell_45 : decode cX0_spell 45 = .ok (.lload 9, 2) := by decide +kernel
theorem dX0_spell_47 : decode cX0_spell 47 = .ok (.lcmp, 1) := by decide +kernel
theorem dX0_spell_48 : decode cX0_spell 48 = .ok (.ifCond .ge 16, 3) := by decide +kernel
theorem dX0_spell_51 : decode cX0_spell 51 = .ok (.aload 4, 2) := by decide +kernel
theorem dX0_spell_53 : decode cX0_spell 53 = .ok (.iload 8, 2) := by decide +kernel
theorem dX0_spell_55 : decode cX0_spell 55 = .ok (.bipush 40, 2) := by decide +kernel
theorem dX0_spell_57 : decode cX0_spell 57 = .ok (.iastore, 1) := by decide +kernel
theorem dX0_spell_58 : decode cX0_spell 58 = .ok (.iinc 7 1, 3) := by decide +kernel
theorem dX0_spell_61 : decode cX0_spell 61 = .ok (.goto 20, 3) := by decide +kernel
theorem dX0_spell_64 : decode cX0_spell 64 = .ok (.lload 5, 2) := by decide +kernel
theorem dX0_spell_66 : decode cX0_spell 66 = .ok (.lload 9, 2) := by decide +kernel
theorem dX0_spell_68 : decode cX0_spell 68 = .ok (.lsub, 1) := by decide +kernel
theorem dX0_spell_69 : decode cX0_spell 69 = .ok (.lstore 5, 2) := by decide +kernel
theorem dX0_spell_71 : decode cX0_spell 71 = .ok (.aload 4, 2) := by decide +kernel
theorem dX0_spell_73 : decode cX0_spell 73 = .ok (.iload 8, 2) := by decide +kernel
theorem dX0_spell_75 : decode cX0_spell 75 = .ok (.bipush 41, 2) := by decide +kernel
theorem dX0_spell_77 : decode cX0_spell 77 = .ok (.iastore, 1) := by decide +kernel
theorem dX0_spell_78 : decode cX0_spell 78 = .ok (.iinc 7 (-1), 3) := by decide +kernel
theorem dX0_spell_81 : decode cX0_spell 81 = .ok (.iinc 8 1, 3) := by decide +kernel
theorem dX0_spell_84 : decode cX0_spell 84 = .ok (.goto (-75), 3) := by decide +kernel
theorem dX0_spell_87 : decode cX0_spell 87 = .ok (.return_, 1) := by decide +kernel
set_option maxRecDepth 20000 in
theorem ggX0_numberOf_X5_at : GoodIn wsX0_numberOf wsX5_at := goodIn_r _ [6, 7, 8, 9, 10, 5, 11, 12, 13, 14, 15, 27, 28, 29] (by decide +kernel) (by decide +kernel)
set_option maxRecDepth 20000 in
theorem gX0_numberOf_X5_at : GoodIn wsX0_numberOf (wsV RX0 26 RX5 yX5_at wsX5_at) := goodIn_app (goodIn_of _ (by decide +kernel)) ggX0_numberOf_X5_at
set_option maxRecDepth 20000 in
theorem ggX0_numberOf_X0_endings : GoodIn wsX0_numberOf wsX0_endings := goodIn_r _ [20, 21, 22, 23, 24, 19, 25, 26, 30, 31] (by decide +kernel) (by decide +kernel)
set_option maxRecDepth 20000 in
theorem gX0_numberOf_X0_endings : GoodIn wsX0_numberOf (wsV RX0 22 RX0 yX0_endings wsX0_endings) := goodIn_app (goodIn_of _ (by decide +kernel)) ggX0_numberOf_X0_endings
theorem dX0_numberOf_0 : decode cX0_numberOf 0 = .ok (.lconst 0, 1) := by decide +kernel
theorem dX0_numberOf_1 : decode cX0_numberOf 1 = .ok (.lstore 4, 2) := by decide +kernel
theorem dX0_numberOf_3 : decode cX0_numberOf 3 = .ok (.iconst 0, 1) := by decide +kernel
theorem dX0_numberOf_4 : decode cX0_numberOf 4 = .ok (.istore 6, 2) := by decide +kernel
theorem dX0_numberOf_6 : decode cX0_numberOf 6 = .ok (.iconst 0, 1) := by decide +kernel
theorem dX0_numberOf_7 : decode cX0_numberOf 7 = .ok (.istore 7, 2) := by decide +kernel
theorem dX0_numberOf_9 : decode cX0_numberOf 9 = .ok (.iload 7, 2) := by decide +kernel
theorem dX0_numberOf_11 : decode cX0_numberOf 11 = .ok (.iload_n 3, 1) := by decide +kernel
theorem dX0_numberOf_12 : decode cX0_numberOf 12 = .ok (.if_icmp .ge 69, 3) := by decide +kernel
theorem dX0_numberOf_15 : decode cX0_numberOf 15 = .ok (.aload_n 1, 1) := by decide +kernel
theorem dX0_numberOf_16 : decode cX0_numberOf 16 = .ok (.iload_n 2, 1) := by decide +kernel
theorem dX0_numberOf_17 : decode cX0_numberOf 17 = .ok (.iload 7, 2) := by decide +kernel
theorem dX0_numberOf_19 : decode cX0_numberOf 19 = .ok (.invokevirtual 26, 3) := by decide +kernel
theorem dX0_numberOf_22 : decode cX0_numberOf 22 = .ok (.istore 8, 2) := by decide +kernel
theorem dX0_numberOf_24 : decode cX0_numberOf 24 = .ok (.iload 8, 2) := by decide +kernel
theorem dX0_numberOf_26 : decode cX0_numberOf 26 = .ok (.ifCond .ne 9, 3) := by decide +kernel
theorem dX0_numberOf_29 : decode cX0_numberOf 29 = .ok (.iinc 6 1, 3) := by decide +kernel
theorem dX0_numberOf_32 : decode cX0_numberOf 32 = .ok (.goto 43, 3) := by decide +kernel
theorem dX0_numberOf_35 : decode cX0_numberOf 35 = .ok (.iload 8, 2) := by decide +kernel
theorem dX0_numberOf_37 : decode cX0_numberOf 37 = .ok (.iconst 1, 1) := by decide +kernel
theorem dX0_numberOf_38 : decode cX0_numberOf 38 = .ok (.if_icmp .ne 33, 3) := by decide +kernel
theorem dX0_numberOf_41 : decode cX0_numberOf 41 = .ok (.iload 6, 2) := by decide +kernel
theorem dX0_numberOf_43 : decode cX0_numberOf 43 = .ok (.ifCond .le 28, 3) := by decide +kernel
theorem dX0_numberOf_46 : decode cX0_numberOf 46 = .ok (.lload 4, 2) := by decide +kernel
theorem dX0_numberOf_48 : decode cX0_numberOf 48 = .ok (.aload_n 0, 1) := by decide +kernel
theorem dX0_numberOf_49 : decode cX0_numberOf 49 = .ok (.iload_n 3, 1) := by decide +kernel
theorem dX0_numberOf_50 : decode cX0_numberOf 50 = .ok (.iload 7, 2) := by decide +kernel
theorem dX0_numberOf_52 : decode cX0_numberOf 52 = .ok (.isub, 1) := by decide +kernel
theorem dX0_numberOf_53 : decode cX0_numberOf 53 = .ok (.iconst 1, 1) := by decide +kernel
theorem dX0_numberOf_54 : decode cX0_numberOf 54 = .ok (.isub, 1) := by decide +kernel
theorem dX0_numberOf_55 : decode cX0_numberOf 55 = .ok (.iload 6, 2) := by decide +kernel
theorem dX0_numberOf_57 : decode cX0_numberOf 57 = .ok (.iconst 1, 1) := by decide +kernel
theorem dX0_numberOf_58 : decode cX0_numberOf 58 = .ok (.iadd, 1) := by decide +kernel
theorem dX0_numberOf_59 : decode cX0_numberOf 59 = .ok (.invokevirtual 22, 3) := by decide +kernel
theorem dX0_numberOf_62 : decode cX0_numberOf 62 = .ok (.ladd, 1) := by decide +kernel
theorem dX0_numberOf_63 : decode cX0_numberOf 63 = .ok (.lstore 4, 2) := by decide +kernel
theorem dX0_numberOf_65 : decode cX0_numberOf 65 = .ok (.iinc 6 (-1), 3) := by decide +kernel
theorem dX0_numberOf_68 : decode cX0_numberOf 68 = .ok (.goto 7, 3) := by decide +kernel
theorem dX0_numberOf_71 : decode cX0_numberOf 71 = .ok (.ldc2_w 32, 3) := by decide +kernel
theorem dX0_numberOf_74 : decode cX0_numberOf 74 = .ok (.lreturn, 1) := by decide +kernel
theorem dX0_numberOf_75 : decode cX0_numberOf 75 = .ok (.iinc 7 1, 3) := by decide +kernel
theorem dX0_numberOf_78 : decode cX0_numberOf 78 = .ok (.goto (-69), 3) := by decide +kernel
theorem dX0_numberOf_81 : decode cX0_numberOf 81 = .ok (.iload 6, 2) := by decide +kernel
theorem dX0_numberOf_83 : decode cX0_numberOf 83 = .ok (.ifCond .ne 8, 3) := by decide +kernel
theorem dX0_numberOf_86 : decode cX0_numberOf 86 = .ok (.lload 4, 2) := by decide +kernel
theorem dX0_numberOf_88 : decode cX0_numberOf 88 = .ok (.goto 6, 3) := by decide +kernel
theorem dX0_numberOf_91 : decode cX0_numberOf 91 = .ok (.ldc2_w 32, 3) := by decide +kernel
theorem dX0_numberOf_94 : decode cX0_numberOf 94 = .ok (.lreturn, 1) := by decide +kernel
theorem dX1_init_0 : decode cX1_init 0 = .ok (.aload_n 0, 1) := by decide +kernel
theorem dX1_init_1 : decode cX1_init 1 = .ok (.invokespecial 3, 3) := by decide +kernel
theorem dX1_init_4 : decode cX1_init 4 = .ok (.aload_n 0, 1) := by decide +kernel
theorem dX1_init_5 : decode cX1_init 5 = .ok (.bipush 8, 2) := by decide +kernel
theorem dX1_init_7 : decode cX1_init 7 = .ok (.newarray .int, 2) := by decide +kernel
theorem dX1_init_9 : decode cX1_init 9 = .ok (.putfield 9, 3) := by decide +kernel
theorem dX1_init_12 : decode cX1_init 12 = .ok (.aload_n 0, 1) := by decide +kernel
theorem dX1_init_13 : decode cX1_init 13 = .ok (.bipush 8, 2) := by decide +kernel
theorem dX1_init_15 : decode cX1_init 15 = .ok (.newarray .int, 2) := by decide +kernel
theorem dX1_init_17 : decode cX1_init 17 = .ok (.putfield 15, 3) := by decide +kernel
theorem dX1_init_20 : decode cX1_init 20 = .ok (.aload_n 0, 1) := by decide +kernel
theorem dX1_init_21 : decode cX1_init 21 = .ok (.bipush 61, 2) := by decide +kernel
theorem dX1_init_23 : decode cX1_init 23 = .ok (.newarray .int, 2) := by decide +kernel
theorem dX1_init_25 : decode cX1_init 25 = .ok (.putfield 18, 3) := by decide +kernel
theorem dX1_init_28 : decode cX1_init 28 = .ok (.aload_n 0, 1) := by decide +kernel
theorem dX1_init_29 : decode cX1_init 29 = .ok (.bipush 16, 2) := by decide +kernel
theorem dX1_init_31 : decode cX1_init 31 = .ok (.newarray .long, 2) := by decide +kernel
theorem dX1_init_33 : decode cX1_init 33 = .ok (.putfield 21, 3) := by decide +kernel
theorem dX1_init_36 : decode cX1_init 36 = .ok (.return_, 1) := by decide +kernel
theorem dX1_begin_0 : decode cX1_begin 0 = .ok (.aload_n 0, 1) := by decide +kernel
theorem dX1_begin_1 : decode cX1_begin 1 = .ok (.iload_n 1, 1) := by decide +kernel
theorem dX1_begin_2 : decode cX1_begin 2 = .ok (.putfield 25, 3) := by decide +kernel
theorem dX1_begin_5 : decode cX1_begin 5 = .ok (.iconst 0, 1) := by decide +kernel
theorem dX1_begin_6 : decode cX1_begin 6 = .ok (.istore_n 2, 1) := by decide +kernel
theorem dX1_begin_7 : decode cX1_begin 7 = .ok (.iload_n 2, 1) := by decide +kernel
theorem dX1_begin_8 : decode cX1_begin 8 = .ok (.bipush 8, 2) := by decide +kernel
theorem dX1_begin_10 : decode cX1_begin 10 = .ok (.if_icmp .ge 23, 3) := by decide +kernel
theorem dX1_begin_13 : decode cX1_begin 13 = .ok (.aload_n 0, 1) := by decide +kernel
theorem dX1_begin_14 : decode cX1_begin 14 = .ok (.getfield 9, 3) := by decide +kernel
theorem dX1_begin_17 : decode cX1_begin 17 = .ok (.iload_n 2, 1) := by decide +kernel
theorem dX1_begin_18 : decode cX1_begin 18 = .ok (.iconst 0, 1) := by decide +kernel
theorem dX1_begin_19 : decode cX1_begin 19 = .ok (.iastore, 1) := by decide +kernel
theorem dX1_begin_20 : decode cX1_begin 20 = .ok (.aload_n 0, 1) := by decide +kernel
theorem dX1_begin_21 : decode cX1_begin 21 = .ok (.getfield 15, 3) := by decide +kernel
theorem dX1_begin_24 : decode cX1_begin 24 = .ok (.iload_n 2, 1) := by decide +kernel
theorem dX1_begin_25 : decode cX1_begin 25 = .ok (.iconst 0, 1) := by decide +kernel
theorem dX1_begin_26 : decode cX1_begin 26 = .ok (.iastore, 1) := by decide +kernel
theorem dX1_begin_27 : decode cX1_begin 27 = .ok (.iinc 2 1, 3) := by decide +kernel
theorem dX1_begin_30 : decode cX1_begin 30 = .ok (.goto (-23), 3) := by decide +kernel
theorem dX1_begin_33 : decode cX1_begin 33 = .ok (.return_, 1) := by decide +kernel
theorem dX1_has_0 : decode cX1_has 0 = .ok (.iload_n 1, 1) := by decide +kernel
theorem dX1_has_1 : decode cX1_has 1 = .ok (.ifCond .lt 20, 3) := by decide +kernel
theorem dX1_has_4 : decode cX1_has 4 = .ok (.iload_n 1, 1) := by decide +kernel
theorem dX1_has_5 : decode cX1_has 5 = .ok (.aload_n 0, 1) := by decide +kernel
theorem dX1_has_6 : decode cX1_has 6 = .ok (.getfield 25, 3) := by decide +kernel
theorem dX1_has_9 : decode cX1_has 9 = .ok (.if_icmp .ge 12, 3) := by decide +kernel
theorem dX1_has_12 : decode cX1_has 12 = .ok (.iload_n 1, 1) := by decide +kernel
theorem dX1_has_13 : decode cX1_has 13 = .ok (.iconst 4, 1) := by decide +kernel
theorem dX1_has_14 : decode cX1_has 14 = .ok (.if_icmp .ge 7, 3) := by decide +kernel
theorem dX1_has_17 : decode cX1_has 17 = .ok (.iconst 1, 1) := by decide +kernel
theorem dX1_has_18 : decode cX1_has 18 = .ok (.goto 4, 3) := by decide +kernel
theorem dX1_has_21 : decode cX1_has 21 = .ok (.iconst 0, 1) := by decide +kernel
theorem dX1_has_22 : decode cX1_has 22 = .ok (.ireturn, 1) := by decide +kernel
set_option maxRecDepth 20000 in
theorem ggX1_setPlace_X1_has : GoodIn wsX1_setPlace wsX1_has := goodIn_r _ [7, 8, 9, 10, 11, 12, 13] (by decide +kernel) (by decide +kernel)
set_option maxRecDepth 20000 in
theorem gX1_setPlace_X1_has : GoodIn wsX1_setPlace (wsV RX1 29 RX1 yX1_has wsX1_has) := goodIn_app (goodIn_of _ (by decide +kernel)) ggX1_setPlace_X1_has
theorem dX1_setPlace_0 : decode cX1_setPlace 0 = .ok (.aload_n 0, 1) := by decide +kernel
theorem dX1_setPlace_1 : decode cX1_setPlace 1 = .ok (.iload_n 1, 1) := by decide +kernel
theorem dX1_setPlace_2 : decode cX1_setPlace 2 = .ok (.invokevirtual 29, 3) := by decide +kernel
theorem dX1_setPlace_5 : decode cX1_setPlace 5 = .ok (.ifCond .eq 33, 3) := by decide +kernel
theorem dX1_setPlace_8 : decode cX1_setPlace 8 = .ok (.iload_n 2, 1) := by decide +kernel
theorem dX1_setPlace_9 : decode cX1_setPlace 9 = .ok (.ifCond .eq 9, 3) := by decide +kernel
theorem dX1_setPlace_12 : decode cX1_setPlace 12 = .ok (.iload_n 1, 1) := by decide +kernel
theorem dX1_setPlace_13 : decode cX1_setPlace 13 = .ok (.iconst 4, 1) := by decide +kernel
theorem dX1_setPlace_14 : decode cX1_setPlace 14 = .ok (.iadd, 1) := by decide +kernel
theorem dX1_setPlace_15 : decode cX1_setPlace 15 = .ok (.goto 4, 3) := by decide +kernel
theorem dX1_setPlace_18 : decode cX1_setPlace 18 = .ok (.iload_n 1, 1) := by decide +kernel
theorem dX1_setPlace_19 : decode cX1_setPlace 19 = .ok (.istore 5, 2) := by decide +kernel
theorem dX1_setPlace_21 : decode cX1_setPlace 21 = .ok (.aload_n 0, 1) := by decide +kernel
theorem dX1_setPlace_22 : decode cX1_setPlace 22 = .ok (.getfield 9, 3) := by decide +kernel
theorem dX1_setPlace_25 : decode cX1_setPlace 25 = .ok (.iload 5, 2) := by decide +kernel
theorem dX1_setPlace_27 : decode cX1_setPlace 27 = .ok (.iload_n 3, 1) := by decide +kernel
theorem dX1_setPlace_28 : decode cX1_setPlace 28 = .ok (.iastore, 1) := by decide +kernel
theorem dX1_setPlace_29 : decode cX1_setPlace 29 = .ok (.aload_n 0, 1) := by decide +kernel
theorem dX1_setPlace_30 : decode cX1_setPlace 30 = .ok (.getfield 15, 3) := by decide +kernel
theorem dX1_setPlace_33 : decode cX1_setPlace 33 = .ok (.iload 5, 2) := by decide +kernel
theorem dX1_setPlace_35 : decode cX1_setPlace 35 = .ok (.iload 4, 2) := by decide +kernel
theorem dX1_setPlace_37 : decode cX1_setPlace 37 = .ok (.iastore, 1) := by decide +kernel
theorem dX1_setPlace_38 : decode cX1_setPlace 38 = .ok (.return_, 1) := by decide +kernel
set_option maxRecDepth 20000 in
theorem ggX1_barredAt_X1_has : GoodIn wsX1_barredAt wsX1_has := goodIn_r _ [7, 8, 21, 22, 23, 24, 25] (by decide +kernel) (by decide +kernel)
set_option maxRecDepth 20000 in
theorem gX1_barredAt_X1_has : GoodIn wsX1_barredAt (wsV RX1 29 RX1 yX1_has wsX1_has) := goodIn_app (goodIn_of _ (by decide +kernel)) ggX1_barredAt_X1_has
set_option maxRecDepth 20000 in
theorem ggX1_barredAt_X4_isBarred : GoodIn wsX1_barredAt wsX4_isBarred := goodIn_r _ [13, 14, 15, 16, 12, 17, 18, 19, 20, 26, 27, 28, 29, 30, 31, 32, 33, 34, 35, 36, 37, 38, 39, 40] (by decide +kernel) (by decide +kernel)
set_option maxRecDepth 20000 in
theorem gX1_barredAt_X4_isBarred : GoodIn wsX1_barredAt (wsV RX1 33 RX4 yX4_isBarred wsX4_isBarred) := goodIn_app (goodIn_of _ (by decide +kernel)) ggX1_barredAt_X4_isBarred
theorem dX1_barredAt_0 : decode cX1_barredAt 0 = .ok (.aload_n 0, 1) := by decide +kernel
theorem dX1_barredAt_1 : decode cX1_barredAt 1 = .ok (.iload_n 2, 1) := by decide +kernel
theorem dX1_barredAt_2 : decode cX1_barredAt 2 = .ok (.invokevirtual 29, 3) := by decide +kernel
theorem dX1_barredAt_5 : decode cX1_barredAt 5 = .ok (.ifCond .eq 57, 3) := by decide +kernel
theorem dX1_barredAt_8 : decode cX1_barredAt 8 = .ok (.aload_n 0, 1) := by decide +kernel
theorem dX1_barredAt_9 : decode cX1_barredAt 9 = .ok (.iload_n 3, 1) := by decide +kernel
theorem dX1_barredAt_10 : decode cX1_barredAt 10 = .ok (.invokevirtual 29, 3) := by decide +kernel
theorem dX1_barredAt_13 : decode cX1_barredAt 13 = .ok (.ifCond .eq 49, 3) := by decide +kernel
theorem dX1_barredAt_16 : decode cX1_barredAt 16 = .ok (.aload_n 1, 1) := by decide +kernel
theorem dX1_barredAt_17 : decode cX1_barredAt 17 = .ok (.aload_n 0, 1) := by decide +kernel
theorem dX1_barredAt_18 : decode cX1_barredAt 18 = .ok (.getfield 9, 3) := by decide +kernel
theorem dX1_barredAt_21 : decode cX1_barredAt 21 = .ok (.iload_n 2, 1) := by decide +kernel
theorem dX1_barredAt_22 : decode cX1_barredAt 22 = .ok (.iaload, 1) := by decide +kernel
theorem dX1_barredAt_23 : decode cX1_barredAt 23 = .ok (.aload_n 0, 1) := by decide +kernel
theorem dX1_barredAt_24 : decode cX1_barredAt 24 = .ok (.getfield 15, 3) := by decide +kernel
theorem dX1_barredAt_27 : decode cX1_barredAt 27 = .ok (.iload_n 2, 1) := by decide +kernel
theorem dX1_barredAt_28 : decode cX1_barredAt 28 = .ok (.iaload, 1) := by decide +kernel
theorem dX1_barredAt_29 : decode cX1_barredAt 29 = .ok (.invokevirtual 33, 3) := by decide +kernel
theorem dX1_barredAt_32 : decode cX1_barredAt 32 = .ok (.ifCond .ne 26, 3) := by decide +kernel
theorem dX1_barredAt_35 : decode cX1_barredAt 35 = .ok (.aload_n 1, 1) := by decide +kernel
theorem dX1_barredAt_36 : decode cX1_barredAt 36 = .ok (.aload_n 0, 1) := by decide +kernel
theorem dX1_barredAt_37 : decode cX1_barredAt 37 = .ok (.getfield 9, 3) := by decide +kernel
theorem dX1_barredAt_40 : decode cX1_barredAt 40 = .ok (.iload_n 3, 1) := by decide +kernel
theorem dX1_barredAt_41 : decode cX1_barredAt 41 = .ok (.iconst 4, 1) := by decide +kernel
theorem dX1_barredAt_42 : decode cX1_barredAt 42 = .ok (.iadd, 1) := by decide +kernel
theorem dX1_barredAt_43 : decode cX1_barredAt 43 = .ok (.iaload, 1) := by decide +kernel
theorem dX1_barredAt_44 : decode cX1_barredAt 44 = .ok (.aload_n 0, 1) := by decide +kernel
theorem dX1_barredAt_45 : decode cX1_barredAt 45 = .ok (.getfield 15, 3) := by decide +kernel
theorem dX1_barredAt_48 : decode cX1_barredAt 48 = .ok (.iload_n 3, 1) := by decide +kernel
theorem dX1_barredAt_49 : decode cX1_barredAt 49 = .ok (.iconst 4, 1) := by decide +kernel
theorem dX1_barredAt_50 : decode cX1_barredAt 50 = .ok (.iadd, 1) := by decide +kernel
theorem dX1_barredAt_51 : decode cX1_barredAt 51 = .ok (.iaload, 1) := by decide +kernel
theorem dX1_barredAt_52 : decode cX1_barredAt 52 = .ok (.invokevirtual 33, 3) := by decide +kernel
theorem dX1_barredAt_55 : decode cX1_barredAt 55 = .ok (.ifCond .eq 7, 3) := by decide +kernel
theorem dX1_barredAt_58 : decode cX1_barredAt 58 = .ok (.iconst 1, 1) := by decide +kernel
theorem dX1_barredAt_59 : decode cX1_barredAt 59 = .ok (.goto 4, 3) := by decide +kernel
theorem dX1_barredAt_62 : decode cX1_barredAt 62 = .ok (.iconst 0, 1) := by decide +kernel
theorem dX1_barredAt_63 : decode cX1_barredAt 63 = .ok (.ireturn, 1) := by decide +kernel
set_option maxRecDepth 20000 in
theorem ggX1_anyBarred_X1_barredAt : GoodIn wsX1_anyBarred wsX1_barredAt := goodIn_r _ [6, 7, 8, 9, 10, 11, 5, 12, 1, 13, 14, 15, 16, 17, 18, 19, 20, 21, 22, 23, 24, 25, 26, 27, 28, 29, 30, 31, 32, 33, 34, 35, 36, 37, 38, 39, 40, 41, 42, 43, 44] (by decide +kernel) (by decide +kernel)
set_option maxRecDepth 20000 in
theorem gX1_anyBarred_X1_barredAt : GoodIn wsX1_anyBarred (wsV RX1 39 RX1 yX1_barredAt wsX1_barredAt) := goodIn_app (goodIn_of _ (by decide +kernel)) ggX1_anyBarred_X1_barredAt
theorem dX1_anyBarred_0 : decode cX1_anyBarred 0 = .ok (.iconst 0, 1) := by decide +kernel
theorem dX1_anyBarred_1 : decode cX1_anyBarred 1 = .ok (.istore_n 2, 1) := by decide +kernel
theorem dX1_anyBarred_2 : decode cX1_anyBarred 2 = .ok (.iload_n 2, 1) := by decide +kernel
theorem dX1_anyBarred_3 : decode cX1_anyBarred 3 = .ok (.aload_n 0, 1) := by decide +kernel
theorem dX1_anyBarred_4 : decode cX1_anyBarred 4 = .ok (.getfield 25, 3) := by decide +kernel
theorem dX1_anyBarred_7 : decode cX1_anyBarred 7 = .ok (.if_icmp .ge 21, 3) := by decide +kernel
theorem dX1_anyBarred_10 : decode cX1_anyBarred 10 = .ok (.aload_n 0, 1) := by decide +kernel
theorem dX1_anyBarred_11 : decode cX1_anyBarred 11 = .ok (.aload_n 1, 1) := by decide +kernel
theorem dX1_anyBarred_12 : decode cX1_anyBarred 12 = .ok (.iload_n 2, 1) := by decide +kernel
theorem dX1_anyBarred_13 : decode cX1_anyBarred 13 = .ok (.iload_n 2, 1) := by decide +kernel
theorem dX1_anyBarred_14 : decode cX1_anyBarred 14 = .ok (.invokevirtual 39, 3) := by decide +kernel
theorem dX1_anyBarred_17 : decode cX1_anyBarred 17 = .ok (.ifCond .eq 5, 3) := by decide +kernel
theorem dX1_anyBarred_20 : decode cX1_anyBarred 20 = .ok (.iconst 1, 1) := by decide +kernel
theorem dX1_anyBarred_21 : decode cX1_anyBarred 21 = .ok (.ireturn, 1) := by decide +kernel
theorem dX1_anyBarred_22 : decode cX1_anyBarred 22 = .ok (.iinc 2 1, 3) := by decide +kernel
theorem dX1_anyBarred_25 : decode cX1_anyBarred 25 = .ok (.goto (-23), 3) := by decide +kernel
theorem dX1_anyBarred_28 : decode cX1_anyBarred 28 = .ok (.iconst 0, 1) := by decide +kernel
theorem dX1_anyBarred_29 : decode cX1_anyBarred 29 = .ok (.ireturn, 1) := by decide +kernel
set_option maxRecDepth 20000 in
theorem ggX1_entry_X1_has : GoodIn wsX1_entry wsX1_has := goodIn_r _ [12, 13, 26, 27, 28, 29, 30] (by decide +kernel) (by decide +kernel)
set_option maxRecDepth 20000 in
theorem gX1_entry_X1_has : GoodIn wsX1_entry (wsV RX1 29 RX1 yX1_has wsX1_has) := goodIn_app (goodIn_of _ (by decide +kernel)) ggX1_entry_X1_has
set_option maxRecDepth 20000 in
theorem ggX1_entry_X4_isBarred : GoodIn wsX1_entry wsX4_isBarred := goodIn_r _ [18, 19, 20, 21, 17, 22, 23, 24, 25, 31, 32, 33, 34, 35, 36, 37, 38, 39, 40, 41, 42, 43, 44, 45] (by decide +kernel) (by decide +kernel)
set_option maxRecDepth 20000 in
theorem gX1_entry_X4_isBarred : GoodIn wsX1_entry (wsV RX1 33 RX4 yX4_isBarred wsX4_isBarred) := goodIn_app (goodIn_of _ (by decide +kernel)) ggX1_entry_X4_isBarred
theorem dX1_entry_0 : decode cX1_entry 0 = .ok (.aload_n 0, 1) := by decide +kernel
theorem dX1_entry_1 : decode cX1_entry 1 = .ok (.iload_n 2, 1) := by decide +kernel
theorem dX1_entry_2 : decode cX1_entry 2 = .ok (.invokevirtual 29, 3) := by decide +kernel
theorem dX1_entry_5 : decode cX1_entry 5 = .ok (.ifCond .eq 11, 3) := by decide +kernel
theorem dX1_entry_8 : decode cX1_entry 8 = .ok (.aload_n 0, 1) := by decide +kernel
theorem dX1_entry_9 : decode cX1_entry 9 = .ok (.iload_n 3, 1) := by decide +kernel
theorem dX1_entry_10 : decode cX1_entry 10 = .ok (.invokevirtual 29, 3) := by decide +kernel
theorem dX1_entry_13 : decode cX1_entry 13 = .ok (.ifCond .ne 5, 3) := by decide +kernel
theorem dX1_entry_16 : decode cX1_entry 16 = .ok (.iconst 0, 1) := by decide +kernel
theorem dX1_entry_17 : decode cX1_entry 17 = .ok (.ireturn, 1) := by decide +kernel
theorem dX1_entry_18 : decode cX1_entry 18 = .ok (.aload_n 0, 1) := by decide +kernel
theorem dX1_entry_19 : decode cX1_entry 19 = .ok (.getfield 9, 3) := by decide +kernel
theorem dX1_entry_22 : decode cX1_entry 22 = .ok (.iload_n 2, 1) := by decide +kernel
theorem dX1_entry_23 : decode cX1_entry 23 = .ok (.iaload, 1) := by decide +kernel
theorem dX1_entry_24 : decode cX1_entry 24 = .ok (.istore 4, 2) := by decide +kernel
theorem dX1_entry_26 : decode cX1_entry 26 = .ok (.aload_n 0, 1) := by decide +kernel
theorem dX1_entry_27 : decode cX1_entry 27 = .ok (.getfield 9, 3) := by decide +kernel
theorem dX1_entry_30 : decode cX1_entry 30 = .ok (.iload_n 3, 1) := by decide +kernel
theorem dX1_entry_31 : decode cX1_entry 31 = .ok (.iconst 4, 1) := by decide +kernel
theorem dX1_entry_32 : decode cX1_entry 32 = .ok (.iadd, 1) := by decide +kernel
theorem dX1_entry_33 : decode cX1_entry 33 = .ok (.iaload, 1) := by decide +kernel
theorem dX1_entry_34 : decode cX1_entry 34 = .ok (.iload 4, 2) := by decide +kernel
theorem dX1_entry_36 : decode cX1_entry 36 = .ok (.isub, 1) := by decide +kernel
theorem dX1_entry_37 : decode cX1_entry 37 = .ok (.istore 5, 2) := by decide +kernel
theorem dX1_entry_39 : decode cX1_entry 39 = .ok (.iload 5, 2) := by decide +kernel
theorem dX1_entry_41 : decode cX1_entry 41 = .ok (.ifCond .lt 30, 3) := by decide +kernel
theorem dX1_entry_44 : decode cX1_entry 44 = .ok (.iload 5, 2) := by decide +kernel
theorem dX1_entry_46 : decode cX1_entry 46 = .ok (.aload_n 0, 1) := by decide +kernel
theorem dX1_entry_47 : decode cX1_entry 47 = .ok (.getfield 18, 3) := by decide +kernel
theorem dX1_entry_50 : decode cX1_entry 50 = .ok (.arraylength, 1) := by decide +kernel
theorem dX1_entry_51 : decode cX1_entry 51 = .ok (.if_icmp .ge 20, 3) := by decide +kernel
theorem dX1_entry_54 : decode cX1_entry 54 = .ok (.aload_n 0, 1) := by decide +kernel
theorem dX1_entry_55 : decode cX1_entry 55 = .ok (.getfield 15, 3) := by decide +kernel
theorem dX1_entry_58 : decode cX1_entry 58 = .ok (.iload_n 3, 1) := by decide +kernel
theorem dX1_entry_59 : decode cX1_entry 59 = .ok (.iconst 4, 1) := by decide +kernel
theorem dX1_entry_60 : decode cX1_entry 60 = .ok (.iadd, 1) := by decide +kernel
theorem dX1_entry_61 : decode cX1_entry 61 = .ok (.iaload, 1) := by decide +kernel
theorem dX1_entry_62 : decode cX1_entry 62 = .ok (.aload_n 0, 1) := by decide +kernel
theorem dX1_entry_63 : decode cX1_entry 63 = .ok (.getfield 15, 3) := by decide +kernel
theorem dX1_entry_66 : decode cX1_entry 66 = .ok (.iload_n 2, 1) := by decide +kernel
theorem dX1_entry_67 : decode cX1_entry 67 = .ok (.iaload, 1) := by decide +kernel
theorem dX1_entry_68 : decode cX1_entry 68 = .ok (.if_icmp .ge 5, 3) := by decide +kernel
theorem dX1_entry_71 : decode cX1_entry 71 = .ok (.iconst 0, 1) := by decide +kernel
theorem dX1_entry_72 : decode cX1_entry 72 = .ok (.ireturn, 1) := by decide +kernel
theorem dX1_entry_73 : decode cX1_entry 73 = .ok (.iconst 0, 1) := by decide +kernel
theorem dX1_entry_74 : decode cX1_entry 74 = .ok (.istore 6, 2) := by decide +kernel
theorem dX1_entry_76 : decode cX1_entry 76 = .ok (.iload 6, 2) := by decide +kernel
theorem dX1_entry_78 : decode cX1_entry 78 = .ok (.iload 5, 2) := by decide +kernel
theorem dX1_entry_80 : decode cX1_entry 80 = .ok (.if_icmp .gt 26, 3) := by decide +kernel
theorem dX1_entry_83 : decode cX1_entry 83 = .ok (.aload_n 0, 1) := by decide +kernel
theorem dX1_entry_84 : decode cX1_entry 84 = .ok (.getfield 18, 3) := by decide +kernel
theorem dX1_entry_87 : decode cX1_entry 87 = .ok (.iload 6, 2) := by decide +kernel
theorem dX1_entry_89 : decode cX1_entry 89 = .ok (.iload 6, 2) := by decide +kernel
theorem dX1_entry_91 : decode cX1_entry 91 = .ok (.ifCond .ne 7, 3) := by decide +kernel
theorem dX1_entry_94 : decode cX1_entry 94 = .ok (.iconst 1, 1) := by decide +kernel
theorem dX1_entry_95 : decode cX1_entry 95 = .ok (.goto 4, 3) := by decide +kernel
theorem dX1_entry_98 : decode cX1_entry 98 = .ok (.iconst 0, 1) := by decide +kernel
theorem dX1_entry_99 : decode cX1_entry 99 = .ok (.iastore, 1) := by decide +kernel
theorem dX1_entry_100 : decode cX1_entry 100 = .ok (.iinc 6 1, 3) := by decide +kernel
theorem dX1_entry_103 : decode cX1_entry 103 = .ok (.goto (-27), 3) := by decide +kernel
theorem dX1_entry_106 : decode cX1_entry 106 = .ok (.aload_n 0, 1) := by decide +kernel
theorem dX1_entry_107 : decode cX1_entry 107 = .ok (.getfield 15, 3) := by decide +kernel
theorem dX1_entry_110 : decode cX1_entry 110 = .ok (.iload_n 2, 1) := by decide +kernel
theorem dX1_entry_111 : decode cX1_entry 111 = .ok (.iaload, 1) := by decide +kernel
theorem dX1_entry_112 : decode cX1_entry 112 = .ok (.istore 6, 2) := by decide +kernel
theorem dX1_entry_114 : decode cX1_entry 114 = .ok (.iload 6, 2) := by decide +kernel
theorem dX1_entry_116 : decode cX1_entry 116 = .ok (.aload_n 0, 1) := by decide +kernel
theorem dX1_entry_117 : decode cX1_entry 117 = .ok (.getfield 15, 3) := by decide +kernel
theorem dX1_entry_120 : decode cX1_entry 120 = .ok (.iload_n 3, 1) := by decide +kernel
theorem dX1_entry_121 : decode cX1_entry 121 = .ok (.iconst 4, 1) := by decide +kernel
theorem dX1_entry_122 : decode cX1_entry 122 = .ok (.iadd, 1) := by decide +kernel
theorem dX1_entry_123 : decode cX1_entry 123 = .ok (.iaload, 1) := by decide +kernel
theorem dX1_entry_124 : decode cX1_entry 124 = .ok (.if_icmp .gt 92, 3) := by decide +kernel
theorem dX1_entry_127 : decode cX1_entry 127 = .ok (.iconst 0, 1) := by decide +kernel
theorem dX1_entry_128 : decode cX1_entry 128 = .ok (.istore 7, 2) := by decide +kernel
theorem dX1_entry_130 : decode cX1_entry 130 = .ok (.iload 7, 2) := by decide +kernel
theorem dX1_entry_132 : decode cX1_entry 132 = .ok (.iload 5, 2) := by decide +kernel
theorem dX1_entry_134 : decode cX1_entry 134 = .ok (.if_icmp .gt 76, 3) := by decide +kernel
theorem dX1_entry_137 : decode cX1_entry 137 = .ok (.iload 7, 2) := by decide +kernel
theorem dX1_entry_139 : decode cX1_entry 139 = .ok (.ifCond .le 23, 3) := by decide +kernel
theorem dX1_entry_142 : decode cX1_entry 142 = .ok (.aload_n 0, 1) := by decide +kernel
theorem dX1_entry_143 : decode cX1_entry 143 = .ok (.getfield 18, 3) := by decide +kernel
theorem dX1_entry_146 : decode cX1_entry 146 = .ok (.iload 7, 2) := by decide +kernel
theorem dX1_entry_148 : decode cX1_entry 148 = .ok (.iaload, 1) := by decide +kernel
theorem dX1_entry_149 : decode cX1_entry 149 = .ok (.aload_n 0, 1) := by decide +kernel
theorem dX1_entry_150 : decode cX1_entry 150 = .ok (.getfield 18, 3) := by decide +kernel
theorem dX1_entry_153 : decode cX1_entry 153 = .ok (.iload 7, 2) := by decide +kernel
theorem dX1_entry_155 : decode cX1_entry 155 = .ok (.iconst 1, 1) := by decide +kernel
theorem dX1_entry_156 : decode cX1_entry 156 = .ok (.isub, 1) := by decide +kernel
theorem dX1_entry_157 : decode cX1_entry 157 = .ok (.iaload, 1) := by decide +kernel
theorem dX1_entry_158 : decode cX1_entry 158 = .ok (.iadd, 1) := by decide +kernel
theorem dX1_entry_159 : decode cX1_entry 159 = .ok (.goto 10, 3) := by decide +kernel
theorem dX1_entry_162 : decode cX1_entry 162 = .ok (.aload_n 0, 1) := by decide +kernel
theorem dX1_entry_163 : decode cX1_entry 163 = .ok (.getfield 18, 3) := by decide +kernel
theorem dX1_entry_166 : decode cX1_entry 166 = .ok (.iload 7, 2) := by decide +kernel
theorem dX1_entry_168 : decode cX1_entry 168 = .ok (.iaload, 1) := by decide +kernel
theorem dX1_entry_169 : decode cX1_entry 169 = .ok (.istore 8, 2) := by decide +kernel
theorem dX1_entry_171 : decode cX1_entry 171 = .ok (.aload_n 0, 1) := by decide +kernel
theorem dX1_entry_172 : decode cX1_entry 172 = .ok (.getfield 18, 3) := by decide +kernel
theorem dX1_entry_175 : decode cX1_entry 175 = .ok (.iload 7, 2) := by decide +kernel
theorem dX1_entry_177 : decode cX1_entry 177 = .ok (.aload_n 1, 1) := by decide +kernel
theorem dX1_entry_178 : decode cX1_entry 178 = .ok (.iload 4, 2) := by decide +kernel
theorem dX1_entry_180 : decode cX1_entry 180 = .ok (.iload 7, 2) := by decide +kernel
theorem dX1_entry_182 : decode cX1_entry 182 = .ok (.iadd, 1) := by decide +kernel
theorem dX1_entry_183 : decode cX1_entry 183 = .ok (.iload 6, 2) := by decide +kernel
theorem dX1_entry_185 : decode cX1_entry 185 = .ok (.invokevirtual 33, 3) := by decide +kernel
theorem dX1_entry_188 : decode cX1_entry 188 = .ok (.ifCond .eq 7, 3) := by decide +kernel
theorem dX1_entry_191 : decode cX1_entry 191 = .ok (.iconst 0, 1) := by decide +kernel
theorem dX1_entry_192 : decode cX1_entry 192 = .ok (.goto 11, 3) := by decide +kernel
theorem dX1_entry_195 : decode cX1_entry 195 = .ok (.iload 8, 2) := by decide +kernel
theorem dX1_entry_197 : decode cX1_entry 197 = .ok (.sipush 20001, 3) := by decide +kernel
theorem dX1_entry_200 : decode cX1_entry 200 = .ok (.invokestatic 43, 3) := by decide +kernel
theorem dX1_entry_203 : decode cX1_entry 203 = .ok (.iastore, 1) := by decide +kernel
theorem dX1_entry_204 : decode cX1_entry 204 = .ok (.iinc 7 1, 3) := by decide +kernel
theorem dX1_entry_207 : decode cX1_entry 207 = .ok (.goto (-77), 3) := by decide +kernel
theorem dX1_entry_210 : decode cX1_entry 210 = .ok (.iinc 6 1, 3) := by decide +kernel
theorem dX1_entry_213 : decode cX1_entry 213 = .ok (.goto (-99), 3) := by decide +kernel
theorem dX1_entry_216 : decode cX1_entry 216 = .ok (.aload_n 0, 1) := by decide +kernel
theorem dX1_entry_217 : decode cX1_entry 217 = .ok (.getfield 18, 3) := by decide +kernel
theorem dX1_entry_220 : decode cX1_entry 220 = .ok (.iload 5, 2) := by decide +kernel
theorem dX1_entry_222 : decode cX1_entry 222 = .ok (.iaload, 1) := by decide +kernel
theorem dX1_entry_223 : decode cX1_entry 223 = .ok (.ireturn, 1) := by decide +kernel
set_option maxRecDepth 20000 in
theorem ggX1_fillTable_X1_has : GoodIn wsX1_fillTable wsX1_has := goodIn_r _ [6, 7, 31, 32, 33, 34, 35] (by decide +kernel) (by decide +kernel)
set_option maxRecDepth 20000 in
theorem gX1_fillTable_X1_has : GoodIn wsX1_fillTable (wsV RX1 29 RX1 yX1_has wsX1_has) := goodIn_app (goodIn_of _ (by decide +kernel)) ggX1_fillTable_X1_has
set_option maxRecDepth 20000 in
theorem ggX1_fillTable_X1_entry : GoodIn wsX1_fillTable wsX1_entry := goodIn_r _ [11, 12, 13, 14, 15, 16, 17, 18, 2, 3, 4, 5, 6, 7, 19, 20, 21, 22, 23, 24, 25, 26, 27, 28, 29, 30, 31, 32, 33, 34, 35, 36, 37, 38, 39, 40, 41, 42, 43, 44, 45, 46, 47, 48, 49, 50] (by decide +kernel) (by decide +kernel)
set_option maxRecDepth 20000 in
theorem gX1_fillTable_X1_entry : GoodIn wsX1_fillTable (wsV RX1 49 RX1 yX1_entry wsX1_entry) := goodIn_app (goodIn_of _ (by decide +kernel)) ggX1_fillTable_X1_entry
theorem dX1_fillTable_0 : decode cX1_fillTable 0 = .ok (.iconst 0, 1) := by decide +kernel
theorem dX1_fillTable_1 : decode cX1_fillTable 1 = .ok (.istore_n 2, 1) := by decide +kernel
theorem dX1_fillTable_2 : decode cX1_fillTable 2 = .ok (.iload_n 2, 1) := by decide +kernel
theorem dX1_fillTable_3 : decode cX1_fillTable 3 = .ok (.iconst 4, 1) := by decide +kernel
theorem dX1_fillTable_4 : decode cX1_fillTable 4 = .ok (.if_icmp .ge 82, 3) := by decide +kernel
theorem dX1_fillTable_7 : decode cX1_fillTable 7 = .ok (.iconst 0, 1) := by decide +kernel
theorem dX1_fillTable_8 : decode cX1_fillTable 8 = .ok (.istore_n 3, 1) := by decide +kernel
theorem dX1_fillTable_9 : decode cX1_fillTable 9 = .ok (.iload_n 3, 1) := by decide +kernel
theorem dX1_fillTable_10 : decode cX1_fillTable 10 = .ok (.iconst 4, 1) := by decide +kernel
theorem dX1_fillTable_11 : decode cX1_fillTable 11 = .ok (.if_icmp .ge 69, 3) := by decide +kernel
theorem dX1_fillTable_14 : decode cX1_fillTable 14 = .ok (.iload_n 2, 1) := by decide +kernel
theorem dX1_fillTable_15 : decode cX1_fillTable 15 = .ok (.iload_n 3, 1) := by decide +kernel
theorem dX1_fillTable_16 : decode cX1_fillTable 16 = .ok (.if_icmp .ne 7, 3) := by decide +kernel
theorem dX1_fillTable_19 : decode cX1_fillTable 19 = .ok (.iconst 1, 1) := by decide +kernel
theorem dX1_fillTable_20 : decode cX1_fillTable 20 = .ok (.goto 4, 3) := by decide +kernel
theorem dX1_fillTable_23 : decode cX1_fillTable 23 = .ok (.iconst 0, 1) := by decide +kernel
theorem dX1_fillTable_24 : decode cX1_fillTable 24 = .ok (.istore 4, 2) := by decide +kernel
theorem dX1_fillTable_26 : decode cX1_fillTable 26 = .ok (.aload_n 0, 1) := by decide +kernel
theorem dX1_fillTable_27 : decode cX1_fillTable 27 = .ok (.iload_n 2, 1) := by decide +kernel
theorem dX1_fillTable_28 : decode cX1_fillTable 28 = .ok (.invokevirtual 29, 3) := by decide +kernel
theorem dX1_fillTable_31 : decode cX1_fillTable 31 = .ok (.ifCond .eq 20, 3) := by decide +kernel
theorem dX1_fillTable_34 : decode cX1_fillTable 34 = .ok (.aload_n 0, 1) := by decide +kernel
theorem dX1_fillTable_35 : decode cX1_fillTable 35 = .ok (.iload_n 3, 1) := by decide +kernel
theorem dX1_fillTable_36 : decode cX1_fillTable 36 = .ok (.invokevirtual 29, 3) := by decide +kernel
theorem dX1_fillTable_39 : decode cX1_fillTable 39 = .ok (.ifCond .eq 12, 3) := by decide +kernel
theorem dX1_fillTable_42 : decode cX1_fillTable 42 = .ok (.aload_n 0, 1) := by decide +kernel
theorem dX1_fillTable_43 : decode cX1_fillTable 43 = .ok (.aload_n 1, 1) := by decide +kernel
theorem dX1_fillTable_44 : decode cX1_fillTable 44 = .ok (.iload_n 2, 1) := by decide +kernel
theorem dX1_fillTable_45 : decode cX1_fillTable 45 = .ok (.iload_n 3, 1) := by decide +kernel
theorem dX1_fillTable_46 : decode cX1_fillTable 46 = .ok (.invokevirtual 49, 3) := by decide +kernel
theorem dX1_fillTable_49 : decode cX1_fillTable 49 = .ok (.istore 4, 2) := by decide +kernel
theorem dX1_fillTable_51 : decode cX1_fillTable 51 = .ok (.iload 4, 2) := by decide +kernel
theorem dX1_fillTable_53 : decode cX1_fillTable 53 = .ok (.sipush 20000, 3) := by decide +kernel
theorem dX1_fillTable_56 : decode cX1_fillTable 56 = .ok (.if_icmp .le 5, 3) := by decide +kernel
theorem dX1_fillTable_59 : decode cX1_fillTable 59 = .ok (.iconst 0, 1) := by decide +kernel
theorem dX1_fillTable_60 : decode cX1_fillTable 60 = .ok (.ireturn, 1) := by decide +kernel
theorem dX1_fillTable_61 : decode cX1_fillTable 61 = .ok (.aload_n 0, 1) := by decide +kernel
theorem dX1_fillTable_62 : decode cX1_fillTable 62 = .ok (.getfield 21, 3) := by decide +kernel
theorem dX1_fillTable_65 : decode cX1_fillTable 65 = .ok (.iload_n 2, 1) := by decide +kernel
theorem dX1_fillTable_66 : decode cX1_fillTable 66 = .ok (.iconst 4, 1) := by decide +kernel
theorem dX1_fillTable_67 : decode cX1_fillTable 67 = .ok (.imul, 1) := by decide +kernel
theorem dX1_fillTable_68 : decode cX1_fillTable 68 = .ok (.iload_n 3, 1) := by decide +kernel
theorem dX1_fillTable_69 : decode cX1_fillTable 69 = .ok (.iadd, 1) := by decide +kernel
theorem dX1_fillTable_70 : decode cX1_fillTable 70 = .ok (.iload 4, 2) := by decide +kernel
theorem dX1_fillTable_72 : decode cX1_fillTable 72 = .ok (.i2l, 1) := by decide +kernel
theorem dX1_fillTable_73 : decode cX1_fillTable 73 = .ok (.lastore, 1) := by decide +kernel
theorem dX1_fillTable_74 : decode cX1_fillTable 74 = .ok (.iinc 3 1, 3) := by decide +kernel
theorem dX1_fillTable_77 : decode cX1_fillTable 77 = .ok (.goto (-68), 3) := by decide +kernel
theorem dX1_fillTable_80 : decode cX1_fillTable 80 = .ok (.iinc 2 1, 3) := by decide +kernel
theorem dX1_fillTable_83 : decode cX1_fillTable 83 = .ok (.goto (-81), 3) := by decide +kernel
theorem dX1_fillTable_86 : decode cX1_fillTable 86 = .ok (.iconst 1, 1) := by decide +kernel
theorem dX1_fillTable_87 : decode cX1_fillTable 87 = .ok (.ireturn, 1) := by decide +kernel
set_option maxRecDepth 20000 in
theorem ggX1_determinant_X1_pair : GoodIn wsX1_determinant wsX1_pair := goodIn_r _ [5, 6, 7, 8, 9, 10, 11] (by decide +kernel) (by decide +kernel)
set_option maxRecDepth 20000 in
theorem gX1_determinant_X1_pair : GoodIn wsX1_determinant (wsV RX1 53 RX1 yX1_pair wsX1_pair) := goodIn_app (goodIn_of _ (by decide +kernel)) ggX1_determinant_X1_pair
theorem dX1_determinant_0 : decode cX1_determinant 0 = .ok (.aload_n 0, 1) := by decide +kernel
theorem dX1_determinant_1 : decode cX1_determinant 1 = .ok (.iconst 0, 1) := by decide +kernel
theorem dX1_determinant_2 : decode cX1_determinant 2 = .ok (.iconst 0, 1) := by decide +kernel
theorem dX1_determinant_3 : decode cX1_determinant 3 = .ok (.iconst 1, 1) := by decide +kernel
theorem dX1_determinant_4 : decode cX1_determinant 4 = .ok (.invokevirtual 53, 3) := by decide +kernel
theorem dX1_determinant_7 : decode cX1_determinant 7 = .ok (.aload_n 0, 1) := by decide +kernel
theorem dX1_determinant_8 : decode cX1_determinant 8 = .ok (.iconst 2, 1) := by decide +kernel
theorem dX1_determinant_9 : decode cX1_determinant 9 = .ok (.iconst 2, 1) := by decide +kernel
theorem dX1_determinant_10 : decode cX1_determinant 10 = .ok (.iconst 3, 1) := by decide +kernel
theorem dX1_determinant_11 : decode cX1_determinant 11 = .ok (.invokevirtual 53, 3) := by decide +kernel
theorem dX1_determinant_14 : decode cX1_determinant 14 = .ok (.lmul, 1) := by decide +kernel
theorem dX1_determinant_15 : decode cX1_determinant 15 = .ok (.aload_n 0, 1) := by decide +kernel
theorem dX1_determinant_16 : decode cX1_determinant 16 = .ok (.iconst 0, 1) := by decide +kernel
theorem dX1_determinant_17 : decode cX1_determinant 17 = .ok (.iconst 0, 1) := by decide +kernel
theorem dX1_determinant_18 : decode cX1_determinant 18 = .ok (.iconst 2, 1) := by decide +kernel
theorem dX1_determinant_19 : decode cX1_determinant 19 = .ok (.invokevirtual 53, 3) := by decide +kernel
theorem dX1_determinant_22 : decode cX1_determinant 22 = .ok (.aload_n 0, 1) := by decide +kernel
theorem dX1_determinant_23 : decode cX1_determinant 23 = .ok (.iconst 2, 1) := by decide +kernel
theorem dX1_determinant_24 : decode cX1_determinant 24 = .ok (.iconst 1, 1) := by decide +kernel
theorem dX1_determinant_25 : decode cX1_determinant 25 = .ok (.iconst 3, 1) := by decide +kernel
theorem dX1_determinant_26 : decode cX1_determinant 26 = .ok (.invokevirtual 53, 3) := by decide +kernel
theorem dX1_determinant_29 : decode cX1_determinant 29 = .ok (.lmul, 1) := by decide +kernel
theorem dX1_determinant_30 : decode cX1_determinant 30 = .ok (.lsub, 1) := by decide +kernel
theorem dX1_determinant_31 : decode cX1_determinant 31 = .ok (.aload_n 0, 1) := by decide +kernel
theorem dX1_determinant_32 : decode cX1_determinant 32 = .ok (.iconst 0, 1) := by decide +kernel
theorem dX1_determinant_33 : decode cX1_determinant 33 = .ok (.iconst 0, 1) := by decide +kernel
theorem dX1_determinant_34 : decode cX1_determinant 34 = .ok (.iconst 3, 1) := by decide +kernel
theorem dX1_determinant_35 : decode cX1_determinant 35 = .ok (.invokevirtual 53, 3) := by decide +kernel
theorem dX1_determinant_38 : decode cX1_determinant 38 = .ok (.aload_n 0, 1) := by decide +kernel
theorem dX1_determinant_39 : decode cX1_determinant 39 = .ok (.iconst 2, 1) := by decide +kernel
theorem dX1_determinant_40 : decode cX1_determinant 40 = .ok (.iconst 1, 1) := by decide +kernel
theorem dX1_determinant_41 : decode cX1_determinant 41 = .ok (.iconst 2, 1) := by decide +kernel
theorem dX1_determinant_42 : decode cX1_determinant 42 = .ok (.invokevirtual 53, 3) := by decide +kernel
theorem dX1_determinant_45 : decode cX1_determinant 45 = .ok (.lmul, 1) := by decide +kernel
theorem dX1_determinant_46 : decode cX1_determinant 46 = .ok (.ladd, 1) := by decide +kernel
theorem dX1_determinant_47 : decode cX1_determinant 47 = .ok (.aload_n 0, 1) := by decide +kernel
theorem dX1_determinant_48 : decode cX1_determinant 48 = .ok (.iconst 0, 1) := by decide +kernel
theorem dX1_determinant_49 : decode cX1_determinant 49 = .ok (.iconst 1, 1) := by decide +kernel
theorem dX1_determinant_50 : decode cX1_determinant 50 = .ok (.iconst 2, 1) := by decide +kernel
theorem dX1_determinant_51 : decode cX1_determinant 51 = .ok (.invokevirtual 53, 3) := by decide +kernel
theorem dX1_determinant_54 : decode cX1_determinant 54 = .ok (.aload_n 0, 1) := by decide +kernel
theorem dX1_determinant_55 : decode cX1_determinant 55 = .ok (.iconst 2, 1) := by decide +kernel
theorem dX1_determinant_56 : decode cX1_determinant 56 = .ok (.iconst 0, 1) := by decide +kernel
theorem dX1_determinant_57 : decode cX1_determinant 57 = .ok (.iconst 3, 1) := by decide +kernel
theorem dX1_determinant_58 : decode cX1_determinant 58 = .ok (.invokevirtual 53, 3) := by decide +kernel
theorem dX1_determinant_61 : decode cX1_determinant 61 = .ok (.lmul, 1) := by decide +kernel
theorem dX1_determinant_62 : decode cX1_determinant 62 = .ok (.ladd, 1) := by decide +kernel
theorem dX1_determinant_63 : decode cX1_determinant 63 = .ok (.aload_n 0, 1) := by decide +kernel
theorem dX1_determinant_64 : decode cX1_determinant 64 = .ok (.iconst 0, 1) := by decide +kernel
theorem dX1_determinant_65 : decode cX1_determinant 65 = .ok (.iconst 1, 1) := by decide +kernel
theorem dX1_determinant_66 : decode cX1_determinant 66 = .ok (.iconst 3, 1) := by decide +kernel
theorem dX1_determinant_67 : decode cX1_determinant 67 = .ok (.invokevirtual 53, 3) := by decide +kernel
theorem dX1_determinant_70 : decode cX1_determinant 70 = .ok (.aload_n 0, 1) := by decide +kernel
theorem dX1_determinant_71 : decode cX1_determinant 71 = .ok (.iconst 2, 1) := by decide +kernel
theorem dX1_determinant_72 : decode cX1_determinant 72 = .ok (.iconst 0, 1) := by decide +kernel
theorem dX1_determinant_73 : decode cX1_determinant 73 = .ok (.iconst 2, 1) := by decide +kernel
theorem dX1_determinant_74 : decode cX1_determinant 74 = .ok (.invokevirtual 53, 3) := by decide +kernel
theorem dX1_determinant_77 : decode cX1_determinant 77 = .ok (.lmul, 1) := by decide +kernel
theorem dX1_determinant_78 : decode cX1_determinant 78 = .ok (.lsub, 1) := by decide +kernel
theorem dX1_determinant_79 : decode cX1_determinant 79 = .ok (.aload_n 0, 1) := by decide +kernel
theorem dX1_determinant_80 : decode cX1_determinant 80 = .ok (.iconst 0, 1) := by decide +kernel
theorem dX1_determinant_81 : decode cX1_determinant 81 = .ok (.iconst 2, 1) := by decide +kernel
theorem dX1_determinant_82 : decode cX1_determinant 82 = .ok (.iconst 3, 1) := by decide +kernel
theorem dX1_determinant_83 : decode cX1_determinant 83 = .ok (.invokevirtual 53, 3) := by decide +kernel
theorem dX1_determinant_86 : decode cX1_determinant 86 = .ok (.aload_n 0, 1) := by decide +kernel
theorem dX1_determinant_87 : decode cX1_determinant 87 = .ok (.iconst 2, 1) := by decide +kernel
theorem dX1_determinant_88 : decode cX1_determinant 88 = .ok (.iconst 0, 1) := by decide +kernel
theorem dX1_determinant_89 : decode cX1_determinant 89 = .ok (.iconst 1, 1) := by decide +kernel
theorem dX1_determinant_90 : decode cX1_determinant 90 = .ok (.invokevirtual 53, 3) := by decide +kernel
theorem dX1_determinant_93 : decode cX1_determinant 93 = .ok (.lmul, 1) := by decide +kernel
theorem dX1_determinant_94 : decode cX1_determinant 94 = .ok (.ladd, 1) := by decide +kernel
theorem dX1_determinant_95 : decode cX1_determinant 95 = .ok (.lreturn, 1) := by decide +kernel
theorem dX1_pair_0 : decode cX1_pair 0 = .ok (.iload_n 1, 1) := by decide +kernel
theorem dX1_pair_1 : decode cX1_pair 1 = .ok (.iconst 4, 1) := by decide +kernel
theorem dX1_pair_2 : decode cX1_pair 2 = .ok (.imul, 1) := by decide +kernel
theorem dX1_pair_3 : decode cX1_pair 3 = .ok (.istore 4, 2) := by decide +kernel
theorem dX1_pair_5 : decode cX1_pair 5 = .ok (.iload 4, 2) := by decide +kernel
theorem dX1_pair_7 : decode cX1_pair 7 = .ok (.iconst 4, 1) := by decide +kernel
theorem dX1_pair_8 : decode cX1_pair 8 = .ok (.iadd, 1) := by decide +kernel
theorem dX1_pair_9 : decode cX1_pair 9 = .ok (.istore 5, 2) := by decide +kernel
theorem dX1_pair_11 : decode cX1_pair 11 = .ok (.aload_n 0, 1) := by decide +kernel
theorem dX1_pair_12 : decode cX1_pair 12 = .ok (.getfield 21, 3) := by decide +kernel
theorem dX1_pair_15 : decode cX1_pair 15 = .ok (.iload 4, 2) := by decide +kernel
theorem dX1_pair_17 : decode cX1_pair 17 = .ok (.iload_n 2, 1) := by decide +kernel
theorem dX1_pair_18 : decode cX1_pair 18 = .ok (.iadd, 1) := by decide +kernel
theorem dX1_pair_19 : decode cX1_pair 19 = .ok (.laload, 1) := by decide +kernel
theorem dX1_pair_20 : decode cX1_pair 20 = .ok (.aload_n 0, 1) := by decide +kernel
theorem dX1_pair_21 : decode cX1_pair 21 = .ok (.getfield 21, 3) := by decide +kernel
theorem dX1_pair_24 : decode cX1_pair 24 = .ok (.iload 5, 2) := by decide +kernel
theorem dX1_pair_26 : decode cX1_pair 26 = .ok (.iload_n 3, 1) := by decide +kernel
theorem dX1_pair_27 : decode cX1_pair 27 = .ok (.iadd, 1) := by decide +kernel
theorem dX1_pair_28 : decode cX1_pair 28 = .ok (.laload, 1) := by decide +kernel
theorem dX1_pair_29 : decode cX1_pair 29 = .ok (.lmul, 1) := by decide +kernel
theorem dX1_pair_30 : decode cX1_pair 30 = .ok (.aload_n 0, 1) := by decide +kernel
theorem dX1_pair_31 : decode cX1_pair 31 = .ok (.getfield 21, 3) := by decide +kernel
theorem dX1_pair_34 : decode cX1_pair 34 = .ok (.iload 4, 2) := by decide +kernel
theorem dX1_pair_36 : decode cX1_pair 36 = .ok (.iload_n 3, 1) := by decide +kernel
theorem dX1_pair_37 : decode cX1_pair 37 = .ok (.iadd, 1) := by decide +kernel
theorem dX1_pair_38 : decode cX1_pair 38 = .ok (.laload, 1) := by decide +kernel
theorem dX1_pair_39 : decode cX1_pair 39 = .ok (.aload_n 0, 1) := by decide +kernel
theorem dX1_pair_40 : decode cX1_pair 40 = .ok (.getfield 21, 3) := by decide +kernel
theorem dX1_pair_43 : decode cX1_pair 43 = .ok (.iload 5, 2) := by decide +kernel
theorem dX1_pair_45 : decode cX1_pair 45 = .ok (.iload_n 2, 1) := by decide +kernel
theorem dX1_pair_46 : decode cX1_pair 46 = .ok (.iadd, 1) := by decide +kernel
theorem dX1_pair_47 : decode cX1_pair 47 = .ok (.laload, 1) := by decide +kernel
theorem dX1_pair_48 : decode cX1_pair 48 = .ok (.lmul, 1) := by decide +kernel
theorem dX1_pair_49 : decode cX1_pair 49 = .ok (.lsub, 1) := by decide +kernel
theorem dX1_pair_50 : decode cX1_pair 50 = .ok (.lreturn, 1) := by decide +kernel
theorem dX2_init_0 : decode cX2_init 0 = .ok (.aload_n 0, 1) := by decide +kernel
theorem dX2_init_1 : decode cX2_init 1 = .ok (.invokespecial 5, 3) := by decide +kernel
theorem dX2_init_4 : decode cX2_init 4 = .ok (.aload_n 0, 1) := by decide +kernel
theorem dX2_init_5 : decode cX2_init 5 = .ok (.bipush 121, 2) := by decide +kernel
theorem dX2_init_7 : decode cX2_init 7 = .ok (.newarray .long, 2) := by decide +kernel
theorem dX2_init_9 : decode cX2_init 9 = .ok (.putfield 11, 3) := by decide +kernel
theorem dX2_init_12 : decode cX2_init 12 = .ok (.aload_n 0, 1) := by decide +kernel
theorem dX2_init_13 : decode cX2_init 13 = .ok (.bipush 121, 2) := by decide +kernel
theorem dX2_init_15 : decode cX2_init 15 = .ok (.newarray .long, 2) := by decide +kernel
theorem dX2_init_17 : decode cX2_init 17 = .ok (.putfield 15, 3) := by decide +kernel
theorem dX2_init_20 : decode cX2_init 20 = .ok (.return_, 1) := by decide +kernel
set_option maxRecDepth 20000 in
theorem ggX2_comings_X2_beginAt : GoodIn wsX2_comings wsX2_beginAt := goodIn_r _ [9, 4, 10, 38, 39] (by decide +kernel) (by decide +kernel)
set_option maxRecDepth 20000 in
theorem gX2_comings_X2_beginAt : GoodIn wsX2_comings (wsV RX2 24 RX2 yX2_beginAt wsX2_beginAt) := goodIn_app (goodIn_of _ (by decide +kernel)) ggX2_comings_X2_beginAt
set_option maxRecDepth 20000 in
theorem ggX2_comings_X2_push : GoodIn wsX2_comings wsX2_push := goodIn_r _ [14, 4, 10, 15, 16, 8, 17, 18, 38, 39] (by decide +kernel) (by decide +kernel)
set_option maxRecDepth 20000 in
theorem gX2_comings_X2_push : GoodIn wsX2_comings (wsV RX2 35 RX2 yX2_push wsX2_push) := goodIn_app (goodIn_of _ (by decide +kernel)) ggX2_comings_X2_push
set_option maxRecDepth 20000 in
theorem ggX2_comings_X2_swapRows : GoodIn wsX2_comings wsX2_swapRows := goodIn_r _ [22, 4, 10, 38, 39] (by decide +kernel) (by decide +kernel)
set_option maxRecDepth 20000 in
theorem gX2_comings_X2_swapRows : GoodIn wsX2_comings (wsV RX2 39 RX2 yX2_swapRows wsX2_swapRows) := goodIn_app (goodIn_of _ (by decide +kernel)) ggX2_comings_X2_swapRows
theorem dX2_comings_0 : decode cX2_comings 0 = .ok (.aload_n 0, 1) := by decide +kernel
theorem dX2_comings_1 : decode cX2_comings 1 = .ok (.aload_n 1, 1) := by decide +kernel
theorem dX2_comings_2 : decode cX2_comings 2 = .ok (.getfield 18, 3) := by decide +kernel
theorem dX2_comings_5 : decode cX2_comings 5 = .ok (.invokevirtual 24, 3) := by decide +kernel
theorem dX2_comings_8 : decode cX2_comings 8 = .ok (.iconst 0, 1) := by decide +kernel
theorem dX2_comings_9 : decode cX2_comings 9 = .ok (.istore 4, 2) := by decide +kernel
theorem dX2_comings_11 : decode cX2_comings 11 = .ok (.iload 4, 2) := by decide +kernel
theorem dX2_comings_13 : decode cX2_comings 13 = .ok (.iload_n 2, 1) := by decide +kernel
theorem dX2_comings_14 : decode cX2_comings 14 = .ok (.if_icmp .ge 72, 3) := by decide +kernel
theorem dX2_comings_17 : decode cX2_comings 17 = .ok (.iload_n 3, 1) := by decide +kernel
theorem dX2_comings_18 : decode cX2_comings 18 = .ok (.ifCond .eq 7, 3) := by decide +kernel
theorem dX2_comings_21 : decode cX2_comings 21 = .ok (.iconst 1, 1) := by decide +kernel
theorem dX2_comings_22 : decode cX2_comings 22 = .ok (.goto 5, 3) := by decide +kernel
theorem dX2_comings_25 : decode cX2_comings 25 = .ok (.bipush (-60), 2) := by decide +kernel
theorem dX2_comings_27 : decode cX2_comings 27 = .ok (.istore 5, 2) := by decide +kernel
theorem dX2_comings_29 : decode cX2_comings 29 = .ok (.iload 5, 2) := by decide +kernel
theorem dX2_comings_31 : decode cX2_comings 31 = .ok (.bipush 60, 2) := by decide +kernel
theorem dX2_comings_33 : decode cX2_comings 33 = .ok (.if_icmp .gt 43, 3) := by decide +kernel
theorem dX2_comings_36 : decode cX2_comings 36 = .ok (.iconst 0, 1) := by decide +kernel
theorem dX2_comings_37 : decode cX2_comings 37 = .ok (.istore 6, 2) := by decide +kernel
theorem dX2_comings_39 : decode cX2_comings 39 = .ok (.iload 6, 2) := by decide +kernel
theorem dX2_comings_41 : decode cX2_comings 41 = .ok (.aload_n 1, 1) := by decide +kernel
theorem dX2_comings_42 : decode cX2_comings 42 = .ok (.getfield 28, 3) := by decide +kernel
theorem dX2_comings_45 : decode cX2_comings 45 = .ok (.if_icmp .ge 25, 3) := by decide +kernel
theorem dX2_comings_48 : decode cX2_comings 48 = .ok (.aload_n 0, 1) := by decide +kernel
theorem dX2_comings_49 : decode cX2_comings 49 = .ok (.iload 5, 2) := by decide +kernel
theorem dX2_comings_51 : decode cX2_comings 51 = .ok (.iload 5, 2) := by decide +kernel
theorem dX2_comings_53 : decode cX2_comings 53 = .ok (.aload_n 1, 1) := by decide +kernel
theorem dX2_comings_54 : decode cX2_comings 54 = .ok (.getfield 31, 3) := by decide +kernel
theorem dX2_comings_57 : decode cX2_comings 57 = .ok (.iload 6, 2) := by decide +kernel
theorem dX2_comings_59 : decode cX2_comings 59 = .ok (.iaload, 1) := by decide +kernel
theorem dX2_comings_60 : decode cX2_comings 60 = .ok (.iadd, 1) := by decide +kernel
theorem dX2_comings_61 : decode cX2_comings 61 = .ok (.invokevirtual 35, 3) := by decide +kernel
theorem dX2_comings_64 : decode cX2_comings 64 = .ok (.iinc 6 1, 3) := by decide +kernel
theorem dX2_comings_67 : decode cX2_comings 67 = .ok (.goto (-28), 3) := by decide +kernel
theorem dX2_comings_70 : decode cX2_comings 70 = .ok (.iinc 5 1, 3) := by decide +kernel
theorem dX2_comings_73 : decode cX2_comings 73 = .ok (.goto (-44), 3) := by decide +kernel
theorem dX2_comings_76 : decode cX2_comings 76 = .ok (.aload_n 0, 1) := by decide +kernel
theorem dX2_comings_77 : decode cX2_comings 77 = .ok (.invokevirtual 39, 3) := by decide +kernel
theorem dX2_comings_80 : decode cX2_comings 80 = .ok (.iinc 4 1, 3) := by decide +kernel
theorem dX2_comings_83 : decode cX2_comings 83 = .ok (.goto (-72), 3) := by decide +kernel
theorem dX2_comings_86 : decode cX2_comings 86 = .ok (.aload_n 0, 1) := by decide +kernel
theorem dX2_comings_87 : decode cX2_comings 87 = .ok (.getfield 11, 3) := by decide +kernel
theorem dX2_comings_90 : decode cX2_comings 90 = .ok (.bipush 60, 2) := by decide +kernel
theorem dX2_comings_92 : decode cX2_comings 92 = .ok (.laload, 1) := by decide +kernel
theorem dX2_comings_93 : decode cX2_comings 93 = .ok (.lreturn, 1) := by decide +kernel
set_option maxRecDepth 20000 in
theorem ggX2_mirrored_X2_beginAt : GoodIn wsX2_mirrored wsX2_beginAt := goodIn_r _ [16, 11, 17, 45, 46] (by decide +kernel) (by decide +kernel)
set_option maxRecDepth 20000 in
theorem gX2_mirrored_X2_beginAt : GoodIn wsX2_mirrored (wsV RX2 24 RX2 yX2_beginAt wsX2_beginAt) := goodIn_app (goodIn_of _ (by decide +kernel)) ggX2_mirrored_X2_beginAt
set_option maxRecDepth 20000 in
theorem ggX2_mirrored_X2_push : GoodIn wsX2_mirrored wsX2_push := goodIn_r _ [21, 11, 17, 22, 23, 15, 24, 25, 45, 46] (by decide +kernel) (by decide +kernel)
set_option maxRecDepth 20000 in
theorem gX2_mirrored_X2_push : GoodIn wsX2_mirrored (wsV RX2 35 RX2 yX2_push wsX2_push) := goodIn_app (goodIn_of _ (by decide +kernel)) ggX2_mirrored_X2_push
set_option maxRecDepth 20000 in
theorem ggX2_mirrored_X2_swapRows : GoodIn wsX2_mirrored wsX2_swapRows := goodIn_r _ [29, 11, 17, 45, 46] (by decide +kernel) (by decide +kernel)
set_option maxRecDepth 20000 in
theorem gX2_mirrored_X2_swapRows : GoodIn wsX2_mirrored (wsV RX2 39 RX2 yX2_swapRows wsX2_swapRows) := goodIn_app (goodIn_of _ (by decide +kernel)) ggX2_mirrored_X2_swapRows
theorem dX2_mirrored_0 : decode cX2_mirrored 0 = .ok (.aload_n 1, 1) := by decide +kernel
theorem dX2_mirrored_1 : decode cX2_mirrored 1 = .ok (.getfield 42, 3) := by decide +kernel
theorem dX2_mirrored_4 : decode cX2_mirrored 4 = .ok (.aload_n 1, 1) := by decide +kernel
theorem dX2_mirrored_5 : decode cX2_mirrored 5 = .ok (.getfield 45, 3) := by decide +kernel
theorem dX2_mirrored_8 : decode cX2_mirrored 8 = .ok (.isub, 1) := by decide +kernel
theorem dX2_mirrored_9 : decode cX2_mirrored 9 = .ok (.istore 4, 2) := by decide +kernel
theorem dX2_mirrored_11 : decode cX2_mirrored 11 = .ok (.iload_n 3, 1) := by decide +kernel
theorem dX2_mirrored_12 : decode cX2_mirrored 12 = .ok (.aload_n 1, 1) := by decide +kernel
theorem dX2_mirrored_13 : decode cX2_mirrored 13 = .ok (.getfield 18, 3) := by decide +kernel
theorem dX2_mirrored_16 : decode cX2_mirrored 16 = .ok (.isub, 1) := by decide +kernel
theorem dX2_mirrored_17 : decode cX2_mirrored 17 = .ok (.istore 5, 2) := by decide +kernel
theorem dX2_mirrored_19 : decode cX2_mirrored 19 = .ok (.iload 4, 2) := by decide +kernel
theorem dX2_mirrored_21 : decode cX2_mirrored 21 = .ok (.invokestatic 48, 3) := by decide +kernel
theorem dX2_mirrored_24 : decode cX2_mirrored 24 = .ok (.bipush 60, 2) := by decide +kernel
theorem dX2_mirrored_26 : decode cX2_mirrored 26 = .ok (.if_icmp .gt 13, 3) := by decide +kernel
theorem dX2_mirrored_29 : decode cX2_mirrored 29 = .ok (.iload 5, 2) := by decide +kernel
theorem dX2_mirrored_31 : decode cX2_mirrored 31 = .ok (.invokestatic 48, 3) := by decide +kernel
theorem dX2_mirrored_34 : decode cX2_mirrored 34 = .ok (.bipush 60, 2) := by decide +kernel
theorem dX2_mirrored_36 : decode cX2_mirrored 36 = .ok (.if_icmp .le 5, 3) := by decide +kernel
theorem dX2_mirrored_39 : decode cX2_mirrored 39 = .ok (.lconst 0, 1) := by decide +kernel
theorem dX2_mirrored_40 : decode cX2_mirrored 40 = .ok (.lreturn, 1) := by decide +kernel
theorem dX2_mirrored_41 : decode cX2_mirrored 41 = .ok (.aload_n 0, 1) := by decide +kernel
theorem dX2_mirrored_42 : decode cX2_mirrored 42 = .ok (.iconst 0, 1) := by decide +kernel
theorem dX2_mirrored_43 : decode cX2_mirrored 43 = .ok (.invokevirtual 24, 3) := by decide +kernel
theorem dX2_mirrored_46 : decode cX2_mirrored 46 = .ok (.iconst 0, 1) := by decide +kernel
theorem dX2_mirrored_47 : decode cX2_mirrored 47 = .ok (.istore 6, 2) := by decide +kernel
theorem dX2_mirrored_49 : decode cX2_mirrored 49 = .ok (.iload 6, 2) := by decide +kernel
theorem dX2_mirrored_51 : decode cX2_mirrored 51 = .ok (.iload_n 2, 1) := by decide +kernel
theorem dX2_mirrored_52 : decode cX2_mirrored 52 = .ok (.if_icmp .ge 74, 3) := by decide +kernel
theorem dX2_mirrored_55 : decode cX2_mirrored 55 = .ok (.bipush (-60), 2) := by decide +kernel
theorem dX2_mirrored_57 : decode cX2_mirrored 57 = .ok (.istore 7, 2) := by decide +kernel
theorem dX2_mirrored_59 : decode cX2_mirrored 59 = .ok (.iload 7, 2) := by decide +kernel
theorem dX2_mirrored_61 : decode cX2_mirrored 61 = .ok (.bipush 60, 2) := by decide +kernel
theorem dX2_mirrored_63 : decode cX2_mirrored 63 = .ok (.if_icmp .gt 53, 3) := by decide +kernel
theorem dX2_mirrored_66 : decode cX2_mirrored 66 = .ok (.iconst 0, 1) := by decide +kernel
theorem dX2_mirrored_67 : decode cX2_mirrored 67 = .ok (.istore 8, 2) := by decide +kernel
theorem dX2_mirrored_69 : decode cX2_mirrored 69 = .ok (.iload 8, 2) := by decide +kernel
theorem dX2_mirrored_71 : decode cX2_mirrored 71 = .ok (.aload_n 1, 1) := by decide +kernel
theorem dX2_mirrored_72 : decode cX2_mirrored 72 = .ok (.getfield 28, 3) := by decide +kernel
theorem dX2_mirrored_75 : decode cX2_mirrored 75 = .ok (.if_icmp .ge 35, 3) := by decide +kernel
theorem dX2_mirrored_78 : decode cX2_mirrored 78 = .ok (.aload_n 1, 1) := by decide +kernel
theorem dX2_mirrored_79 : decode cX2_mirrored 79 = .ok (.getfield 31, 3) := by decide +kernel
theorem dX2_mirrored_82 : decode cX2_mirrored 82 = .ok (.iload 8, 2) := by decide +kernel
theorem dX2_mirrored_84 : decode cX2_mirrored 84 = .ok (.iaload, 1) := by decide +kernel
theorem dX2_mirrored_85 : decode cX2_mirrored 85 = .ok (.ifCond .le 19, 3) := by decide +kernel
theorem dX2_mirrored_88 : decode cX2_mirrored 88 = .ok (.aload_n 0, 1) := by decide +kernel
theorem dX2_mirrored_89 : decode cX2_mirrored 89 = .ok (.iload 7, 2) := by decide +kernel
theorem dX2_mirrored_91 : decode cX2_mirrored 91 = .ok (.iload 7, 2) := by decide +kernel
theorem dX2_mirrored_93 : decode cX2_mirrored 93 = .ok (.aload_n 1, 1) := by decide +kernel
theorem dX2_mirrored_94 : decode cX2_mirrored 94 = .ok (.getfield 54, 3) := by decide +kernel
theorem dX2_mirrored_97 : decode cX2_mirrored 97 = .ok (.iload 8, 2) := by decide +kernel
theorem dX2_mirrored_99 : decode cX2_mirrored 99 = .ok (.iaload, 1) := by decide +kernel
theorem dX2_mirrored_100 : decode cX2_mirrored 100 = .ok (.iadd, 1) := by decide +kernel
theorem dX2_mirrored_101 : decode cX2_mirrored 101 = .ok (.invokevirtual 35, 3) := by decide +kernel
theorem dX2_mirrored_104 : decode cX2_mirrored 104 = .ok (.iinc 8 1, 3) := by decide +kernel
theorem dX2_mirrored_107 : decode cX2_mirrored 107 = .ok (.goto (-38), 3) := by decide +kernel
theorem dX2_mirrored_110 : decode cX2_mirrored 110 = .ok (.iinc 7 1, 3) := by decide +kernel
theorem dX2_mirrored_113 : decode cX2_mirrored 113 = .ok (.goto (-54), 3) := by decide +kernel
theorem dX2_mirrored_116 : decode cX2_mirrored 116 = .ok (.aload_n 0, 1) := by decide +kernel
theorem dX2_mirrored_117 : decode cX2_mirrored 117 = .ok (.invokevirtual 39, 3) := by decide +kernel
theorem dX2_mirrored_120 : decode cX2_mirrored 120 = .ok (.iinc 6 1, 3) := by decide +kernel
theorem dX2_mirrored_123 : decode cX2_mirrored 123 = .ok (.goto (-74), 3) := by decide +kernel
theorem dX2_mirrored_126 : decode cX2_mirrored 126 = .ok (.aload_n 0, 1) := by decide +kernel
theorem dX2_mirrored_127 : decode cX2_mirrored 127 = .ok (.getfield 11, 3) := by decide +kernel
theorem dX2_mirrored_130 : decode cX2_mirrored 130 = .ok (.bipush 60, 2) := by decide +kernel
theorem dX2_mirrored_132 : decode cX2_mirrored 132 = .ok (.iload 4, 2) := by decide +kernel
theorem dX2_mirrored_134 : decode cX2_mirrored 134 = .ok (.iadd, 1) := by decide +kernel
theorem dX2_mirrored_135 : decode cX2_mirrored 135 = .ok (.laload, 1) := by decide +kernel
theorem dX2_mirrored_136 : decode cX2_mirrored 136 = .ok (.lstore 6, 2) := by decide +kernel
theorem dX2_mirrored_138 : decode cX2_mirrored 138 = .ok (.aload_n 0, 1) := by decide +kernel
theorem dX2_mirrored_139 : decode cX2_mirrored 139 = .ok (.iconst 0, 1) := by decide +kernel
theorem dX2_mirrored_140 : decode cX2_mirrored 140 = .ok (.invokevirtual 24, 3) := by decide +kernel
theorem dX2_mirrored_143 : decode cX2_mirrored 143 = .ok (.iconst 0, 1) := by decide +kernel
theorem dX2_mirrored_144 : decode cX2_mirrored 144 = .ok (.istore 8, 2) := by decide +kernel
theorem dX2_mirrored_146 : decode cX2_mirrored 146 = .ok (.iload 8, 2) := by decide +kernel
theorem dX2_mirrored_148 : decode cX2_mirrored 148 = .ok (.iload_n 2, 1) := by decide +kernel
theorem dX2_mirrored_149 : decode cX2_mirrored 149 = .ok (.if_icmp .ge 50, 3) := by decide +kernel
theorem dX2_mirrored_152 : decode cX2_mirrored 152 = .ok (.bipush (-60), 2) := by decide +kernel
theorem dX2_mirrored_154 : decode cX2_mirrored 154 = .ok (.istore 9, 2) := by decide +kernel
theorem dX2_mirrored_156 : decode cX2_mirrored 156 = .ok (.iload 9, 2) := by decide +kernel
theorem dX2_mirrored_158 : decode cX2_mirrored 158 = .ok (.bipush 60, 2) := by decide +kernel
theorem dX2_mirrored_160 : decode cX2_mirrored 160 = .ok (.if_icmp .gt 29, 3) := by decide +kernel
theorem dX2_mirrored_163 : decode cX2_mirrored 163 = .ok (.aload_n 0, 1) := by decide +kernel
theorem dX2_mirrored_164 : decode cX2_mirrored 164 = .ok (.iload 9, 2) := by decide +kernel
theorem dX2_mirrored_166 : decode cX2_mirrored 166 = .ok (.iload 9, 2) := by decide +kernel
theorem dX2_mirrored_168 : decode cX2_mirrored 168 = .ok (.iconst 1, 1) := by decide +kernel
theorem dX2_mirrored_169 : decode cX2_mirrored 169 = .ok (.iadd, 1) := by decide +kernel
theorem dX2_mirrored_170 : decode cX2_mirrored 170 = .ok (.invokevirtual 35, 3) := by decide +kernel
theorem dX2_mirrored_173 : decode cX2_mirrored 173 = .ok (.aload_n 0, 1) := by decide +kernel
theorem dX2_mirrored_174 : decode cX2_mirrored 174 = .ok (.iload 9, 2) := by decide +kernel
theorem dX2_mirrored_176 : decode cX2_mirrored 176 = .ok (.iload 9, 2) := by decide +kernel
theorem dX2_mirrored_178 : decode cX2_mirrored 178 = .ok (.iconst 1, 1) := by decide +kernel
theorem dX2_mirrored_179 : decode cX2_mirrored 179 = .ok (.isub, 1) := by decide +kernel
theorem dX2_mirrored_180 : decode cX2_mirrored 180 = .ok (.invokevirtual 35, 3) := by decide +kernel
theorem dX2_mirrored_183 : decode cX2_mirrored 183 = .ok (.iinc 9 1, 3) := by decide +kernel
theorem dX2_mirrored_186 : decode cX2_mirrored 186 = .ok (.goto (-30), 3) := by decide +kernel
theorem dX2_mirrored_189 : decode cX2_mirrored 189 = .ok (.aload_n 0, 1) := by decide +kernel
theorem dX2_mirrored_190 : decode cX2_mirrored 190 = .ok (.invokevirtual 39, 3) := by decide +kernel
theorem dX2_mirrored_193 : decode cX2_mirrored 193 = .ok (.iinc 8 1, 3) := by decide +kernel
theorem dX2_mirrored_196 : decode cX2_mirrored 196 = .ok (.goto (-50), 3) := by decide +kernel
theorem dX2_mirrored_199 : decode cX2_mirrored 199 = .ok (.lload 6, 2) := by decide +kernel
theorem dX2_mirrored_201 : decode cX2_mirrored 201 = .ok (.aload_n 0, 1) := by decide +kernel
theorem dX2_mirrored_202 : decode cX2_mirrored 202 = .ok (.getfield 11, 3) := by decide +kernel
theorem dX2_mirrored_205 : decode cX2_mirrored 205 = .ok (.bipush 60, 2) := by decide +kernel
theorem dX2_mirrored_207 : decode cX2_mirrored 207 = .ok (.iload 5, 2) := by decide +kernel
theorem dX2_mirrored_209 : decode cX2_mirrored 209 = .ok (.iadd, 1) := by decide +kernel
theorem dX2_mirrored_210 : decode cX2_mirrored 210 = .ok (.laload, 1) := by decide +kernel
theorem dX2_mirrored_211 : decode cX2_mirrored 211 = .ok (.lmul, 1) := by decide +kernel
theorem dX2_mirrored_212 : decode cX2_mirrored 212 = .ok (.lreturn, 1) := by decide +kernel
theorem dX2_beginAt_0 : decode cX2_beginAt 0 = .ok (.iconst 0, 1) := by decide +kernel
theorem dX2_beginAt_1 : decode cX2_beginAt 1 = .ok (.istore_n 2, 1) := by decide +kernel
theorem dX2_beginAt_2 : decode cX2_beginAt 2 = .ok (.iload_n 2, 1) := by decide +kernel
theorem dX2_beginAt_3 : decode cX2_beginAt 3 = .ok (.bipush 121, 2) := by decide +kernel
theorem dX2_beginAt_5 : decode cX2_beginAt 5 = .ok (.if_icmp .ge 35, 3) := by decide +kernel
theorem dX2_beginAt_8 : decode cX2_beginAt 8 = .ok (.aload_n 0, 1) := by decide +kernel
theorem dX2_beginAt_9 : decode cX2_beginAt 9 = .ok (.getfield 11, 3) := by decide +kernel
theorem dX2_beginAt_12 : decode cX2_beginAt 12 = .ok (.iload_n 2, 1) := by decide +kernel
theorem dX2_beginAt_13 : decode cX2_beginAt 13 = .ok (.iload_n 2, 1) := by decide +kernel
theorem dX2_beginAt_14 : decode cX2_beginAt 14 = .ok (.iload_n 1, 1) := by decide +kernel
theorem dX2_beginAt_15 : decode cX2_beginAt 15 = .ok (.bipush 60, 2) := by decide +kernel
theorem dX2_beginAt_17 : decode cX2_beginAt 17 = .ok (.iadd, 1) := by decide +kernel
theorem dX2_beginAt_18 : decode cX2_beginAt 18 = .ok (.if_icmp .ne 7, 3) := by decide +kernel
theorem dX2_beginAt_21 : decode cX2_beginAt 21 = .ok (.lconst 1, 1) := by decide +kernel
theorem dX2_beginAt_22 : decode cX2_beginAt 22 = .ok (.goto 4, 3) := by decide +kernel
theorem dX2_beginAt_25 : decode cX2_beginAt 25 = .ok (.lconst 0, 1) := by decide +kernel
theorem dX2_beginAt_26 : decode cX2_beginAt 26 = .ok (.lastore, 1) := by decide +kernel
theorem dX2_beginAt_27 : decode cX2_beginAt 27 = .ok (.aload_n 0, 1) := by decide +kernel
theorem dX2_beginAt_28 : decode cX2_beginAt 28 = .ok (.getfield 15, 3) := by decide +kernel
theorem dX2_beginAt_31 : decode cX2_beginAt 31 = .ok (.iload_n 2, 1) := by decide +kernel
theorem dX2_beginAt_32 : decode cX2_beginAt 32 = .ok (.lconst 0, 1) := by decide +kernel
theorem dX2_beginAt_33 : decode cX2_beginAt 33 = .ok (.lastore, 1) := by decide +kernel
theorem dX2_beginAt_34 : decode cX2_beginAt 34 = .ok (.iinc 2 1, 3) := by decide +kernel
theorem dX2_beginAt_37 : decode cX2_beginAt 37 = .ok (.goto (-35), 3) := by decide +kernel
theorem dX2_beginAt_40 : decode cX2_beginAt 40 = .ok (.return_, 1) := by decide +kernel
set_option maxRecDepth 20000 in
theorem ggX2_push_X2_added : GoodIn wsX2_push wsX2_added := goodIn_r _ [6, 7] (by decide +kernel) (by decide +kernel)
set_option maxRecDepth 20000 in
theorem gX2_push_X2_added : GoodIn wsX2_push (va_wsS RX2 57 yX2_added wsX2_added) := goodIn_app (goodIn_of _ (by decide +kernel)) ggX2_push_X2_added
theorem dX2_push_0 : decode cX2_push 0 = .ok (.iload_n 2, 1) := by decide +kernel
theorem dX2_push_1 : decode cX2_push 1 = .ok (.bipush (-60), 2) := by decide +kernel
theorem dX2_push_3 : decode cX2_push 3 = .ok (.if_icmp .lt 53, 3) := by decide +kernel
theorem dX2_push_6 : decode cX2_push 6 = .ok (.iload_n 2, 1) := by decide +kernel
theorem dX2_push_7 : decode cX2_push 7 = .ok (.bipush 60, 2) := by decide +kernel
theorem dX2_push_9 : decode cX2_push 9 = .ok (.if_icmp .gt 47, 3) := by decide +kernel
theorem dX2_push_12 : decode cX2_push 12 = .ok (.aload_n 0, 1) := by decide +kernel
theorem dX2_push_13 : decode cX2_push 13 = .ok (.getfield 11, 3) := by decide +kernel
theorem dX2_push_16 : decode cX2_push 16 = .ok (.iload_n 1, 1) := by decide +kernel
theorem dX2_push_17 : decode cX2_push 17 = .ok (.bipush 60, 2) := by decide +kernel
theorem dX2_push_19 : decode cX2_push 19 = .ok (.iadd, 1) := by decide +kernel
theorem dX2_push_20 : decode cX2_push 20 = .ok (.laload, 1) := by decide +kernel
theorem dX2_push_21 : decode cX2_push 21 = .ok (.lconst 0, 1) := by decide +kernel
theorem dX2_push_22 : decode cX2_push 22 = .ok (.lcmp, 1) := by decide +kernel
theorem dX2_push_23 : decode cX2_push 23 = .ok (.ifCond .le 33, 3) := by decide +kernel
theorem dX2_push_26 : decode cX2_push 26 = .ok (.aload_n 0, 1) := by decide +kernel
theorem dX2_push_27 : decode cX2_push 27 = .ok (.getfield 15, 3) := by decide +kernel
theorem dX2_push_30 : decode cX2_push 30 = .ok (.iload_n 2, 1) := by decide +kernel
theorem dX2_push_31 : decode cX2_push 31 = .ok (.bipush 60, 2) := by decide +kernel
theorem dX2_push_33 : decode cX2_push 33 = .ok (.iadd, 1) := by decide +kernel
theorem dX2_push_34 : decode cX2_push 34 = .ok (.aload_n 0, 1) := by decide +kernel
theorem dX2_push_35 : decode cX2_push 35 = .ok (.getfield 15, 3) := by decide +kernel
theorem dX2_push_38 : decode cX2_push 38 = .ok (.iload_n 2, 1) := by decide +kernel
theorem dX2_push_39 : decode cX2_push 39 = .ok (.bipush 60, 2) := by decide +kernel
theorem dX2_push_41 : decode cX2_push 41 = .ok (.iadd, 1) := by decide +kernel
theorem dX2_push_42 : decode cX2_push 42 = .ok (.laload, 1) := by decide +kernel
theorem dX2_push_43 : decode cX2_push 43 = .ok (.aload_n 0, 1) := by decide +kernel
theorem dX2_push_44 : decode cX2_push 44 = .ok (.getfield 11, 3) := by decide +kernel
theorem dX2_push_47 : decode cX2_push 47 = .ok (.iload_n 1, 1) := by decide +kernel
theorem dX2_push_48 : decode cX2_push 48 = .ok (.bipush 60, 2) := by decide +kernel
theorem dX2_push_50 : decode cX2_push 50 = .ok (.iadd, 1) := by decide +kernel
theorem dX2_push_51 : decode cX2_push 51 = .ok (.laload, 1) := by decide +kernel
theorem dX2_push_52 : decode cX2_push 52 = .ok (.invokestatic 57, 3) := by decide +kernel
theorem dX2_push_55 : decode cX2_push 55 = .ok (.lastore, 1) := by decide +kernel
theorem dX2_push_56 : decode cX2_push 56 = .ok (.return_, 1) := by decide +kernel
theorem dX2_added_0 : decode cX2_added 0 = .ok (.lload_n 0, 1) := by decide +kernel
theorem dX2_added_1 : decode cX2_added 1 = .ok (.ldc2_w 61, 3) := by decide +kernel
theorem dX2_added_4 : decode cX2_added 4 = .ok (.lload_n 2, 1) := by decide +kernel
theorem dX2_added_5 : decode cX2_added 5 = .ok (.lsub, 1) := by decide +kernel
theorem dX2_added_6 : decode cX2_added 6 = .ok (.lcmp, 1) := by decide +kernel
theorem dX2_added_7 : decode cX2_added 7 = .ok (.ifCond .lt 9, 3) := by decide +kernel
theorem dX2_added_10 : decode cX2_added 10 = .ok (.ldc2_w 61, 3) := by decide +kernel
theorem dX2_added_13 : decode cX2_added 13 = .ok (.goto 6, 3) := by decide +kernel
theorem dX2_added_16 : decode cX2_added 16 = .ok (.lload_n 0, 1) := by decide +kernel
theorem dX2_added_17 : decode cX2_added 17 = .ok (.lload_n 2, 1) := by decide +kernel
theorem dX2_added_18 : decode cX2_added 18 = .ok (.ladd, 1) := by decide +kernel
theorem dX2_added_19 : decode cX2_added 19 = .ok (.lreturn, 1) := by decide +kernel
theorem dX2_swapRows_0 : decode cX2_swapRows 0 = .ok (.aload_n 0, 1) := by decide +kernel
theorem dX2_swapRows_1 : decode cX2_swapRows 1 = .ok (.getfield 11, 3) := by decide +kernel
theorem dX2_swapRows_4 : decode cX2_swapRows 4 = .ok (.astore_n 1, 1) := by decide +kernel
theorem dX2_swapRows_5 : decode cX2_swapRows 5 = .ok (.aload_n 0, 1) := by decide +kernel
theorem dX2_swapRows_6 : decode cX2_swapRows 6 = .ok (.aload_n 0, 1) := by decide +kernel
theorem dX2_swapRows_7 : decode cX2_swapRows 7 = .ok (.getfield 15, 3) := by decide +kernel
theorem dX2_swapRows_10 : decode cX2_swapRows 10 = .ok (.putfield 11, 3) := by decide +kernel
theorem dX2_swapRows_13 : decode cX2_swapRows 13 = .ok (.aload_n 0, 1) := by decide +kernel
theorem dX2_swapRows_14 : decode cX2_swapRows 14 = .ok (.aload_n 1, 1) := by decide +kernel
theorem dX2_swapRows_15 : decode cX2_swapRows 15 = .ok (.putfield 15, 3) := by decide +kernel
theorem dX2_swapRows_18 : decode cX2_swapRows 18 = .ok (.iconst 0, 1) := by decide +kernel
theorem dX2_swapRows_19 : decode cX2_swapRows 19 = .ok (.istore_n 2, 1) := by decide +kernel
theorem dX2_swapRows_20 : decode cX2_swapRows 20 = .ok (.iload_n 2, 1) := by decide +kernel
theorem dX2_swapRows_21 : decode cX2_swapRows 21 = .ok (.bipush 121, 2) := by decide +kernel
theorem dX2_swapRows_23 : decode cX2_swapRows 23 = .ok (.if_icmp .ge 16, 3) := by decide +kernel
theorem dX2_swapRows_26 : decode cX2_swapRows 26 = .ok (.aload_n 0, 1) := by decide +kernel
theorem dX2_swapRows_27 : decode cX2_swapRows 27 = .ok (.getfield 15, 3) := by decide +kernel
theorem dX2_swapRows_30 : decode cX2_swapRows 30 = .ok (.iload_n 2, 1) := by decide +kernel
theorem dX2_swapRows_31 : decode cX2_swapRows 31 = .ok (.lconst 0, 1) := by decide +kernel
theorem dX2_swapRows_32 : decode cX2_swapRows 32 = .ok (.lastore, 1) := by decide +kernel
theorem dX2_swapRows_33 : decode cX2_swapRows 33 = .ok (.iinc 2 1, 3) := by decide +kernel
theorem dX2_swapRows_36 : decode cX2_swapRows 36 = .ok (.goto (-16), 3) := by decide +kernel
theorem dX2_swapRows_39 : decode cX2_swapRows 39 = .ok (.return_, 1) := by decide +kernel
theorem dX3_init_0 : decode cX3_init 0 = .ok (.aload_n 0, 1) := by decide +kernel
theorem dX3_init_1 : decode cX3_init 1 = .ok (.invokespecial 5, 3) := by decide +kernel
theorem dX3_init_4 : decode cX3_init 4 = .ok (.aload_n 0, 1) := by decide +kernel
theorem dX3_init_5 : decode cX3_init 5 = .ok (.bipush 64, 2) := by decide +kernel
theorem dX3_init_7 : decode cX3_init 7 = .ok (.newarray .long, 2) := by decide +kernel
theorem dX3_init_9 : decode cX3_init 9 = .ok (.putfield 11, 3) := by decide +kernel
theorem dX3_init_12 : decode cX3_init 12 = .ok (.aload_n 0, 1) := by decide +kernel
theorem dX3_init_13 : decode cX3_init 13 = .ok (.bipush 31, 2) := by decide +kernel
theorem dX3_init_15 : decode cX3_init 15 = .ok (.newarray .long, 2) := by decide +kernel
theorem dX3_init_17 : decode cX3_init 17 = .ok (.putfield 15, 3) := by decide +kernel
theorem dX3_init_20 : decode cX3_init 20 = .ok (.aload_n 0, 1) := by decide +kernel
theorem dX3_init_21 : decode cX3_init 21 = .ok (.bipush 31, 2) := by decide +kernel
theorem dX3_init_23 : decode cX3_init 23 = .ok (.newarray .long, 2) := by decide +kernel
theorem dX3_init_25 : decode cX3_init 25 = .ok (.putfield 18, 3) := by decide +kernel
theorem dX3_init_28 : decode cX3_init 28 = .ok (.aload_n 0, 1) := by decide +kernel
theorem dX3_init_29 : decode cX3_init 29 = .ok (.bipush 64, 2) := by decide +kernel
theorem dX3_init_31 : decode cX3_init 31 = .ok (.newarray .long, 2) := by decide +kernel
theorem dX3_init_33 : decode cX3_init 33 = .ok (.putfield 21, 3) := by decide +kernel
theorem dX3_init_36 : decode cX3_init 36 = .ok (.aload_n 0, 1) := by decide +kernel
theorem dX3_init_37 : decode cX3_init 37 = .ok (.bipush 64, 2) := by decide +kernel
theorem dX3_init_39 : decode cX3_init 39 = .ok (.newarray .long, 2) := by decide +kernel
theorem dX3_init_41 : decode cX3_init 41 = .ok (.putfield 24, 3) := by decide +kernel
theorem dX3_init_44 : decode cX3_init 44 = .ok (.aload_n 0, 1) := by decide +kernel
theorem dX3_init_45 : decode cX3_init 45 = .ok (.bipush 64, 2) := by decide +kernel
theorem dX3_init_47 : decode cX3_init 47 = .ok (.newarray .long, 2) := by decide +kernel
theorem dX3_init_49 : decode cX3_init 49 = .ok (.putfield 27, 3) := by decide +kernel
theorem dX3_init_52 : decode cX3_init 52 = .ok (.aload_n 0, 1) := by decide +kernel
theorem dX3_init_53 : decode cX3_init 53 = .ok (.bipush 64, 2) := by decide +kernel
theorem dX3_init_55 : decode cX3_init 55 = .ok (.newarray .long, 2) := by decide +kernel
theorem dX3_init_57 : decode cX3_init 57 = .ok (.putfield 30, 3) := by decide +kernel
theorem dX3_init_60 : decode cX3_init 60 = .ok (.aload_n 0, 1) := by decide +kernel
theorem dX3_init_61 : decode cX3_init 61 = .ok (.bipush 64, 2) := by decide +kernel
theorem dX3_init_63 : decode cX3_init 63 = .ok (.newarray .long, 2) := by decide +kernel
theorem dX3_init_65 : decode cX3_init 65 = .ok (.putfield 33, 3) := by decide +kernel
theorem dX3_init_68 : decode cX3_init 68 = .ok (.aload_n 0, 1) := by decide +kernel
theorem dX3_init_69 : decode cX3_init 69 = .ok (.bipush 64, 2) := by decide +kernel
theorem dX3_init_71 : decode cX3_init 71 = .ok (.newarray .long, 2) := by decide +kernel
theorem dX3_init_73 : decode cX3_init 73 = .ok (.putfield 36, 3) := by decide +kernel
theorem dX3_init_76 : decode cX3_init 76 = .ok (.aload_n 0, 1) := by decide +kernel
theorem dX3_init_77 : decode cX3_init 77 = .ok (.bipush 64, 2) := by decide +kernel
theorem dX3_init_79 : decode cX3_init 79 = .ok (.newarray .int, 2) := by decide +kernel
theorem dX3_init_81 : decode cX3_init 81 = .ok (.putfield 39, 3) := by decide +kernel
theorem dX3_init_84 : decode cX3_init 84 = .ok (.return_, 1) := by decide +kernel
set_option maxRecDepth 20000 in
theorem ggX3_after_X3_findRule : GoodIn wsX3_after wsX3_findRule := goodIn_r _ [7, 8, 9, 10, 11, 12, 13, 14, 15, 16, 17, 18, 19, 20, 6, 21, 22, 23, 2, 24, 25, 26, 27, 28, 29, 30, 31, 32, 33, 34, 35, 36, 37, 38, 39, 40, 41, 42, 43, 44, 63, 64, 65, 66, 67, 68, 69, 70, 71, 72, 73, 74, 75, 76, 77, 78, 79, 80, 81, 82, 83, 84, 85, 86, 87, 88, 89] (by decide +kernel) (by decide +kernel)
set_option maxRecDepth 20000 in
theorem gX3_after_X3_findRule : GoodIn wsX3_after (wsV RX3 43 RX3 yX3_findRule wsX3_findRule) := goodIn_app (goodIn_of _ (by decide +kernel)) ggX3_after_X3_findRule
set_option maxRecDepth 20000 in
theorem ggX3_after_X3_distant : GoodIn wsX3_after wsX3_distant := goodIn_r _ [48, 10, 49, 2, 17, 50, 51, 52, 6, 53, 54, 55, 56, 57, 58, 16, 59, 60, 61, 62, 63, 64, 65, 66, 67, 68, 69, 70, 71, 72, 73, 74] (by decide +kernel) (by decide +kernel)
set_option maxRecDepth 20000 in
theorem gX3_after_X3_distant : GoodIn wsX3_after (wsV RX3 49 RX3 yX3_distant wsX3_distant) := goodIn_app (goodIn_of _ (by decide +kernel)) ggX3_after_X3_distant
theorem dX3_after_0 : decode cX3_after 0 = .ok (.aload_n 0, 1) := by decide +kernel
theorem dX3_after_1 : decode cX3_after 1 = .ok (.aload_n 1, 1) := by decide +kernel
theorem dX3_after_2 : decode cX3_after 2 = .ok (.invokevirtual 43, 3) := by decide +kernel
theorem dX3_after_5 : decode cX3_after 5 = .ok (.lload_n 2, 1) := by decide +kernel
theorem dX3_after_6 : decode cX3_after 6 = .ok (.ldc2_w 47, 3) := by decide +kernel
theorem dX3_after_9 : decode cX3_after 9 = .ok (.lcmp, 1) := by decide +kernel
theorem dX3_after_10 : decode cX3_after 10 = .ok (.ifCond .ge 12, 3) := by decide +kernel
theorem dX3_after_13 : decode cX3_after 13 = .ok (.aload_n 0, 1) := by decide +kernel
theorem dX3_after_14 : decode cX3_after 14 = .ok (.getfield 11, 3) := by decide +kernel
theorem dX3_after_17 : decode cX3_after 17 = .ok (.lload_n 2, 1) := by decide +kernel
theorem dX3_after_18 : decode cX3_after 18 = .ok (.l2i, 1) := by decide +kernel
theorem dX3_after_19 : decode cX3_after 19 = .ok (.laload, 1) := by decide +kernel
theorem dX3_after_20 : decode cX3_after 20 = .ok (.l2i, 1) := by decide +kernel
theorem dX3_after_21 : decode cX3_after 21 = .ok (.ireturn, 1) := by decide +kernel
theorem dX3_after_22 : decode cX3_after 22 = .ok (.aload_n 0, 1) := by decide +kernel
theorem dX3_after_23 : decode cX3_after 23 = .ok (.lload_n 2, 1) := by decide +kernel
theorem dX3_after_24 : decode cX3_after 24 = .ok (.invokevirtual 49, 3) := by decide +kernel
theorem dX3_after_27 : decode cX3_after 27 = .ok (.l2i, 1) := by decide +kernel
theorem dX3_after_28 : decode cX3_after 28 = .ok (.ireturn, 1) := by decide +kernel
set_option maxRecDepth 20000 in
theorem ggX3_keepRule_X3_findRule : GoodIn wsX3_keepRule wsX3_findRule := goodIn_r _ [9, 10, 11, 1, 12, 13, 14, 15, 16, 4, 17, 18, 19, 20, 8, 21, 22, 23, 24, 25, 26, 27, 28, 29, 30, 31, 32, 33, 34, 35, 36, 37, 38, 39, 40, 41, 42, 43, 44, 45, 46, 47, 48, 49, 50, 51, 52, 53, 54, 55, 56, 57, 58, 59, 60, 61, 62, 63, 64, 65, 66, 67, 68, 69, 70, 71, 72] (by decide +kernel) (by decide +kernel)
set_option maxRecDepth 20000 in
theorem gX3_keepRule_X3_findRule : GoodIn wsX3_keepRule (wsV RX3 43 RX3 yX3_findRule wsX3_findRule) := goodIn_app (goodIn_of _ (by decide +kernel)) ggX3_keepRule_X3_findRule
theorem dX3_keepRule_0 : decode cX3_keepRule 0 = .ok (.aload_n 0, 1) := by decide +kernel
theorem dX3_keepRule_1 : decode cX3_keepRule 1 = .ok (.aload_n 1, 1) := by decide +kernel
theorem dX3_keepRule_2 : decode cX3_keepRule 2 = .ok (.invokevirtual 43, 3) := by decide +kernel
theorem dX3_keepRule_5 : decode cX3_keepRule 5 = .ok (.aload_n 0, 1) := by decide +kernel
theorem dX3_keepRule_6 : decode cX3_keepRule 6 = .ok (.aload_n 0, 1) := by decide +kernel
theorem dX3_keepRule_7 : decode cX3_keepRule 7 = .ok (.getfield 53, 3) := by decide +kernel
theorem dX3_keepRule_10 : decode cX3_keepRule 10 = .ok (.putfield 57, 3) := by decide +kernel
theorem dX3_keepRule_13 : decode cX3_keepRule 13 = .ok (.iconst 1, 1) := by decide +kernel
theorem dX3_keepRule_14 : decode cX3_keepRule 14 = .ok (.istore_n 2, 1) := by decide +kernel
theorem dX3_keepRule_15 : decode cX3_keepRule 15 = .ok (.iload_n 2, 1) := by decide +kernel
theorem dX3_keepRule_16 : decode cX3_keepRule 16 = .ok (.aload_n 0, 1) := by decide +kernel
theorem dX3_keepRule_17 : decode cX3_keepRule 17 = .ok (.getfield 53, 3) := by decide +kernel
theorem dX3_keepRule_20 : decode cX3_keepRule 20 = .ok (.if_icmp .gt 28, 3) := by decide +kernel
theorem dX3_keepRule_23 : decode cX3_keepRule 23 = .ok (.iload_n 2, 1) := by decide +kernel
theorem dX3_keepRule_24 : decode cX3_keepRule 24 = .ok (.bipush 64, 2) := by decide +kernel
theorem dX3_keepRule_26 : decode cX3_keepRule 26 = .ok (.if_icmp .ge 22, 3) := by decide +kernel
theorem dX3_keepRule_29 : decode cX3_keepRule 29 = .ok (.aload_n 0, 1) := by decide +kernel
theorem dX3_keepRule_30 : decode cX3_keepRule 30 = .ok (.getfield 39, 3) := by decide +kernel
theorem dX3_keepRule_33 : decode cX3_keepRule 33 = .ok (.iload_n 2, 1) := by decide +kernel
theorem dX3_keepRule_34 : decode cX3_keepRule 34 = .ok (.aload_n 0, 1) := by decide +kernel
theorem dX3_keepRule_35 : decode cX3_keepRule 35 = .ok (.getfield 30, 3) := by decide +kernel
theorem dX3_keepRule_38 : decode cX3_keepRule 38 = .ok (.iload_n 2, 1) := by decide +kernel
theorem dX3_keepRule_39 : decode cX3_keepRule 39 = .ok (.laload, 1) := by decide +kernel
theorem dX3_keepRule_40 : decode cX3_keepRule 40 = .ok (.l2i, 1) := by decide +kernel
theorem dX3_keepRule_41 : decode cX3_keepRule 41 = .ok (.iastore, 1) := by decide +kernel
theorem dX3_keepRule_42 : decode cX3_keepRule 42 = .ok (.iinc 2 1, 3) := by decide +kernel
theorem dX3_keepRule_45 : decode cX3_keepRule 45 = .ok (.goto (-30), 3) := by decide +kernel
theorem dX3_keepRule_48 : decode cX3_keepRule 48 = .ok (.aload_n 0, 1) := by decide +kernel
theorem dX3_keepRule_49 : decode cX3_keepRule 49 = .ok (.getfield 57, 3) := by decide +kernel
theorem dX3_keepRule_52 : decode cX3_keepRule 52 = .ok (.ireturn, 1) := by decide +kernel
theorem dX3_keeps_0 : decode cX3_keeps 0 = .ok (.iload_n 1, 1) := by decide +kernel
theorem dX3_keeps_1 : decode cX3_keeps 1 = .ok (.iconst 1, 1) := by decide +kernel
theorem dX3_keeps_2 : decode cX3_keeps 2 = .ok (.if_icmp .lt 21, 3) := by decide +kernel
theorem dX3_keeps_5 : decode cX3_keeps 5 = .ok (.iload_n 1, 1) := by decide +kernel
theorem dX3_keeps_6 : decode cX3_keeps 6 = .ok (.aload_n 0, 1) := by decide +kernel
theorem dX3_keeps_7 : decode cX3_keeps 7 = .ok (.getfield 57, 3) := by decide +kernel
theorem dX3_keeps_10 : decode cX3_keeps 10 = .ok (.if_icmp .gt 13, 3) := by decide +kernel
theorem dX3_keeps_13 : decode cX3_keeps 13 = .ok (.iload_n 1, 1) := by decide +kernel
theorem dX3_keeps_14 : decode cX3_keeps 14 = .ok (.bipush 64, 2) := by decide +kernel
theorem dX3_keeps_16 : decode cX3_keeps 16 = .ok (.if_icmp .ge 7, 3) := by decide +kernel
theorem dX3_keeps_19 : decode cX3_keeps 19 = .ok (.iconst 1, 1) := by decide +kernel
theorem dX3_keeps_20 : decode cX3_keeps 20 = .ok (.goto 4, 3) := by decide +kernel
theorem dX3_keeps_23 : decode cX3_keeps 23 = .ok (.iconst 0, 1) := by decide +kernel
theorem dX3_keeps_24 : decode cX3_keeps 24 = .ok (.ireturn, 1) := by decide +kernel
set_option maxRecDepth 20000 in
theorem ggX3_kept_X3_keeps : GoodIn wsX3_kept wsX3_keeps := goodIn_r _ [6, 7, 8, 9, 10, 11, 12, 13, 14, 15, 16, 17, 18, 19] (by decide +kernel) (by decide +kernel)
set_option maxRecDepth 20000 in
theorem gX3_kept_X3_keeps : GoodIn wsX3_kept (wsV RX3 60 RX3 yX3_keeps wsX3_keeps) := goodIn_app (goodIn_of _ (by decide +kernel)) ggX3_kept_X3_keeps
theorem dX3_kept_0 : decode cX3_kept 0 = .ok (.aload_n 0, 1) := by decide +kernel
theorem dX3_kept_1 : decode cX3_kept 1 = .ok (.iload_n 1, 1) := by decide +kernel
theorem dX3_kept_2 : decode cX3_kept 2 = .ok (.invokevirtual 60, 3) := by decide +kernel
theorem dX3_kept_5 : decode cX3_kept 5 = .ok (.ifCond .eq 12, 3) := by decide +kernel
theorem dX3_kept_8 : decode cX3_kept 8 = .ok (.aload_n 0, 1) := by decide +kernel
theorem dX3_kept_9 : decode cX3_kept 9 = .ok (.getfield 39, 3) := by decide +kernel
theorem dX3_kept_12 : decode cX3_kept 12 = .ok (.iload_n 1, 1) := by decide +kernel
theorem dX3_kept_13 : decode cX3_kept 13 = .ok (.iaload, 1) := by decide +kernel
theorem dX3_kept_14 : decode cX3_kept 14 = .ok (.goto 4, 3) := by decide +kernel
theorem dX3_kept_17 : decode cX3_kept 17 = .ok (.iconst (-1), 1) := by decide +kernel
theorem dX3_kept_18 : decode cX3_kept 18 = .ok (.ireturn, 1) := by decide +kernel
set_option maxRecDepth 20000 in
theorem ggX3_findTerms_X3_climb : GoodIn wsX3_findTerms wsX3_climb := goodIn_r _ [9, 10, 11, 12, 13, 1, 14, 15, 16, 17, 18, 19, 20, 21, 22, 23, 24, 25, 26, 27, 28, 29, 30, 31, 32, 33, 34, 35, 36, 37, 38, 39, 40, 41] (by decide +kernel) (by decide +kernel)
set_option maxRecDepth 20000 in
theorem gX3_findTerms_X3_climb : GoodIn wsX3_findTerms (wsV RX3 72 RX3 yX3_climb wsX3_climb) := goodIn_app (goodIn_of _ (by decide +kernel)) ggX3_findTerms_X3_climb
theorem dX3_findTerms_0 : decode cX3_findTerms 0 = .ok (.iconst 0, 1) := by decide +kernel
theorem dX3_findTerms_1 : decode cX3_findTerms 1 = .ok (.istore_n 2, 1) := by decide +kernel
theorem dX3_findTerms_2 : decode cX3_findTerms 2 = .ok (.iload_n 2, 1) := by decide +kernel
theorem dX3_findTerms_3 : decode cX3_findTerms 3 = .ok (.bipush 31, 2) := by decide +kernel
theorem dX3_findTerms_5 : decode cX3_findTerms 5 = .ok (.if_icmp .ge 28, 3) := by decide +kernel
theorem dX3_findTerms_8 : decode cX3_findTerms 8 = .ok (.aload_n 0, 1) := by decide +kernel
theorem dX3_findTerms_9 : decode cX3_findTerms 9 = .ok (.getfield 15, 3) := by decide +kernel
theorem dX3_findTerms_12 : decode cX3_findTerms 12 = .ok (.iload_n 2, 1) := by decide +kernel
theorem dX3_findTerms_13 : decode cX3_findTerms 13 = .ok (.iload_n 2, 1) := by decide +kernel
theorem dX3_findTerms_14 : decode cX3_findTerms 14 = .ok (.aload_n 1, 1) := by decide +kernel
theorem dX3_findTerms_15 : decode cX3_findTerms 15 = .ok (.getfield 64, 3) := by decide +kernel
theorem dX3_findTerms_18 : decode cX3_findTerms 18 = .ok (.if_icmp .ne 7, 3) := by decide +kernel
theorem dX3_findTerms_21 : decode cX3_findTerms 21 = .ok (.lconst 1, 1) := by decide +kernel
theorem dX3_findTerms_22 : decode cX3_findTerms 22 = .ok (.goto 4, 3) := by decide +kernel
theorem dX3_findTerms_25 : decode cX3_findTerms 25 = .ok (.lconst 0, 1) := by decide +kernel
theorem dX3_findTerms_26 : decode cX3_findTerms 26 = .ok (.lastore, 1) := by decide +kernel
theorem dX3_findTerms_27 : decode cX3_findTerms 27 = .ok (.iinc 2 1, 3) := by decide +kernel
theorem dX3_findTerms_30 : decode cX3_findTerms 30 = .ok (.goto (-28), 3) := by decide +kernel
theorem dX3_findTerms_33 : decode cX3_findTerms 33 = .ok (.iconst 0, 1) := by decide +kernel
theorem dX3_findTerms_34 : decode cX3_findTerms 34 = .ok (.istore_n 2, 1) := by decide +kernel
theorem dX3_findTerms_35 : decode cX3_findTerms 35 = .ok (.iload_n 2, 1) := by decide +kernel
theorem dX3_findTerms_36 : decode cX3_findTerms 36 = .ok (.bipush 62, 2) := by decide +kernel
theorem dX3_findTerms_38 : decode cX3_findTerms 38 = .ok (.if_icmp .ge 49, 3) := by decide +kernel
theorem dX3_findTerms_41 : decode cX3_findTerms 41 = .ok (.aload_n 0, 1) := by decide +kernel
theorem dX3_findTerms_42 : decode cX3_findTerms 42 = .ok (.getfield 11, 3) := by decide +kernel
theorem dX3_findTerms_45 : decode cX3_findTerms 45 = .ok (.iload_n 2, 1) := by decide +kernel
theorem dX3_findTerms_46 : decode cX3_findTerms 46 = .ok (.aload_n 1, 1) := by decide +kernel
theorem dX3_findTerms_47 : decode cX3_findTerms 47 = .ok (.getfield 69, 3) := by decide +kernel
theorem dX3_findTerms_50 : decode cX3_findTerms 50 = .ok (.ifCond .lt 24, 3) := by decide +kernel
theorem dX3_findTerms_53 : decode cX3_findTerms 53 = .ok (.aload_n 1, 1) := by decide +kernel
theorem dX3_findTerms_54 : decode cX3_findTerms 54 = .ok (.getfield 69, 3) := by decide +kernel
theorem dX3_findTerms_57 : decode cX3_findTerms 57 = .ok (.bipush 31, 2) := by decide +kernel
theorem dX3_findTerms_59 : decode cX3_findTerms 59 = .ok (.if_icmp .ge 15, 3) := by decide +kernel
theorem dX3_findTerms_62 : decode cX3_findTerms 62 = .ok (.aload_n 0, 1) := by decide +kernel
theorem dX3_findTerms_63 : decode cX3_findTerms 63 = .ok (.getfield 15, 3) := by decide +kernel
theorem dX3_findTerms_66 : decode cX3_findTerms 66 = .ok (.aload_n 1, 1) := by decide +kernel
theorem dX3_findTerms_67 : decode cX3_findTerms 67 = .ok (.getfield 69, 3) := by decide +kernel
theorem dX3_findTerms_70 : decode cX3_findTerms 70 = .ok (.laload, 1) := by decide +kernel
theorem dX3_findTerms_71 : decode cX3_findTerms 71 = .ok (.goto 4, 3) := by decide +kernel
theorem dX3_findTerms_74 : decode cX3_findTerms 74 = .ok (.lconst 0, 1) := by decide +kernel
theorem dX3_findTerms_75 : decode cX3_findTerms 75 = .ok (.lastore, 1) := by decide +kernel
theorem dX3_findTerms_76 : decode cX3_findTerms 76 = .ok (.aload_n 0, 1) := by decide +kernel
theorem dX3_findTerms_77 : decode cX3_findTerms 77 = .ok (.aload_n 1, 1) := by decide +kernel
theorem dX3_findTerms_78 : decode cX3_findTerms 78 = .ok (.invokevirtual 72, 3) := by decide +kernel
theorem dX3_findTerms_81 : decode cX3_findTerms 81 = .ok (.iinc 2 1, 3) := by decide +kernel
theorem dX3_findTerms_84 : decode cX3_findTerms 84 = .ok (.goto (-49), 3) := by decide +kernel
theorem dX3_findTerms_87 : decode cX3_findTerms 87 = .ok (.return_, 1) := by decide +kernel
theorem dX3_climb_0 : decode cX3_climb 0 = .ok (.iconst 0, 1) := by decide +kernel
theorem dX3_climb_1 : decode cX3_climb 1 = .ok (.istore_n 2, 1) := by decide +kernel
theorem dX3_climb_2 : decode cX3_climb 2 = .ok (.iload_n 2, 1) := by decide +kernel
theorem dX3_climb_3 : decode cX3_climb 3 = .ok (.bipush 31, 2) := by decide +kernel
theorem dX3_climb_5 : decode cX3_climb 5 = .ok (.if_icmp .ge 16, 3) := by decide +kernel
theorem dX3_climb_8 : decode cX3_climb 8 = .ok (.aload_n 0, 1) := by decide +kernel
theorem dX3_climb_9 : decode cX3_climb 9 = .ok (.getfield 18, 3) := by decide +kernel
theorem dX3_climb_12 : decode cX3_climb 12 = .ok (.iload_n 2, 1) := by decide +kernel
theorem dX3_climb_13 : decode cX3_climb 13 = .ok (.lconst 0, 1) := by decide +kernel
theorem dX3_climb_14 : decode cX3_climb 14 = .ok (.lastore, 1) := by decide +kernel
theorem dX3_climb_15 : decode cX3_climb 15 = .ok (.iinc 2 1, 3) := by decide +kernel
theorem dX3_climb_18 : decode cX3_climb 18 = .ok (.goto (-16), 3) := by decide +kernel
theorem dX3_climb_21 : decode cX3_climb 21 = .ok (.iconst 0, 1) := by decide +kernel
theorem dX3_climb_22 : decode cX3_climb 22 = .ok (.istore_n 2, 1) := by decide +kernel
theorem dX3_climb_23 : decode cX3_climb 23 = .ok (.iload_n 2, 1) := by decide +kernel
theorem dX3_climb_24 : decode cX3_climb 24 = .ok (.aload_n 1, 1) := by decide +kernel
theorem dX3_climb_25 : decode cX3_climb 25 = .ok (.getfield 75, 3) := by decide +kernel
theorem dX3_climb_28 : decode cX3_climb 28 = .ok (.if_icmp .gt 87, 3) := by decide +kernel
theorem dX3_climb_31 : decode cX3_climb 31 = .ok (.iload_n 2, 1) := by decide +kernel
theorem dX3_climb_32 : decode cX3_climb 32 = .ok (.bipush 31, 2) := by decide +kernel
theorem dX3_climb_34 : decode cX3_climb 34 = .ok (.if_icmp .ge 81, 3) := by decide +kernel
theorem dX3_climb_37 : decode cX3_climb 37 = .ok (.iconst 0, 1) := by decide +kernel
theorem dX3_climb_38 : decode cX3_climb 38 = .ok (.istore_n 3, 1) := by decide +kernel
theorem dX3_climb_39 : decode cX3_climb 39 = .ok (.iload_n 3, 1) := by decide +kernel
theorem dX3_climb_40 : decode cX3_climb 40 = .ok (.aload_n 1, 1) := by decide +kernel
theorem dX3_climb_41 : decode cX3_climb 41 = .ok (.getfield 78, 3) := by decide +kernel
theorem dX3_climb_44 : decode cX3_climb 44 = .ok (.if_icmp .ge 65, 3) := by decide +kernel
theorem dX3_climb_47 : decode cX3_climb 47 = .ok (.iload_n 2, 1) := by decide +kernel
theorem dX3_climb_48 : decode cX3_climb 48 = .ok (.aload_n 1, 1) := by decide +kernel
theorem dX3_climb_49 : decode cX3_climb 49 = .ok (.getfield 81, 3) := by decide +kernel
theorem dX3_climb_52 : decode cX3_climb 52 = .ok (.iload_n 3, 1) := by decide +kernel
theorem dX3_climb_53 : decode cX3_climb 53 = .ok (.iaload, 1) := by decide +kernel
theorem dX3_climb_54 : decode cX3_climb 54 = .ok (.iadd, 1) := by decide +kernel
theorem dX3_climb_55 : decode cX3_climb 55 = .ok (.istore 4, 2) := by decide +kernel
theorem dX3_climb_57 : decode cX3_climb 57 = .ok (.iload 4, 2) := by decide +kernel
theorem dX3_climb_59 : decode cX3_climb 59 = .ok (.ifCond .lt 44, 3) := by decide +kernel
theorem dX3_climb_62 : decode cX3_climb 62 = .ok (.iload 4, 2) := by decide +kernel
theorem dX3_climb_64 : decode cX3_climb 64 = .ok (.aload_n 1, 1) := by decide +kernel
theorem dX3_climb_65 : decode cX3_climb 65 = .ok (.getfield 75, 3) := by decide +kernel
theorem dX3_climb_68 : decode cX3_climb 68 = .ok (.if_icmp .gt 35, 3) := by decide +kernel
theorem dX3_climb_71 : decode cX3_climb 71 = .ok (.iload 4, 2) := by decide +kernel
theorem dX3_climb_73 : decode cX3_climb 73 = .ok (.bipush 31, 2) := by decide +kernel
theorem dX3_climb_75 : decode cX3_climb 75 = .ok (.if_icmp .ge 28, 3) := by decide +kernel
theorem dX3_climb_78 : decode cX3_climb 78 = .ok (.aload_n 0, 1) := by decide +kernel
theorem dX3_climb_79 : decode cX3_climb 79 = .ok (.getfield 18, 3) := by decide +kernel
theorem dX3_climb_82 : decode cX3_climb 82 = .ok (.iload 4, 2) := by decide +kernel
theorem dX3_climb_84 : decode cX3_climb 84 = .ok (.aload_n 0, 1) := by decide +kernel
theorem dX3_climb_85 : decode cX3_climb 85 = .ok (.getfield 18, 3) := by decide +kernel
theorem dX3_climb_88 : decode cX3_climb 88 = .ok (.iload 4, 2) := by decide +kernel
theorem dX3_climb_90 : decode cX3_climb 90 = .ok (.laload, 1) := by decide +kernel
theorem dX3_climb_91 : decode cX3_climb 91 = .ok (.aload_n 0, 1) := by decide +kernel
theorem dX3_climb_92 : decode cX3_climb 92 = .ok (.getfield 15, 3) := by decide +kernel
theorem dX3_climb_95 : decode cX3_climb 95 = .ok (.iload_n 2, 1) := by decide +kernel
theorem dX3_climb_96 : decode cX3_climb 96 = .ok (.laload, 1) := by decide +kernel
theorem dX3_climb_97 : decode cX3_climb 97 = .ok (.ladd, 1) := by decide +kernel
theorem dX3_climb_98 : decode cX3_climb 98 = .ok (.ldc2_w 84, 3) := by decide +kernel
theorem dX3_climb_101 : decode cX3_climb 101 = .ok (.lrem, 1) := by decide +kernel
theorem dX3_climb_102 : decode cX3_climb 102 = .ok (.lastore, 1) := by decide +kernel
theorem dX3_climb_103 : decode cX3_climb 103 = .ok (.iinc 3 1, 3) := by decide +kernel
theorem dX3_climb_106 : decode cX3_climb 106 = .ok (.goto (-67), 3) := by decide +kernel
theorem dX3_climb_109 : decode cX3_climb 109 = .ok (.iinc 2 1, 3) := by decide +kernel
theorem dX3_climb_112 : decode cX3_climb 112 = .ok (.goto (-89), 3) := by decide +kernel
theorem dX3_climb_115 : decode cX3_climb 115 = .ok (.aload_n 0, 1) := by decide +kernel
theorem dX3_climb_116 : decode cX3_climb 116 = .ok (.getfield 15, 3) := by decide +kernel
theorem dX3_climb_119 : decode cX3_climb 119 = .ok (.astore_n 2, 1) := by decide +kernel
theorem dX3_climb_120 : decode cX3_climb 120 = .ok (.aload_n 0, 1) := by decide +kernel
theorem dX3_climb_121 : decode cX3_climb 121 = .ok (.aload_n 0, 1) := by decide +kernel
theorem dX3_climb_122 : decode cX3_climb 122 = .ok (.getfield 18, 3) := by decide +kernel
theorem dX3_climb_125 : decode cX3_climb 125 = .ok (.putfield 15, 3) := by decide +kernel
theorem dX3_climb_128 : decode cX3_climb 128 = .ok (.aload_n 0, 1) := by decide +kernel
theorem dX3_climb_129 : decode cX3_climb 129 = .ok (.aload_n 2, 1) := by decide +kernel
theorem dX3_climb_130 : decode cX3_climb 130 = .ok (.putfield 18, 3) := by decide +kernel
theorem dX3_climb_133 : decode cX3_climb 133 = .ok (.return_, 1) := by decide +kernel
set_option maxRecDepth 20000 in
theorem ggX3_findRule_X3_findTerms : GoodIn wsX3_findRule wsX3_findTerms := goodIn_r _ [15, 16, 17, 18, 19, 20, 21, 22, 14, 23, 24, 25, 26, 27, 10, 40, 41, 42, 43, 44, 45, 46, 47, 48, 49, 50, 51, 52, 53, 54, 55, 56, 57, 58, 59, 60, 61, 62, 63, 64, 65, 66] (by decide +kernel) (by decide +kernel)
set_option maxRecDepth 20000 in
theorem gX3_findRule_X3_findTerms : GoodIn wsX3_findRule (wsV RX3 86 RX3 yX3_findTerms wsX3_findTerms) := goodIn_app (goodIn_of _ (by decide +kernel)) ggX3_findRule_X3_findTerms
set_option maxRecDepth 20000 in
theorem ggX3_findRule_X3_missAt : GoodIn wsX3_findRule wsX3_missAt := goodIn_r _ [31, 3, 1, 18, 10, 40, 41, 42, 43, 44, 45, 46, 47, 48, 49, 50, 51] (by decide +kernel) (by decide +kernel)
set_option maxRecDepth 20000 in
theorem gX3_findRule_X3_missAt : GoodIn wsX3_findRule (wsV RX3 89 RX3 yX3_missAt wsX3_missAt) := goodIn_app (goodIn_of _ (by decide +kernel)) ggX3_findRule_X3_missAt
set_option maxRecDepth 20000 in
theorem ggX3_findRule_X3_mend : GoodIn wsX3_findRule wsX3_mend := goodIn_r _ [35, 10, 1, 2, 36, 37, 14, 38, 39, 40, 41, 42, 43, 44, 45, 46, 47, 48, 49, 50, 51] (by decide +kernel) (by decide +kernel)
set_option maxRecDepth 20000 in
theorem gX3_findRule_X3_mend : GoodIn wsX3_findRule (wsV RX3 99 RX3 yX3_mend wsX3_mend) := goodIn_app (goodIn_of _ (by decide +kernel)) ggX3_findRule_X3_mend
theorem dX3_findRule_0 : decode cX3_findRule 0 = .ok (.aload_n 0, 1) := by decide +kernel
theorem dX3_findRule_1 : decode cX3_findRule 1 = .ok (.aload_n 1, 1) := by decide +kernel
theorem dX3_findRule_2 : decode cX3_findRule 2 = .ok (.invokevirtual 86, 3) := by decide +kernel
theorem dX3_findRule_5 : decode cX3_findRule 5 = .ok (.iconst 0, 1) := by decide +kernel
theorem dX3_findRule_6 : decode cX3_findRule 6 = .ok (.istore_n 2, 1) := by decide +kernel
theorem dX3_findRule_7 : decode cX3_findRule 7 = .ok (.iload_n 2, 1) := by decide +kernel
theorem dX3_findRule_8 : decode cX3_findRule 8 = .ok (.bipush 64, 2) := by decide +kernel
theorem dX3_findRule_10 : decode cX3_findRule 10 = .ok (.if_icmp .ge 36, 3) := by decide +kernel
theorem dX3_findRule_13 : decode cX3_findRule 13 = .ok (.aload_n 0, 1) := by decide +kernel
theorem dX3_findRule_14 : decode cX3_findRule 14 = .ok (.getfield 21, 3) := by decide +kernel
theorem dX3_findRule_17 : decode cX3_findRule 17 = .ok (.iload_n 2, 1) := by decide +kernel
theorem dX3_findRule_18 : decode cX3_findRule 18 = .ok (.iload_n 2, 1) := by decide +kernel
theorem dX3_findRule_19 : decode cX3_findRule 19 = .ok (.ifCond .ne 7, 3) := by decide +kernel
theorem dX3_findRule_22 : decode cX3_findRule 22 = .ok (.lconst 1, 1) := by decide +kernel
theorem dX3_findRule_23 : decode cX3_findRule 23 = .ok (.goto 4, 3) := by decide +kernel
theorem dX3_findRule_26 : decode cX3_findRule 26 = .ok (.lconst 0, 1) := by decide +kernel
theorem dX3_findRule_27 : decode cX3_findRule 27 = .ok (.lastore, 1) := by decide +kernel
theorem dX3_findRule_28 : decode cX3_findRule 28 = .ok (.aload_n 0, 1) := by decide +kernel
theorem dX3_findRule_29 : decode cX3_findRule 29 = .ok (.getfield 24, 3) := by decide +kernel
theorem dX3_findRule_32 : decode cX3_findRule 32 = .ok (.iload_n 2, 1) := by decide +kernel
theorem dX3_findRule_33 : decode cX3_findRule 33 = .ok (.aload_n 0, 1) := by decide +kernel
theorem dX3_findRule_34 : decode cX3_findRule 34 = .ok (.getfield 21, 3) := by decide +kernel
theorem dX3_findRule_37 : decode cX3_findRule 37 = .ok (.iload_n 2, 1) := by decide +kernel
theorem dX3_findRule_38 : decode cX3_findRule 38 = .ok (.laload, 1) := by decide +kernel
theorem dX3_findRule_39 : decode cX3_findRule 39 = .ok (.lastore, 1) := by decide +kernel
theorem dX3_findRule_40 : decode cX3_findRule 40 = .ok (.iinc 2 1, 3) := by decide +kernel
theorem dX3_findRule_43 : decode cX3_findRule 43 = .ok (.goto (-36), 3) := by decide +kernel
theorem dX3_findRule_46 : decode cX3_findRule 46 = .ok (.aload_n 0, 1) := by decide +kernel
theorem dX3_findRule_47 : decode cX3_findRule 47 = .ok (.iconst 0, 1) := by decide +kernel
theorem dX3_findRule_48 : decode cX3_findRule 48 = .ok (.putfield 53, 3) := by decide +kernel
theorem dX3_findRule_51 : decode cX3_findRule 51 = .ok (.iconst 1, 1) := by decide +kernel
theorem dX3_findRule_52 : decode cX3_findRule 52 = .ok (.istore_n 2, 1) := by decide +kernel
theorem dX3_findRule_53 : decode cX3_findRule 53 = .ok (.lconst 1, 1) := by decide +kernel
theorem dX3_findRule_54 : decode cX3_findRule 54 = .ok (.lstore_n 3, 1) := by decide +kernel
theorem dX3_findRule_55 : decode cX3_findRule 55 = .ok (.iconst 0, 1) := by decide +kernel
theorem dX3_findRule_56 : decode cX3_findRule 56 = .ok (.istore 5, 2) := by decide +kernel
theorem dX3_findRule_58 : decode cX3_findRule 58 = .ok (.iload 5, 2) := by decide +kernel
theorem dX3_findRule_60 : decode cX3_findRule 60 = .ok (.bipush 62, 2) := by decide +kernel
theorem dX3_findRule_62 : decode cX3_findRule 62 = .ok (.if_icmp .ge 116, 3) := by decide +kernel
theorem dX3_findRule_65 : decode cX3_findRule 65 = .ok (.aload_n 0, 1) := by decide +kernel
theorem dX3_findRule_66 : decode cX3_findRule 66 = .ok (.iload 5, 2) := by decide +kernel
theorem dX3_findRule_68 : decode cX3_findRule 68 = .ok (.invokevirtual 89, 3) := by decide +kernel
theorem dX3_findRule_71 : decode cX3_findRule 71 = .ok (.lstore 6, 2) := by decide +kernel
theorem dX3_findRule_73 : decode cX3_findRule 73 = .ok (.lload 6, 2) := by decide +kernel
theorem dX3_findRule_75 : decode cX3_findRule 75 = .ok (.lconst 0, 1) := by decide +kernel
theorem dX3_findRule_76 : decode cX3_findRule 76 = .ok (.lcmp, 1) := by decide +kernel
theorem dX3_findRule_77 : decode cX3_findRule 77 = .ok (.ifCond .ne 9, 3) := by decide +kernel
theorem dX3_findRule_80 : decode cX3_findRule 80 = .ok (.iinc 2 1, 3) := by decide +kernel
theorem dX3_findRule_83 : decode cX3_findRule 83 = .ok (.goto 89, 3) := by decide +kernel
theorem dX3_findRule_86 : decode cX3_findRule 86 = .ok (.iconst 2, 1) := by decide +kernel
theorem dX3_findRule_87 : decode cX3_findRule 87 = .ok (.aload_n 0, 1) := by decide +kernel
theorem dX3_findRule_88 : decode cX3_findRule 88 = .ok (.getfield 53, 3) := by decide +kernel
theorem dX3_findRule_91 : decode cX3_findRule 91 = .ok (.imul, 1) := by decide +kernel
theorem dX3_findRule_92 : decode cX3_findRule 92 = .ok (.iload 5, 2) := by decide +kernel
theorem dX3_findRule_94 : decode cX3_findRule 94 = .ok (.if_icmp .gt 67, 3) := by decide +kernel
theorem dX3_findRule_97 : decode cX3_findRule 97 = .ok (.aload_n 0, 1) := by decide +kernel
theorem dX3_findRule_98 : decode cX3_findRule 98 = .ok (.getfield 21, 3) := by decide +kernel
theorem dX3_findRule_101 : decode cX3_findRule 101 = .ok (.iconst 0, 1) := by decide +kernel
theorem dX3_findRule_102 : decode cX3_findRule 102 = .ok (.aload_n 0, 1) := by decide +kernel
theorem dX3_findRule_103 : decode cX3_findRule 103 = .ok (.getfield 27, 3) := by decide +kernel
theorem dX3_findRule_106 : decode cX3_findRule 106 = .ok (.iconst 0, 1) := by decide +kernel
theorem dX3_findRule_107 : decode cX3_findRule 107 = .ok (.bipush 64, 2) := by decide +kernel
theorem dX3_findRule_109 : decode cX3_findRule 109 = .ok (.invokestatic 93, 3) := by decide +kernel
theorem dX3_findRule_112 : decode cX3_findRule 112 = .ok (.aload_n 0, 1) := by decide +kernel
theorem dX3_findRule_113 : decode cX3_findRule 113 = .ok (.lload 6, 2) := by decide +kernel
theorem dX3_findRule_115 : decode cX3_findRule 115 = .ok (.lload_n 3, 1) := by decide +kernel
theorem dX3_findRule_116 : decode cX3_findRule 116 = .ok (.iload_n 2, 1) := by decide +kernel
theorem dX3_findRule_117 : decode cX3_findRule 117 = .ok (.invokevirtual 99, 3) := by decide +kernel
theorem dX3_findRule_120 : decode cX3_findRule 120 = .ok (.aload_n 0, 1) := by decide +kernel
theorem dX3_findRule_121 : decode cX3_findRule 121 = .ok (.getfield 24, 3) := by decide +kernel
theorem dX3_findRule_124 : decode cX3_findRule 124 = .ok (.astore 8, 2) := by decide +kernel
theorem dX3_findRule_126 : decode cX3_findRule 126 = .ok (.aload_n 0, 1) := by decide +kernel
theorem dX3_findRule_127 : decode cX3_findRule 127 = .ok (.aload_n 0, 1) := by decide +kernel
theorem dX3_findRule_128 : decode cX3_findRule 128 = .ok (.getfield 27, 3) := by decide +kernel
theorem dX3_findRule_131 : decode cX3_findRule 131 = .ok (.putfield 24, 3) := by decide +kernel
theorem dX3_findRule_134 : decode cX3_findRule 134 = .ok (.aload_n 0, 1) := by decide +kernel
theorem dX3_findRule_135 : decode cX3_findRule 135 = .ok (.aload 8, 2) := by decide +kernel
theorem dX3_findRule_137 : decode cX3_findRule 137 = .ok (.putfield 27, 3) := by decide +kernel
theorem dX3_findRule_140 : decode cX3_findRule 140 = .ok (.aload_n 0, 1) := by decide +kernel
theorem dX3_findRule_141 : decode cX3_findRule 141 = .ok (.iload 5, 2) := by decide +kernel
theorem dX3_findRule_143 : decode cX3_findRule 143 = .ok (.iconst 1, 1) := by decide +kernel
theorem dX3_findRule_144 : decode cX3_findRule 144 = .ok (.iadd, 1) := by decide +kernel
theorem dX3_findRule_145 : decode cX3_findRule 145 = .ok (.aload_n 0, 1) := by decide +kernel
theorem dX3_findRule_146 : decode cX3_findRule 146 = .ok (.getfield 53, 3) := by decide +kernel
theorem dX3_findRule_149 : decode cX3_findRule 149 = .ok (.isub, 1) := by decide +kernel
theorem dX3_findRule_150 : decode cX3_findRule 150 = .ok (.putfield 53, 3) := by decide +kernel
theorem dX3_findRule_153 : decode cX3_findRule 153 = .ok (.lload 6, 2) := by decide +kernel
theorem dX3_findRule_155 : decode cX3_findRule 155 = .ok (.lstore_n 3, 1) := by decide +kernel
theorem dX3_findRule_156 : decode cX3_findRule 156 = .ok (.iconst 1, 1) := by decide +kernel
theorem dX3_findRule_157 : decode cX3_findRule 157 = .ok (.istore_n 2, 1) := by decide +kernel
theorem dX3_findRule_158 : decode cX3_findRule 158 = .ok (.goto 14, 3) := by decide +kernel
theorem dX3_findRule_161 : decode cX3_findRule 161 = .ok (.aload_n 0, 1) := by decide +kernel
theorem dX3_findRule_162 : decode cX3_findRule 162 = .ok (.lload 6, 2) := by decide +kernel
theorem dX3_findRule_164 : decode cX3_findRule 164 = .ok (.lload_n 3, 1) := by decide +kernel
theorem dX3_findRule_165 : decode cX3_findRule 165 = .ok (.iload_n 2, 1) := by decide +kernel
theorem dX3_findRule_166 : decode cX3_findRule 166 = .ok (.invokevirtual 99, 3) := by decide +kernel
theorem dX3_findRule_169 : decode cX3_findRule 169 = .ok (.iinc 2 1, 3) := by decide +kernel
theorem dX3_findRule_172 : decode cX3_findRule 172 = .ok (.iinc 5 1, 3) := by decide +kernel
theorem dX3_findRule_175 : decode cX3_findRule 175 = .ok (.goto (-117), 3) := by decide +kernel
theorem dX3_findRule_178 : decode cX3_findRule 178 = .ok (.iconst 1, 1) := by decide +kernel
theorem dX3_findRule_179 : decode cX3_findRule 179 = .ok (.istore 5, 2) := by decide +kernel
theorem dX3_findRule_181 : decode cX3_findRule 181 = .ok (.iload 5, 2) := by decide +kernel
theorem dX3_findRule_183 : decode cX3_findRule 183 = .ok (.bipush 64, 2) := by decide +kernel
theorem dX3_findRule_185 : decode cX3_findRule 185 = .ok (.if_icmp .ge 31, 3) := by decide +kernel
theorem dX3_findRule_188 : decode cX3_findRule 188 = .ok (.aload_n 0, 1) := by decide +kernel
theorem dX3_findRule_189 : decode cX3_findRule 189 = .ok (.getfield 30, 3) := by decide +kernel
theorem dX3_findRule_192 : decode cX3_findRule 192 = .ok (.iload 5, 2) := by decide +kernel
theorem dX3_findRule_194 : decode cX3_findRule 194 = .ok (.ldc2_w 84, 3) := by decide +kernel
theorem dX3_findRule_197 : decode cX3_findRule 197 = .ok (.aload_n 0, 1) := by decide +kernel
theorem dX3_findRule_198 : decode cX3_findRule 198 = .ok (.getfield 21, 3) := by decide +kernel
theorem dX3_findRule_201 : decode cX3_findRule 201 = .ok (.iload 5, 2) := by decide +kernel
theorem dX3_findRule_203 : decode cX3_findRule 203 = .ok (.laload, 1) := by decide +kernel
theorem dX3_findRule_204 : decode cX3_findRule 204 = .ok (.lsub, 1) := by decide +kernel
theorem dX3_findRule_205 : decode cX3_findRule 205 = .ok (.ldc2_w 84, 3) := by decide +kernel
theorem dX3_findRule_208 : decode cX3_findRule 208 = .ok (.lrem, 1) := by decide +kernel
theorem dX3_findRule_209 : decode cX3_findRule 209 = .ok (.lastore, 1) := by decide +kernel
theorem dX3_findRule_210 : decode cX3_findRule 210 = .ok (.iinc 5 1, 3) := by decide +kernel
theorem dX3_findRule_213 : decode cX3_findRule 213 = .ok (.goto (-32), 3) := by decide +kernel
theorem dX3_findRule_216 : decode cX3_findRule 216 = .ok (.return_, 1) := by decide +kernel
theorem dX3_missAt_0 : decode cX3_missAt 0 = .ok (.lconst 0, 1) := by decide +kernel
theorem dX3_missAt_1 : decode cX3_missAt 1 = .ok (.lstore_n 2, 1) := by decide +kernel
theorem dX3_missAt_2 : decode cX3_missAt 2 = .ok (.iconst 0, 1) := by decide +kernel
theorem dX3_missAt_3 : decode cX3_missAt 3 = .ok (.istore 4, 2) := by decide +kernel
theorem dX3_missAt_5 : decode cX3_missAt 5 = .ok (.iload 4, 2) := by decide +kernel
theorem dX3_missAt_7 : decode cX3_missAt 7 = .ok (.aload_n 0, 1) := by decide +kernel
theorem dX3_missAt_8 : decode cX3_missAt 8 = .ok (.getfield 53, 3) := by decide +kernel
theorem dX3_missAt_11 : decode cX3_missAt 11 = .ok (.if_icmp .gt 39, 3) := by decide +kernel
theorem dX3_missAt_14 : decode cX3_missAt 14 = .ok (.iload 4, 2) := by decide +kernel
theorem dX3_missAt_16 : decode cX3_missAt 16 = .ok (.iload_n 1, 1) := by decide +kernel
theorem dX3_missAt_17 : decode cX3_missAt 17 = .ok (.if_icmp .gt 33, 3) := by decide +kernel
theorem dX3_missAt_20 : decode cX3_missAt 20 = .ok (.lload_n 2, 1) := by decide +kernel
theorem dX3_missAt_21 : decode cX3_missAt 21 = .ok (.aload_n 0, 1) := by decide +kernel
theorem dX3_missAt_22 : decode cX3_missAt 22 = .ok (.getfield 21, 3) := by decide +kernel
theorem dX3_missAt_25 : decode cX3_missAt 25 = .ok (.iload 4, 2) := by decide +kernel
theorem dX3_missAt_27 : decode cX3_missAt 27 = .ok (.laload, 1) := by decide +kernel
theorem dX3_missAt_28 : decode cX3_missAt 28 = .ok (.aload_n 0, 1) := by decide +kernel
theorem dX3_missAt_29 : decode cX3_missAt 29 = .ok (.getfield 11, 3) := by decide +kernel
theorem dX3_missAt_32 : decode cX3_missAt 32 = .ok (.iload_n 1, 1) := by decide +kernel
theorem dX3_missAt_33 : decode cX3_missAt 33 = .ok (.iload 4, 2) := by decide +kernel
theorem dX3_missAt_35 : decode cX3_missAt 35 = .ok (.isub, 1) := by decide +kernel
theorem dX3_missAt_36 : decode cX3_missAt 36 = .ok (.laload, 1) := by decide +kernel
theorem dX3_missAt_37 : decode cX3_missAt 37 = .ok (.lmul, 1) := by decide +kernel
theorem dX3_missAt_38 : decode cX3_missAt 38 = .ok (.ladd, 1) := by decide +kernel
theorem dX3_missAt_39 : decode cX3_missAt 39 = .ok (.ldc2_w 84, 3) := by decide +kernel
theorem dX3_missAt_42 : decode cX3_missAt 42 = .ok (.lrem, 1) := by decide +kernel
theorem dX3_missAt_43 : decode cX3_missAt 43 = .ok (.lstore_n 2, 1) := by decide +kernel
theorem dX3_missAt_44 : decode cX3_missAt 44 = .ok (.iinc 4 1, 3) := by decide +kernel
theorem dX3_missAt_47 : decode cX3_missAt 47 = .ok (.goto (-42), 3) := by decide +kernel
theorem dX3_missAt_50 : decode cX3_missAt 50 = .ok (.lload_n 2, 1) := by decide +kernel
theorem dX3_missAt_51 : decode cX3_missAt 51 = .ok (.lreturn, 1) := by decide +kernel
set_option maxRecDepth 20000 in
theorem ggX3_mend_X3_inverse : GoodIn wsX3_mend wsX3_inverse := goodIn_r _ [7, 1, 8] (by decide +kernel) (by decide +kernel)
set_option maxRecDepth 20000 in
theorem gX3_mend_X3_inverse : GoodIn wsX3_mend (va_wsS RX3 103 yX3_inverse wsX3_inverse) := goodIn_app (goodIn_of _ (by decide +kernel)) ggX3_mend_X3_inverse
theorem dX3_mend_0 : decode cX3_mend 0 = .ok (.lload_n 1, 1) := by decide +kernel
theorem dX3_mend_1 : decode cX3_mend 1 = .ok (.lload_n 3, 1) := by decide +kernel
theorem dX3_mend_2 : decode cX3_mend 2 = .ok (.invokestatic 103, 3) := by decide +kernel
theorem dX3_mend_5 : decode cX3_mend 5 = .ok (.lmul, 1) := by decide +kernel
theorem dX3_mend_6 : decode cX3_mend 6 = .ok (.ldc2_w 84, 3) := by decide +kernel
theorem dX3_mend_9 : decode cX3_mend 9 = .ok (.lrem, 1) := by decide +kernel
theorem dX3_mend_10 : decode cX3_mend 10 = .ok (.lstore 6, 2) := by decide +kernel
theorem dX3_mend_12 : decode cX3_mend 12 = .ok (.iconst 0, 1) := by decide +kernel
theorem dX3_mend_13 : decode cX3_mend 13 = .ok (.istore 8, 2) := by decide +kernel
theorem dX3_mend_15 : decode cX3_mend 15 = .ok (.iload 8, 2) := by decide +kernel
theorem dX3_mend_17 : decode cX3_mend 17 = .ok (.iload 5, 2) := by decide +kernel
theorem dX3_mend_19 : decode cX3_mend 19 = .ok (.iadd, 1) := by decide +kernel
theorem dX3_mend_20 : decode cX3_mend 20 = .ok (.bipush 64, 2) := by decide +kernel
theorem dX3_mend_22 : decode cX3_mend 22 = .ok (.if_icmp .ge 48, 3) := by decide +kernel
theorem dX3_mend_25 : decode cX3_mend 25 = .ok (.aload_n 0, 1) := by decide +kernel
theorem dX3_mend_26 : decode cX3_mend 26 = .ok (.getfield 21, 3) := by decide +kernel
theorem dX3_mend_29 : decode cX3_mend 29 = .ok (.iload 8, 2) := by decide +kernel
theorem dX3_mend_31 : decode cX3_mend 31 = .ok (.iload 5, 2) := by decide +kernel
theorem dX3_mend_33 : decode cX3_mend 33 = .ok (.iadd, 1) := by decide +kernel
theorem dX3_mend_34 : decode cX3_mend 34 = .ok (.aload_n 0, 1) := by decide +kernel
theorem dX3_mend_35 : decode cX3_mend 35 = .ok (.getfield 21, 3) := by decide +kernel
theorem dX3_mend_38 : decode cX3_mend 38 = .ok (.iload 8, 2) := by decide +kernel
theorem dX3_mend_40 : decode cX3_mend 40 = .ok (.iload 5, 2) := by decide +kernel
theorem dX3_mend_42 : decode cX3_mend 42 = .ok (.iadd, 1) := by decide +kernel
theorem dX3_mend_43 : decode cX3_mend 43 = .ok (.laload, 1) := by decide +kernel
theorem dX3_mend_44 : decode cX3_mend 44 = .ok (.ldc2_w 84, 3) := by decide +kernel
theorem dX3_mend_47 : decode cX3_mend 47 = .ok (.lload 6, 2) := by decide +kernel
theorem dX3_mend_49 : decode cX3_mend 49 = .ok (.lsub, 1) := by decide +kernel
theorem dX3_mend_50 : decode cX3_mend 50 = .ok (.aload_n 0, 1) := by decide +kernel
theorem dX3_mend_51 : decode cX3_mend 51 = .ok (.getfield 24, 3) := by decide +kernel
theorem dX3_mend_54 : decode cX3_mend 54 = .ok (.iload 8, 2) := by decide +kernel
theorem dX3_mend_56 : decode cX3_mend 56 = .ok (.laload, 1) := by decide +kernel
theorem dX3_mend_57 : decode cX3_mend 57 = .ok (.lmul, 1) := by decide +kernel
theorem dX3_mend_58 : decode cX3_mend 58 = .ok (.ladd, 1) := by decide +kernel
theorem dX3_mend_59 : decode cX3_mend 59 = .ok (.ldc2_w 84, 3) := by decide +kernel
theorem dX3_mend_62 : decode cX3_mend 62 = .ok (.lrem, 1) := by decide +kernel
theorem dX3_mend_63 : decode cX3_mend 63 = .ok (.lastore, 1) := by decide +kernel
theorem dX3_mend_64 : decode cX3_mend 64 = .ok (.iinc 8 1, 3) := by decide +kernel
theorem dX3_mend_67 : decode cX3_mend 67 = .ok (.goto (-52), 3) := by decide +kernel
theorem dX3_mend_70 : decode cX3_mend 70 = .ok (.return_, 1) := by decide +kernel
theorem dX3_inverse_0 : decode cX3_inverse 0 = .ok (.lload_n 0, 1) := by decide +kernel
theorem dX3_inverse_1 : decode cX3_inverse 1 = .ok (.ldc2_w 84, 3) := by decide +kernel
theorem dX3_inverse_4 : decode cX3_inverse 4 = .ok (.lrem, 1) := by decide +kernel
theorem dX3_inverse_5 : decode cX3_inverse 5 = .ok (.lstore_n 2, 1) := by decide +kernel
theorem dX3_inverse_6 : decode cX3_inverse 6 = .ok (.lconst 1, 1) := by decide +kernel
theorem dX3_inverse_7 : decode cX3_inverse 7 = .ok (.lstore 4, 2) := by decide +kernel
theorem dX3_inverse_9 : decode cX3_inverse 9 = .ok (.ldc2_w 106, 3) := by decide +kernel
theorem dX3_inverse_12 : decode cX3_inverse 12 = .ok (.lstore 6, 2) := by decide +kernel
theorem dX3_inverse_14 : decode cX3_inverse 14 = .ok (.lload 6, 2) := by decide +kernel
theorem dX3_inverse_16 : decode cX3_inverse 16 = .ok (.lconst 0, 1) := by decide +kernel
theorem dX3_inverse_17 : decode cX3_inverse 17 = .ok (.lcmp, 1) := by decide +kernel
theorem dX3_inverse_18 : decode cX3_inverse 18 = .ok (.ifCond .le 39, 3) := by decide +kernel
theorem dX3_inverse_21 : decode cX3_inverse 21 = .ok (.lload 6, 2) := by decide +kernel
theorem dX3_inverse_23 : decode cX3_inverse 23 = .ok (.lconst 1, 1) := by decide +kernel
theorem dX3_inverse_24 : decode cX3_inverse 24 = .ok (.land, 1) := by decide +kernel
theorem dX3_inverse_25 : decode cX3_inverse 25 = .ok (.lconst 0, 1) := by decide +kernel
theorem dX3_inverse_26 : decode cX3_inverse 26 = .ok (.lcmp, 1) := by decide +kernel
theorem dX3_inverse_27 : decode cX3_inverse 27 = .ok (.ifCond .eq 13, 3) := by decide +kernel
theorem dX3_inverse_30 : decode cX3_inverse 30 = .ok (.lload 4, 2) := by decide +kernel
theorem dX3_inverse_32 : decode cX3_inverse 32 = .ok (.lload_n 2, 1) := by decide +kernel
theorem dX3_inverse_33 : decode cX3_inverse 33 = .ok (.lmul, 1) := by decide +kernel
theorem dX3_inverse_34 : decode cX3_inverse 34 = .ok (.ldc2_w 84, 3) := by decide +kernel
theorem dX3_inverse_37 : decode cX3_inverse 37 = .ok (.lrem, 1) := by decide +kernel
theorem dX3_inverse_38 : decode cX3_inverse 38 = .ok (.lstore 4, 2) := by decide +kernel
theorem dX3_inverse_40 : decode cX3_inverse 40 = .ok (.lload_n 2, 1) := by decide +kernel
theorem dX3_inverse_41 : decode cX3_inverse 41 = .ok (.lload_n 2, 1) := by decide +kernel
theorem dX3_inverse_42 : decode cX3_inverse 42 = .ok (.lmul, 1) := by decide +kernel
theorem dX3_inverse_43 : decode cX3_inverse 43 = .ok (.ldc2_w 84, 3) := by decide +kernel
theorem dX3_inverse_46 : decode cX3_inverse 46 = .ok (.lrem, 1) := by decide +kernel
theorem dX3_inverse_47 : decode cX3_inverse 47 = .ok (.lstore_n 2, 1) := by decide +kernel
theorem dX3_inverse_48 : decode cX3_inverse 48 = .ok (.lload 6, 2) := by decide +kernel
theorem dX3_inverse_50 : decode cX3_inverse 50 = .ok (.iconst 1, 1) := by decide +kernel
theorem dX3_inverse_51 : decode cX3_inverse 51 = .ok (.lshr, 1) := by decide +kernel
theorem dX3_inverse_52 : decode cX3_inverse 52 = .ok (.lstore 6, 2) := by decide +kernel
theorem dX3_inverse_54 : decode cX3_inverse 54 = .ok (.goto (-40), 3) := by decide +kernel
theorem dX3_inverse_57 : decode cX3_inverse 57 = .ok (.lload 4, 2) := by decide +kernel
theorem dX3_inverse_59 : decode cX3_inverse 59 = .ok (.lreturn, 1) := by decide +kernel
set_option maxRecDepth 20000 in
theorem ggX3_distant_X3_square : GoodIn wsX3_distant wsX3_square := goodIn_r _ [9, 10, 1, 2, 4, 11, 12, 13, 8, 14, 15, 20, 21, 22, 23, 24, 25, 26, 27, 28, 29, 30, 31] (by decide +kernel) (by decide +kernel)
set_option maxRecDepth 20000 in
theorem gX3_distant_X3_square : GoodIn wsX3_distant (wsV RX3 108 RX3 yX3_square wsX3_square) := goodIn_app (goodIn_of _ (by decide +kernel)) ggX3_distant_X3_square
set_option maxRecDepth 20000 in
theorem ggX3_distant_X3_raise : GoodIn wsX3_distant wsX3_raise := goodIn_r _ [19, 10, 1, 2, 11, 12, 13, 8, 14, 15, 4, 20, 21, 22, 23, 24, 25, 26, 27, 28, 29, 30, 31] (by decide +kernel) (by decide +kernel)
set_option maxRecDepth 20000 in
theorem gX3_distant_X3_raise : GoodIn wsX3_distant (wsV RX3 111 RX3 yX3_raise wsX3_raise) := goodIn_app (goodIn_of _ (by decide +kernel)) ggX3_distant_X3_raise
theorem dX3_distant_0 : decode cX3_distant 0 = .ok (.aload_n 0, 1) := by decide +kernel
theorem dX3_distant_1 : decode cX3_distant 1 = .ok (.getfield 53, 3) := by decide +kernel
theorem dX3_distant_4 : decode cX3_distant 4 = .ok (.iconst 1, 1) := by decide +kernel
theorem dX3_distant_5 : decode cX3_distant 5 = .ok (.if_icmp .lt 14, 3) := by decide +kernel
theorem dX3_distant_8 : decode cX3_distant 8 = .ok (.iconst 2, 1) := by decide +kernel
theorem dX3_distant_9 : decode cX3_distant 9 = .ok (.aload_n 0, 1) := by decide +kernel
theorem dX3_distant_10 : decode cX3_distant 10 = .ok (.getfield 53, 3) := by decide +kernel
theorem dX3_distant_13 : decode cX3_distant 13 = .ok (.imul, 1) := by decide +kernel
theorem dX3_distant_14 : decode cX3_distant 14 = .ok (.bipush 64, 2) := by decide +kernel
theorem dX3_distant_16 : decode cX3_distant 16 = .ok (.if_icmp .lt 5, 3) := by decide +kernel
theorem dX3_distant_19 : decode cX3_distant 19 = .ok (.lconst 0, 1) := by decide +kernel
theorem dX3_distant_20 : decode cX3_distant 20 = .ok (.lreturn, 1) := by decide +kernel
theorem dX3_distant_21 : decode cX3_distant 21 = .ok (.iconst 0, 1) := by decide +kernel
theorem dX3_distant_22 : decode cX3_distant 22 = .ok (.istore_n 3, 1) := by decide +kernel
theorem dX3_distant_23 : decode cX3_distant 23 = .ok (.iload_n 3, 1) := by decide +kernel
theorem dX3_distant_24 : decode cX3_distant 24 = .ok (.bipush 64, 2) := by decide +kernel
theorem dX3_distant_26 : decode cX3_distant 26 = .ok (.if_icmp .ge 24, 3) := by decide +kernel
theorem dX3_distant_29 : decode cX3_distant 29 = .ok (.aload_n 0, 1) := by decide +kernel
theorem dX3_distant_30 : decode cX3_distant 30 = .ok (.getfield 33, 3) := by decide +kernel
theorem dX3_distant_33 : decode cX3_distant 33 = .ok (.iload_n 3, 1) := by decide +kernel
theorem dX3_distant_34 : decode cX3_distant 34 = .ok (.iload_n 3, 1) := by decide +kernel
theorem dX3_distant_35 : decode cX3_distant 35 = .ok (.ifCond .ne 7, 3) := by decide +kernel
theorem dX3_distant_38 : decode cX3_distant 38 = .ok (.lconst 1, 1) := by decide +kernel
theorem dX3_distant_39 : decode cX3_distant 39 = .ok (.goto 4, 3) := by decide +kernel
theorem dX3_distant_42 : decode cX3_distant 42 = .ok (.lconst 0, 1) := by decide +kernel
theorem dX3_distant_43 : decode cX3_distant 43 = .ok (.lastore, 1) := by decide +kernel
theorem dX3_distant_44 : decode cX3_distant 44 = .ok (.iinc 3 1, 3) := by decide +kernel
theorem dX3_distant_47 : decode cX3_distant 47 = .ok (.goto (-24), 3) := by decide +kernel
theorem dX3_distant_50 : decode cX3_distant 50 = .ok (.bipush 62, 2) := by decide +kernel
theorem dX3_distant_52 : decode cX3_distant 52 = .ok (.istore_n 3, 1) := by decide +kernel
theorem dX3_distant_53 : decode cX3_distant 53 = .ok (.iload_n 3, 1) := by decide +kernel
theorem dX3_distant_54 : decode cX3_distant 54 = .ok (.ifCond .lt 27, 3) := by decide +kernel
theorem dX3_distant_57 : decode cX3_distant 57 = .ok (.aload_n 0, 1) := by decide +kernel
theorem dX3_distant_58 : decode cX3_distant 58 = .ok (.invokevirtual 108, 3) := by decide +kernel
theorem dX3_distant_61 : decode cX3_distant 61 = .ok (.lload_n 1, 1) := by decide +kernel
theorem dX3_distant_62 : decode cX3_distant 62 = .ok (.iload_n 3, 1) := by decide +kernel
theorem dX3_distant_63 : decode cX3_distant 63 = .ok (.lshr, 1) := by decide +kernel
theorem dX3_distant_64 : decode cX3_distant 64 = .ok (.lconst 1, 1) := by decide +kernel
theorem dX3_distant_65 : decode cX3_distant 65 = .ok (.land, 1) := by decide +kernel
theorem dX3_distant_66 : decode cX3_distant 66 = .ok (.lconst 0, 1) := by decide +kernel
theorem dX3_distant_67 : decode cX3_distant 67 = .ok (.lcmp, 1) := by decide +kernel
theorem dX3_distant_68 : decode cX3_distant 68 = .ok (.ifCond .eq 7, 3) := by decide +kernel
theorem dX3_distant_71 : decode cX3_distant 71 = .ok (.aload_n 0, 1) := by decide +kernel
theorem dX3_distant_72 : decode cX3_distant 72 = .ok (.invokevirtual 111, 3) := by decide +kernel
theorem dX3_distant_75 : decode cX3_distant 75 = .ok (.iinc 3 (-1), 3) := by decide +kernel
theorem dX3_distant_78 : decode cX3_distant 78 = .ok (.goto (-25), 3) := by decide +kernel
theorem dX3_distant_81 : decode cX3_distant 81 = .ok (.lconst 0, 1) := by decide +kernel
theorem dX3_distant_82 : decode cX3_distant 82 = .ok (.lstore_n 3, 1) := by decide +kernel
theorem dX3_distant_83 : decode cX3_distant 83 = .ok (.iconst 0, 1) := by decide +kernel
theorem dX3_distant_84 : decode cX3_distant 84 = .ok (.istore 5, 2) := by decide +kernel
theorem dX3_distant_86 : decode cX3_distant 86 = .ok (.iload 5, 2) := by decide +kernel
theorem dX3_distant_88 : decode cX3_distant 88 = .ok (.aload_n 0, 1) := by decide +kernel
theorem dX3_distant_89 : decode cX3_distant 89 = .ok (.getfield 53, 3) := by decide +kernel
theorem dX3_distant_92 : decode cX3_distant 92 = .ok (.if_icmp .ge 31, 3) := by decide +kernel
theorem dX3_distant_95 : decode cX3_distant 95 = .ok (.lload_n 3, 1) := by decide +kernel
theorem dX3_distant_96 : decode cX3_distant 96 = .ok (.aload_n 0, 1) := by decide +kernel
theorem dX3_distant_97 : decode cX3_distant 97 = .ok (.getfield 33, 3) := by decide +kernel
theorem dX3_distant_100 : decode cX3_distant 100 = .ok (.iload 5, 2) := by decide +kernel
theorem dX3_distant_102 : decode cX3_distant 102 = .ok (.laload, 1) := by decide +kernel
theorem dX3_distant_103 : decode cX3_distant 103 = .ok (.aload_n 0, 1) := by decide +kernel
theorem dX3_distant_104 : decode cX3_distant 104 = .ok (.getfield 11, 3) := by decide +kernel
theorem dX3_distant_107 : decode cX3_distant 107 = .ok (.iload 5, 2) := by decide +kernel
theorem dX3_distant_109 : decode cX3_distant 109 = .ok (.laload, 1) := by decide +kernel
theorem dX3_distant_110 : decode cX3_distant 110 = .ok (.lmul, 1) := by decide +kernel
theorem dX3_distant_111 : decode cX3_distant 111 = .ok (.ladd, 1) := by decide +kernel
theorem dX3_distant_112 : decode cX3_distant 112 = .ok (.ldc2_w 84, 3) := by decide +kernel
theorem dX3_distant_115 : decode cX3_distant 115 = .ok (.lrem, 1) := by decide +kernel
theorem dX3_distant_116 : decode cX3_distant 116 = .ok (.lstore_n 3, 1) := by decide +kernel
theorem dX3_distant_117 : decode cX3_distant 117 = .ok (.iinc 5 1, 3) := by decide +kernel
theorem dX3_distant_120 : decode cX3_distant 120 = .ok (.goto (-34), 3) := by decide +kernel
theorem dX3_distant_123 : decode cX3_distant 123 = .ok (.lload_n 3, 1) := by decide +kernel
theorem dX3_distant_124 : decode cX3_distant 124 = .ok (.lreturn, 1) := by decide +kernel
set_option maxRecDepth 20000 in
theorem ggX3_square_X3_reduce : GoodIn wsX3_square wsX3_reduce := goodIn_r _ [9, 2, 1, 10, 4, 3, 11, 12, 13, 14, 15, 16, 17, 18, 19, 20, 21, 22] (by decide +kernel) (by decide +kernel)
set_option maxRecDepth 20000 in
theorem gX3_square_X3_reduce : GoodIn wsX3_square (wsV RX3 114 RX3 yX3_reduce wsX3_reduce) := goodIn_app (goodIn_of _ (by decide +kernel)) ggX3_square_X3_reduce
theorem dX3_square_0 : decode cX3_square 0 = .ok (.iconst 0, 1) := by decide +kernel
theorem dX3_square_1 : decode cX3_square 1 = .ok (.istore_n 1, 1) := by decide +kernel
theorem dX3_square_2 : decode cX3_square 2 = .ok (.iload_n 1, 1) := by decide +kernel
theorem dX3_square_3 : decode cX3_square 3 = .ok (.bipush 64, 2) := by decide +kernel
theorem dX3_square_5 : decode cX3_square 5 = .ok (.if_icmp .ge 16, 3) := by decide +kernel
theorem dX3_square_8 : decode cX3_square 8 = .ok (.aload_n 0, 1) := by decide +kernel
theorem dX3_square_9 : decode cX3_square 9 = .ok (.getfield 36, 3) := by decide +kernel
theorem dX3_square_12 : decode cX3_square 12 = .ok (.iload_n 1, 1) := by decide +kernel
theorem dX3_square_13 : decode cX3_square 13 = .ok (.lconst 0, 1) := by decide +kernel
theorem dX3_square_14 : decode cX3_square 14 = .ok (.lastore, 1) := by decide +kernel
theorem dX3_square_15 : decode cX3_square 15 = .ok (.iinc 1 1, 3) := by decide +kernel
theorem dX3_square_18 : decode cX3_square 18 = .ok (.goto (-16), 3) := by decide +kernel
theorem dX3_square_21 : decode cX3_square 21 = .ok (.iconst 0, 1) := by decide +kernel
theorem dX3_square_22 : decode cX3_square 22 = .ok (.istore_n 1, 1) := by decide +kernel
theorem dX3_square_23 : decode cX3_square 23 = .ok (.iload_n 1, 1) := by decide +kernel
theorem dX3_square_24 : decode cX3_square 24 = .ok (.aload_n 0, 1) := by decide +kernel
theorem dX3_square_25 : decode cX3_square 25 = .ok (.getfield 53, 3) := by decide +kernel
theorem dX3_square_28 : decode cX3_square 28 = .ok (.if_icmp .ge 59, 3) := by decide +kernel
theorem dX3_square_31 : decode cX3_square 31 = .ok (.iconst 0, 1) := by decide +kernel
theorem dX3_square_32 : decode cX3_square 32 = .ok (.istore_n 2, 1) := by decide +kernel
theorem dX3_square_33 : decode cX3_square 33 = .ok (.iload_n 2, 1) := by decide +kernel
theorem dX3_square_34 : decode cX3_square 34 = .ok (.aload_n 0, 1) := by decide +kernel
theorem dX3_square_35 : decode cX3_square 35 = .ok (.getfield 53, 3) := by decide +kernel
theorem dX3_square_38 : decode cX3_square 38 = .ok (.if_icmp .ge 43, 3) := by decide +kernel
theorem dX3_square_41 : decode cX3_square 41 = .ok (.aload_n 0, 1) := by decide +kernel
theorem dX3_square_42 : decode cX3_square 42 = .ok (.getfield 36, 3) := by decide +kernel
theorem dX3_square_45 : decode cX3_square 45 = .ok (.iload_n 1, 1) := by decide +kernel
theorem dX3_square_46 : decode cX3_square 46 = .ok (.iload_n 2, 1) := by decide +kernel
theorem dX3_square_47 : decode cX3_square 47 = .ok (.iadd, 1) := by decide +kernel
theorem dX3_square_48 : decode cX3_square 48 = .ok (.aload_n 0, 1) := by decide +kernel
theorem dX3_square_49 : decode cX3_square 49 = .ok (.getfield 36, 3) := by decide +kernel
theorem dX3_square_52 : decode cX3_square 52 = .ok (.iload_n 1, 1) := by decide +kernel
theorem dX3_square_53 : decode cX3_square 53 = .ok (.iload_n 2, 1) := by decide +kernel
theorem dX3_square_54 : decode cX3_square 54 = .ok (.iadd, 1) := by decide +kernel
theorem dX3_square_55 : decode cX3_square 55 = .ok (.laload, 1) := by decide +kernel
theorem dX3_square_56 : decode cX3_square 56 = .ok (.aload_n 0, 1) := by decide +kernel
theorem dX3_square_57 : decode cX3_square 57 = .ok (.getfield 33, 3) := by decide +kernel
theorem dX3_square_60 : decode cX3_square 60 = .ok (.iload_n 1, 1) := by decide +kernel
theorem dX3_square_61 : decode cX3_square 61 = .ok (.laload, 1) := by decide +kernel
theorem dX3_square_62 : decode cX3_square 62 = .ok (.aload_n 0, 1) := by decide +kernel
theorem dX3_square_63 : decode cX3_square 63 = .ok (.getfield 33, 3) := by decide +kernel
theorem dX3_square_66 : decode cX3_square 66 = .ok (.iload_n 2, 1) := by decide +kernel
theorem dX3_square_67 : decode cX3_square 67 = .ok (.laload, 1) := by decide +kernel
theorem dX3_square_68 : decode cX3_square 68 = .ok (.lmul, 1) := by decide +kernel
theorem dX3_square_69 : decode cX3_square 69 = .ok (.ladd, 1) := by decide +kernel
theorem dX3_square_70 : decode cX3_square 70 = .ok (.ldc2_w 84, 3) := by decide +kernel
theorem dX3_square_73 : decode cX3_square 73 = .ok (.lrem, 1) := by decide +kernel
theorem dX3_square_74 : decode cX3_square 74 = .ok (.lastore, 1) := by decide +kernel
theorem dX3_square_75 : decode cX3_square 75 = .ok (.iinc 2 1, 3) := by decide +kernel
theorem dX3_square_78 : decode cX3_square 78 = .ok (.goto (-45), 3) := by decide +kernel
theorem dX3_square_81 : decode cX3_square 81 = .ok (.iinc 1 1, 3) := by decide +kernel
theorem dX3_square_84 : decode cX3_square 84 = .ok (.goto (-61), 3) := by decide +kernel
theorem dX3_square_87 : decode cX3_square 87 = .ok (.aload_n 0, 1) := by decide +kernel
theorem dX3_square_88 : decode cX3_square 88 = .ok (.iconst 2, 1) := by decide +kernel
theorem dX3_square_89 : decode cX3_square 89 = .ok (.aload_n 0, 1) := by decide +kernel
theorem dX3_square_90 : decode cX3_square 90 = .ok (.getfield 53, 3) := by decide +kernel
theorem dX3_square_93 : decode cX3_square 93 = .ok (.imul, 1) := by decide +kernel
theorem dX3_square_94 : decode cX3_square 94 = .ok (.iconst 2, 1) := by decide +kernel
theorem dX3_square_95 : decode cX3_square 95 = .ok (.isub, 1) := by decide +kernel
theorem dX3_square_96 : decode cX3_square 96 = .ok (.invokevirtual 114, 3) := by decide +kernel
theorem dX3_square_99 : decode cX3_square 99 = .ok (.return_, 1) := by decide +kernel
set_option maxRecDepth 20000 in
theorem ggX3_raise_X3_reduce : GoodIn wsX3_raise wsX3_reduce := goodIn_r _ [8, 2, 1, 9, 10, 3, 11, 12, 13, 14, 15, 16, 17, 18, 19, 20, 21, 22] (by decide +kernel) (by decide +kernel)
set_option maxRecDepth 20000 in
theorem gX3_raise_X3_reduce : GoodIn wsX3_raise (wsV RX3 114 RX3 yX3_reduce wsX3_reduce) := goodIn_app (goodIn_of _ (by decide +kernel)) ggX3_raise_X3_reduce
theorem dX3_raise_0 : decode cX3_raise 0 = .ok (.aload_n 0, 1) := by decide +kernel
theorem dX3_raise_1 : decode cX3_raise 1 = .ok (.getfield 36, 3) := by decide +kernel
theorem dX3_raise_4 : decode cX3_raise 4 = .ok (.iconst 0, 1) := by decide +kernel
theorem dX3_raise_5 : decode cX3_raise 5 = .ok (.lconst 0, 1) := by decide +kernel
theorem dX3_raise_6 : decode cX3_raise 6 = .ok (.lastore, 1) := by decide +kernel
theorem dX3_raise_7 : decode cX3_raise 7 = .ok (.iconst 0, 1) := by decide +kernel
theorem dX3_raise_8 : decode cX3_raise 8 = .ok (.istore_n 1, 1) := by decide +kernel
theorem dX3_raise_9 : decode cX3_raise 9 = .ok (.iload_n 1, 1) := by decide +kernel
theorem dX3_raise_10 : decode cX3_raise 10 = .ok (.aload_n 0, 1) := by decide +kernel
theorem dX3_raise_11 : decode cX3_raise 11 = .ok (.getfield 53, 3) := by decide +kernel
theorem dX3_raise_14 : decode cX3_raise 14 = .ok (.if_icmp .ge 23, 3) := by decide +kernel
theorem dX3_raise_17 : decode cX3_raise 17 = .ok (.aload_n 0, 1) := by decide +kernel
theorem dX3_raise_18 : decode cX3_raise 18 = .ok (.getfield 36, 3) := by decide +kernel
theorem dX3_raise_21 : decode cX3_raise 21 = .ok (.iload_n 1, 1) := by decide +kernel
theorem dX3_raise_22 : decode cX3_raise 22 = .ok (.iconst 1, 1) := by decide +kernel
theorem dX3_raise_23 : decode cX3_raise 23 = .ok (.iadd, 1) := by decide +kernel
theorem dX3_raise_24 : decode cX3_raise 24 = .ok (.aload_n 0, 1) := by decide +kernel
theorem dX3_raise_25 : decode cX3_raise 25 = .ok (.getfield 33, 3) := by decide +kernel
theorem dX3_raise_28 : decode cX3_raise 28 = .ok (.iload_n 1, 1) := by decide +kernel
theorem dX3_raise_29 : decode cX3_raise 29 = .ok (.laload, 1) := by decide +kernel
theorem dX3_raise_30 : decode cX3_raise 30 = .ok (.lastore, 1) := by decide +kernel
theorem dX3_raise_31 : decode cX3_raise 31 = .ok (.iinc 1 1, 3) := by decide +kernel
theorem dX3_raise_34 : decode cX3_raise 34 = .ok (.goto (-25), 3) := by decide +kernel
theorem dX3_raise_37 : decode cX3_raise 37 = .ok (.aload_n 0, 1) := by decide +kernel
theorem dX3_raise_38 : decode cX3_raise 38 = .ok (.aload_n 0, 1) := by decide +kernel
theorem dX3_raise_39 : decode cX3_raise 39 = .ok (.getfield 53, 3) := by decide +kernel
theorem dX3_raise_42 : decode cX3_raise 42 = .ok (.invokevirtual 114, 3) := by decide +kernel
theorem dX3_raise_45 : decode cX3_raise 45 = .ok (.return_, 1) := by decide +kernel
theorem dX3_reduce_0 : decode cX3_reduce 0 = .ok (.iload_n 1, 1) := by decide +kernel
theorem dX3_reduce_1 : decode cX3_reduce 1 = .ok (.istore_n 2, 1) := by decide +kernel
theorem dX3_reduce_2 : decode cX3_reduce 2 = .ok (.iload_n 2, 1) := by decide +kernel
theorem dX3_reduce_3 : decode cX3_reduce 3 = .ok (.aload_n 0, 1) := by decide +kernel
theorem dX3_reduce_4 : decode cX3_reduce 4 = .ok (.getfield 53, 3) := by decide +kernel
theorem dX3_reduce_7 : decode cX3_reduce 7 = .ok (.if_icmp .lt 59, 3) := by decide +kernel
theorem dX3_reduce_10 : decode cX3_reduce 10 = .ok (.iconst 1, 1) := by decide +kernel
theorem dX3_reduce_11 : decode cX3_reduce 11 = .ok (.istore_n 3, 1) := by decide +kernel
theorem dX3_reduce_12 : decode cX3_reduce 12 = .ok (.iload_n 3, 1) := by decide +kernel
theorem dX3_reduce_13 : decode cX3_reduce 13 = .ok (.aload_n 0, 1) := by decide +kernel
theorem dX3_reduce_14 : decode cX3_reduce 14 = .ok (.getfield 53, 3) := by decide +kernel
theorem dX3_reduce_17 : decode cX3_reduce 17 = .ok (.if_icmp .gt 43, 3) := by decide +kernel
theorem dX3_reduce_20 : decode cX3_reduce 20 = .ok (.aload_n 0, 1) := by decide +kernel
theorem dX3_reduce_21 : decode cX3_reduce 21 = .ok (.getfield 36, 3) := by decide +kernel
theorem dX3_reduce_24 : decode cX3_reduce 24 = .ok (.iload_n 2, 1) := by decide +kernel
theorem dX3_reduce_25 : decode cX3_reduce 25 = .ok (.iload_n 3, 1) := by decide +kernel
theorem dX3_reduce_26 : decode cX3_reduce 26 = .ok (.isub, 1) := by decide +kernel
theorem dX3_reduce_27 : decode cX3_reduce 27 = .ok (.aload_n 0, 1) := by decide +kernel
theorem dX3_reduce_28 : decode cX3_reduce 28 = .ok (.getfield 36, 3) := by decide +kernel
theorem dX3_reduce_31 : decode cX3_reduce 31 = .ok (.iload_n 2, 1) := by decide +kernel
theorem dX3_reduce_32 : decode cX3_reduce 32 = .ok (.iload_n 3, 1) := by decide +kernel
theorem dX3_reduce_33 : decode cX3_reduce 33 = .ok (.isub, 1) := by decide +kernel
theorem dX3_reduce_34 : decode cX3_reduce 34 = .ok (.laload, 1) := by decide +kernel
theorem dX3_reduce_35 : decode cX3_reduce 35 = .ok (.aload_n 0, 1) := by decide +kernel
theorem dX3_reduce_36 : decode cX3_reduce 36 = .ok (.getfield 36, 3) := by decide +kernel
theorem dX3_reduce_39 : decode cX3_reduce 39 = .ok (.iload_n 2, 1) := by decide +kernel
theorem dX3_reduce_40 : decode cX3_reduce 40 = .ok (.laload, 1) := by decide +kernel
theorem dX3_reduce_41 : decode cX3_reduce 41 = .ok (.aload_n 0, 1) := by decide +kernel
theorem dX3_reduce_42 : decode cX3_reduce 42 = .ok (.getfield 30, 3) := by decide +kernel
theorem dX3_reduce_45 : decode cX3_reduce 45 = .ok (.iload_n 3, 1) := by decide +kernel
theorem dX3_reduce_46 : decode cX3_reduce 46 = .ok (.laload, 1) := by decide +kernel
theorem dX3_reduce_47 : decode cX3_reduce 47 = .ok (.lmul, 1) := by decide +kernel
theorem dX3_reduce_48 : decode cX3_reduce 48 = .ok (.ladd, 1) := by decide +kernel
theorem dX3_reduce_49 : decode cX3_reduce 49 = .ok (.ldc2_w 84, 3) := by decide +kernel
theorem dX3_reduce_52 : decode cX3_reduce 52 = .ok (.lrem, 1) := by decide +kernel
theorem dX3_reduce_53 : decode cX3_reduce 53 = .ok (.lastore, 1) := by decide +kernel
theorem dX3_reduce_54 : decode cX3_reduce 54 = .ok (.iinc 3 1, 3) := by decide +kernel
theorem dX3_reduce_57 : decode cX3_reduce 57 = .ok (.goto (-45), 3) := by decide +kernel
theorem dX3_reduce_60 : decode cX3_reduce 60 = .ok (.iinc 2 (-1), 3) := by decide +kernel
theorem dX3_reduce_63 : decode cX3_reduce 63 = .ok (.goto (-61), 3) := by decide +kernel
theorem dX3_reduce_66 : decode cX3_reduce 66 = .ok (.iconst 0, 1) := by decide +kernel
theorem dX3_reduce_67 : decode cX3_reduce 67 = .ok (.istore_n 2, 1) := by decide +kernel
theorem dX3_reduce_68 : decode cX3_reduce 68 = .ok (.iload_n 2, 1) := by decide +kernel
theorem dX3_reduce_69 : decode cX3_reduce 69 = .ok (.aload_n 0, 1) := by decide +kernel
theorem dX3_reduce_70 : decode cX3_reduce 70 = .ok (.getfield 53, 3) := by decide +kernel
theorem dX3_reduce_73 : decode cX3_reduce 73 = .ok (.if_icmp .ge 21, 3) := by decide +kernel
theorem dX3_reduce_76 : decode cX3_reduce 76 = .ok (.aload_n 0, 1) := by decide +kernel
theorem dX3_reduce_77 : decode cX3_reduce 77 = .ok (.getfield 33, 3) := by decide +kernel
theorem dX3_reduce_80 : decode cX3_reduce 80 = .ok (.iload_n 2, 1) := by decide +kernel
theorem dX3_reduce_81 : decode cX3_reduce 81 = .ok (.aload_n 0, 1) := by decide +kernel
theorem dX3_reduce_82 : decode cX3_reduce 82 = .ok (.getfield 36, 3) := by decide +kernel
theorem dX3_reduce_85 : decode cX3_reduce 85 = .ok (.iload_n 2, 1) := by decide +kernel
theorem dX3_reduce_86 : decode cX3_reduce 86 = .ok (.laload, 1) := by decide +kernel
theorem dX3_reduce_87 : decode cX3_reduce 87 = .ok (.lastore, 1) := by decide +kernel
theorem dX3_reduce_88 : decode cX3_reduce 88 = .ok (.iinc 2 1, 3) := by decide +kernel
theorem dX3_reduce_91 : decode cX3_reduce 91 = .ok (.goto (-23), 3) := by decide +kernel
theorem dX3_reduce_94 : decode cX3_reduce 94 = .ok (.return_, 1) := by decide +kernel
set_option maxRecDepth 20000 in
theorem ggX4_init_X4_renew : GoodIn wsX4_init wsX4_renew := goodIn_r _ [19, 20, 21, 22, 18, 23, 14, 13, 24, 25, 26, 27, 28, 29, 30, 31, 10, 11, 32, 33, 34, 35, 36, 37, 38, 39, 40, 41, 42, 43, 44, 45, 46] (by decide +kernel) (by decide +kernel)
set_option maxRecDepth 20000 in
theorem gX4_init_X4_renew : GoodIn wsX4_init (wsV RX4 41 RX4 yX4_renew wsX4_renew) := goodIn_app (goodIn_of _ (by decide +kernel)) ggX4_init_X4_renew
theorem dX4_init_0 : decode cX4_init 0 = .ok (.aload_n 0, 1) := by decide +kernel
theorem dX4_init_1 : decode cX4_init 1 = .ok (.invokespecial 3, 3) := by decide +kernel
theorem dX4_init_4 : decode cX4_init 4 = .ok (.aload_n 0, 1) := by decide +kernel
theorem dX4_init_5 : decode cX4_init 5 = .ok (.bipush 8, 2) := by decide +kernel
theorem dX4_init_7 : decode cX4_init 7 = .ok (.newarray .int, 2) := by decide +kernel
theorem dX4_init_9 : decode cX4_init 9 = .ok (.dup, 1) := by decide +kernel
theorem dX4_init_10 : decode cX4_init 10 = .ok (.iconst 0, 1) := by decide +kernel
theorem dX4_init_11 : decode cX4_init 11 = .ok (.iconst 1, 1) := by decide +kernel
theorem dX4_init_12 : decode cX4_init 12 = .ok (.iastore, 1) := by decide +kernel
theorem dX4_init_13 : decode cX4_init 13 = .ok (.dup, 1) := by decide +kernel
theorem dX4_init_14 : decode cX4_init 14 = .ok (.iconst 1, 1) := by decide +kernel
theorem dX4_init_15 : decode cX4_init 15 = .ok (.iconst 0, 1) := by decide +kernel
theorem dX4_init_16 : decode cX4_init 16 = .ok (.iastore, 1) := by decide +kernel
theorem dX4_init_17 : decode cX4_init 17 = .ok (.dup, 1) := by decide +kernel
theorem dX4_init_18 : decode cX4_init 18 = .ok (.iconst 2, 1) := by decide +kernel
theorem dX4_init_19 : decode cX4_init 19 = .ok (.iconst (-1), 1) := by decide +kernel
theorem dX4_init_20 : decode cX4_init 20 = .ok (.iastore, 1) := by decide +kernel
theorem dX4_init_21 : decode cX4_init 21 = .ok (.dup, 1) := by decide +kernel
theorem dX4_init_22 : decode cX4_init 22 = .ok (.iconst 3, 1) := by decide +kernel
theorem dX4_init_23 : decode cX4_init 23 = .ok (.iconst 0, 1) := by decide +kernel
theorem dX4_init_24 : decode cX4_init 24 = .ok (.iastore, 1) := by decide +kernel
theorem dX4_init_25 : decode cX4_init 25 = .ok (.dup, 1) := by decide +kernel
theorem dX4_init_26 : decode cX4_init 26 = .ok (.iconst 4, 1) := by decide +kernel
theorem dX4_init_27 : decode cX4_init 27 = .ok (.iconst 0, 1) := by decide +kernel
theorem dX4_init_28 : decode cX4_init 28 = .ok (.iastore, 1) := by decide +kernel
theorem dX4_init_29 : decode cX4_init 29 = .ok (.dup, 1) := by decide +kernel
theorem dX4_init_30 : decode cX4_init 30 = .ok (.iconst 5, 1) := by decide +kernel
theorem dX4_init_31 : decode cX4_init 31 = .ok (.iconst 0, 1) := by decide +kernel
theorem dX4_init_32 : decode cX4_init 32 = .ok (.iastore, 1) := by decide +kernel
theorem dX4_init_33 : decode cX4_init 33 = .ok (.dup, 1) := by decide +kernel
theorem dX4_init_34 : decode cX4_init 34 = .ok (.bipush 6, 2) := by decide +kernel
theorem dX4_init_36 : decode cX4_init 36 = .ok (.iconst 0, 1) := by decide +kernel
theorem dX4_init_37 : decode cX4_init 37 = .ok (.iastore, 1) := by decide +kernel
theorem dX4_init_38 : decode cX4_init 38 = .ok (.dup, 1) := by decide +kernel
theorem dX4_init_39 : decode cX4_init 39 = .ok (.bipush 7, 2) := by decide +kernel
theorem dX4_init_41 : decode cX4_init 41 = .ok (.iconst 0, 1) := by decide +kernel
theorem dX4_init_42 : decode cX4_init 42 = .ok (.iastore, 1) := by decide +kernel
theorem dX4_init_43 : decode cX4_init 43 = .ok (.putfield 9, 3) := by decide +kernel
theorem dX4_init_46 : decode cX4_init 46 = .ok (.aload_n 0, 1) := by decide +kernel
theorem dX4_init_47 : decode cX4_init 47 = .ok (.bipush 8, 2) := by decide +kernel
theorem dX4_init_49 : decode cX4_init 49 = .ok (.newarray .int, 2) := by decide +kernel
theorem dX4_init_51 : decode cX4_init 51 = .ok (.dup, 1) := by decide +kernel
theorem dX4_init_52 : decode cX4_init 52 = .ok (.iconst 0, 1) := by decide +kernel
theorem dX4_init_53 : decode cX4_init 53 = .ok (.iconst 0, 1) := by decide +kernel
theorem dX4_init_54 : decode cX4_init 54 = .ok (.iastore, 1) := by decide +kernel
theorem dX4_init_55 : decode cX4_init 55 = .ok (.dup, 1) := by decide +kernel
theorem dX4_init_56 : decode cX4_init 56 = .ok (.iconst 1, 1) := by decide +kernel
theorem dX4_init_57 : decode cX4_init 57 = .ok (.iconst 1, 1) := by decide +kernel
theorem dX4_init_58 : decode cX4_init 58 = .ok (.iastore, 1) := by decide +kernel
theorem dX4_init_59 : decode cX4_init 59 = .ok (.dup, 1) := by decide +kernel
theorem dX4_init_60 : decode cX4_init 60 = .ok (.iconst 2, 1) := by decide +kernel
theorem dX4_init_61 : decode cX4_init 61 = .ok (.iconst 0, 1) := by decide +kernel
theorem dX4_init_62 : decode cX4_init 62 = .ok (.iastore, 1) := by decide +kernel
theorem dX4_init_63 : decode cX4_init 63 = .ok (.dup, 1) := by decide +kernel
theorem dX4_init_64 : decode cX4_init 64 = .ok (.iconst 3, 1) := by decide +kernel
theorem dX4_init_65 : decode cX4_init 65 = .ok (.iconst (-1), 1) := by decide +kernel
theorem dX4_init_66 : decode cX4_init 66 = .ok (.iastore, 1) := by decide +kernel
theorem dX4_init_67 : decode cX4_init 67 = .ok (.dup, 1) := by decide +kernel
theorem dX4_init_68 : decode cX4_init 68 = .ok (.iconst 4, 1) := by decide +kernel
theorem dX4_init_69 : decode cX4_init 69 = .ok (.iconst 0, 1) := by decide +kernel
theorem dX4_init_70 : decode cX4_init 70 = .ok (.iastore, 1) := by decide +kernel
theorem dX4_init_71 : decode cX4_init 71 = .ok (.dup, 1) := by decide +kernel
theorem dX4_init_72 : decode cX4_init 72 = .ok (.iconst 5, 1) := by decide +kernel
theorem dX4_init_73 : decode cX4_init 73 = .ok (.iconst 0, 1) := by decide +kernel
theorem dX4_init_74 : decode cX4_init 74 = .ok (.iastore, 1) := by decide +kernel
theorem dX4_init_75 : decode cX4_init 75 = .ok (.dup, 1) := by decide +kernel
theorem dX4_init_76 : decode cX4_init 76 = .ok (.bipush 6, 2) := by decide +kernel
theorem dX4_init_78 : decode cX4_init 78 = .ok (.iconst 0, 1) := by decide +kernel
theorem dX4_init_79 : decode cX4_init 79 = .ok (.iastore, 1) := by decide +kernel
theorem dX4_init_80 : decode cX4_init 80 = .ok (.dup, 1) := by decide +kernel
theorem dX4_init_81 : decode cX4_init 81 = .ok (.bipush 7, 2) := by decide +kernel
theorem dX4_init_83 : decode cX4_init 83 = .ok (.iconst 0, 1) := by decide +kernel
theorem dX4_init_84 : decode cX4_init 84 = .ok (.iastore, 1) := by decide +kernel
theorem dX4_init_85 : decode cX4_init 85 = .ok (.putfield 15, 3) := by decide +kernel
theorem dX4_init_88 : decode cX4_init 88 = .ok (.aload_n 0, 1) := by decide +kernel
theorem dX4_init_89 : decode cX4_init 89 = .ok (.bipush 8, 2) := by decide +kernel
theorem dX4_init_91 : decode cX4_init 91 = .ok (.newarray .int, 2) := by decide +kernel
theorem dX4_init_93 : decode cX4_init 93 = .ok (.dup, 1) := by decide +kernel
theorem dX4_init_94 : decode cX4_init 94 = .ok (.iconst 0, 1) := by decide +kernel
theorem dX4_init_95 : decode cX4_init 95 = .ok (.iconst 1, 1) := by decide +kernel
theorem dX4_init_96 : decode cX4_init 96 = .ok (.iastore, 1) := by decide +kernel
theorem dX4_init_97 : decode cX4_init 97 = .ok (.dup, 1) := by decide +kernel
theorem dX4_init_98 : decode cX4_init 98 = .ok (.iconst 1, 1) := by decide +kernel
theorem dX4_init_99 : decode cX4_init 99 = .ok (.iconst 1, 1) := by decide +kernel
theorem dX4_init_100 : decode cX4_init 100 = .ok (.iastore, 1) := by decide +kernel
theorem dX4_init_101 : decode cX4_init 101 = .ok (.dup, 1) := by decide +kernel
theorem dX4_init_102 : decode cX4_init 102 = .ok (.iconst 2, 1) := by decide +kernel
theorem dX4_init_103 : decode cX4_init 103 = .ok (.iconst 1, 1) := by decide +kernel
theorem dX4_init_104 : decode cX4_init 104 = .ok (.iastore, 1) := by decide +kernel
theorem dX4_init_105 : decode cX4_init 105 = .ok (.dup, 1) := by decide +kernel
theorem dX4_init_106 : decode cX4_init 106 = .ok (.iconst 3, 1) := by decide +kernel
theorem dX4_init_107 : decode cX4_init 107 = .ok (.iconst 1, 1) := by decide +kernel
theorem dX4_init_108 : decode cX4_init 108 = .ok (.iastore, 1) := by decide +kernel
theorem dX4_init_109 : decode cX4_init 109 = .ok (.dup, 1) := by decide +kernel
theorem dX4_init_110 : decode cX4_init 110 = .ok (.iconst 4, 1) := by decide +kernel
theorem dX4_init_111 : decode cX4_init 111 = .ok (.iconst 1, 1) := by decide +kernel
theorem dX4_init_112 : decode cX4_init 112 = .ok (.iastore, 1) := by decide +kernel
theorem dX4_init_113 : decode cX4_init 113 = .ok (.dup, 1) := by decide +kernel
theorem dX4_init_114 : decode cX4_init 114 = .ok (.iconst 5, 1) := by decide +kernel
theorem dX4_init_115 : decode cX4_init 115 = .ok (.iconst 1, 1) := by decide +kernel
theorem dX4_init_116 : decode cX4_init 116 = .ok (.iastore, 1) := by decide +kernel
theorem dX4_init_117 : decode cX4_init 117 = .ok (.dup, 1) := by decide +kernel
theorem dX4_init_118 : decode cX4_init 118 = .ok (.bipush 6, 2) := by decide +kernel
theorem dX4_init_120 : decode cX4_init 120 = .ok (.iconst 1, 1) := by decide +kernel
theorem dX4_init_121 : decode cX4_init 121 = .ok (.iastore, 1) := by decide +kernel
theorem dX4_init_122 : decode cX4_init 122 = .ok (.dup, 1) := by decide +kernel
theorem dX4_init_123 : decode cX4_init 123 = .ok (.bipush 7, 2) := by decide +kernel
theorem dX4_init_125 : decode cX4_init 125 = .ok (.iconst 1, 1) := by decide +kernel
theorem dX4_init_126 : decode cX4_init 126 = .ok (.iastore, 1) := by decide +kernel
theorem dX4_init_127 : decode cX4_init 127 = .ok (.putfield 18, 3) := by decide +kernel
theorem dX4_init_130 : decode cX4_init 130 = .ok (.aload_n 0, 1) := by decide +kernel
theorem dX4_init_131 : decode cX4_init 131 = .ok (.bipush 8, 2) := by decide +kernel
theorem dX4_init_133 : decode cX4_init 133 = .ok (.newarray .int, 2) := by decide +kernel
theorem dX4_init_135 : decode cX4_init 135 = .ok (.dup, 1) := by decide +kernel
theorem dX4_init_136 : decode cX4_init 136 = .ok (.iconst 0, 1) := by decide +kernel
theorem dX4_init_137 : decode cX4_init 137 = .ok (.iconst 1, 1) := by decide +kernel
theorem dX4_init_138 : decode cX4_init 138 = .ok (.iastore, 1) := by decide +kernel
theorem dX4_init_139 : decode cX4_init 139 = .ok (.dup, 1) := by decide +kernel
theorem dX4_init_140 : decode cX4_init 140 = .ok (.iconst 1, 1) := by decide +kernel
theorem dX4_init_141 : decode cX4_init 141 = .ok (.bipush 67, 2) := by decide +kernel
theorem dX4_init_143 : decode cX4_init 143 = .ok (.iastore, 1) := by decide +kernel
theorem dX4_init_144 : decode cX4_init 144 = .ok (.dup, 1) := by decide +kernel
theorem dX4_init_145 : decode cX4_init 145 = .ok (.iconst 2, 1) := by decide +kernel
theorem dX4_init_146 : decode cX4_init 146 = .ok (.iconst (-1), 1) := by decide +kernel
theorem dX4_init_147 : decode cX4_init 147 = .ok (.iastore, 1) := by decide +kernel
theorem dX4_init_148 : decode cX4_init 148 = .ok (.dup, 1) := by decide +kernel
theorem dX4_init_149 : decode cX4_init 149 = .ok (.iconst 3, 1) := by decide +kernel
theorem dX4_init_150 : decode cX4_init 150 = .ok (.bipush (-67), 2) := by decide +kernel
theorem dX4_init_152 : decode cX4_init 152 = .ok (.iastore, 1) := by decide +kernel
theorem dX4_init_153 : decode cX4_init 153 = .ok (.dup, 1) := by decide +kernel
theorem dX4_init_154 : decode cX4_init 154 = .ok (.iconst 4, 1) := by decide +kernel
theorem dX4_init_155 : decode cX4_init 155 = .ok (.iconst 0, 1) := by decide +kernel
theorem dX4_init_156 : decode cX4_init 156 = .ok (.iastore, 1) := by decide +kernel
theorem dX4_init_157 : decode cX4_init 157 = .ok (.dup, 1) := by decide +kernel
theorem dX4_init_158 : decode cX4_init 158 = .ok (.iconst 5, 1) := by decide +kernel
theorem dX4_init_159 : decode cX4_init 159 = .ok (.iconst 0, 1) := by decide +kernel
theorem dX4_init_160 : decode cX4_init 160 = .ok (.iastore, 1) := by decide +kernel
theorem dX4_init_161 : decode cX4_init 161 = .ok (.dup, 1) := by decide +kernel
theorem dX4_init_162 : decode cX4_init 162 = .ok (.bipush 6, 2) := by decide +kernel
theorem dX4_init_164 : decode cX4_init 164 = .ok (.iconst 0, 1) := by decide +kernel
theorem dX4_init_165 : decode cX4_init 165 = .ok (.iastore, 1) := by decide +kernel
theorem dX4_init_166 : decode cX4_init 166 = .ok (.dup, 1) := by decide +kernel
theorem dX4_init_167 : decode cX4_init 167 = .ok (.bipush 7, 2) := by decide +kernel
theorem dX4_init_169 : decode cX4_init 169 = .ok (.iconst 0, 1) := by decide +kernel
theorem dX4_init_170 : decode cX4_init 170 = .ok (.iastore, 1) := by decide +kernel
theorem dX4_init_171 : decode cX4_init 171 = .ok (.putfield 21, 3) := by decide +kernel
theorem dX4_init_174 : decode cX4_init 174 = .ok (.aload_n 0, 1) := by decide +kernel
theorem dX4_init_175 : decode cX4_init 175 = .ok (.iconst 4, 1) := by decide +kernel
theorem dX4_init_176 : decode cX4_init 176 = .ok (.putfield 24, 3) := by decide +kernel
theorem dX4_init_179 : decode cX4_init 179 = .ok (.aload_n 0, 1) := by decide +kernel
theorem dX4_init_180 : decode cX4_init 180 = .ok (.iconst 5, 1) := by decide +kernel
theorem dX4_init_181 : decode cX4_init 181 = .ok (.putfield 28, 3) := by decide +kernel
theorem dX4_init_184 : decode cX4_init 184 = .ok (.aload_n 0, 1) := by decide +kernel
theorem dX4_init_185 : decode cX4_init 185 = .ok (.bipush 6, 2) := by decide +kernel
theorem dX4_init_187 : decode cX4_init 187 = .ok (.putfield 31, 3) := by decide +kernel
theorem dX4_init_190 : decode cX4_init 190 = .ok (.aload_n 0, 1) := by decide +kernel
theorem dX4_init_191 : decode cX4_init 191 = .ok (.sipush 4489, 3) := by decide +kernel
theorem dX4_init_194 : decode cX4_init 194 = .ok (.newarray .byte, 2) := by decide +kernel
theorem dX4_init_196 : decode cX4_init 196 = .ok (.putfield 34, 3) := by decide +kernel
theorem dX4_init_199 : decode cX4_init 199 = .ok (.aload_n 0, 1) := by decide +kernel
theorem dX4_init_200 : decode cX4_init 200 = .ok (.sipush 4489, 3) := by decide +kernel
theorem dX4_init_203 : decode cX4_init 203 = .ok (.newarray .byte, 2) := by decide +kernel
theorem dX4_init_205 : decode cX4_init 205 = .ok (.putfield 38, 3) := by decide +kernel
theorem dX4_init_208 : decode cX4_init 208 = .ok (.aload_n 0, 1) := by decide +kernel
theorem dX4_init_209 : decode cX4_init 209 = .ok (.invokevirtual 41, 3) := by decide +kernel
theorem dX4_init_212 : decode cX4_init 212 = .ok (.return_, 1) := by decide +kernel
theorem dX4_isSquare_0 : decode cX4_isSquare 0 = .ok (.iload_n 0, 1) := by decide +kernel
theorem dX4_isSquare_1 : decode cX4_isSquare 1 = .ok (.bipush (-30), 2) := by decide +kernel
theorem dX4_isSquare_3 : decode cX4_isSquare 3 = .ok (.if_icmp .lt 25, 3) := by decide +kernel
theorem dX4_isSquare_6 : decode cX4_isSquare 6 = .ok (.iload_n 0, 1) := by decide +kernel
theorem dX4_isSquare_7 : decode cX4_isSquare 7 = .ok (.bipush 30, 2) := by decide +kernel
theorem dX4_isSquare_9 : decode cX4_isSquare 9 = .ok (.if_icmp .gt 19, 3) := by decide +kernel
theorem dX4_isSquare_12 : decode cX4_isSquare 12 = .ok (.iload_n 1, 1) := by decide +kernel
theorem dX4_isSquare_13 : decode cX4_isSquare 13 = .ok (.bipush (-30), 2) := by decide +kernel
theorem dX4_isSquare_15 : decode cX4_isSquare 15 = .ok (.if_icmp .lt 13, 3) := by decide +kernel
theorem dX4_isSquare_18 : decode cX4_isSquare 18 = .ok (.iload_n 1, 1) := by decide +kernel
theorem dX4_isSquare_19 : decode cX4_isSquare 19 = .ok (.bipush 30, 2) := by decide +kernel
theorem dX4_isSquare_21 : decode cX4_isSquare 21 = .ok (.if_icmp .gt 7, 3) := by decide +kernel
theorem dX4_isSquare_24 : decode cX4_isSquare 24 = .ok (.iconst 1, 1) := by decide +kernel
theorem dX4_isSquare_25 : decode cX4_isSquare 25 = .ok (.goto 4, 3) := by decide +kernel
theorem dX4_isSquare_28 : decode cX4_isSquare 28 = .ok (.iconst 0, 1) := by decide +kernel
theorem dX4_isSquare_29 : decode cX4_isSquare 29 = .ok (.ireturn, 1) := by decide +kernel
theorem dX4_cellOf_0 : decode cX4_cellOf 0 = .ok (.iload_n 1, 1) := by decide +kernel
theorem dX4_cellOf_1 : decode cX4_cellOf 1 = .ok (.bipush 33, 2) := by decide +kernel
theorem dX4_cellOf_3 : decode cX4_cellOf 3 = .ok (.iadd, 1) := by decide +kernel
theorem dX4_cellOf_4 : decode cX4_cellOf 4 = .ok (.bipush 67, 2) := by decide +kernel
theorem dX4_cellOf_6 : decode cX4_cellOf 6 = .ok (.imul, 1) := by decide +kernel
theorem dX4_cellOf_7 : decode cX4_cellOf 7 = .ok (.iload_n 0, 1) := by decide +kernel
theorem dX4_cellOf_8 : decode cX4_cellOf 8 = .ok (.iadd, 1) := by decide +kernel
theorem dX4_cellOf_9 : decode cX4_cellOf 9 = .ok (.bipush 33, 2) := by decide +kernel
theorem dX4_cellOf_11 : decode cX4_cellOf 11 = .ok (.iadd, 1) := by decide +kernel
theorem dX4_cellOf_12 : decode cX4_cellOf 12 = .ok (.ireturn, 1) := by decide +kernel
set_option maxRecDepth 20000 in
theorem ggX4_cellA_X4_cellOf : GoodIn wsX4_cellA wsX4_cellOf := goodIn_r _ [6] (by decide +kernel) (by decide +kernel)
set_option maxRecDepth 20000 in
theorem gX4_cellA_X4_cellOf : GoodIn wsX4_cellA (va_wsS RX4 50 yX4_cellOf wsX4_cellOf) := goodIn_app (goodIn_of _ (by decide +kernel)) ggX4_cellA_X4_cellOf
theorem dX4_cellA_0 : decode cX4_cellA 0 = .ok (.aload_n 0, 1) := by decide +kernel
theorem dX4_cellA_1 : decode cX4_cellA 1 = .ok (.getfield 44, 3) := by decide +kernel
theorem dX4_cellA_4 : decode cX4_cellA 4 = .ok (.aload_n 0, 1) := by decide +kernel
theorem dX4_cellA_5 : decode cX4_cellA 5 = .ok (.getfield 47, 3) := by decide +kernel
theorem dX4_cellA_8 : decode cX4_cellA 8 = .ok (.invokestatic 50, 3) := by decide +kernel
theorem dX4_cellA_11 : decode cX4_cellA 11 = .ok (.ireturn, 1) := by decide +kernel
set_option maxRecDepth 20000 in
theorem ggX4_cellB_X4_cellOf : GoodIn wsX4_cellB wsX4_cellOf := goodIn_r _ [6] (by decide +kernel) (by decide +kernel)
set_option maxRecDepth 20000 in
theorem gX4_cellB_X4_cellOf : GoodIn wsX4_cellB (va_wsS RX4 50 yX4_cellOf wsX4_cellOf) := goodIn_app (goodIn_of _ (by decide +kernel)) ggX4_cellB_X4_cellOf
theorem dX4_cellB_0 : decode cX4_cellB 0 = .ok (.aload_n 0, 1) := by decide +kernel
theorem dX4_cellB_1 : decode cX4_cellB 1 = .ok (.getfield 54, 3) := by decide +kernel
theorem dX4_cellB_4 : decode cX4_cellB 4 = .ok (.aload_n 0, 1) := by decide +kernel
theorem dX4_cellB_5 : decode cX4_cellB 5 = .ok (.getfield 57, 3) := by decide +kernel
theorem dX4_cellB_8 : decode cX4_cellB 8 = .ok (.invokestatic 50, 3) := by decide +kernel
theorem dX4_cellB_11 : decode cX4_cellB 11 = .ok (.ireturn, 1) := by decide +kernel
theorem dX4_hasStep_0 : decode cX4_hasStep 0 = .ok (.iload_n 1, 1) := by decide +kernel
theorem dX4_hasStep_1 : decode cX4_hasStep 1 = .ok (.ifCond .lt 21, 3) := by decide +kernel
theorem dX4_hasStep_4 : decode cX4_hasStep 4 = .ok (.iload_n 1, 1) := by decide +kernel
theorem dX4_hasStep_5 : decode cX4_hasStep 5 = .ok (.aload_n 0, 1) := by decide +kernel
theorem dX4_hasStep_6 : decode cX4_hasStep 6 = .ok (.getfield 24, 3) := by decide +kernel
theorem dX4_hasStep_9 : decode cX4_hasStep 9 = .ok (.if_icmp .ge 13, 3) := by decide +kernel
theorem dX4_hasStep_12 : decode cX4_hasStep 12 = .ok (.iload_n 1, 1) := by decide +kernel
theorem dX4_hasStep_13 : decode cX4_hasStep 13 = .ok (.bipush 8, 2) := by decide +kernel
theorem dX4_hasStep_15 : decode cX4_hasStep 15 = .ok (.if_icmp .ge 7, 3) := by decide +kernel
theorem dX4_hasStep_18 : decode cX4_hasStep 18 = .ok (.iconst 1, 1) := by decide +kernel
theorem dX4_hasStep_19 : decode cX4_hasStep 19 = .ok (.goto 4, 3) := by decide +kernel
theorem dX4_hasStep_22 : decode cX4_hasStep 22 = .ok (.iconst 0, 1) := by decide +kernel
theorem dX4_hasStep_23 : decode cX4_hasStep 23 = .ok (.ireturn, 1) := by decide +kernel
theorem dX4_setStep_0 : decode cX4_setStep 0 = .ok (.iload_n 1, 1) := by decide +kernel
theorem dX4_setStep_1 : decode cX4_setStep 1 = .ok (.ifCond .lt 42, 3) := by decide +kernel
theorem dX4_setStep_4 : decode cX4_setStep 4 = .ok (.iload_n 1, 1) := by decide +kernel
theorem dX4_setStep_5 : decode cX4_setStep 5 = .ok (.bipush 8, 2) := by decide +kernel
theorem dX4_setStep_7 : decode cX4_setStep 7 = .ok (.if_icmp .ge 36, 3) := by decide +kernel
theorem dX4_setStep_10 : decode cX4_setStep 10 = .ok (.aload_n 0, 1) := by decide +kernel
theorem dX4_setStep_11 : decode cX4_setStep 11 = .ok (.getfield 9, 3) := by decide +kernel
theorem dX4_setStep_14 : decode cX4_setStep 14 = .ok (.iload_n 1, 1) := by decide +kernel
theorem dX4_setStep_15 : decode cX4_setStep 15 = .ok (.iload_n 2, 1) := by decide +kernel
theorem dX4_setStep_16 : decode cX4_setStep 16 = .ok (.iastore, 1) := by decide +kernel
theorem dX4_setStep_17 : decode cX4_setStep 17 = .ok (.aload_n 0, 1) := by decide +kernel
theorem dX4_setStep_18 : decode cX4_setStep 18 = .ok (.getfield 15, 3) := by decide +kernel
theorem dX4_setStep_21 : decode cX4_setStep 21 = .ok (.iload_n 1, 1) := by decide +kernel
theorem dX4_setStep_22 : decode cX4_setStep 22 = .ok (.iload_n 3, 1) := by decide +kernel
theorem dX4_setStep_23 : decode cX4_setStep 23 = .ok (.iastore, 1) := by decide +kernel
theorem dX4_setStep_24 : decode cX4_setStep 24 = .ok (.aload_n 0, 1) := by decide +kernel
theorem dX4_setStep_25 : decode cX4_setStep 25 = .ok (.getfield 21, 3) := by decide +kernel
theorem dX4_setStep_28 : decode cX4_setStep 28 = .ok (.iload_n 1, 1) := by decide +kernel
theorem dX4_setStep_29 : decode cX4_setStep 29 = .ok (.iload_n 3, 1) := by decide +kernel
theorem dX4_setStep_30 : decode cX4_setStep 30 = .ok (.bipush 67, 2) := by decide +kernel
theorem dX4_setStep_32 : decode cX4_setStep 32 = .ok (.imul, 1) := by decide +kernel
theorem dX4_setStep_33 : decode cX4_setStep 33 = .ok (.iload_n 2, 1) := by decide +kernel
theorem dX4_setStep_34 : decode cX4_setStep 34 = .ok (.iadd, 1) := by decide +kernel
theorem dX4_setStep_35 : decode cX4_setStep 35 = .ok (.iastore, 1) := by decide +kernel
theorem dX4_setStep_36 : decode cX4_setStep 36 = .ok (.aload_n 0, 1) := by decide +kernel
theorem dX4_setStep_37 : decode cX4_setStep 37 = .ok (.getfield 18, 3) := by decide +kernel
theorem dX4_setStep_40 : decode cX4_setStep 40 = .ok (.iload_n 1, 1) := by decide +kernel
theorem dX4_setStep_41 : decode cX4_setStep 41 = .ok (.iconst 1, 1) := by decide +kernel
theorem dX4_setStep_42 : decode cX4_setStep 42 = .ok (.iastore, 1) := by decide +kernel
theorem dX4_setStep_43 : decode cX4_setStep 43 = .ok (.return_, 1) := by decide +kernel
theorem dX4_setStepCount_0 : decode cX4_setStepCount 0 = .ok (.aload_n 0, 1) := by decide +kernel
theorem dX4_setStepCount_1 : decode cX4_setStepCount 1 = .ok (.iload_n 1, 1) := by decide +kernel
theorem dX4_setStepCount_2 : decode cX4_setStepCount 2 = .ok (.bipush 8, 2) := by decide +kernel
theorem dX4_setStepCount_4 : decode cX4_setStepCount 4 = .ok (.invokestatic 60, 3) := by decide +kernel
theorem dX4_setStepCount_7 : decode cX4_setStepCount 7 = .ok (.putfield 24, 3) := by decide +kernel
theorem dX4_setStepCount_10 : decode cX4_setStepCount 10 = .ok (.return_, 1) := by decide +kernel
set_option maxRecDepth 20000 in
theorem ggX4_setKind_X4_renew : GoodIn wsX4_setKind wsX4_renew := goodIn_r _ [8, 9, 10, 11, 7, 12, 13, 14, 15, 16, 17, 18, 19, 20, 21, 1, 2, 3, 22, 23, 24, 25, 26, 27, 28, 29, 30, 31, 32, 33, 34, 35, 36] (by decide +kernel) (by decide +kernel)
set_option maxRecDepth 20000 in
theorem gX4_setKind_X4_renew : GoodIn wsX4_setKind (wsV RX4 41 RX4 yX4_renew wsX4_renew) := goodIn_app (goodIn_of _ (by decide +kernel)) ggX4_setKind_X4_renew
theorem dX4_setKind_0 : decode cX4_setKind 0 = .ok (.aload_n 0, 1) := by decide +kernel
theorem dX4_setKind_1 : decode cX4_setKind 1 = .ok (.iload_n 1, 1) := by decide +kernel
theorem dX4_setKind_2 : decode cX4_setKind 2 = .ok (.putfield 65, 3) := by decide +kernel
theorem dX4_setKind_5 : decode cX4_setKind 5 = .ok (.aload_n 0, 1) := by decide +kernel
theorem dX4_setKind_6 : decode cX4_setKind 6 = .ok (.getfield 65, 3) := by decide +kernel
theorem dX4_setKind_9 : decode cX4_setKind 9 = .ok (.iconst 2, 1) := by decide +kernel
theorem dX4_setKind_10 : decode cX4_setKind 10 = .ok (.if_icmp .ne 11, 3) := by decide +kernel
theorem dX4_setKind_13 : decode cX4_setKind 13 = .ok (.aload_n 0, 1) := by decide +kernel
theorem dX4_setKind_14 : decode cX4_setKind 14 = .ok (.iload_n 2, 1) := by decide +kernel
theorem dX4_setKind_15 : decode cX4_setKind 15 = .ok (.putfield 28, 3) := by decide +kernel
theorem dX4_setKind_18 : decode cX4_setKind 18 = .ok (.goto 16, 3) := by decide +kernel
theorem dX4_setKind_21 : decode cX4_setKind 21 = .ok (.aload_n 0, 1) := by decide +kernel
theorem dX4_setKind_22 : decode cX4_setKind 22 = .ok (.getfield 65, 3) := by decide +kernel
theorem dX4_setKind_25 : decode cX4_setKind 25 = .ok (.iconst 4, 1) := by decide +kernel
theorem dX4_setKind_26 : decode cX4_setKind 26 = .ok (.if_icmp .ne 8, 3) := by decide +kernel
theorem dX4_setKind_29 : decode cX4_setKind 29 = .ok (.aload_n 0, 1) := by decide +kernel
theorem dX4_setKind_30 : decode cX4_setKind 30 = .ok (.iload_n 2, 1) := by decide +kernel
theorem dX4_setKind_31 : decode cX4_setKind 31 = .ok (.putfield 31, 3) := by decide +kernel
theorem dX4_setKind_34 : decode cX4_setKind 34 = .ok (.aload_n 0, 1) := by decide +kernel
theorem dX4_setKind_35 : decode cX4_setKind 35 = .ok (.invokevirtual 41, 3) := by decide +kernel
theorem dX4_setKind_38 : decode cX4_setKind 38 = .ok (.return_, 1) := by decide +kernel
theorem dX4_inKind_0 : decode cX4_inKind 0 = .ok (.aload_n 0, 1) := by decide +kernel
theorem dX4_inKind_1 : decode cX4_inKind 1 = .ok (.getfield 65, 3) := by decide +kernel
theorem dX4_inKind_4 : decode cX4_inKind 4 = .ok (.tableswitch 92 1 4 #[32, 42, 60, 74], 32) := by decide +kernel
theorem dX4_inKind_36 : decode cX4_inKind 36 = .ok (.iload_n 2, 1) := by decide +kernel
theorem dX4_inKind_37 : decode cX4_inKind 37 = .ok (.ifCond .lt 7, 3) := by decide +kernel
theorem dX4_inKind_40 : decode cX4_inKind 40 = .ok (.iconst 1, 1) := by decide +kernel
theorem dX4_inKind_41 : decode cX4_inKind 41 = .ok (.goto 4, 3) := by decide +kernel
theorem dX4_inKind_44 : decode cX4_inKind 44 = .ok (.iconst 0, 1) := by decide +kernel
theorem dX4_inKind_45 : decode cX4_inKind 45 = .ok (.ireturn, 1) := by decide +kernel
theorem dX4_inKind_46 : decode cX4_inKind 46 = .ok (.iload_n 2, 1) := by decide +kernel
theorem dX4_inKind_47 : decode cX4_inKind 47 = .ok (.ifCond .lt 15, 3) := by decide +kernel
theorem dX4_inKind_50 : decode cX4_inKind 50 = .ok (.iload_n 2, 1) := by decide +kernel
theorem dX4_inKind_51 : decode cX4_inKind 51 = .ok (.aload_n 0, 1) := by decide +kernel
theorem dX4_inKind_52 : decode cX4_inKind 52 = .ok (.getfield 28, 3) := by decide +kernel
theorem dX4_inKind_55 : decode cX4_inKind 55 = .ok (.if_icmp .gt 7, 3) := by decide +kernel
theorem dX4_inKind_58 : decode cX4_inKind 58 = .ok (.iconst 1, 1) := by decide +kernel
theorem dX4_inKind_59 : decode cX4_inKind 59 = .ok (.goto 4, 3) := by decide +kernel
theorem dX4_inKind_62 : decode cX4_inKind 62 = .ok (.iconst 0, 1) := by decide +kernel
theorem dX4_inKind_63 : decode cX4_inKind 63 = .ok (.ireturn, 1) := by decide +kernel
theorem dX4_inKind_64 : decode cX4_inKind 64 = .ok (.iload_n 1, 1) := by decide +kernel
theorem dX4_inKind_65 : decode cX4_inKind 65 = .ok (.ifCond .lt 11, 3) := by decide +kernel
theorem dX4_inKind_68 : decode cX4_inKind 68 = .ok (.iload_n 2, 1) := by decide +kernel
theorem dX4_inKind_69 : decode cX4_inKind 69 = .ok (.ifCond .lt 7, 3) := by decide +kernel
theorem dX4_inKind_72 : decode cX4_inKind 72 = .ok (.iconst 1, 1) := by decide +kernel
theorem dX4_inKind_73 : decode cX4_inKind 73 = .ok (.goto 4, 3) := by decide +kernel
theorem dX4_inKind_76 : decode cX4_inKind 76 = .ok (.iconst 0, 1) := by decide +kernel
theorem dX4_inKind_77 : decode cX4_inKind 77 = .ok (.ireturn, 1) := by decide +kernel
theorem dX4_inKind_78 : decode cX4_inKind 78 = .ok (.iload_n 1, 1) := by decide +kernel
theorem dX4_inKind_79 : decode cX4_inKind 79 = .ok (.ifCond .lt 15, 3) := by decide +kernel
theorem dX4_inKind_82 : decode cX4_inKind 82 = .ok (.iload_n 1, 1) := by decide +kernel
theorem dX4_inKind_83 : decode cX4_inKind 83 = .ok (.aload_n 0, 1) := by decide +kernel
theorem dX4_inKind_84 : decode cX4_inKind 84 = .ok (.getfield 31, 3) := by decide +kernel
theorem dX4_inKind_87 : decode cX4_inKind 87 = .ok (.if_icmp .ge 7, 3) := by decide +kernel
theorem dX4_inKind_90 : decode cX4_inKind 90 = .ok (.iconst 1, 1) := by decide +kernel
theorem dX4_inKind_91 : decode cX4_inKind 91 = .ok (.goto 4, 3) := by decide +kernel
theorem dX4_inKind_94 : decode cX4_inKind 94 = .ok (.iconst 0, 1) := by decide +kernel
theorem dX4_inKind_95 : decode cX4_inKind 95 = .ok (.ireturn, 1) := by decide +kernel
theorem dX4_inKind_96 : decode cX4_inKind 96 = .ok (.iconst 1, 1) := by decide +kernel
theorem dX4_inKind_97 : decode cX4_inKind 97 = .ok (.ireturn, 1) := by decide +kernel
set_option maxRecDepth 20000 in
theorem ggX4_renew_X4_renewSquare : GoodIn wsX4_renew wsX4_renewSquare := goodIn_r _ [5, 6, 7, 8, 9, 4, 10, 11, 12, 13, 14, 15, 16, 17, 18, 19, 20, 21, 22, 23, 24, 25, 26, 27, 28, 29, 30, 31, 32] (by decide +kernel) (by decide +kernel)
set_option maxRecDepth 20000 in
theorem gX4_renew_X4_renewSquare : GoodIn wsX4_renew (wsV RX4 68 RX4 yX4_renewSquare wsX4_renewSquare) := goodIn_app (goodIn_of _ (by decide +kernel)) ggX4_renew_X4_renewSquare
theorem dX4_renew_0 : decode cX4_renew 0 = .ok (.bipush (-30), 2) := by decide +kernel
theorem dX4_renew_2 : decode cX4_renew 2 = .ok (.istore_n 1, 1) := by decide +kernel
theorem dX4_renew_3 : decode cX4_renew 3 = .ok (.iload_n 1, 1) := by decide +kernel
theorem dX4_renew_4 : decode cX4_renew 4 = .ok (.bipush 30, 2) := by decide +kernel
theorem dX4_renew_6 : decode cX4_renew 6 = .ok (.if_icmp .gt 30, 3) := by decide +kernel
theorem dX4_renew_9 : decode cX4_renew 9 = .ok (.bipush (-30), 2) := by decide +kernel
theorem dX4_renew_11 : decode cX4_renew 11 = .ok (.istore_n 2, 1) := by decide +kernel
theorem dX4_renew_12 : decode cX4_renew 12 = .ok (.iload_n 2, 1) := by decide +kernel
theorem dX4_renew_13 : decode cX4_renew 13 = .ok (.bipush 30, 2) := by decide +kernel
theorem dX4_renew_15 : decode cX4_renew 15 = .ok (.if_icmp .gt 15, 3) := by decide +kernel
theorem dX4_renew_18 : decode cX4_renew 18 = .ok (.aload_n 0, 1) := by decide +kernel
theorem dX4_renew_19 : decode cX4_renew 19 = .ok (.iload_n 2, 1) := by decide +kernel
theorem dX4_renew_20 : decode cX4_renew 20 = .ok (.iload_n 1, 1) := by decide +kernel
theorem dX4_renew_21 : decode cX4_renew 21 = .ok (.invokevirtual 68, 3) := by decide +kernel
theorem dX4_renew_24 : decode cX4_renew 24 = .ok (.iinc 2 1, 3) := by decide +kernel
theorem dX4_renew_27 : decode cX4_renew 27 = .ok (.goto (-15), 3) := by decide +kernel
theorem dX4_renew_30 : decode cX4_renew 30 = .ok (.iinc 1 1, 3) := by decide +kernel
theorem dX4_renew_33 : decode cX4_renew 33 = .ok (.goto (-30), 3) := by decide +kernel
theorem dX4_renew_36 : decode cX4_renew 36 = .ok (.return_, 1) := by decide +kernel
set_option maxRecDepth 20000 in
theorem ggX4_renewSquare_X4_cellOf : GoodIn wsX4_renewSquare wsX4_cellOf := goodIn_r _ [6] (by decide +kernel) (by decide +kernel)
set_option maxRecDepth 20000 in
theorem gX4_renewSquare_X4_cellOf : GoodIn wsX4_renewSquare (va_wsS RX4 50 yX4_cellOf wsX4_cellOf) := goodIn_app (goodIn_of _ (by decide +kernel)) ggX4_renewSquare_X4_cellOf
set_option maxRecDepth 20000 in
theorem ggX4_renewSquare_X4_inKind : GoodIn wsX4_renewSquare wsX4_inKind := goodIn_r _ [10, 11, 12, 13, 14, 15, 16, 17, 18, 19, 20, 21, 22, 23, 24, 25, 26, 27, 28] (by decide +kernel) (by decide +kernel)
set_option maxRecDepth 20000 in
theorem gX4_renewSquare_X4_inKind : GoodIn wsX4_renewSquare (wsV RX4 72 RX4 yX4_inKind wsX4_inKind) := goodIn_app (goodIn_of _ (by decide +kernel)) ggX4_renewSquare_X4_inKind
theorem dX4_renewSquare_0 : decode cX4_renewSquare 0 = .ok (.iload_n 1, 1) := by decide +kernel
theorem dX4_renewSquare_1 : decode cX4_renewSquare 1 = .ok (.iload_n 2, 1) := by decide +kernel
theorem dX4_renewSquare_2 : decode cX4_renewSquare 2 = .ok (.invokestatic 50, 3) := by decide +kernel
theorem dX4_renewSquare_5 : decode cX4_renewSquare 5 = .ok (.istore_n 3, 1) := by decide +kernel
theorem dX4_renewSquare_6 : decode cX4_renewSquare 6 = .ok (.aload_n 0, 1) := by decide +kernel
theorem dX4_renewSquare_7 : decode cX4_renewSquare 7 = .ok (.getfield 38, 3) := by decide +kernel
theorem dX4_renewSquare_10 : decode cX4_renewSquare 10 = .ok (.iload_n 3, 1) := by decide +kernel
theorem dX4_renewSquare_11 : decode cX4_renewSquare 11 = .ok (.aload_n 0, 1) := by decide +kernel
theorem dX4_renewSquare_12 : decode cX4_renewSquare 12 = .ok (.iload_n 1, 1) := by decide +kernel
theorem dX4_renewSquare_13 : decode cX4_renewSquare 13 = .ok (.iload_n 2, 1) := by decide +kernel
theorem dX4_renewSquare_14 : decode cX4_renewSquare 14 = .ok (.invokevirtual 72, 3) := by decide +kernel
theorem dX4_renewSquare_17 : decode cX4_renewSquare 17 = .ok (.ifCond .eq 16, 3) := by decide +kernel
theorem dX4_renewSquare_20 : decode cX4_renewSquare 20 = .ok (.aload_n 0, 1) := by decide +kernel
theorem dX4_renewSquare_21 : decode cX4_renewSquare 21 = .ok (.getfield 34, 3) := by decide +kernel
theorem dX4_renewSquare_24 : decode cX4_renewSquare 24 = .ok (.iload_n 3, 1) := by decide +kernel
theorem dX4_renewSquare_25 : decode cX4_renewSquare 25 = .ok (.baload, 1) := by decide +kernel
theorem dX4_renewSquare_26 : decode cX4_renewSquare 26 = .ok (.ifCond .ne 7, 3) := by decide +kernel
theorem dX4_renewSquare_29 : decode cX4_renewSquare 29 = .ok (.iconst 1, 1) := by decide +kernel
theorem dX4_renewSquare_30 : decode cX4_renewSquare 30 = .ok (.goto 4, 3) := by decide +kernel
theorem dX4_renewSquare_33 : decode cX4_renewSquare 33 = .ok (.iconst 0, 1) := by decide +kernel
theorem dX4_renewSquare_34 : decode cX4_renewSquare 34 = .ok (.i2b, 1) := by decide +kernel
theorem dX4_renewSquare_35 : decode cX4_renewSquare 35 = .ok (.bastore, 1) := by decide +kernel
theorem dX4_renewSquare_36 : decode cX4_renewSquare 36 = .ok (.return_, 1) := by decide +kernel
set_option maxRecDepth 20000 in
theorem ggX4_setBarred_X4_isSquare : GoodIn wsX4_setBarred wsX4_isSquare := goodIn_r _ [6] (by decide +kernel) (by decide +kernel)
set_option maxRecDepth 20000 in
theorem gX4_setBarred_X4_isSquare : GoodIn wsX4_setBarred (va_wsS RX4 76 yX4_isSquare wsX4_isSquare) := goodIn_app (goodIn_of _ (by decide +kernel)) ggX4_setBarred_X4_isSquare
set_option maxRecDepth 20000 in
theorem ggX4_setBarred_X4_isBarred : GoodIn wsX4_setBarred wsX4_isBarred := goodIn_r _ [10, 1, 3, 4, 5, 6, 11, 12, 13, 26, 27, 28, 29, 30, 31, 32, 33, 34, 35, 36, 37, 38, 39, 40] (by decide +kernel) (by decide +kernel)
set_option maxRecDepth 20000 in
theorem gX4_setBarred_X4_isBarred : GoodIn wsX4_setBarred (wsV RX4 79 RX4 yX4_isBarred wsX4_isBarred) := goodIn_app (goodIn_of _ (by decide +kernel)) ggX4_setBarred_X4_isBarred
set_option maxRecDepth 20000 in
theorem ggX4_setBarred_X4_cellOf : GoodIn wsX4_setBarred wsX4_cellOf := goodIn_r _ [13] (by decide +kernel) (by decide +kernel)
set_option maxRecDepth 20000 in
theorem gX4_setBarred_X4_cellOf : GoodIn wsX4_setBarred (va_wsS RX4 50 yX4_cellOf wsX4_cellOf) := goodIn_app (goodIn_of _ (by decide +kernel)) ggX4_setBarred_X4_cellOf
set_option maxRecDepth 20000 in
theorem ggX4_setBarred_X4_renewSquare : GoodIn wsX4_setBarred wsX4_renewSquare := goodIn_r _ [17, 18, 1, 11, 12, 5, 13, 19, 20, 21, 22, 23, 24, 25, 26, 27, 28, 29, 30, 31, 32, 33, 34, 35, 36, 37, 38, 39, 40] (by decide +kernel) (by decide +kernel)
set_option maxRecDepth 20000 in
theorem gX4_setBarred_X4_renewSquare : GoodIn wsX4_setBarred (wsV RX4 68 RX4 yX4_renewSquare wsX4_renewSquare) := goodIn_app (goodIn_of _ (by decide +kernel)) ggX4_setBarred_X4_renewSquare
theorem dX4_setBarred_0 : decode cX4_setBarred 0 = .ok (.iload_n 1, 1) := by decide +kernel
theorem dX4_setBarred_1 : decode cX4_setBarred 1 = .ok (.iload_n 2, 1) := by decide +kernel
theorem dX4_setBarred_2 : decode cX4_setBarred 2 = .ok (.invokestatic 76, 3) := by decide +kernel
theorem dX4_setBarred_5 : decode cX4_setBarred 5 = .ok (.ifCond .eq 13, 3) := by decide +kernel
theorem dX4_setBarred_8 : decode cX4_setBarred 8 = .ok (.aload_n 0, 1) := by decide +kernel
theorem dX4_setBarred_9 : decode cX4_setBarred 9 = .ok (.iload_n 1, 1) := by decide +kernel
theorem dX4_setBarred_10 : decode cX4_setBarred 10 = .ok (.iload_n 2, 1) := by decide +kernel
theorem dX4_setBarred_11 : decode cX4_setBarred 11 = .ok (.invokevirtual 79, 3) := by decide +kernel
theorem dX4_setBarred_14 : decode cX4_setBarred 14 = .ok (.iload_n 3, 1) := by decide +kernel
theorem dX4_setBarred_15 : decode cX4_setBarred 15 = .ok (.if_icmp .ne 4, 3) := by decide +kernel
theorem dX4_setBarred_18 : decode cX4_setBarred 18 = .ok (.return_, 1) := by decide +kernel
theorem dX4_setBarred_19 : decode cX4_setBarred 19 = .ok (.aload_n 0, 1) := by decide +kernel
theorem dX4_setBarred_20 : decode cX4_setBarred 20 = .ok (.getfield 34, 3) := by decide +kernel
theorem dX4_setBarred_23 : decode cX4_setBarred 23 = .ok (.iload_n 1, 1) := by decide +kernel
theorem dX4_setBarred_24 : decode cX4_setBarred 24 = .ok (.iload_n 2, 1) := by decide +kernel
theorem dX4_setBarred_25 : decode cX4_setBarred 25 = .ok (.invokestatic 50, 3) := by decide +kernel
theorem dX4_setBarred_28 : decode cX4_setBarred 28 = .ok (.iload_n 3, 1) := by decide +kernel
theorem dX4_setBarred_29 : decode cX4_setBarred 29 = .ok (.ifCond .eq 7, 3) := by decide +kernel
theorem dX4_setBarred_32 : decode cX4_setBarred 32 = .ok (.iconst 1, 1) := by decide +kernel
theorem dX4_setBarred_33 : decode cX4_setBarred 33 = .ok (.goto 4, 3) := by decide +kernel
theorem dX4_setBarred_36 : decode cX4_setBarred 36 = .ok (.iconst 0, 1) := by decide +kernel
theorem dX4_setBarred_37 : decode cX4_setBarred 37 = .ok (.i2b, 1) := by decide +kernel
theorem dX4_setBarred_38 : decode cX4_setBarred 38 = .ok (.bastore, 1) := by decide +kernel
theorem dX4_setBarred_39 : decode cX4_setBarred 39 = .ok (.aload_n 0, 1) := by decide +kernel
theorem dX4_setBarred_40 : decode cX4_setBarred 40 = .ok (.dup, 1) := by decide +kernel
theorem dX4_setBarred_41 : decode cX4_setBarred 41 = .ok (.getfield 82, 3) := by decide +kernel
theorem dX4_setBarred_44 : decode cX4_setBarred 44 = .ok (.iload_n 3, 1) := by decide +kernel
theorem dX4_setBarred_45 : decode cX4_setBarred 45 = .ok (.ifCond .eq 7, 3) := by decide +kernel
theorem dX4_setBarred_48 : decode cX4_setBarred 48 = .ok (.iconst 1, 1) := by decide +kernel
theorem dX4_setBarred_49 : decode cX4_setBarred 49 = .ok (.goto 4, 3) := by decide +kernel
theorem dX4_setBarred_52 : decode cX4_setBarred 52 = .ok (.iconst (-1), 1) := by decide +kernel
theorem dX4_setBarred_53 : decode cX4_setBarred 53 = .ok (.iadd, 1) := by decide +kernel
theorem dX4_setBarred_54 : decode cX4_setBarred 54 = .ok (.putfield 82, 3) := by decide +kernel
theorem dX4_setBarred_57 : decode cX4_setBarred 57 = .ok (.aload_n 0, 1) := by decide +kernel
theorem dX4_setBarred_58 : decode cX4_setBarred 58 = .ok (.iload_n 1, 1) := by decide +kernel
theorem dX4_setBarred_59 : decode cX4_setBarred 59 = .ok (.iload_n 2, 1) := by decide +kernel
theorem dX4_setBarred_60 : decode cX4_setBarred 60 = .ok (.invokevirtual 68, 3) := by decide +kernel
theorem dX4_setBarred_63 : decode cX4_setBarred 63 = .ok (.return_, 1) := by decide +kernel
set_option maxRecDepth 20000 in
theorem ggX4_isBarred_X4_isSquare : GoodIn wsX4_isBarred wsX4_isSquare := goodIn_r _ [5] (by decide +kernel) (by decide +kernel)
set_option maxRecDepth 20000 in
theorem gX4_isBarred_X4_isSquare : GoodIn wsX4_isBarred (va_wsS RX4 76 yX4_isSquare wsX4_isSquare) := goodIn_app (goodIn_of _ (by decide +kernel)) ggX4_isBarred_X4_isSquare
set_option maxRecDepth 20000 in
theorem ggX4_isBarred_X4_cellOf : GoodIn wsX4_isBarred wsX4_cellOf := goodIn_r _ [8] (by decide +kernel) (by decide +kernel)
set_option maxRecDepth 20000 in
theorem gX4_isBarred_X4_cellOf : GoodIn wsX4_isBarred (va_wsS RX4 50 yX4_cellOf wsX4_cellOf) := goodIn_app (goodIn_of _ (by decide +kernel)) ggX4_isBarred_X4_cellOf
theorem dX4_isBarred_0 : decode cX4_isBarred 0 = .ok (.iload_n 1, 1) := by decide +kernel
theorem dX4_isBarred_1 : decode cX4_isBarred 1 = .ok (.iload_n 2, 1) := by decide +kernel
theorem dX4_isBarred_2 : decode cX4_isBarred 2 = .ok (.invokestatic 76, 3) := by decide +kernel
theorem dX4_isBarred_5 : decode cX4_isBarred 5 = .ok (.ifCond .eq 20, 3) := by decide +kernel
theorem dX4_isBarred_8 : decode cX4_isBarred 8 = .ok (.aload_n 0, 1) := by decide +kernel
theorem dX4_isBarred_9 : decode cX4_isBarred 9 = .ok (.getfield 34, 3) := by decide +kernel
theorem dX4_isBarred_12 : decode cX4_isBarred 12 = .ok (.iload_n 1, 1) := by decide +kernel
theorem dX4_isBarred_13 : decode cX4_isBarred 13 = .ok (.iload_n 2, 1) := by decide +kernel
theorem dX4_isBarred_14 : decode cX4_isBarred 14 = .ok (.invokestatic 50, 3) := by decide +kernel
theorem dX4_isBarred_17 : decode cX4_isBarred 17 = .ok (.baload, 1) := by decide +kernel
theorem dX4_isBarred_18 : decode cX4_isBarred 18 = .ok (.ifCond .eq 7, 3) := by decide +kernel
theorem dX4_isBarred_21 : decode cX4_isBarred 21 = .ok (.iconst 1, 1) := by decide +kernel
theorem dX4_isBarred_22 : decode cX4_isBarred 22 = .ok (.goto 4, 3) := by decide +kernel
theorem dX4_isBarred_25 : decode cX4_isBarred 25 = .ok (.iconst 0, 1) := by decide +kernel
theorem dX4_isBarred_26 : decode cX4_isBarred 26 = .ok (.ireturn, 1) := by decide +kernel
set_option maxRecDepth 20000 in
theorem ggX4_isOpen_X4_isSquare : GoodIn wsX4_isOpen wsX4_isSquare := goodIn_r _ [5] (by decide +kernel) (by decide +kernel)
set_option maxRecDepth 20000 in
theorem gX4_isOpen_X4_isSquare : GoodIn wsX4_isOpen (va_wsS RX4 76 yX4_isSquare wsX4_isSquare) := goodIn_app (goodIn_of _ (by decide +kernel)) ggX4_isOpen_X4_isSquare
set_option maxRecDepth 20000 in
theorem ggX4_isOpen_X4_cellOf : GoodIn wsX4_isOpen wsX4_cellOf := goodIn_r _ [8] (by decide +kernel) (by decide +kernel)
set_option maxRecDepth 20000 in
theorem gX4_isOpen_X4_cellOf : GoodIn wsX4_isOpen (va_wsS RX4 50 yX4_cellOf wsX4_cellOf) := goodIn_app (goodIn_of _ (by decide +kernel)) ggX4_isOpen_X4_cellOf
theorem dX4_isOpen_0 : decode cX4_isOpen 0 = .ok (.iload_n 1, 1) := by decide +kernel
theorem dX4_isOpen_1 : decode cX4_isOpen 1 = .ok (.iload_n 2, 1) := by decide +kernel
theorem dX4_isOpen_2 : decode cX4_isOpen 2 = .ok (.invokestatic 76, 3) := by decide +kernel
theorem dX4_isOpen_5 : decode cX4_isOpen 5 = .ok (.ifCond .eq 20, 3) := by decide +kernel
theorem dX4_isOpen_8 : decode cX4_isOpen 8 = .ok (.aload_n 0, 1) := by decide +kernel
theorem dX4_isOpen_9 : decode cX4_isOpen 9 = .ok (.getfield 38, 3) := by decide +kernel
theorem dX4_isOpen_12 : decode cX4_isOpen 12 = .ok (.iload_n 1, 1) := by decide +kernel
theorem dX4_isOpen_13 : decode cX4_isOpen 13 = .ok (.iload_n 2, 1) := by decide +kernel
theorem dX4_isOpen_14 : decode cX4_isOpen 14 = .ok (.invokestatic 50, 3) := by decide +kernel
theorem dX4_isOpen_17 : decode cX4_isOpen 17 = .ok (.baload, 1) := by decide +kernel
theorem dX4_isOpen_18 : decode cX4_isOpen 18 = .ok (.ifCond .eq 7, 3) := by decide +kernel
theorem dX4_isOpen_21 : decode cX4_isOpen 21 = .ok (.iconst 1, 1) := by decide +kernel
theorem dX4_isOpen_22 : decode cX4_isOpen 22 = .ok (.goto 4, 3) := by decide +kernel
theorem dX4_isOpen_25 : decode cX4_isOpen 25 = .ok (.iconst 0, 1) := by decide +kernel
theorem dX4_isOpen_26 : decode cX4_isOpen 26 = .ok (.ireturn, 1) := by decide +kernel
set_option maxRecDepth 20000 in
theorem ggX4_endsOpen_X4_isOpen : GoodIn wsX4_endsOpen wsX4_isOpen := goodIn_r _ [9, 10, 11, 12, 8, 13, 14, 15, 16, 17, 18, 19, 20, 21, 22, 23, 24, 25, 26, 27, 28, 29, 30, 31] (by decide +kernel) (by decide +kernel)
set_option maxRecDepth 20000 in
theorem gX4_endsOpen_X4_isOpen : GoodIn wsX4_endsOpen (wsV RX4 85 RX4 yX4_isOpen wsX4_isOpen) := goodIn_app (goodIn_of _ (by decide +kernel)) ggX4_endsOpen_X4_isOpen
theorem dX4_endsOpen_0 : decode cX4_endsOpen 0 = .ok (.aload_n 0, 1) := by decide +kernel
theorem dX4_endsOpen_1 : decode cX4_endsOpen 1 = .ok (.aload_n 0, 1) := by decide +kernel
theorem dX4_endsOpen_2 : decode cX4_endsOpen 2 = .ok (.getfield 44, 3) := by decide +kernel
theorem dX4_endsOpen_5 : decode cX4_endsOpen 5 = .ok (.aload_n 0, 1) := by decide +kernel
theorem dX4_endsOpen_6 : decode cX4_endsOpen 6 = .ok (.getfield 47, 3) := by decide +kernel
theorem dX4_endsOpen_9 : decode cX4_endsOpen 9 = .ok (.invokevirtual 85, 3) := by decide +kernel
theorem dX4_endsOpen_12 : decode cX4_endsOpen 12 = .ok (.ifCond .eq 22, 3) := by decide +kernel
theorem dX4_endsOpen_15 : decode cX4_endsOpen 15 = .ok (.aload_n 0, 1) := by decide +kernel
theorem dX4_endsOpen_16 : decode cX4_endsOpen 16 = .ok (.aload_n 0, 1) := by decide +kernel
theorem dX4_endsOpen_17 : decode cX4_endsOpen 17 = .ok (.getfield 54, 3) := by decide +kernel
theorem dX4_endsOpen_20 : decode cX4_endsOpen 20 = .ok (.aload_n 0, 1) := by decide +kernel
theorem dX4_endsOpen_21 : decode cX4_endsOpen 21 = .ok (.getfield 57, 3) := by decide +kernel
theorem dX4_endsOpen_24 : decode cX4_endsOpen 24 = .ok (.invokevirtual 85, 3) := by decide +kernel
theorem dX4_endsOpen_27 : decode cX4_endsOpen 27 = .ok (.ifCond .eq 7, 3) := by decide +kernel
theorem dX4_endsOpen_30 : decode cX4_endsOpen 30 = .ok (.iconst 1, 1) := by decide +kernel
theorem dX4_endsOpen_31 : decode cX4_endsOpen 31 = .ok (.goto 4, 3) := by decide +kernel
theorem dX4_endsOpen_34 : decode cX4_endsOpen 34 = .ok (.iconst 0, 1) := by decide +kernel
theorem dX4_endsOpen_35 : decode cX4_endsOpen 35 = .ok (.ireturn, 1) := by decide +kernel
theorem dX4_endsBetweenLines_0 : decode cX4_endsBetweenLines 0 = .ok (.aload_n 0, 1) := by decide +kernel
theorem dX4_endsBetweenLines_1 : decode cX4_endsBetweenLines 1 = .ok (.getfield 47, 3) := by decide +kernel
theorem dX4_endsBetweenLines_4 : decode cX4_endsBetweenLines 4 = .ok (.ifCond .lt 36, 3) := by decide +kernel
theorem dX4_endsBetweenLines_7 : decode cX4_endsBetweenLines 7 = .ok (.aload_n 0, 1) := by decide +kernel
theorem dX4_endsBetweenLines_8 : decode cX4_endsBetweenLines 8 = .ok (.getfield 47, 3) := by decide +kernel
theorem dX4_endsBetweenLines_11 : decode cX4_endsBetweenLines 11 = .ok (.aload_n 0, 1) := by decide +kernel
theorem dX4_endsBetweenLines_12 : decode cX4_endsBetweenLines 12 = .ok (.getfield 28, 3) := by decide +kernel
theorem dX4_endsBetweenLines_15 : decode cX4_endsBetweenLines 15 = .ok (.if_icmp .gt 25, 3) := by decide +kernel
theorem dX4_endsBetweenLines_18 : decode cX4_endsBetweenLines 18 = .ok (.aload_n 0, 1) := by decide +kernel
theorem dX4_endsBetweenLines_19 : decode cX4_endsBetweenLines 19 = .ok (.getfield 57, 3) := by decide +kernel
theorem dX4_endsBetweenLines_22 : decode cX4_endsBetweenLines 22 = .ok (.ifCond .lt 18, 3) := by decide +kernel
theorem dX4_endsBetweenLines_25 : decode cX4_endsBetweenLines 25 = .ok (.aload_n 0, 1) := by decide +kernel
theorem dX4_endsBetweenLines_26 : decode cX4_endsBetweenLines 26 = .ok (.getfield 57, 3) := by decide +kernel
theorem dX4_endsBetweenLines_29 : decode cX4_endsBetweenLines 29 = .ok (.aload_n 0, 1) := by decide +kernel
theorem dX4_endsBetweenLines_30 : decode cX4_endsBetweenLines 30 = .ok (.getfield 28, 3) := by decide +kernel
theorem dX4_endsBetweenLines_33 : decode cX4_endsBetweenLines 33 = .ok (.if_icmp .gt 7, 3) := by decide +kernel
theorem dX4_endsBetweenLines_36 : decode cX4_endsBetweenLines 36 = .ok (.iconst 1, 1) := by decide +kernel
theorem dX4_endsBetweenLines_37 : decode cX4_endsBetweenLines 37 = .ok (.goto 4, 3) := by decide +kernel
theorem dX4_endsBetweenLines_40 : decode cX4_endsBetweenLines 40 = .ok (.iconst 0, 1) := by decide +kernel
theorem dX4_endsBetweenLines_41 : decode cX4_endsBetweenLines 41 = .ok (.ireturn, 1) := by decide +kernel
theorem dX4_isPassable_0 : decode cX4_isPassable 0 = .ok (.iload_n 1, 1) := by decide +kernel
theorem dX4_isPassable_1 : decode cX4_isPassable 1 = .ok (.ifCond .lt 23, 3) := by decide +kernel
theorem dX4_isPassable_4 : decode cX4_isPassable 4 = .ok (.iload_n 1, 1) := by decide +kernel
theorem dX4_isPassable_5 : decode cX4_isPassable 5 = .ok (.sipush 4489, 3) := by decide +kernel
theorem dX4_isPassable_8 : decode cX4_isPassable 8 = .ok (.if_icmp .ge 16, 3) := by decide +kernel
theorem dX4_isPassable_11 : decode cX4_isPassable 11 = .ok (.aload_n 0, 1) := by decide +kernel
theorem dX4_isPassable_12 : decode cX4_isPassable 12 = .ok (.getfield 38, 3) := by decide +kernel
theorem dX4_isPassable_15 : decode cX4_isPassable 15 = .ok (.iload_n 1, 1) := by decide +kernel
theorem dX4_isPassable_16 : decode cX4_isPassable 16 = .ok (.baload, 1) := by decide +kernel
theorem dX4_isPassable_17 : decode cX4_isPassable 17 = .ok (.ifCond .eq 7, 3) := by decide +kernel
theorem dX4_isPassable_20 : decode cX4_isPassable 20 = .ok (.iconst 1, 1) := by decide +kernel
theorem dX4_isPassable_21 : decode cX4_isPassable 21 = .ok (.goto 4, 3) := by decide +kernel
theorem dX4_isPassable_24 : decode cX4_isPassable 24 = .ok (.iconst 0, 1) := by decide +kernel
theorem dX4_isPassable_25 : decode cX4_isPassable 25 = .ok (.ireturn, 1) := by decide +kernel
set_option maxRecDepth 20000 in
theorem ggX4_ahead_X4_hasStep : GoodIn wsX4_ahead wsX4_hasStep := goodIn_r _ [9, 10, 20, 21, 22, 23, 24, 25, 26, 27, 28, 29, 30, 31, 32, 33, 34] (by decide +kernel) (by decide +kernel)
set_option maxRecDepth 20000 in
theorem gX4_ahead_X4_hasStep : GoodIn wsX4_ahead (wsV RX4 88 RX4 yX4_hasStep wsX4_hasStep) := goodIn_app (goodIn_of _ (by decide +kernel)) ggX4_ahead_X4_hasStep
set_option maxRecDepth 20000 in
theorem ggX4_ahead_J9_floorMod_7cf53 : GoodIn wsX4_ahead wsJ9_floorMod_7cf53 := goodIn_r _ [14] (by decide +kernel) (by decide +kernel)
set_option maxRecDepth 20000 in
theorem gX4_ahead_J9_floorMod_7cf53 : GoodIn wsX4_ahead (va_wsS RX4 92 yJ9_floorMod_7cf53 wsJ9_floorMod_7cf53) := goodIn_app (goodIn_of _ (by decide +kernel)) ggX4_ahead_J9_floorMod_7cf53
set_option maxRecDepth 20000 in
theorem ggX4_ahead_X4_isPassable : GoodIn wsX4_ahead wsX4_isPassable := goodIn_r _ [18, 19, 20, 21, 22, 23, 24, 25, 26, 27, 28, 29, 30, 31, 32, 33, 34] (by decide +kernel) (by decide +kernel)
set_option maxRecDepth 20000 in
theorem gX4_ahead_X4_isPassable : GoodIn wsX4_ahead (wsV RX4 95 RX4 yX4_isPassable wsX4_isPassable) := goodIn_app (goodIn_of _ (by decide +kernel)) ggX4_ahead_X4_isPassable
theorem dX4_ahead_0 : decode cX4_ahead 0 = .ok (.aload_n 0, 1) := by decide +kernel
theorem dX4_ahead_1 : decode cX4_ahead 1 = .ok (.iload_n 2, 1) := by decide +kernel
theorem dX4_ahead_2 : decode cX4_ahead 2 = .ok (.invokevirtual 88, 3) := by decide +kernel
theorem dX4_ahead_5 : decode cX4_ahead 5 = .ok (.ifCond .ne 5, 3) := by decide +kernel
theorem dX4_ahead_8 : decode cX4_ahead 8 = .ok (.iconst (-1), 1) := by decide +kernel
theorem dX4_ahead_9 : decode cX4_ahead 9 = .ok (.ireturn, 1) := by decide +kernel
theorem dX4_ahead_10 : decode cX4_ahead 10 = .ok (.iload_n 1, 1) := by decide +kernel
theorem dX4_ahead_11 : decode cX4_ahead 11 = .ok (.aload_n 0, 1) := by decide +kernel
theorem dX4_ahead_12 : decode cX4_ahead 12 = .ok (.getfield 21, 3) := by decide +kernel
theorem dX4_ahead_15 : decode cX4_ahead 15 = .ok (.iload_n 2, 1) := by decide +kernel
theorem dX4_ahead_16 : decode cX4_ahead 16 = .ok (.iaload, 1) := by decide +kernel
theorem dX4_ahead_17 : decode cX4_ahead 17 = .ok (.iadd, 1) := by decide +kernel
theorem dX4_ahead_18 : decode cX4_ahead 18 = .ok (.istore_n 3, 1) := by decide +kernel
theorem dX4_ahead_19 : decode cX4_ahead 19 = .ok (.aload_n 0, 1) := by decide +kernel
theorem dX4_ahead_20 : decode cX4_ahead 20 = .ok (.getfield 65, 3) := by decide +kernel
theorem dX4_ahead_23 : decode cX4_ahead 23 = .ok (.iconst 4, 1) := by decide +kernel
theorem dX4_ahead_24 : decode cX4_ahead 24 = .ok (.if_icmp .ne 48, 3) := by decide +kernel
theorem dX4_ahead_27 : decode cX4_ahead 27 = .ok (.aload_n 0, 1) := by decide +kernel
theorem dX4_ahead_28 : decode cX4_ahead 28 = .ok (.getfield 31, 3) := by decide +kernel
theorem dX4_ahead_31 : decode cX4_ahead 31 = .ok (.ifCond .le 41, 3) := by decide +kernel
theorem dX4_ahead_34 : decode cX4_ahead 34 = .ok (.iload_n 1, 1) := by decide +kernel
theorem dX4_ahead_35 : decode cX4_ahead 35 = .ok (.bipush 67, 2) := by decide +kernel
theorem dX4_ahead_37 : decode cX4_ahead 37 = .ok (.irem, 1) := by decide +kernel
theorem dX4_ahead_38 : decode cX4_ahead 38 = .ok (.bipush 33, 2) := by decide +kernel
theorem dX4_ahead_40 : decode cX4_ahead 40 = .ok (.isub, 1) := by decide +kernel
theorem dX4_ahead_41 : decode cX4_ahead 41 = .ok (.istore 4, 2) := by decide +kernel
theorem dX4_ahead_43 : decode cX4_ahead 43 = .ok (.iload_n 3, 1) := by decide +kernel
theorem dX4_ahead_44 : decode cX4_ahead 44 = .ok (.iload 4, 2) := by decide +kernel
theorem dX4_ahead_46 : decode cX4_ahead 46 = .ok (.aload_n 0, 1) := by decide +kernel
theorem dX4_ahead_47 : decode cX4_ahead 47 = .ok (.getfield 9, 3) := by decide +kernel
theorem dX4_ahead_50 : decode cX4_ahead 50 = .ok (.iload_n 2, 1) := by decide +kernel
theorem dX4_ahead_51 : decode cX4_ahead 51 = .ok (.iaload, 1) := by decide +kernel
theorem dX4_ahead_52 : decode cX4_ahead 52 = .ok (.iadd, 1) := by decide +kernel
theorem dX4_ahead_53 : decode cX4_ahead 53 = .ok (.aload_n 0, 1) := by decide +kernel
theorem dX4_ahead_54 : decode cX4_ahead 54 = .ok (.getfield 31, 3) := by decide +kernel
theorem dX4_ahead_57 : decode cX4_ahead 57 = .ok (.invokestatic 92, 3) := by decide +kernel
theorem dX4_ahead_60 : decode cX4_ahead 60 = .ok (.iload 4, 2) := by decide +kernel
theorem dX4_ahead_62 : decode cX4_ahead 62 = .ok (.aload_n 0, 1) := by decide +kernel
theorem dX4_ahead_63 : decode cX4_ahead 63 = .ok (.getfield 9, 3) := by decide +kernel
theorem dX4_ahead_66 : decode cX4_ahead 66 = .ok (.iload_n 2, 1) := by decide +kernel
theorem dX4_ahead_67 : decode cX4_ahead 67 = .ok (.iaload, 1) := by decide +kernel
theorem dX4_ahead_68 : decode cX4_ahead 68 = .ok (.iadd, 1) := by decide +kernel
theorem dX4_ahead_69 : decode cX4_ahead 69 = .ok (.isub, 1) := by decide +kernel
theorem dX4_ahead_70 : decode cX4_ahead 70 = .ok (.iadd, 1) := by decide +kernel
theorem dX4_ahead_71 : decode cX4_ahead 71 = .ok (.istore_n 3, 1) := by decide +kernel
theorem dX4_ahead_72 : decode cX4_ahead 72 = .ok (.aload_n 0, 1) := by decide +kernel
theorem dX4_ahead_73 : decode cX4_ahead 73 = .ok (.iload_n 3, 1) := by decide +kernel
theorem dX4_ahead_74 : decode cX4_ahead 74 = .ok (.invokevirtual 95, 3) := by decide +kernel
theorem dX4_ahead_77 : decode cX4_ahead 77 = .ok (.ifCond .eq 7, 3) := by decide +kernel
theorem dX4_ahead_80 : decode cX4_ahead 80 = .ok (.iload_n 3, 1) := by decide +kernel
theorem dX4_ahead_81 : decode cX4_ahead 81 = .ok (.goto 4, 3) := by decide +kernel
theorem dX4_ahead_84 : decode cX4_ahead 84 = .ok (.iconst (-1), 1) := by decide +kernel
theorem dX4_ahead_85 : decode cX4_ahead 85 = .ok (.ireturn, 1) := by decide +kernel
theorem dX4_tallestStep_0 : decode cX4_tallestStep 0 = .ok (.iconst 0, 1) := by decide +kernel
theorem dX4_tallestStep_1 : decode cX4_tallestStep 1 = .ok (.istore_n 1, 1) := by decide +kernel
theorem dX4_tallestStep_2 : decode cX4_tallestStep 2 = .ok (.iconst 0, 1) := by decide +kernel
theorem dX4_tallestStep_3 : decode cX4_tallestStep 3 = .ok (.istore_n 2, 1) := by decide +kernel
theorem dX4_tallestStep_4 : decode cX4_tallestStep 4 = .ok (.iload_n 2, 1) := by decide +kernel
theorem dX4_tallestStep_5 : decode cX4_tallestStep 5 = .ok (.aload_n 0, 1) := by decide +kernel
theorem dX4_tallestStep_6 : decode cX4_tallestStep 6 = .ok (.getfield 24, 3) := by decide +kernel
theorem dX4_tallestStep_9 : decode cX4_tallestStep 9 = .ok (.if_icmp .ge 29, 3) := by decide +kernel
theorem dX4_tallestStep_12 : decode cX4_tallestStep 12 = .ok (.iload_n 2, 1) := by decide +kernel
theorem dX4_tallestStep_13 : decode cX4_tallestStep 13 = .ok (.bipush 8, 2) := by decide +kernel
theorem dX4_tallestStep_15 : decode cX4_tallestStep 15 = .ok (.if_icmp .ge 23, 3) := by decide +kernel
theorem dX4_tallestStep_18 : decode cX4_tallestStep 18 = .ok (.iload_n 1, 1) := by decide +kernel
theorem dX4_tallestStep_19 : decode cX4_tallestStep 19 = .ok (.aload_n 0, 1) := by decide +kernel
theorem dX4_tallestStep_20 : decode cX4_tallestStep 20 = .ok (.getfield 15, 3) := by decide +kernel
theorem dX4_tallestStep_23 : decode cX4_tallestStep 23 = .ok (.iload_n 2, 1) := by decide +kernel
theorem dX4_tallestStep_24 : decode cX4_tallestStep 24 = .ok (.iaload, 1) := by decide +kernel
theorem dX4_tallestStep_25 : decode cX4_tallestStep 25 = .ok (.invokestatic 98, 3) := by decide +kernel
theorem dX4_tallestStep_28 : decode cX4_tallestStep 28 = .ok (.invokestatic 102, 3) := by decide +kernel
theorem dX4_tallestStep_31 : decode cX4_tallestStep 31 = .ok (.istore_n 1, 1) := by decide +kernel
theorem dX4_tallestStep_32 : decode cX4_tallestStep 32 = .ok (.iinc 2 1, 3) := by decide +kernel
theorem dX4_tallestStep_35 : decode cX4_tallestStep 35 = .ok (.goto (-31), 3) := by decide +kernel
theorem dX4_tallestStep_38 : decode cX4_tallestStep 38 = .ok (.iload_n 1, 1) := by decide +kernel
theorem dX4_tallestStep_39 : decode cX4_tallestStep 39 = .ok (.ireturn, 1) := by decide +kernel
theorem dX4_stepsFallDeep_0 : decode cX4_stepsFallDeep 0 = .ok (.iconst 0, 1) := by decide +kernel
theorem dX4_stepsFallDeep_1 : decode cX4_stepsFallDeep 1 = .ok (.istore_n 1, 1) := by decide +kernel
theorem dX4_stepsFallDeep_2 : decode cX4_stepsFallDeep 2 = .ok (.iload_n 1, 1) := by decide +kernel
theorem dX4_stepsFallDeep_3 : decode cX4_stepsFallDeep 3 = .ok (.aload_n 0, 1) := by decide +kernel
theorem dX4_stepsFallDeep_4 : decode cX4_stepsFallDeep 4 = .ok (.getfield 24, 3) := by decide +kernel
theorem dX4_stepsFallDeep_7 : decode cX4_stepsFallDeep 7 = .ok (.if_icmp .ge 27, 3) := by decide +kernel
theorem dX4_stepsFallDeep_10 : decode cX4_stepsFallDeep 10 = .ok (.iload_n 1, 1) := by decide +kernel
theorem dX4_stepsFallDeep_11 : decode cX4_stepsFallDeep 11 = .ok (.bipush 8, 2) := by decide +kernel
theorem dX4_stepsFallDeep_13 : decode cX4_stepsFallDeep 13 = .ok (.if_icmp .ge 21, 3) := by decide +kernel
theorem dX4_stepsFallDeep_16 : decode cX4_stepsFallDeep 16 = .ok (.aload_n 0, 1) := by decide +kernel
theorem dX4_stepsFallDeep_17 : decode cX4_stepsFallDeep 17 = .ok (.getfield 15, 3) := by decide +kernel
theorem dX4_stepsFallDeep_20 : decode cX4_stepsFallDeep 20 = .ok (.iload_n 1, 1) := by decide +kernel
theorem dX4_stepsFallDeep_21 : decode cX4_stepsFallDeep 21 = .ok (.iaload, 1) := by decide +kernel
theorem dX4_stepsFallDeep_22 : decode cX4_stepsFallDeep 22 = .ok (.iconst (-1), 1) := by decide +kernel
theorem dX4_stepsFallDeep_23 : decode cX4_stepsFallDeep 23 = .ok (.if_icmp .ge 5, 3) := by decide +kernel
theorem dX4_stepsFallDeep_26 : decode cX4_stepsFallDeep 26 = .ok (.iconst 1, 1) := by decide +kernel
theorem dX4_stepsFallDeep_27 : decode cX4_stepsFallDeep 27 = .ok (.ireturn, 1) := by decide +kernel
theorem dX4_stepsFallDeep_28 : decode cX4_stepsFallDeep 28 = .ok (.iinc 1 1, 3) := by decide +kernel
theorem dX4_stepsFallDeep_31 : decode cX4_stepsFallDeep 31 = .ok (.goto (-29), 3) := by decide +kernel
theorem dX4_stepsFallDeep_34 : decode cX4_stepsFallDeep 34 = .ok (.iconst 0, 1) := by decide +kernel
theorem dX4_stepsFallDeep_35 : decode cX4_stepsFallDeep 35 = .ok (.ireturn, 1) := by decide +kernel
set_option maxRecDepth 20000 in
theorem ggX4_stepsMirrored_X4_hasStepOf : GoodIn wsX4_stepsMirrored wsX4_hasStepOf := goodIn_r _ [8, 1, 3, 2, 9, 10, 11, 12, 13, 14, 15, 16, 17, 18, 19, 20, 21, 22, 23] (by decide +kernel) (by decide +kernel)
set_option maxRecDepth 20000 in
theorem gX4_stepsMirrored_X4_hasStepOf : GoodIn wsX4_stepsMirrored (wsV RX4 105 RX4 yX4_hasStepOf wsX4_hasStepOf) := goodIn_app (goodIn_of _ (by decide +kernel)) ggX4_stepsMirrored_X4_hasStepOf
theorem dX4_stepsMirrored_0 : decode cX4_stepsMirrored 0 = .ok (.iconst 0, 1) := by decide +kernel
theorem dX4_stepsMirrored_1 : decode cX4_stepsMirrored 1 = .ok (.istore_n 1, 1) := by decide +kernel
theorem dX4_stepsMirrored_2 : decode cX4_stepsMirrored 2 = .ok (.iload_n 1, 1) := by decide +kernel
theorem dX4_stepsMirrored_3 : decode cX4_stepsMirrored 3 = .ok (.aload_n 0, 1) := by decide +kernel
theorem dX4_stepsMirrored_4 : decode cX4_stepsMirrored 4 = .ok (.getfield 24, 3) := by decide +kernel
theorem dX4_stepsMirrored_7 : decode cX4_stepsMirrored 7 = .ok (.if_icmp .ge 57, 3) := by decide +kernel
theorem dX4_stepsMirrored_10 : decode cX4_stepsMirrored 10 = .ok (.iload_n 1, 1) := by decide +kernel
theorem dX4_stepsMirrored_11 : decode cX4_stepsMirrored 11 = .ok (.bipush 8, 2) := by decide +kernel
theorem dX4_stepsMirrored_13 : decode cX4_stepsMirrored 13 = .ok (.if_icmp .ge 51, 3) := by decide +kernel
theorem dX4_stepsMirrored_16 : decode cX4_stepsMirrored 16 = .ok (.aload_n 0, 1) := by decide +kernel
theorem dX4_stepsMirrored_17 : decode cX4_stepsMirrored 17 = .ok (.getfield 15, 3) := by decide +kernel
theorem dX4_stepsMirrored_20 : decode cX4_stepsMirrored 20 = .ok (.iload_n 1, 1) := by decide +kernel
theorem dX4_stepsMirrored_21 : decode cX4_stepsMirrored 21 = .ok (.iaload, 1) := by decide +kernel
theorem dX4_stepsMirrored_22 : decode cX4_stepsMirrored 22 = .ok (.iconst 1, 1) := by decide +kernel
theorem dX4_stepsMirrored_23 : decode cX4_stepsMirrored 23 = .ok (.if_icmp .eq 13, 3) := by decide +kernel
theorem dX4_stepsMirrored_26 : decode cX4_stepsMirrored 26 = .ok (.aload_n 0, 1) := by decide +kernel
theorem dX4_stepsMirrored_27 : decode cX4_stepsMirrored 27 = .ok (.getfield 15, 3) := by decide +kernel
theorem dX4_stepsMirrored_30 : decode cX4_stepsMirrored 30 = .ok (.iload_n 1, 1) := by decide +kernel
theorem dX4_stepsMirrored_31 : decode cX4_stepsMirrored 31 = .ok (.iaload, 1) := by decide +kernel
theorem dX4_stepsMirrored_32 : decode cX4_stepsMirrored 32 = .ok (.iconst (-1), 1) := by decide +kernel
theorem dX4_stepsMirrored_33 : decode cX4_stepsMirrored 33 = .ok (.if_icmp .ne 23, 3) := by decide +kernel
theorem dX4_stepsMirrored_36 : decode cX4_stepsMirrored 36 = .ok (.aload_n 0, 1) := by decide +kernel
theorem dX4_stepsMirrored_37 : decode cX4_stepsMirrored 37 = .ok (.aload_n 0, 1) := by decide +kernel
theorem dX4_stepsMirrored_38 : decode cX4_stepsMirrored 38 = .ok (.getfield 9, 3) := by decide +kernel
theorem dX4_stepsMirrored_41 : decode cX4_stepsMirrored 41 = .ok (.iload_n 1, 1) := by decide +kernel
theorem dX4_stepsMirrored_42 : decode cX4_stepsMirrored 42 = .ok (.iaload, 1) := by decide +kernel
theorem dX4_stepsMirrored_43 : decode cX4_stepsMirrored 43 = .ok (.aload_n 0, 1) := by decide +kernel
theorem dX4_stepsMirrored_44 : decode cX4_stepsMirrored 44 = .ok (.getfield 15, 3) := by decide +kernel
theorem dX4_stepsMirrored_47 : decode cX4_stepsMirrored 47 = .ok (.iload_n 1, 1) := by decide +kernel
theorem dX4_stepsMirrored_48 : decode cX4_stepsMirrored 48 = .ok (.iaload, 1) := by decide +kernel
theorem dX4_stepsMirrored_49 : decode cX4_stepsMirrored 49 = .ok (.ineg, 1) := by decide +kernel
theorem dX4_stepsMirrored_50 : decode cX4_stepsMirrored 50 = .ok (.invokevirtual 105, 3) := by decide +kernel
theorem dX4_stepsMirrored_53 : decode cX4_stepsMirrored 53 = .ok (.ifCond .ne 5, 3) := by decide +kernel
theorem dX4_stepsMirrored_56 : decode cX4_stepsMirrored 56 = .ok (.iconst 0, 1) := by decide +kernel
theorem dX4_stepsMirrored_57 : decode cX4_stepsMirrored 57 = .ok (.ireturn, 1) := by decide +kernel
theorem dX4_stepsMirrored_58 : decode cX4_stepsMirrored 58 = .ok (.iinc 1 1, 3) := by decide +kernel
theorem dX4_stepsMirrored_61 : decode cX4_stepsMirrored 61 = .ok (.goto (-59), 3) := by decide +kernel
theorem dX4_stepsMirrored_64 : decode cX4_stepsMirrored 64 = .ok (.iconst 1, 1) := by decide +kernel
theorem dX4_stepsMirrored_65 : decode cX4_stepsMirrored 65 = .ok (.ireturn, 1) := by decide +kernel
theorem dX4_hasStepOf_0 : decode cX4_hasStepOf 0 = .ok (.iconst 0, 1) := by decide +kernel
theorem dX4_hasStepOf_1 : decode cX4_hasStepOf 1 = .ok (.istore_n 3, 1) := by decide +kernel
theorem dX4_hasStepOf_2 : decode cX4_hasStepOf 2 = .ok (.iload_n 3, 1) := by decide +kernel
theorem dX4_hasStepOf_3 : decode cX4_hasStepOf 3 = .ok (.aload_n 0, 1) := by decide +kernel
theorem dX4_hasStepOf_4 : decode cX4_hasStepOf 4 = .ok (.getfield 24, 3) := by decide +kernel
theorem dX4_hasStepOf_7 : decode cX4_hasStepOf 7 = .ok (.if_icmp .ge 37, 3) := by decide +kernel
theorem dX4_hasStepOf_10 : decode cX4_hasStepOf 10 = .ok (.iload_n 3, 1) := by decide +kernel
theorem dX4_hasStepOf_11 : decode cX4_hasStepOf 11 = .ok (.bipush 8, 2) := by decide +kernel
theorem dX4_hasStepOf_13 : decode cX4_hasStepOf 13 = .ok (.if_icmp .ge 31, 3) := by decide +kernel
theorem dX4_hasStepOf_16 : decode cX4_hasStepOf 16 = .ok (.aload_n 0, 1) := by decide +kernel
theorem dX4_hasStepOf_17 : decode cX4_hasStepOf 17 = .ok (.getfield 9, 3) := by decide +kernel
theorem dX4_hasStepOf_20 : decode cX4_hasStepOf 20 = .ok (.iload_n 3, 1) := by decide +kernel
theorem dX4_hasStepOf_21 : decode cX4_hasStepOf 21 = .ok (.iaload, 1) := by decide +kernel
theorem dX4_hasStepOf_22 : decode cX4_hasStepOf 22 = .ok (.iload_n 1, 1) := by decide +kernel
theorem dX4_hasStepOf_23 : decode cX4_hasStepOf 23 = .ok (.if_icmp .ne 15, 3) := by decide +kernel
theorem dX4_hasStepOf_26 : decode cX4_hasStepOf 26 = .ok (.aload_n 0, 1) := by decide +kernel
theorem dX4_hasStepOf_27 : decode cX4_hasStepOf 27 = .ok (.getfield 15, 3) := by decide +kernel
theorem dX4_hasStepOf_30 : decode cX4_hasStepOf 30 = .ok (.iload_n 3, 1) := by decide +kernel
theorem dX4_hasStepOf_31 : decode cX4_hasStepOf 31 = .ok (.iaload, 1) := by decide +kernel
theorem dX4_hasStepOf_32 : decode cX4_hasStepOf 32 = .ok (.iload_n 2, 1) := by decide +kernel
theorem dX4_hasStepOf_33 : decode cX4_hasStepOf 33 = .ok (.if_icmp .ne 5, 3) := by decide +kernel
theorem dX4_hasStepOf_36 : decode cX4_hasStepOf 36 = .ok (.iconst 1, 1) := by decide +kernel
theorem dX4_hasStepOf_37 : decode cX4_hasStepOf 37 = .ok (.ireturn, 1) := by decide +kernel
theorem dX4_hasStepOf_38 : decode cX4_hasStepOf 38 = .ok (.iinc 3 1, 3) := by decide +kernel
theorem dX4_hasStepOf_41 : decode cX4_hasStepOf 41 = .ok (.goto (-39), 3) := by decide +kernel
theorem dX4_hasStepOf_44 : decode cX4_hasStepOf 44 = .ok (.iconst 0, 1) := by decide +kernel
theorem dX4_hasStepOf_45 : decode cX4_hasStepOf 45 = .ok (.ireturn, 1) := by decide +kernel
theorem dX5_init_0 : decode cX5_init 0 = .ok (.aload_n 0, 1) := by decide +kernel
theorem dX5_init_1 : decode cX5_init 1 = .ok (.invokespecial 3, 3) := by decide +kernel
theorem dX5_init_4 : decode cX5_init 4 = .ok (.aload_n 0, 1) := by decide +kernel
theorem dX5_init_5 : decode cX5_init 5 = .ok (.sipush 256, 3) := by decide +kernel
theorem dX5_init_8 : decode cX5_init 8 = .ok (.newarray .int, 2) := by decide +kernel
theorem dX5_init_10 : decode cX5_init 10 = .ok (.putfield 9, 3) := by decide +kernel
theorem dX5_init_13 : decode cX5_init 13 = .ok (.aload_n 0, 1) := by decide +kernel
theorem dX5_init_14 : decode cX5_init 14 = .ok (.iconst 4, 1) := by decide +kernel
theorem dX5_init_15 : decode cX5_init 15 = .ok (.newarray .int, 2) := by decide +kernel
theorem dX5_init_17 : decode cX5_init 17 = .ok (.putfield 15, 3) := by decide +kernel
theorem dX5_init_20 : decode cX5_init 20 = .ok (.aload_n 0, 1) := by decide +kernel
theorem dX5_init_21 : decode cX5_init 21 = .ok (.iconst 4, 1) := by decide +kernel
theorem dX5_init_22 : decode cX5_init 22 = .ok (.newarray .int, 2) := by decide +kernel
theorem dX5_init_24 : decode cX5_init 24 = .ok (.putfield 18, 3) := by decide +kernel
theorem dX5_init_27 : decode cX5_init 27 = .ok (.iconst 0, 1) := by decide +kernel
theorem dX5_init_28 : decode cX5_init 28 = .ok (.istore_n 1, 1) := by decide +kernel
theorem dX5_init_29 : decode cX5_init 29 = .ok (.iload_n 1, 1) := by decide +kernel
theorem dX5_init_30 : decode cX5_init 30 = .ok (.iconst 4, 1) := by decide +kernel
theorem dX5_init_31 : decode cX5_init 31 = .ok (.if_icmp .ge 16, 3) := by decide +kernel
theorem dX5_init_34 : decode cX5_init 34 = .ok (.aload_n 0, 1) := by decide +kernel
theorem dX5_init_35 : decode cX5_init 35 = .ok (.getfield 18, 3) := by decide +kernel
theorem dX5_init_38 : decode cX5_init 38 = .ok (.iload_n 1, 1) := by decide +kernel
theorem dX5_init_39 : decode cX5_init 39 = .ok (.iconst (-1), 1) := by decide +kernel
theorem dX5_init_40 : decode cX5_init 40 = .ok (.iastore, 1) := by decide +kernel
theorem dX5_init_41 : decode cX5_init 41 = .ok (.iinc 1 1, 3) := by decide +kernel
theorem dX5_init_44 : decode cX5_init 44 = .ok (.goto (-15), 3) := by decide +kernel
theorem dX5_init_47 : decode cX5_init 47 = .ok (.return_, 1) := by decide +kernel
theorem dX5_known_0 : decode cX5_known 0 = .ok (.iload_n 0, 1) := by decide +kernel
theorem dX5_known_1 : decode cX5_known 1 = .ok (.ifCond .lt 12, 3) := by decide +kernel
theorem dX5_known_4 : decode cX5_known 4 = .ok (.iload_n 0, 1) := by decide +kernel
theorem dX5_known_5 : decode cX5_known 5 = .ok (.iconst 4, 1) := by decide +kernel
theorem dX5_known_6 : decode cX5_known 6 = .ok (.if_icmp .ge 7, 3) := by decide +kernel
theorem dX5_known_9 : decode cX5_known 9 = .ok (.iconst 1, 1) := by decide +kernel
theorem dX5_known_10 : decode cX5_known 10 = .ok (.goto 4, 3) := by decide +kernel
theorem dX5_known_13 : decode cX5_known 13 = .ok (.iconst 0, 1) := by decide +kernel
theorem dX5_known_14 : decode cX5_known 14 = .ok (.ireturn, 1) := by decide +kernel
set_option maxRecDepth 20000 in
theorem ggX5_missing_X5_known : GoodIn wsX5_missing wsX5_known := goodIn_r _ [5] (by decide +kernel) (by decide +kernel)
set_option maxRecDepth 20000 in
theorem gX5_missing_X5_known : GoodIn wsX5_missing (va_wsS RX5 21 yX5_known wsX5_known) := goodIn_app (goodIn_of _ (by decide +kernel)) ggX5_missing_X5_known
theorem dX5_missing_0 : decode cX5_missing 0 = .ok (.iload_n 1, 1) := by decide +kernel
theorem dX5_missing_1 : decode cX5_missing 1 = .ok (.invokestatic 21, 3) := by decide +kernel
theorem dX5_missing_4 : decode cX5_missing 4 = .ok (.ifCond .eq 12, 3) := by decide +kernel
theorem dX5_missing_7 : decode cX5_missing 7 = .ok (.aload_n 0, 1) := by decide +kernel
theorem dX5_missing_8 : decode cX5_missing 8 = .ok (.getfield 18, 3) := by decide +kernel
theorem dX5_missing_11 : decode cX5_missing 11 = .ok (.iload_n 1, 1) := by decide +kernel
theorem dX5_missing_12 : decode cX5_missing 12 = .ok (.iaload, 1) := by decide +kernel
theorem dX5_missing_13 : decode cX5_missing 13 = .ok (.ifCond .ge 7, 3) := by decide +kernel
theorem dX5_missing_16 : decode cX5_missing 16 = .ok (.iconst 1, 1) := by decide +kernel
theorem dX5_missing_17 : decode cX5_missing 17 = .ok (.goto 4, 3) := by decide +kernel
theorem dX5_missing_20 : decode cX5_missing 20 = .ok (.iconst 0, 1) := by decide +kernel
theorem dX5_missing_21 : decode cX5_missing 21 = .ok (.ireturn, 1) := by decide +kernel
set_option maxRecDepth 20000 in
theorem ggX5_sortOf_X5_known : GoodIn wsX5_sortOf wsX5_known := goodIn_r _ [5] (by decide +kernel) (by decide +kernel)
set_option maxRecDepth 20000 in
theorem gX5_sortOf_X5_known : GoodIn wsX5_sortOf (va_wsS RX5 21 yX5_known wsX5_known) := goodIn_app (goodIn_of _ (by decide +kernel)) ggX5_sortOf_X5_known
theorem dX5_sortOf_0 : decode cX5_sortOf 0 = .ok (.iload_n 1, 1) := by decide +kernel
theorem dX5_sortOf_1 : decode cX5_sortOf 1 = .ok (.invokestatic 21, 3) := by decide +kernel
theorem dX5_sortOf_4 : decode cX5_sortOf 4 = .ok (.ifCond .eq 12, 3) := by decide +kernel
theorem dX5_sortOf_7 : decode cX5_sortOf 7 = .ok (.aload_n 0, 1) := by decide +kernel
theorem dX5_sortOf_8 : decode cX5_sortOf 8 = .ok (.getfield 15, 3) := by decide +kernel
theorem dX5_sortOf_11 : decode cX5_sortOf 11 = .ok (.iload_n 1, 1) := by decide +kernel
theorem dX5_sortOf_12 : decode cX5_sortOf 12 = .ok (.iaload, 1) := by decide +kernel
theorem dX5_sortOf_13 : decode cX5_sortOf 13 = .ok (.goto 4, 3) := by decide +kernel
theorem dX5_sortOf_16 : decode cX5_sortOf 16 = .ok (.iconst (-1), 1) := by decide +kernel
theorem dX5_sortOf_17 : decode cX5_sortOf 17 = .ok (.ireturn, 1) := by decide +kernel
set_option maxRecDepth 20000 in
theorem ggX5_holds_X5_known : GoodIn wsX5_holds wsX5_known := goodIn_r _ [5] (by decide +kernel) (by decide +kernel)
set_option maxRecDepth 20000 in
theorem gX5_holds_X5_known : GoodIn wsX5_holds (va_wsS RX5 21 yX5_known wsX5_known) := goodIn_app (goodIn_of _ (by decide +kernel)) ggX5_holds_X5_known
theorem dX5_holds_0 : decode cX5_holds 0 = .ok (.iload_n 1, 1) := by decide +kernel
theorem dX5_holds_1 : decode cX5_holds 1 = .ok (.invokestatic 21, 3) := by decide +kernel
theorem dX5_holds_4 : decode cX5_holds 4 = .ok (.ifCond .eq 31, 3) := by decide +kernel
theorem dX5_holds_7 : decode cX5_holds 7 = .ok (.iload_n 2, 1) := by decide +kernel
theorem dX5_holds_8 : decode cX5_holds 8 = .ok (.ifCond .lt 27, 3) := by decide +kernel
theorem dX5_holds_11 : decode cX5_holds 11 = .ok (.iload_n 3, 1) := by decide +kernel
theorem dX5_holds_12 : decode cX5_holds 12 = .ok (.ifCond .lt 23, 3) := by decide +kernel
theorem dX5_holds_15 : decode cX5_holds 15 = .ok (.iload_n 2, 1) := by decide +kernel
theorem dX5_holds_16 : decode cX5_holds 16 = .ok (.i2l, 1) := by decide +kernel
theorem dX5_holds_17 : decode cX5_holds 17 = .ok (.iload_n 3, 1) := by decide +kernel
theorem dX5_holds_18 : decode cX5_holds 18 = .ok (.i2l, 1) := by decide +kernel
theorem dX5_holds_19 : decode cX5_holds 19 = .ok (.ladd, 1) := by decide +kernel
theorem dX5_holds_20 : decode cX5_holds 20 = .ok (.aload_n 0, 1) := by decide +kernel
theorem dX5_holds_21 : decode cX5_holds 21 = .ok (.getfield 18, 3) := by decide +kernel
theorem dX5_holds_24 : decode cX5_holds 24 = .ok (.iload_n 1, 1) := by decide +kernel
theorem dX5_holds_25 : decode cX5_holds 25 = .ok (.iaload, 1) := by decide +kernel
theorem dX5_holds_26 : decode cX5_holds 26 = .ok (.i2l, 1) := by decide +kernel
theorem dX5_holds_27 : decode cX5_holds 27 = .ok (.lcmp, 1) := by decide +kernel
theorem dX5_holds_28 : decode cX5_holds 28 = .ok (.ifCond .gt 7, 3) := by decide +kernel
theorem dX5_holds_31 : decode cX5_holds 31 = .ok (.iconst 1, 1) := by decide +kernel
theorem dX5_holds_32 : decode cX5_holds 32 = .ok (.goto 4, 3) := by decide +kernel
theorem dX5_holds_35 : decode cX5_holds 35 = .ok (.iconst 0, 1) := by decide +kernel
theorem dX5_holds_36 : decode cX5_holds 36 = .ok (.ireturn, 1) := by decide +kernel
set_option maxRecDepth 20000 in
theorem ggX5_lay_X5_known : GoodIn wsX5_lay wsX5_known := goodIn_r _ [7] (by decide +kernel) (by decide +kernel)
set_option maxRecDepth 20000 in
theorem gX5_lay_X5_known : GoodIn wsX5_lay (va_wsS RX5 21 yX5_known wsX5_known) := goodIn_app (goodIn_of _ (by decide +kernel)) ggX5_lay_X5_known
theorem dX5_lay_0 : decode cX5_lay 0 = .ok (.iload_n 1, 1) := by decide +kernel
theorem dX5_lay_1 : decode cX5_lay 1 = .ok (.invokestatic 21, 3) := by decide +kernel
theorem dX5_lay_4 : decode cX5_lay 4 = .ok (.ifCond .ne 4, 3) := by decide +kernel
theorem dX5_lay_7 : decode cX5_lay 7 = .ok (.return_, 1) := by decide +kernel
theorem dX5_lay_8 : decode cX5_lay 8 = .ok (.aload_n 0, 1) := by decide +kernel
theorem dX5_lay_9 : decode cX5_lay 9 = .ok (.getfield 15, 3) := by decide +kernel
theorem dX5_lay_12 : decode cX5_lay 12 = .ok (.iload_n 1, 1) := by decide +kernel
theorem dX5_lay_13 : decode cX5_lay 13 = .ok (.iload_n 2, 1) := by decide +kernel
theorem dX5_lay_14 : decode cX5_lay 14 = .ok (.iastore, 1) := by decide +kernel
theorem dX5_lay_15 : decode cX5_lay 15 = .ok (.aload_n 0, 1) := by decide +kernel
theorem dX5_lay_16 : decode cX5_lay 16 = .ok (.getfield 18, 3) := by decide +kernel
theorem dX5_lay_19 : decode cX5_lay 19 = .ok (.iload_n 1, 1) := by decide +kernel
theorem dX5_lay_20 : decode cX5_lay 20 = .ok (.iload_n 3, 1) := by decide +kernel
theorem dX5_lay_21 : decode cX5_lay 21 = .ok (.iastore, 1) := by decide +kernel
theorem dX5_lay_22 : decode cX5_lay 22 = .ok (.iconst 0, 1) := by decide +kernel
theorem dX5_lay_23 : decode cX5_lay 23 = .ok (.istore 4, 2) := by decide +kernel
theorem dX5_lay_25 : decode cX5_lay 25 = .ok (.iload 4, 2) := by decide +kernel
theorem dX5_lay_27 : decode cX5_lay 27 = .ok (.bipush 64, 2) := by decide +kernel
theorem dX5_lay_29 : decode cX5_lay 29 = .ok (.if_icmp .ge 22, 3) := by decide +kernel
theorem dX5_lay_32 : decode cX5_lay 32 = .ok (.aload_n 0, 1) := by decide +kernel
theorem dX5_lay_33 : decode cX5_lay 33 = .ok (.getfield 9, 3) := by decide +kernel
theorem dX5_lay_36 : decode cX5_lay 36 = .ok (.iload_n 1, 1) := by decide +kernel
theorem dX5_lay_37 : decode cX5_lay 37 = .ok (.bipush 64, 2) := by decide +kernel
theorem dX5_lay_39 : decode cX5_lay 39 = .ok (.imul, 1) := by decide +kernel
theorem dX5_lay_40 : decode cX5_lay 40 = .ok (.iload 4, 2) := by decide +kernel
theorem dX5_lay_42 : decode cX5_lay 42 = .ok (.iadd, 1) := by decide +kernel
theorem dX5_lay_43 : decode cX5_lay 43 = .ok (.iconst 0, 1) := by decide +kernel
theorem dX5_lay_44 : decode cX5_lay 44 = .ok (.iastore, 1) := by decide +kernel
theorem dX5_lay_45 : decode cX5_lay 45 = .ok (.iinc 4 1, 3) := by decide +kernel
theorem dX5_lay_48 : decode cX5_lay 48 = .ok (.goto (-23), 3) := by decide +kernel
theorem dX5_lay_51 : decode cX5_lay 51 = .ok (.return_, 1) := by decide +kernel
set_option maxRecDepth 20000 in
theorem ggX5_put_X5_holds : GoodIn wsX5_put wsX5_holds := goodIn_r _ [7, 8, 9, 10, 6, 11, 12, 13, 14] (by decide +kernel) (by decide +kernel)
set_option maxRecDepth 20000 in
theorem gX5_put_X5_holds : GoodIn wsX5_put (wsV RX5 25 RX5 yX5_holds wsX5_holds) := goodIn_app (goodIn_of _ (by decide +kernel)) ggX5_put_X5_holds
theorem dX5_put_0 : decode cX5_put 0 = .ok (.aload_n 0, 1) := by decide +kernel
theorem dX5_put_1 : decode cX5_put 1 = .ok (.iload_n 1, 1) := by decide +kernel
theorem dX5_put_2 : decode cX5_put 2 = .ok (.iload_n 2, 1) := by decide +kernel
theorem dX5_put_3 : decode cX5_put 3 = .ok (.iconst 1, 1) := by decide +kernel
theorem dX5_put_4 : decode cX5_put 4 = .ok (.invokevirtual 25, 3) := by decide +kernel
theorem dX5_put_7 : decode cX5_put 7 = .ok (.ifCond .ne 4, 3) := by decide +kernel
theorem dX5_put_10 : decode cX5_put 10 = .ok (.return_, 1) := by decide +kernel
theorem dX5_put_11 : decode cX5_put 11 = .ok (.iload_n 3, 1) := by decide +kernel
theorem dX5_put_12 : decode cX5_put 12 = .ok (.istore 4, 2) := by decide +kernel
theorem dX5_put_14 : decode cX5_put 14 = .ok (.aload_n 0, 1) := by decide +kernel
theorem dX5_put_15 : decode cX5_put 15 = .ok (.getfield 15, 3) := by decide +kernel
theorem dX5_put_18 : decode cX5_put 18 = .ok (.iload_n 1, 1) := by decide +kernel
theorem dX5_put_19 : decode cX5_put 19 = .ok (.iaload, 1) := by decide +kernel
theorem dX5_put_20 : decode cX5_put 20 = .ok (.ifCond .ne 10, 3) := by decide +kernel
theorem dX5_put_23 : decode cX5_put 23 = .ok (.iload_n 3, 1) := by decide +kernel
theorem dX5_put_24 : decode cX5_put 24 = .ok (.i2b, 1) := by decide +kernel
theorem dX5_put_25 : decode cX5_put 25 = .ok (.istore 4, 2) := by decide +kernel
theorem dX5_put_27 : decode cX5_put 27 = .ok (.goto 17, 3) := by decide +kernel
theorem dX5_put_30 : decode cX5_put 30 = .ok (.aload_n 0, 1) := by decide +kernel
theorem dX5_put_31 : decode cX5_put 31 = .ok (.getfield 15, 3) := by decide +kernel
theorem dX5_put_34 : decode cX5_put 34 = .ok (.iload_n 1, 1) := by decide +kernel
theorem dX5_put_35 : decode cX5_put 35 = .ok (.iaload, 1) := by decide +kernel
theorem dX5_put_36 : decode cX5_put 36 = .ok (.iconst 1, 1) := by decide +kernel
theorem dX5_put_37 : decode cX5_put 37 = .ok (.if_icmp .ne 7, 3) := by decide +kernel
theorem dX5_put_40 : decode cX5_put 40 = .ok (.iload_n 3, 1) := by decide +kernel
theorem dX5_put_41 : decode cX5_put 41 = .ok (.i2s, 1) := by decide +kernel
theorem dX5_put_42 : decode cX5_put 42 = .ok (.istore 4, 2) := by decide +kernel
theorem dX5_put_44 : decode cX5_put 44 = .ok (.aload_n 0, 1) := by decide +kernel
theorem dX5_put_45 : decode cX5_put 45 = .ok (.getfield 9, 3) := by decide +kernel
theorem dX5_put_48 : decode cX5_put 48 = .ok (.iload_n 1, 1) := by decide +kernel
theorem dX5_put_49 : decode cX5_put 49 = .ok (.bipush 64, 2) := by decide +kernel
theorem dX5_put_51 : decode cX5_put 51 = .ok (.imul, 1) := by decide +kernel
theorem dX5_put_52 : decode cX5_put 52 = .ok (.iload_n 2, 1) := by decide +kernel
theorem dX5_put_53 : decode cX5_put 53 = .ok (.iadd, 1) := by decide +kernel
theorem dX5_put_54 : decode cX5_put 54 = .ok (.iload 4, 2) := by decide +kernel
theorem dX5_put_56 : decode cX5_put 56 = .ok (.iastore, 1) := by decide +kernel
theorem dX5_put_57 : decode cX5_put 57 = .ok (.return_, 1) := by decide +kernel
set_option maxRecDepth 20000 in
theorem ggX5_at_X5_holds : GoodIn wsX5_at wsX5_holds := goodIn_r _ [6, 7, 8, 9, 5, 10, 11, 12, 13] (by decide +kernel) (by decide +kernel)
set_option maxRecDepth 20000 in
theorem gX5_at_X5_holds : GoodIn wsX5_at (wsV RX5 25 RX5 yX5_holds wsX5_holds) := goodIn_app (goodIn_of _ (by decide +kernel)) ggX5_at_X5_holds
theorem dX5_at_0 : decode cX5_at 0 = .ok (.aload_n 0, 1) := by decide +kernel
theorem dX5_at_1 : decode cX5_at 1 = .ok (.iload_n 1, 1) := by decide +kernel
theorem dX5_at_2 : decode cX5_at 2 = .ok (.iload_n 2, 1) := by decide +kernel
theorem dX5_at_3 : decode cX5_at 3 = .ok (.iconst 1, 1) := by decide +kernel
theorem dX5_at_4 : decode cX5_at 4 = .ok (.invokevirtual 25, 3) := by decide +kernel
theorem dX5_at_7 : decode cX5_at 7 = .ok (.ifCond .eq 17, 3) := by decide +kernel
theorem dX5_at_10 : decode cX5_at 10 = .ok (.aload_n 0, 1) := by decide +kernel
theorem dX5_at_11 : decode cX5_at 11 = .ok (.getfield 9, 3) := by decide +kernel
theorem dX5_at_14 : decode cX5_at 14 = .ok (.iload_n 1, 1) := by decide +kernel
theorem dX5_at_15 : decode cX5_at 15 = .ok (.bipush 64, 2) := by decide +kernel
theorem dX5_at_17 : decode cX5_at 17 = .ok (.imul, 1) := by decide +kernel
theorem dX5_at_18 : decode cX5_at 18 = .ok (.iload_n 2, 1) := by decide +kernel
theorem dX5_at_19 : decode cX5_at 19 = .ok (.iadd, 1) := by decide +kernel
theorem dX5_at_20 : decode cX5_at 20 = .ok (.iaload, 1) := by decide +kernel
theorem dX5_at_21 : decode cX5_at 21 = .ok (.goto 4, 3) := by decide +kernel
theorem dX5_at_24 : decode cX5_at 24 = .ok (.iconst 0, 1) := by decide +kernel
theorem dX5_at_25 : decode cX5_at 25 = .ok (.ireturn, 1) := by decide +kernel
set_option maxRecDepth 20000 in
theorem ggX5_move_X5_holds : GoodIn wsX5_move wsX5_holds := goodIn_r _ [10, 11, 12, 13, 9, 14, 15, 16, 17] (by decide +kernel) (by decide +kernel)
set_option maxRecDepth 20000 in
theorem gX5_move_X5_holds : GoodIn wsX5_move (wsV RX5 25 RX5 yX5_holds wsX5_holds) := goodIn_app (goodIn_of _ (by decide +kernel)) ggX5_move_X5_holds
theorem dX5_move_0 : decode cX5_move 0 = .ok (.aload_n 0, 1) := by decide +kernel
theorem dX5_move_1 : decode cX5_move 1 = .ok (.iload_n 1, 1) := by decide +kernel
theorem dX5_move_2 : decode cX5_move 2 = .ok (.iload_n 2, 1) := by decide +kernel
theorem dX5_move_3 : decode cX5_move 3 = .ok (.iload 5, 2) := by decide +kernel
theorem dX5_move_5 : decode cX5_move 5 = .ok (.invokevirtual 25, 3) := by decide +kernel
theorem dX5_move_8 : decode cX5_move 8 = .ok (.ifCond .eq 41, 3) := by decide +kernel
theorem dX5_move_11 : decode cX5_move 11 = .ok (.aload_n 0, 1) := by decide +kernel
theorem dX5_move_12 : decode cX5_move 12 = .ok (.iload_n 3, 1) := by decide +kernel
theorem dX5_move_13 : decode cX5_move 13 = .ok (.iload 4, 2) := by decide +kernel
theorem dX5_move_15 : decode cX5_move 15 = .ok (.iload 5, 2) := by decide +kernel
theorem dX5_move_17 : decode cX5_move 17 = .ok (.invokevirtual 25, 3) := by decide +kernel
theorem dX5_move_20 : decode cX5_move 20 = .ok (.ifCond .eq 29, 3) := by decide +kernel
theorem dX5_move_23 : decode cX5_move 23 = .ok (.aload_n 0, 1) := by decide +kernel
theorem dX5_move_24 : decode cX5_move 24 = .ok (.getfield 9, 3) := by decide +kernel
theorem dX5_move_27 : decode cX5_move 27 = .ok (.iload_n 1, 1) := by decide +kernel
theorem dX5_move_28 : decode cX5_move 28 = .ok (.bipush 64, 2) := by decide +kernel
theorem dX5_move_30 : decode cX5_move 30 = .ok (.imul, 1) := by decide +kernel
theorem dX5_move_31 : decode cX5_move 31 = .ok (.iload_n 2, 1) := by decide +kernel
theorem dX5_move_32 : decode cX5_move 32 = .ok (.iadd, 1) := by decide +kernel
theorem dX5_move_33 : decode cX5_move 33 = .ok (.aload_n 0, 1) := by decide +kernel
theorem dX5_move_34 : decode cX5_move 34 = .ok (.getfield 9, 3) := by decide +kernel
theorem dX5_move_37 : decode cX5_move 37 = .ok (.iload_n 3, 1) := by decide +kernel
theorem dX5_move_38 : decode cX5_move 38 = .ok (.bipush 64, 2) := by decide +kernel
theorem dX5_move_40 : decode cX5_move 40 = .ok (.imul, 1) := by decide +kernel
theorem dX5_move_41 : decode cX5_move 41 = .ok (.iload 4, 2) := by decide +kernel
theorem dX5_move_43 : decode cX5_move 43 = .ok (.iadd, 1) := by decide +kernel
theorem dX5_move_44 : decode cX5_move 44 = .ok (.iload 5, 2) := by decide +kernel
theorem dX5_move_46 : decode cX5_move 46 = .ok (.invokestatic 29, 3) := by decide +kernel
theorem dX5_move_49 : decode cX5_move 49 = .ok (.return_, 1) := by decide +kernel
theorem dX6_init_0 : decode cX6_init 0 = .ok (.aload_n 0, 1) := by decide +kernel
theorem dX6_init_1 : decode cX6_init 1 = .ok (.invokespecial 3, 3) := by decide +kernel
theorem dX6_init_4 : decode cX6_init 4 = .ok (.aload_n 0, 1) := by decide +kernel
theorem dX6_init_5 : decode cX6_init 5 = .ok (.ldc 9, 2) := by decide +kernel
theorem dX6_init_7 : decode cX6_init 7 = .ok (.newarray .long, 2) := by decide +kernel
theorem dX6_init_9 : decode cX6_init 9 = .ok (.putfield 10, 3) := by decide +kernel
theorem dX6_init_12 : decode cX6_init 12 = .ok (.aload_n 0, 1) := by decide +kernel
theorem dX6_init_13 : decode cX6_init 13 = .ok (.sipush 8978, 3) := by decide +kernel
theorem dX6_init_16 : decode cX6_init 16 = .ok (.newarray .long, 2) := by decide +kernel
theorem dX6_init_18 : decode cX6_init 18 = .ok (.putfield 16, 3) := by decide +kernel
theorem dX6_init_21 : decode cX6_init 21 = .ok (.aload_n 0, 1) := by decide +kernel
theorem dX6_init_22 : decode cX6_init 22 = .ok (.aload_n 1, 1) := by decide +kernel
theorem dX6_init_23 : decode cX6_init 23 = .ok (.putfield 19, 3) := by decide +kernel
theorem dX6_init_26 : decode cX6_init 26 = .ok (.return_, 1) := by decide +kernel
theorem dX6_forget_0 : decode cX6_forget 0 = .ok (.aload_n 0, 1) := by decide +kernel
theorem dX6_forget_1 : decode cX6_forget 1 = .ok (.iconst 0, 1) := by decide +kernel
theorem dX6_forget_2 : decode cX6_forget 2 = .ok (.putfield 23, 3) := by decide +kernel
theorem dX6_forget_5 : decode cX6_forget 5 = .ok (.return_, 1) := by decide +kernel
set_option maxRecDepth 20000 in
theorem ggX6_prepare_X4_cellB : GoodIn wsX6_prepare wsX4_cellB := goodIn_r _ [9, 10, 11, 12, 13, 8, 14, 71, 72, 73, 74, 75, 76, 77, 78, 79, 80, 81, 82, 83, 84, 85] (by decide +kernel) (by decide +kernel)
set_option maxRecDepth 20000 in
theorem gX6_prepare_X4_cellB : GoodIn wsX6_prepare (wsV RX6 27 RX4 yX4_cellB wsX4_cellB) := goodIn_app (goodIn_of _ (by decide +kernel)) ggX6_prepare_X4_cellB
set_option maxRecDepth 20000 in
theorem ggX6_prepare_X6_begin : GoodIn wsX6_prepare wsX6_begin := goodIn_r _ [19, 3, 20, 21, 22, 8, 23, 24, 25, 26, 27, 18, 28, 29, 30, 31, 13, 14, 32, 33, 34, 35, 67, 68, 69, 70, 71, 72, 73, 74, 75, 76, 77, 78, 79, 80, 81, 82, 83, 84, 85] (by decide +kernel) (by decide +kernel)
set_option maxRecDepth 20000 in
theorem gX6_prepare_X6_begin : GoodIn wsX6_prepare (wsV RX6 33 RX6 yX6_begin wsX6_begin) := goodIn_app (goodIn_of _ (by decide +kernel)) ggX6_prepare_X6_begin
set_option maxRecDepth 20000 in
theorem ggX6_prepare_X4_tallestStep : GoodIn wsX6_prepare wsX4_tallestStep := goodIn_r _ [39, 40, 41, 42, 43, 44, 45, 46, 47, 48, 71, 72, 73, 74, 75, 76, 77, 78, 79, 80, 81, 82, 83, 84, 85] (by decide +kernel) (by decide +kernel)
set_option maxRecDepth 20000 in
theorem gX6_prepare_X4_tallestStep : GoodIn wsX6_prepare (wsV RX6 37 RX4 yX4_tallestStep wsX4_tallestStep) := goodIn_app (goodIn_of _ (by decide +kernel)) ggX6_prepare_X4_tallestStep
set_option maxRecDepth 20000 in
theorem ggX6_prepare_X6_spread : GoodIn wsX6_prepare wsX6_spread := goodIn_r _ [52, 53, 47, 44, 48, 54, 55, 56, 3, 31, 13, 8, 14, 20, 21, 22, 23, 24, 57, 58, 59, 18, 60, 61, 62, 63, 64, 65, 66, 25, 26, 27, 28, 29, 30, 32, 33, 34, 35, 67, 68, 69, 70, 71, 72, 73, 74, 75, 76, 77, 78, 79, 80, 81, 82, 83, 84, 85] (by decide +kernel) (by decide +kernel)
set_option maxRecDepth 20000 in
theorem gX6_prepare_X6_spread : GoodIn wsX6_prepare (wsV RX6 43 RX6 yX6_spread wsX6_spread) := goodIn_app (goodIn_of _ (by decide +kernel)) ggX6_prepare_X6_spread
theorem dX6_prepare_0 : decode cX6_prepare 0 = .ok (.aload_n 0, 1) := by decide +kernel
theorem dX6_prepare_1 : decode cX6_prepare 1 = .ok (.getfield 23, 3) := by decide +kernel
theorem dX6_prepare_4 : decode cX6_prepare 4 = .ok (.ifCond .ne 32, 3) := by decide +kernel
theorem dX6_prepare_7 : decode cX6_prepare 7 = .ok (.aload_n 0, 1) := by decide +kernel
theorem dX6_prepare_8 : decode cX6_prepare 8 = .ok (.aload_n 0, 1) := by decide +kernel
theorem dX6_prepare_9 : decode cX6_prepare 9 = .ok (.getfield 10, 3) := by decide +kernel
theorem dX6_prepare_12 : decode cX6_prepare 12 = .ok (.aload_n 0, 1) := by decide +kernel
theorem dX6_prepare_13 : decode cX6_prepare 13 = .ok (.getfield 19, 3) := by decide +kernel
theorem dX6_prepare_16 : decode cX6_prepare 16 = .ok (.invokevirtual 27, 3) := by decide +kernel
theorem dX6_prepare_19 : decode cX6_prepare 19 = .ok (.aload_n 0, 1) := by decide +kernel
theorem dX6_prepare_20 : decode cX6_prepare 20 = .ok (.getfield 19, 3) := by decide +kernel
theorem dX6_prepare_23 : decode cX6_prepare 23 = .ok (.invokevirtual 27, 3) := by decide +kernel
theorem dX6_prepare_26 : decode cX6_prepare 26 = .ok (.iconst 1, 1) := by decide +kernel
theorem dX6_prepare_27 : decode cX6_prepare 27 = .ok (.iadd, 1) := by decide +kernel
theorem dX6_prepare_28 : decode cX6_prepare 28 = .ok (.invokevirtual 33, 3) := by decide +kernel
theorem dX6_prepare_31 : decode cX6_prepare 31 = .ok (.aload_n 0, 1) := by decide +kernel
theorem dX6_prepare_32 : decode cX6_prepare 32 = .ok (.iconst 1, 1) := by decide +kernel
theorem dX6_prepare_33 : decode cX6_prepare 33 = .ok (.putfield 23, 3) := by decide +kernel
theorem dX6_prepare_36 : decode cX6_prepare 36 = .ok (.aload_n 0, 1) := by decide +kernel
theorem dX6_prepare_37 : decode cX6_prepare 37 = .ok (.getfield 19, 3) := by decide +kernel
theorem dX6_prepare_40 : decode cX6_prepare 40 = .ok (.invokevirtual 37, 3) := by decide +kernel
theorem dX6_prepare_43 : decode cX6_prepare 43 = .ok (.istore_n 2, 1) := by decide +kernel
theorem dX6_prepare_44 : decode cX6_prepare 44 = .ok (.aload_n 0, 1) := by decide +kernel
theorem dX6_prepare_45 : decode cX6_prepare 45 = .ok (.getfield 23, 3) := by decide +kernel
theorem dX6_prepare_48 : decode cX6_prepare 48 = .ok (.iload_n 1, 1) := by decide +kernel
theorem dX6_prepare_49 : decode cX6_prepare 49 = .ok (.if_icmp .gt 64, 3) := by decide +kernel
theorem dX6_prepare_52 : decode cX6_prepare 52 = .ok (.aload_n 0, 1) := by decide +kernel
theorem dX6_prepare_53 : decode cX6_prepare 53 = .ok (.getfield 23, 3) := by decide +kernel
theorem dX6_prepare_56 : decode cX6_prepare 56 = .ok (.bipush 60, 2) := by decide +kernel
theorem dX6_prepare_58 : decode cX6_prepare 58 = .ok (.if_icmp .gt 55, 3) := by decide +kernel
theorem dX6_prepare_61 : decode cX6_prepare 61 = .ok (.aload_n 0, 1) := by decide +kernel
theorem dX6_prepare_62 : decode cX6_prepare 62 = .ok (.aload_n 0, 1) := by decide +kernel
theorem dX6_prepare_63 : decode cX6_prepare 63 = .ok (.getfield 10, 3) := by decide +kernel
theorem dX6_prepare_66 : decode cX6_prepare 66 = .ok (.aload_n 0, 1) := by decide +kernel
theorem dX6_prepare_67 : decode cX6_prepare 67 = .ok (.getfield 23, 3) := by decide +kernel
theorem dX6_prepare_70 : decode cX6_prepare 70 = .ok (.iconst 1, 1) := by decide +kernel
theorem dX6_prepare_71 : decode cX6_prepare 71 = .ok (.isub, 1) := by decide +kernel
theorem dX6_prepare_72 : decode cX6_prepare 72 = .ok (.sipush 4489, 3) := by decide +kernel
theorem dX6_prepare_75 : decode cX6_prepare 75 = .ok (.imul, 1) := by decide +kernel
theorem dX6_prepare_76 : decode cX6_prepare 76 = .ok (.aload_n 0, 1) := by decide +kernel
theorem dX6_prepare_77 : decode cX6_prepare 77 = .ok (.getfield 23, 3) := by decide +kernel
theorem dX6_prepare_80 : decode cX6_prepare 80 = .ok (.sipush 4489, 3) := by decide +kernel
theorem dX6_prepare_83 : decode cX6_prepare 83 = .ok (.imul, 1) := by decide +kernel
theorem dX6_prepare_84 : decode cX6_prepare 84 = .ok (.aload_n 0, 1) := by decide +kernel
theorem dX6_prepare_85 : decode cX6_prepare 85 = .ok (.getfield 19, 3) := by decide +kernel
theorem dX6_prepare_88 : decode cX6_prepare 88 = .ok (.getfield 40, 3) := by decide +kernel
theorem dX6_prepare_91 : decode cX6_prepare 91 = .ok (.iload_n 2, 1) := by decide +kernel
theorem dX6_prepare_92 : decode cX6_prepare 92 = .ok (.aload_n 0, 1) := by decide +kernel
theorem dX6_prepare_93 : decode cX6_prepare 93 = .ok (.getfield 23, 3) := by decide +kernel
theorem dX6_prepare_96 : decode cX6_prepare 96 = .ok (.imul, 1) := by decide +kernel
theorem dX6_prepare_97 : decode cX6_prepare 97 = .ok (.invokevirtual 43, 3) := by decide +kernel
theorem dX6_prepare_100 : decode cX6_prepare 100 = .ok (.aload_n 0, 1) := by decide +kernel
theorem dX6_prepare_101 : decode cX6_prepare 101 = .ok (.dup, 1) := by decide +kernel
theorem dX6_prepare_102 : decode cX6_prepare 102 = .ok (.getfield 23, 3) := by decide +kernel
theorem dX6_prepare_105 : decode cX6_prepare 105 = .ok (.iconst 1, 1) := by decide +kernel
theorem dX6_prepare_106 : decode cX6_prepare 106 = .ok (.iadd, 1) := by decide +kernel
theorem dX6_prepare_107 : decode cX6_prepare 107 = .ok (.putfield 23, 3) := by decide +kernel
theorem dX6_prepare_110 : decode cX6_prepare 110 = .ok (.goto (-66), 3) := by decide +kernel
theorem dX6_prepare_113 : decode cX6_prepare 113 = .ok (.return_, 1) := by decide +kernel
theorem dX6_onward_0 : decode cX6_onward 0 = .ok (.iload_n 1, 1) := by decide +kernel
theorem dX6_onward_1 : decode cX6_onward 1 = .ok (.ifCond .lt 28, 3) := by decide +kernel
theorem dX6_onward_4 : decode cX6_onward 4 = .ok (.iload_n 1, 1) := by decide +kernel
theorem dX6_onward_5 : decode cX6_onward 5 = .ok (.aload_n 0, 1) := by decide +kernel
theorem dX6_onward_6 : decode cX6_onward 6 = .ok (.getfield 23, 3) := by decide +kernel
theorem dX6_onward_9 : decode cX6_onward 9 = .ok (.if_icmp .ge 20, 3) := by decide +kernel
theorem dX6_onward_12 : decode cX6_onward 12 = .ok (.iload_n 1, 1) := by decide +kernel
theorem dX6_onward_13 : decode cX6_onward 13 = .ok (.bipush 60, 2) := by decide +kernel
theorem dX6_onward_15 : decode cX6_onward 15 = .ok (.if_icmp .gt 14, 3) := by decide +kernel
theorem dX6_onward_18 : decode cX6_onward 18 = .ok (.iload_n 2, 1) := by decide +kernel
theorem dX6_onward_19 : decode cX6_onward 19 = .ok (.ifCond .lt 10, 3) := by decide +kernel
theorem dX6_onward_22 : decode cX6_onward 22 = .ok (.iload_n 2, 1) := by decide +kernel
theorem dX6_onward_23 : decode cX6_onward 23 = .ok (.sipush 4489, 3) := by decide +kernel
theorem dX6_onward_26 : decode cX6_onward 26 = .ok (.if_icmp .lt 5, 3) := by decide +kernel
theorem dX6_onward_29 : decode cX6_onward 29 = .ok (.lconst 0, 1) := by decide +kernel
theorem dX6_onward_30 : decode cX6_onward 30 = .ok (.lreturn, 1) := by decide +kernel
theorem dX6_onward_31 : decode cX6_onward 31 = .ok (.aload_n 0, 1) := by decide +kernel
theorem dX6_onward_32 : decode cX6_onward 32 = .ok (.getfield 10, 3) := by decide +kernel
theorem dX6_onward_35 : decode cX6_onward 35 = .ok (.iload_n 1, 1) := by decide +kernel
theorem dX6_onward_36 : decode cX6_onward 36 = .ok (.sipush 4489, 3) := by decide +kernel
theorem dX6_onward_39 : decode cX6_onward 39 = .ok (.imul, 1) := by decide +kernel
theorem dX6_onward_40 : decode cX6_onward 40 = .ok (.iload_n 2, 1) := by decide +kernel
theorem dX6_onward_41 : decode cX6_onward 41 = .ok (.iadd, 1) := by decide +kernel
theorem dX6_onward_42 : decode cX6_onward 42 = .ok (.laload, 1) := by decide +kernel
theorem dX6_onward_43 : decode cX6_onward 43 = .ok (.lreturn, 1) := by decide +kernel
set_option maxRecDepth 20000 in
theorem ggX6_anywhere_X6_begin : GoodIn wsX6_anywhere wsX6_begin := goodIn_r _ [8, 2, 9, 10, 11, 12, 13, 14, 15, 16, 17, 7, 18, 19, 20, 21, 22, 23, 24, 25, 26, 27, 66, 67, 68, 69, 70, 71, 72, 73, 74, 75, 76, 77, 78, 79, 80, 81, 82, 83, 84] (by decide +kernel) (by decide +kernel)
set_option maxRecDepth 20000 in
theorem gX6_anywhere_X6_begin : GoodIn wsX6_anywhere (wsV RX6 33 RX6 yX6_begin wsX6_begin) := goodIn_app (goodIn_of _ (by decide +kernel)) ggX6_anywhere_X6_begin
set_option maxRecDepth 20000 in
theorem ggX6_anywhere_X4_tallestStep : GoodIn wsX6_anywhere wsX4_tallestStep := goodIn_r _ [31, 32, 33, 34, 35, 36, 37, 38, 39, 40, 70, 71, 72, 73, 74, 75, 76, 77, 78, 79, 80, 81, 82, 83, 84] (by decide +kernel) (by decide +kernel)
set_option maxRecDepth 20000 in
theorem gX6_anywhere_X4_tallestStep : GoodIn wsX6_anywhere (wsV RX6 37 RX4 yX4_tallestStep wsX4_tallestStep) := goodIn_app (goodIn_of _ (by decide +kernel)) ggX6_anywhere_X4_tallestStep
set_option maxRecDepth 20000 in
theorem ggX6_anywhere_X6_spread : GoodIn wsX6_anywhere wsX6_spread := goodIn_r _ [44, 45, 39, 36, 40, 46, 47, 48, 2, 21, 22, 12, 23, 9, 10, 11, 13, 14, 49, 50, 51, 7, 52, 53, 54, 55, 56, 57, 58, 15, 16, 17, 18, 19, 20, 24, 25, 26, 27, 66, 67, 68, 69, 70, 71, 72, 73, 74, 75, 76, 77, 78, 79, 80, 81, 82, 83, 84] (by decide +kernel) (by decide +kernel)
set_option maxRecDepth 20000 in
theorem gX6_anywhere_X6_spread : GoodIn wsX6_anywhere (wsV RX6 43 RX6 yX6_spread wsX6_spread) := goodIn_app (goodIn_of _ (by decide +kernel)) ggX6_anywhere_X6_spread
set_option maxRecDepth 20000 in
theorem ggX6_anywhere_X4_cellA : GoodIn wsX6_anywhere wsX4_cellA := goodIn_r _ [62, 63, 64, 65, 22, 12, 23, 70, 71, 72, 73, 74, 75, 76, 77, 78, 79, 80, 81, 82, 83, 84] (by decide +kernel) (by decide +kernel)
set_option maxRecDepth 20000 in
theorem gX6_anywhere_X4_cellA : GoodIn wsX6_anywhere (wsV RX6 50 RX4 yX4_cellA wsX4_cellA) := goodIn_app (goodIn_of _ (by decide +kernel)) ggX6_anywhere_X4_cellA
theorem dX6_anywhere_0 : decode cX6_anywhere 0 = .ok (.aload_n 0, 1) := by decide +kernel
theorem dX6_anywhere_1 : decode cX6_anywhere 1 = .ok (.aload_n 0, 1) := by decide +kernel
theorem dX6_anywhere_2 : decode cX6_anywhere 2 = .ok (.getfield 16, 3) := by decide +kernel
theorem dX6_anywhere_5 : decode cX6_anywhere 5 = .ok (.iconst 0, 1) := by decide +kernel
theorem dX6_anywhere_6 : decode cX6_anywhere 6 = .ok (.sipush 4489, 3) := by decide +kernel
theorem dX6_anywhere_9 : decode cX6_anywhere 9 = .ok (.invokevirtual 33, 3) := by decide +kernel
theorem dX6_anywhere_12 : decode cX6_anywhere 12 = .ok (.aload_n 0, 1) := by decide +kernel
theorem dX6_anywhere_13 : decode cX6_anywhere 13 = .ok (.getfield 19, 3) := by decide +kernel
theorem dX6_anywhere_16 : decode cX6_anywhere 16 = .ok (.invokevirtual 37, 3) := by decide +kernel
theorem dX6_anywhere_19 : decode cX6_anywhere 19 = .ok (.istore_n 2, 1) := by decide +kernel
theorem dX6_anywhere_20 : decode cX6_anywhere 20 = .ok (.iconst 0, 1) := by decide +kernel
theorem dX6_anywhere_21 : decode cX6_anywhere 21 = .ok (.istore_n 3, 1) := by decide +kernel
theorem dX6_anywhere_22 : decode cX6_anywhere 22 = .ok (.iconst 1, 1) := by decide +kernel
theorem dX6_anywhere_23 : decode cX6_anywhere 23 = .ok (.istore 4, 2) := by decide +kernel
theorem dX6_anywhere_25 : decode cX6_anywhere 25 = .ok (.iload 4, 2) := by decide +kernel
theorem dX6_anywhere_27 : decode cX6_anywhere 27 = .ok (.iload_n 1, 1) := by decide +kernel
theorem dX6_anywhere_28 : decode cX6_anywhere 28 = .ok (.if_icmp .gt 42, 3) := by decide +kernel
theorem dX6_anywhere_31 : decode cX6_anywhere 31 = .ok (.aload_n 0, 1) := by decide +kernel
theorem dX6_anywhere_32 : decode cX6_anywhere 32 = .ok (.aload_n 0, 1) := by decide +kernel
theorem dX6_anywhere_33 : decode cX6_anywhere 33 = .ok (.getfield 16, 3) := by decide +kernel
theorem dX6_anywhere_36 : decode cX6_anywhere 36 = .ok (.iload_n 3, 1) := by decide +kernel
theorem dX6_anywhere_37 : decode cX6_anywhere 37 = .ok (.sipush 4489, 3) := by decide +kernel
theorem dX6_anywhere_40 : decode cX6_anywhere 40 = .ok (.iload_n 3, 1) := by decide +kernel
theorem dX6_anywhere_41 : decode cX6_anywhere 41 = .ok (.isub, 1) := by decide +kernel
theorem dX6_anywhere_42 : decode cX6_anywhere 42 = .ok (.aload_n 0, 1) := by decide +kernel
theorem dX6_anywhere_43 : decode cX6_anywhere 43 = .ok (.getfield 19, 3) := by decide +kernel
theorem dX6_anywhere_46 : decode cX6_anywhere 46 = .ok (.getfield 47, 3) := by decide +kernel
theorem dX6_anywhere_49 : decode cX6_anywhere 49 = .ok (.iload_n 2, 1) := by decide +kernel
theorem dX6_anywhere_50 : decode cX6_anywhere 50 = .ok (.iload_n 1, 1) := by decide +kernel
theorem dX6_anywhere_51 : decode cX6_anywhere 51 = .ok (.iload 4, 2) := by decide +kernel
theorem dX6_anywhere_53 : decode cX6_anywhere 53 = .ok (.isub, 1) := by decide +kernel
theorem dX6_anywhere_54 : decode cX6_anywhere 54 = .ok (.imul, 1) := by decide +kernel
theorem dX6_anywhere_55 : decode cX6_anywhere 55 = .ok (.invokevirtual 43, 3) := by decide +kernel
theorem dX6_anywhere_58 : decode cX6_anywhere 58 = .ok (.sipush 4489, 3) := by decide +kernel
theorem dX6_anywhere_61 : decode cX6_anywhere 61 = .ok (.iload_n 3, 1) := by decide +kernel
theorem dX6_anywhere_62 : decode cX6_anywhere 62 = .ok (.isub, 1) := by decide +kernel
theorem dX6_anywhere_63 : decode cX6_anywhere 63 = .ok (.istore_n 3, 1) := by decide +kernel
theorem dX6_anywhere_64 : decode cX6_anywhere 64 = .ok (.iinc 4 1, 3) := by decide +kernel
theorem dX6_anywhere_67 : decode cX6_anywhere 67 = .ok (.goto (-42), 3) := by decide +kernel
theorem dX6_anywhere_70 : decode cX6_anywhere 70 = .ok (.aload_n 0, 1) := by decide +kernel
theorem dX6_anywhere_71 : decode cX6_anywhere 71 = .ok (.getfield 16, 3) := by decide +kernel
theorem dX6_anywhere_74 : decode cX6_anywhere 74 = .ok (.iload_n 3, 1) := by decide +kernel
theorem dX6_anywhere_75 : decode cX6_anywhere 75 = .ok (.aload_n 0, 1) := by decide +kernel
theorem dX6_anywhere_76 : decode cX6_anywhere 76 = .ok (.getfield 19, 3) := by decide +kernel
theorem dX6_anywhere_79 : decode cX6_anywhere 79 = .ok (.invokevirtual 50, 3) := by decide +kernel
theorem dX6_anywhere_82 : decode cX6_anywhere 82 = .ok (.iadd, 1) := by decide +kernel
theorem dX6_anywhere_83 : decode cX6_anywhere 83 = .ok (.laload, 1) := by decide +kernel
theorem dX6_anywhere_84 : decode cX6_anywhere 84 = .ok (.lreturn, 1) := by decide +kernel
set_option maxRecDepth 20000 in
theorem ggX6_begin_X4_isPassable : GoodIn wsX6_begin wsX4_isPassable := goodIn_r _ [6, 7, 26, 27, 28, 29, 30, 31, 32, 33, 34, 35, 36, 37, 38, 39, 40] (by decide +kernel) (by decide +kernel)
set_option maxRecDepth 20000 in
theorem gX6_begin_X4_isPassable : GoodIn wsX6_begin (wsV RX6 53 RX4 yX4_isPassable wsX4_isPassable) := goodIn_app (goodIn_of _ (by decide +kernel)) ggX6_begin_X4_isPassable
set_option maxRecDepth 20000 in
theorem ggX6_begin_X6_closeRing : GoodIn wsX6_begin wsX6_closeRing := goodIn_r _ [12, 1, 13, 14, 15, 16, 5, 17, 18, 19, 20, 21, 22, 23, 24, 25, 26, 27, 28, 29, 30, 31, 32, 33, 34, 35, 36, 37, 38, 39, 40] (by decide +kernel) (by decide +kernel)
set_option maxRecDepth 20000 in
theorem gX6_begin_X6_closeRing : GoodIn wsX6_begin (wsV RX6 57 RX6 yX6_closeRing wsX6_closeRing) := goodIn_app (goodIn_of _ (by decide +kernel)) ggX6_begin_X6_closeRing
theorem dX6_begin_0 : decode cX6_begin 0 = .ok (.iconst 0, 1) := by decide +kernel
theorem dX6_begin_1 : decode cX6_begin 1 = .ok (.istore 4, 2) := by decide +kernel
theorem dX6_begin_3 : decode cX6_begin 3 = .ok (.iload 4, 2) := by decide +kernel
theorem dX6_begin_5 : decode cX6_begin 5 = .ok (.sipush 4489, 3) := by decide +kernel
theorem dX6_begin_8 : decode cX6_begin 8 = .ok (.if_icmp .ge 42, 3) := by decide +kernel
theorem dX6_begin_11 : decode cX6_begin 11 = .ok (.aload_n 1, 1) := by decide +kernel
theorem dX6_begin_12 : decode cX6_begin 12 = .ok (.iload 4, 2) := by decide +kernel
theorem dX6_begin_14 : decode cX6_begin 14 = .ok (.iload 4, 2) := by decide +kernel
theorem dX6_begin_16 : decode cX6_begin 16 = .ok (.iload_n 2, 1) := by decide +kernel
theorem dX6_begin_17 : decode cX6_begin 17 = .ok (.if_icmp .lt 25, 3) := by decide +kernel
theorem dX6_begin_20 : decode cX6_begin 20 = .ok (.iload 4, 2) := by decide +kernel
theorem dX6_begin_22 : decode cX6_begin 22 = .ok (.iload_n 3, 1) := by decide +kernel
theorem dX6_begin_23 : decode cX6_begin 23 = .ok (.if_icmp .ge 19, 3) := by decide +kernel
theorem dX6_begin_26 : decode cX6_begin 26 = .ok (.aload_n 0, 1) := by decide +kernel
theorem dX6_begin_27 : decode cX6_begin 27 = .ok (.getfield 19, 3) := by decide +kernel
theorem dX6_begin_30 : decode cX6_begin 30 = .ok (.iload 4, 2) := by decide +kernel
theorem dX6_begin_32 : decode cX6_begin 32 = .ok (.invokevirtual 53, 3) := by decide +kernel
theorem dX6_begin_35 : decode cX6_begin 35 = .ok (.ifCond .eq 7, 3) := by decide +kernel
theorem dX6_begin_38 : decode cX6_begin 38 = .ok (.lconst 1, 1) := by decide +kernel
theorem dX6_begin_39 : decode cX6_begin 39 = .ok (.goto 4, 3) := by decide +kernel
theorem dX6_begin_42 : decode cX6_begin 42 = .ok (.lconst 0, 1) := by decide +kernel
theorem dX6_begin_43 : decode cX6_begin 43 = .ok (.lastore, 1) := by decide +kernel
theorem dX6_begin_44 : decode cX6_begin 44 = .ok (.iinc 4 1, 3) := by decide +kernel
theorem dX6_begin_47 : decode cX6_begin 47 = .ok (.goto (-44), 3) := by decide +kernel
theorem dX6_begin_50 : decode cX6_begin 50 = .ok (.aload_n 0, 1) := by decide +kernel
theorem dX6_begin_51 : decode cX6_begin 51 = .ok (.aload_n 1, 1) := by decide +kernel
theorem dX6_begin_52 : decode cX6_begin 52 = .ok (.iconst 0, 1) := by decide +kernel
theorem dX6_begin_53 : decode cX6_begin 53 = .ok (.invokevirtual 57, 3) := by decide +kernel
theorem dX6_begin_56 : decode cX6_begin 56 = .ok (.return_, 1) := by decide +kernel
set_option maxRecDepth 20000 in
theorem ggX6_spread_X4_cellOf : GoodIn wsX6_spread wsX4_cellOf := goodIn_r _ [12] (by decide +kernel) (by decide +kernel)
set_option maxRecDepth 20000 in
theorem gX6_spread_X4_cellOf : GoodIn wsX6_spread (va_wsS RX6 67 yX4_cellOf wsX4_cellOf) := goodIn_app (goodIn_of _ (by decide +kernel)) ggX6_spread_X4_cellOf
set_option maxRecDepth 20000 in
theorem ggX6_spread_X4_isPassable : GoodIn wsX6_spread wsX4_isPassable := goodIn_r _ [16, 17, 43, 44, 45, 46, 47, 48, 49, 50, 51, 52, 53, 54, 55, 56, 57] (by decide +kernel) (by decide +kernel)
set_option maxRecDepth 20000 in
theorem gX6_spread_X4_isPassable : GoodIn wsX6_spread (wsV RX6 53 RX4 yX4_isPassable wsX4_isPassable) := goodIn_app (goodIn_of _ (by decide +kernel)) ggX6_spread_X4_isPassable
set_option maxRecDepth 20000 in
theorem ggX6_spread_X6_sumAhead : GoodIn wsX6_spread wsX6_sumAhead := goodIn_r _ [22, 8, 23, 24, 25, 26, 27, 3, 28, 39, 40, 41, 42, 43, 44, 45, 46, 47, 48, 49, 50, 51, 52, 53, 54, 55, 56, 57] (by decide +kernel) (by decide +kernel)
set_option maxRecDepth 20000 in
theorem gX6_spread_X6_sumAhead : GoodIn wsX6_spread (wsV RX6 73 RX6 yX6_sumAhead wsX6_sumAhead) := goodIn_app (goodIn_of _ (by decide +kernel)) ggX6_spread_X6_sumAhead
set_option maxRecDepth 20000 in
theorem ggX6_spread_X6_closeRing : GoodIn wsX6_spread wsX6_closeRing := goodIn_r _ [32, 8, 33, 34, 9, 10, 11, 12, 35, 36, 37, 38, 39, 40, 41, 42, 43, 44, 45, 46, 47, 48, 49, 50, 51, 52, 53, 54, 55, 56, 57] (by decide +kernel) (by decide +kernel)
set_option maxRecDepth 20000 in
theorem gX6_spread_X6_closeRing : GoodIn wsX6_spread (wsV RX6 57 RX6 yX6_closeRing wsX6_closeRing) := goodIn_app (goodIn_of _ (by decide +kernel)) ggX6_spread_X6_closeRing
theorem dX6_spread_0 : decode cX6_spread 0 = .ok (.bipush (-33), 2) := by decide +kernel
theorem dX6_spread_2 : decode cX6_spread 2 = .ok (.iload 4, 2) := by decide +kernel
theorem dX6_spread_4 : decode cX6_spread 4 = .ok (.iload 5, 2) := by decide +kernel
theorem dX6_spread_6 : decode cX6_spread 6 = .ok (.isub, 1) := by decide +kernel
theorem dX6_spread_7 : decode cX6_spread 7 = .ok (.bipush (-30), 2) := by decide +kernel
theorem dX6_spread_9 : decode cX6_spread 9 = .ok (.invokestatic 61, 3) := by decide +kernel
theorem dX6_spread_12 : decode cX6_spread 12 = .ok (.invokestatic 67, 3) := by decide +kernel
theorem dX6_spread_15 : decode cX6_spread 15 = .ok (.istore 6, 2) := by decide +kernel
theorem dX6_spread_17 : decode cX6_spread 17 = .ok (.bipush (-33), 2) := by decide +kernel
theorem dX6_spread_19 : decode cX6_spread 19 = .ok (.iload 4, 2) := by decide +kernel
theorem dX6_spread_21 : decode cX6_spread 21 = .ok (.iload 5, 2) := by decide +kernel
theorem dX6_spread_23 : decode cX6_spread 23 = .ok (.iadd, 1) := by decide +kernel
theorem dX6_spread_24 : decode cX6_spread 24 = .ok (.bipush 30, 2) := by decide +kernel
theorem dX6_spread_26 : decode cX6_spread 26 = .ok (.invokestatic 70, 3) := by decide +kernel
theorem dX6_spread_29 : decode cX6_spread 29 = .ok (.iconst 1, 1) := by decide +kernel
theorem dX6_spread_30 : decode cX6_spread 30 = .ok (.iadd, 1) := by decide +kernel
theorem dX6_spread_31 : decode cX6_spread 31 = .ok (.invokestatic 67, 3) := by decide +kernel
theorem dX6_spread_34 : decode cX6_spread 34 = .ok (.istore 7, 2) := by decide +kernel
theorem dX6_spread_36 : decode cX6_spread 36 = .ok (.iconst 0, 1) := by decide +kernel
theorem dX6_spread_37 : decode cX6_spread 37 = .ok (.istore 8, 2) := by decide +kernel
theorem dX6_spread_39 : decode cX6_spread 39 = .ok (.iload 8, 2) := by decide +kernel
theorem dX6_spread_41 : decode cX6_spread 41 = .ok (.sipush 4489, 3) := by decide +kernel
theorem dX6_spread_44 : decode cX6_spread 44 = .ok (.if_icmp .ge 66, 3) := by decide +kernel
theorem dX6_spread_47 : decode cX6_spread 47 = .ok (.iload 8, 2) := by decide +kernel
theorem dX6_spread_49 : decode cX6_spread 49 = .ok (.iload 6, 2) := by decide +kernel
theorem dX6_spread_51 : decode cX6_spread 51 = .ok (.if_icmp .lt 26, 3) := by decide +kernel
theorem dX6_spread_54 : decode cX6_spread 54 = .ok (.iload 8, 2) := by decide +kernel
theorem dX6_spread_56 : decode cX6_spread 56 = .ok (.iload 7, 2) := by decide +kernel
theorem dX6_spread_58 : decode cX6_spread 58 = .ok (.if_icmp .ge 19, 3) := by decide +kernel
theorem dX6_spread_61 : decode cX6_spread 61 = .ok (.aload_n 0, 1) := by decide +kernel
theorem dX6_spread_62 : decode cX6_spread 62 = .ok (.getfield 19, 3) := by decide +kernel
theorem dX6_spread_65 : decode cX6_spread 65 = .ok (.iload 8, 2) := by decide +kernel
theorem dX6_spread_67 : decode cX6_spread 67 = .ok (.invokevirtual 53, 3) := by decide +kernel
theorem dX6_spread_70 : decode cX6_spread 70 = .ok (.ifCond .eq 7, 3) := by decide +kernel
theorem dX6_spread_73 : decode cX6_spread 73 = .ok (.iconst 1, 1) := by decide +kernel
theorem dX6_spread_74 : decode cX6_spread 74 = .ok (.goto 4, 3) := by decide +kernel
theorem dX6_spread_77 : decode cX6_spread 77 = .ok (.iconst 0, 1) := by decide +kernel
theorem dX6_spread_78 : decode cX6_spread 78 = .ok (.istore 9, 2) := by decide +kernel
theorem dX6_spread_80 : decode cX6_spread 80 = .ok (.aload_n 1, 1) := by decide +kernel
theorem dX6_spread_81 : decode cX6_spread 81 = .ok (.iload_n 3, 1) := by decide +kernel
theorem dX6_spread_82 : decode cX6_spread 82 = .ok (.iload 8, 2) := by decide +kernel
theorem dX6_spread_84 : decode cX6_spread 84 = .ok (.iadd, 1) := by decide +kernel
theorem dX6_spread_85 : decode cX6_spread 85 = .ok (.iload 9, 2) := by decide +kernel
theorem dX6_spread_87 : decode cX6_spread 87 = .ok (.ifCond .eq 15, 3) := by decide +kernel
theorem dX6_spread_90 : decode cX6_spread 90 = .ok (.aload_n 0, 1) := by decide +kernel
theorem dX6_spread_91 : decode cX6_spread 91 = .ok (.aload_n 1, 1) := by decide +kernel
theorem dX6_spread_92 : decode cX6_spread 92 = .ok (.iload_n 2, 1) := by decide +kernel
theorem dX6_spread_93 : decode cX6_spread 93 = .ok (.iload 8, 2) := by decide +kernel
theorem dX6_spread_95 : decode cX6_spread 95 = .ok (.iadd, 1) := by decide +kernel
theorem dX6_spread_96 : decode cX6_spread 96 = .ok (.invokevirtual 73, 3) := by decide +kernel
theorem dX6_spread_99 : decode cX6_spread 99 = .ok (.goto 4, 3) := by decide +kernel
theorem dX6_spread_102 : decode cX6_spread 102 = .ok (.lconst 0, 1) := by decide +kernel
theorem dX6_spread_103 : decode cX6_spread 103 = .ok (.lastore, 1) := by decide +kernel
theorem dX6_spread_104 : decode cX6_spread 104 = .ok (.iinc 8 1, 3) := by decide +kernel
theorem dX6_spread_107 : decode cX6_spread 107 = .ok (.goto (-68), 3) := by decide +kernel
theorem dX6_spread_110 : decode cX6_spread 110 = .ok (.aload_n 0, 1) := by decide +kernel
theorem dX6_spread_111 : decode cX6_spread 111 = .ok (.aload_n 1, 1) := by decide +kernel
theorem dX6_spread_112 : decode cX6_spread 112 = .ok (.iload_n 3, 1) := by decide +kernel
theorem dX6_spread_113 : decode cX6_spread 113 = .ok (.invokevirtual 57, 3) := by decide +kernel
theorem dX6_spread_116 : decode cX6_spread 116 = .ok (.return_, 1) := by decide +kernel
theorem dX6_sumAhead_0 : decode cX6_sumAhead 0 = .ok (.lconst 0, 1) := by decide +kernel
theorem dX6_sumAhead_1 : decode cX6_sumAhead 1 = .ok (.lstore_n 3, 1) := by decide +kernel
theorem dX6_sumAhead_2 : decode cX6_sumAhead 2 = .ok (.iconst 0, 1) := by decide +kernel
theorem dX6_sumAhead_3 : decode cX6_sumAhead 3 = .ok (.istore 5, 2) := by decide +kernel
theorem dX6_sumAhead_5 : decode cX6_sumAhead 5 = .ok (.iload 5, 2) := by decide +kernel
theorem dX6_sumAhead_7 : decode cX6_sumAhead 7 = .ok (.aload_n 0, 1) := by decide +kernel
theorem dX6_sumAhead_8 : decode cX6_sumAhead 8 = .ok (.getfield 19, 3) := by decide +kernel
theorem dX6_sumAhead_11 : decode cX6_sumAhead 11 = .ok (.getfield 77, 3) := by decide +kernel
theorem dX6_sumAhead_14 : decode cX6_sumAhead 14 = .ok (.if_icmp .ge 34, 3) := by decide +kernel
theorem dX6_sumAhead_17 : decode cX6_sumAhead 17 = .ok (.lload_n 3, 1) := by decide +kernel
theorem dX6_sumAhead_18 : decode cX6_sumAhead 18 = .ok (.ldc2_w 80, 3) := by decide +kernel
theorem dX6_sumAhead_21 : decode cX6_sumAhead 21 = .ok (.lcmp, 1) := by decide +kernel
theorem dX6_sumAhead_22 : decode cX6_sumAhead 22 = .ok (.ifCond .ge 26, 3) := by decide +kernel
theorem dX6_sumAhead_25 : decode cX6_sumAhead 25 = .ok (.lload_n 3, 1) := by decide +kernel
theorem dX6_sumAhead_26 : decode cX6_sumAhead 26 = .ok (.aload_n 1, 1) := by decide +kernel
theorem dX6_sumAhead_27 : decode cX6_sumAhead 27 = .ok (.iload_n 2, 1) := by decide +kernel
theorem dX6_sumAhead_28 : decode cX6_sumAhead 28 = .ok (.aload_n 0, 1) := by decide +kernel
theorem dX6_sumAhead_29 : decode cX6_sumAhead 29 = .ok (.getfield 19, 3) := by decide +kernel
theorem dX6_sumAhead_32 : decode cX6_sumAhead 32 = .ok (.getfield 82, 3) := by decide +kernel
theorem dX6_sumAhead_35 : decode cX6_sumAhead 35 = .ok (.iload 5, 2) := by decide +kernel
theorem dX6_sumAhead_37 : decode cX6_sumAhead 37 = .ok (.iaload, 1) := by decide +kernel
theorem dX6_sumAhead_38 : decode cX6_sumAhead 38 = .ok (.iadd, 1) := by decide +kernel
theorem dX6_sumAhead_39 : decode cX6_sumAhead 39 = .ok (.laload, 1) := by decide +kernel
theorem dX6_sumAhead_40 : decode cX6_sumAhead 40 = .ok (.ladd, 1) := by decide +kernel
theorem dX6_sumAhead_41 : decode cX6_sumAhead 41 = .ok (.lstore_n 3, 1) := by decide +kernel
theorem dX6_sumAhead_42 : decode cX6_sumAhead 42 = .ok (.iinc 5 1, 3) := by decide +kernel
theorem dX6_sumAhead_45 : decode cX6_sumAhead 45 = .ok (.goto (-40), 3) := by decide +kernel
theorem dX6_sumAhead_48 : decode cX6_sumAhead 48 = .ok (.lload_n 3, 1) := by decide +kernel
theorem dX6_sumAhead_49 : decode cX6_sumAhead 49 = .ok (.ldc2_w 80, 3) := by decide +kernel
theorem dX6_sumAhead_52 : decode cX6_sumAhead 52 = .ok (.invokestatic 86, 3) := by decide +kernel
theorem dX6_sumAhead_55 : decode cX6_sumAhead 55 = .ok (.lreturn, 1) := by decide +kernel
set_option maxRecDepth 20000 in
theorem ggX6_closeRing_X4_cellOf : GoodIn wsX6_closeRing wsX4_cellOf := goodIn_r _ [7] (by decide +kernel) (by decide +kernel)
set_option maxRecDepth 20000 in
theorem gX6_closeRing_X4_cellOf : GoodIn wsX6_closeRing (va_wsS RX6 67 yX4_cellOf wsX4_cellOf) := goodIn_app (goodIn_of _ (by decide +kernel)) ggX6_closeRing_X4_cellOf
set_option maxRecDepth 20000 in
theorem ggX6_closeRing_J9_floorMod_7cf53 : GoodIn wsX6_closeRing wsJ9_floorMod_7cf53 := goodIn_r _ [11] (by decide +kernel) (by decide +kernel)
set_option maxRecDepth 20000 in
theorem gX6_closeRing_J9_floorMod_7cf53 : GoodIn wsX6_closeRing (va_wsS RX6 95 yJ9_floorMod_7cf53 wsJ9_floorMod_7cf53) := goodIn_app (goodIn_of _ (by decide +kernel)) ggX6_closeRing_J9_floorMod_7cf53
theorem dX6_closeRing_0 : decode cX6_closeRing 0 = .ok (.aload_n 0, 1) := by decide +kernel
theorem dX6_closeRing_1 : decode cX6_closeRing 1 = .ok (.getfield 19, 3) := by decide +kernel
theorem dX6_closeRing_4 : decode cX6_closeRing 4 = .ok (.getfield 89, 3) := by decide +kernel
theorem dX6_closeRing_7 : decode cX6_closeRing 7 = .ok (.iconst 4, 1) := by decide +kernel
theorem dX6_closeRing_8 : decode cX6_closeRing 8 = .ok (.if_icmp .ne 14, 3) := by decide +kernel
theorem dX6_closeRing_11 : decode cX6_closeRing 11 = .ok (.aload_n 0, 1) := by decide +kernel
theorem dX6_closeRing_12 : decode cX6_closeRing 12 = .ok (.getfield 19, 3) := by decide +kernel
theorem dX6_closeRing_15 : decode cX6_closeRing 15 = .ok (.getfield 92, 3) := by decide +kernel
theorem dX6_closeRing_18 : decode cX6_closeRing 18 = .ok (.iconst 1, 1) := by decide +kernel
theorem dX6_closeRing_19 : decode cX6_closeRing 19 = .ok (.if_icmp .ge 4, 3) := by decide +kernel
theorem dX6_closeRing_22 : decode cX6_closeRing 22 = .ok (.return_, 1) := by decide +kernel
theorem dX6_closeRing_23 : decode cX6_closeRing 23 = .ok (.bipush (-30), 2) := by decide +kernel
theorem dX6_closeRing_25 : decode cX6_closeRing 25 = .ok (.istore_n 3, 1) := by decide +kernel
theorem dX6_closeRing_26 : decode cX6_closeRing 26 = .ok (.iload_n 3, 1) := by decide +kernel
theorem dX6_closeRing_27 : decode cX6_closeRing 27 = .ok (.bipush 30, 2) := by decide +kernel
theorem dX6_closeRing_29 : decode cX6_closeRing 29 = .ok (.if_icmp .gt 91, 3) := by decide +kernel
theorem dX6_closeRing_32 : decode cX6_closeRing 32 = .ok (.iload_n 2, 1) := by decide +kernel
theorem dX6_closeRing_33 : decode cX6_closeRing 33 = .ok (.iconst 0, 1) := by decide +kernel
theorem dX6_closeRing_34 : decode cX6_closeRing 34 = .ok (.iload_n 3, 1) := by decide +kernel
theorem dX6_closeRing_35 : decode cX6_closeRing 35 = .ok (.invokestatic 67, 3) := by decide +kernel
theorem dX6_closeRing_38 : decode cX6_closeRing 38 = .ok (.iadd, 1) := by decide +kernel
theorem dX6_closeRing_39 : decode cX6_closeRing 39 = .ok (.istore 4, 2) := by decide +kernel
theorem dX6_closeRing_41 : decode cX6_closeRing 41 = .ok (.iconst 0, 1) := by decide +kernel
theorem dX6_closeRing_42 : decode cX6_closeRing 42 = .ok (.istore 5, 2) := by decide +kernel
theorem dX6_closeRing_44 : decode cX6_closeRing 44 = .ok (.iload 5, 2) := by decide +kernel
theorem dX6_closeRing_46 : decode cX6_closeRing 46 = .ok (.iconst 3, 1) := by decide +kernel
theorem dX6_closeRing_47 : decode cX6_closeRing 47 = .ok (.if_icmp .ge 67, 3) := by decide +kernel
theorem dX6_closeRing_50 : decode cX6_closeRing 50 = .ok (.aload_n 1, 1) := by decide +kernel
theorem dX6_closeRing_51 : decode cX6_closeRing 51 = .ok (.iload 4, 2) := by decide +kernel
theorem dX6_closeRing_53 : decode cX6_closeRing 53 = .ok (.iconst 1, 1) := by decide +kernel
theorem dX6_closeRing_54 : decode cX6_closeRing 54 = .ok (.isub, 1) := by decide +kernel
theorem dX6_closeRing_55 : decode cX6_closeRing 55 = .ok (.iload 5, 2) := by decide +kernel
theorem dX6_closeRing_57 : decode cX6_closeRing 57 = .ok (.isub, 1) := by decide +kernel
theorem dX6_closeRing_58 : decode cX6_closeRing 58 = .ok (.aload_n 1, 1) := by decide +kernel
theorem dX6_closeRing_59 : decode cX6_closeRing 59 = .ok (.iload 4, 2) := by decide +kernel
theorem dX6_closeRing_61 : decode cX6_closeRing 61 = .ok (.iconst (-1), 1) := by decide +kernel
theorem dX6_closeRing_62 : decode cX6_closeRing 62 = .ok (.iload 5, 2) := by decide +kernel
theorem dX6_closeRing_64 : decode cX6_closeRing 64 = .ok (.isub, 1) := by decide +kernel
theorem dX6_closeRing_65 : decode cX6_closeRing 65 = .ok (.aload_n 0, 1) := by decide +kernel
theorem dX6_closeRing_66 : decode cX6_closeRing 66 = .ok (.getfield 19, 3) := by decide +kernel
theorem dX6_closeRing_69 : decode cX6_closeRing 69 = .ok (.getfield 92, 3) := by decide +kernel
theorem dX6_closeRing_72 : decode cX6_closeRing 72 = .ok (.invokestatic 95, 3) := by decide +kernel
theorem dX6_closeRing_75 : decode cX6_closeRing 75 = .ok (.iadd, 1) := by decide +kernel
theorem dX6_closeRing_76 : decode cX6_closeRing 76 = .ok (.laload, 1) := by decide +kernel
theorem dX6_closeRing_77 : decode cX6_closeRing 77 = .ok (.lastore, 1) := by decide +kernel
theorem dX6_closeRing_78 : decode cX6_closeRing 78 = .ok (.aload_n 1, 1) := by decide +kernel
theorem dX6_closeRing_79 : decode cX6_closeRing 79 = .ok (.iload 4, 2) := by decide +kernel
theorem dX6_closeRing_81 : decode cX6_closeRing 81 = .ok (.aload_n 0, 1) := by decide +kernel
theorem dX6_closeRing_82 : decode cX6_closeRing 82 = .ok (.getfield 19, 3) := by decide +kernel
theorem dX6_closeRing_85 : decode cX6_closeRing 85 = .ok (.getfield 92, 3) := by decide +kernel
theorem dX6_closeRing_88 : decode cX6_closeRing 88 = .ok (.iadd, 1) := by decide +kernel
theorem dX6_closeRing_89 : decode cX6_closeRing 89 = .ok (.iload 5, 2) := by decide +kernel
theorem dX6_closeRing_91 : decode cX6_closeRing 91 = .ok (.iadd, 1) := by decide +kernel
theorem dX6_closeRing_92 : decode cX6_closeRing 92 = .ok (.aload_n 1, 1) := by decide +kernel
theorem dX6_closeRing_93 : decode cX6_closeRing 93 = .ok (.iload 4, 2) := by decide +kernel
theorem dX6_closeRing_95 : decode cX6_closeRing 95 = .ok (.iload 5, 2) := by decide +kernel
theorem dX6_closeRing_97 : decode cX6_closeRing 97 = .ok (.aload_n 0, 1) := by decide +kernel
theorem dX6_closeRing_98 : decode cX6_closeRing 98 = .ok (.getfield 19, 3) := by decide +kernel
theorem dX6_closeRing_101 : decode cX6_closeRing 101 = .ok (.getfield 92, 3) := by decide +kernel
theorem dX6_closeRing_104 : decode cX6_closeRing 104 = .ok (.irem, 1) := by decide +kernel
theorem dX6_closeRing_105 : decode cX6_closeRing 105 = .ok (.iadd, 1) := by decide +kernel
theorem dX6_closeRing_106 : decode cX6_closeRing 106 = .ok (.laload, 1) := by decide +kernel
theorem dX6_closeRing_107 : decode cX6_closeRing 107 = .ok (.lastore, 1) := by decide +kernel
theorem dX6_closeRing_108 : decode cX6_closeRing 108 = .ok (.iinc 5 1, 3) := by decide +kernel
theorem dX6_closeRing_111 : decode cX6_closeRing 111 = .ok (.goto (-67), 3) := by decide +kernel
theorem dX6_closeRing_114 : decode cX6_closeRing 114 = .ok (.iinc 3 1, 3) := by decide +kernel
theorem dX6_closeRing_117 : decode cX6_closeRing 117 = .ok (.goto (-91), 3) := by decide +kernel
theorem dX6_closeRing_120 : decode cX6_closeRing 120 = .ok (.return_, 1) := by decide +kernel
theorem dX7_init_0 : decode cX7_init 0 = .ok (.aload_n 0, 1) := by decide +kernel
theorem dX7_init_1 : decode cX7_init 1 = .ok (.invokespecial 3, 3) := by decide +kernel
theorem dX7_init_4 : decode cX7_init 4 = .ok (.aload_n 0, 1) := by decide +kernel
theorem dX7_init_5 : decode cX7_init 5 = .ok (.sipush 4489, 3) := by decide +kernel
theorem dX7_init_8 : decode cX7_init 8 = .ok (.newarray .int, 2) := by decide +kernel
theorem dX7_init_10 : decode cX7_init 10 = .ok (.putfield 9, 3) := by decide +kernel
theorem dX7_init_13 : decode cX7_init 13 = .ok (.aload_n 0, 1) := by decide +kernel
theorem dX7_init_14 : decode cX7_init 14 = .ok (.sipush 1849, 3) := by decide +kernel
theorem dX7_init_17 : decode cX7_init 17 = .ok (.newarray .int, 2) := by decide +kernel
theorem dX7_init_19 : decode cX7_init 19 = .ok (.putfield 15, 3) := by decide +kernel
theorem dX7_init_22 : decode cX7_init 22 = .ok (.aload_n 0, 1) := by decide +kernel
theorem dX7_init_23 : decode cX7_init 23 = .ok (.sipush 1849, 3) := by decide +kernel
theorem dX7_init_26 : decode cX7_init 26 = .ok (.newarray .int, 2) := by decide +kernel
theorem dX7_init_28 : decode cX7_init 28 = .ok (.putfield 18, 3) := by decide +kernel
theorem dX7_init_31 : decode cX7_init 31 = .ok (.aload_n 0, 1) := by decide +kernel
theorem dX7_init_32 : decode cX7_init 32 = .ok (.ldc 21, 2) := by decide +kernel
theorem dX7_init_34 : decode cX7_init 34 = .ok (.newarray .long, 2) := by decide +kernel
theorem dX7_init_36 : decode cX7_init 36 = .ok (.putfield 22, 3) := by decide +kernel
theorem dX7_init_39 : decode cX7_init 39 = .ok (.aload_n 0, 1) := by decide +kernel
theorem dX7_init_40 : decode cX7_init 40 = .ok (.ldc 21, 2) := by decide +kernel
theorem dX7_init_42 : decode cX7_init 42 = .ok (.newarray .long, 2) := by decide +kernel
theorem dX7_init_44 : decode cX7_init 44 = .ok (.putfield 26, 3) := by decide +kernel
theorem dX7_init_47 : decode cX7_init 47 = .ok (.aload_n 0, 1) := by decide +kernel
theorem dX7_init_48 : decode cX7_init 48 = .ok (.aload_n 1, 1) := by decide +kernel
theorem dX7_init_49 : decode cX7_init 49 = .ok (.putfield 29, 3) := by decide +kernel
theorem dX7_init_52 : decode cX7_init 52 = .ok (.aload_n 0, 1) := by decide +kernel
theorem dX7_init_53 : decode cX7_init 53 = .ok (.aload_n 2, 1) := by decide +kernel
theorem dX7_init_54 : decode cX7_init 54 = .ok (.putfield 33, 3) := by decide +kernel
theorem dX7_init_57 : decode cX7_init 57 = .ok (.return_, 1) := by decide +kernel
set_option maxRecDepth 20000 in
theorem ggX7_tallied_X7_travel : GoodIn wsX7_tallied wsX7_travel := goodIn_r _ [9, 10, 11, 12, 13, 4, 14, 15, 16, 17, 18, 19, 20, 21, 22, 23, 24, 25, 26, 8, 27, 28, 29, 30, 31, 32, 2, 33, 34, 35, 36, 37, 38, 39, 40, 41, 42, 43, 44, 45, 46, 47, 48, 49, 50, 51, 52, 53, 54, 55, 56, 57, 58, 59, 60, 61, 62, 63, 64, 65, 66, 67, 68, 69, 70, 71, 72, 73, 74, 1, 3, 75, 76, 77, 78, 79, 80, 81, 82, 83, 84, 85, 86, 87, 88, 89, 90, 91, 92, 93, 94, 95, 96, 97, 98, 99, 100, 101, 102, 103, 104, 105, 106, 107, 108, 109, 110, 111, 112, 113, 114, 115, 116, 117, 118, 119, 120, 121, 122, 123, 124, 125, 126, 127, 128, 129, 130, 131, 132, 133] (by decide +kernel) (by decide +kernel)
set_option maxRecDepth 20000 in
theorem gX7_tallied_X7_travel : GoodIn wsX7_tallied (wsV RX7 48 RX7 yX7_travel wsX7_travel) := goodIn_app (goodIn_of _ (by decide +kernel)) ggX7_tallied_X7_travel
theorem dX7_tallied_0 : decode cX7_tallied 0 = .ok (.aload_n 0, 1) := by decide +kernel
theorem dX7_tallied_1 : decode cX7_tallied 1 = .ok (.iload_n 1, 1) := by decide +kernel
theorem dX7_tallied_2 : decode cX7_tallied 2 = .ok (.putfield 37, 3) := by decide +kernel
theorem dX7_tallied_5 : decode cX7_tallied 5 = .ok (.aload_n 0, 1) := by decide +kernel
theorem dX7_tallied_6 : decode cX7_tallied 6 = .ok (.iload_n 3, 1) := by decide +kernel
theorem dX7_tallied_7 : decode cX7_tallied 7 = .ok (.putfield 41, 3) := by decide +kernel
theorem dX7_tallied_10 : decode cX7_tallied 10 = .ok (.aload_n 0, 1) := by decide +kernel
theorem dX7_tallied_11 : decode cX7_tallied 11 = .ok (.iconst 1, 1) := by decide +kernel
theorem dX7_tallied_12 : decode cX7_tallied 12 = .ok (.putfield 44, 3) := by decide +kernel
theorem dX7_tallied_15 : decode cX7_tallied 15 = .ok (.aload_n 0, 1) := by decide +kernel
theorem dX7_tallied_16 : decode cX7_tallied 16 = .ok (.iload_n 2, 1) := by decide +kernel
theorem dX7_tallied_17 : decode cX7_tallied 17 = .ok (.invokevirtual 48, 3) := by decide +kernel
theorem dX7_tallied_20 : decode cX7_tallied 20 = .ok (.aload_n 0, 1) := by decide +kernel
theorem dX7_tallied_21 : decode cX7_tallied 21 = .ok (.getfield 37, 3) := by decide +kernel
theorem dX7_tallied_24 : decode cX7_tallied 24 = .ok (.iconst 1, 1) := by decide +kernel
theorem dX7_tallied_25 : decode cX7_tallied 25 = .ok (.if_icmp .eq 24, 3) := by decide +kernel
theorem dX7_tallied_28 : decode cX7_tallied 28 = .ok (.iload_n 3, 1) := by decide +kernel
theorem dX7_tallied_29 : decode cX7_tallied 29 = .ok (.ifCond .lt 18, 3) := by decide +kernel
theorem dX7_tallied_32 : decode cX7_tallied 32 = .ok (.iload_n 3, 1) := by decide +kernel
theorem dX7_tallied_33 : decode cX7_tallied 33 = .ok (.bipush 121, 2) := by decide +kernel
theorem dX7_tallied_35 : decode cX7_tallied 35 = .ok (.if_icmp .ge 12, 3) := by decide +kernel
theorem dX7_tallied_38 : decode cX7_tallied 38 = .ok (.aload_n 0, 1) := by decide +kernel
theorem dX7_tallied_39 : decode cX7_tallied 39 = .ok (.getfield 22, 3) := by decide +kernel
theorem dX7_tallied_42 : decode cX7_tallied 42 = .ok (.iload_n 3, 1) := by decide +kernel
theorem dX7_tallied_43 : decode cX7_tallied 43 = .ok (.laload, 1) := by decide +kernel
theorem dX7_tallied_44 : decode cX7_tallied 44 = .ok (.goto 4, 3) := by decide +kernel
theorem dX7_tallied_47 : decode cX7_tallied 47 = .ok (.lconst 0, 1) := by decide +kernel
theorem dX7_tallied_48 : decode cX7_tallied 48 = .ok (.lreturn, 1) := by decide +kernel
theorem dX7_tallied_49 : decode cX7_tallied 49 = .ok (.lconst 0, 1) := by decide +kernel
theorem dX7_tallied_50 : decode cX7_tallied 50 = .ok (.lstore 4, 2) := by decide +kernel
theorem dX7_tallied_52 : decode cX7_tallied 52 = .ok (.iconst 0, 1) := by decide +kernel
theorem dX7_tallied_53 : decode cX7_tallied 53 = .ok (.istore 6, 2) := by decide +kernel
theorem dX7_tallied_55 : decode cX7_tallied 55 = .ok (.iload 6, 2) := by decide +kernel
theorem dX7_tallied_57 : decode cX7_tallied 57 = .ok (.bipush 8, 2) := by decide +kernel
theorem dX7_tallied_59 : decode cX7_tallied 59 = .ok (.if_icmp .ge 36, 3) := by decide +kernel
theorem dX7_tallied_62 : decode cX7_tallied 62 = .ok (.iload_n 3, 1) := by decide +kernel
theorem dX7_tallied_63 : decode cX7_tallied 63 = .ok (.ifCond .lt 32, 3) := by decide +kernel
theorem dX7_tallied_66 : decode cX7_tallied 66 = .ok (.iload_n 3, 1) := by decide +kernel
theorem dX7_tallied_67 : decode cX7_tallied 67 = .ok (.bipush 14, 2) := by decide +kernel
theorem dX7_tallied_69 : decode cX7_tallied 69 = .ok (.if_icmp .ge 26, 3) := by decide +kernel
theorem dX7_tallied_72 : decode cX7_tallied 72 = .ok (.lload 4, 2) := by decide +kernel
theorem dX7_tallied_74 : decode cX7_tallied 74 = .ok (.aload_n 0, 1) := by decide +kernel
theorem dX7_tallied_75 : decode cX7_tallied 75 = .ok (.getfield 22, 3) := by decide +kernel
theorem dX7_tallied_78 : decode cX7_tallied 78 = .ok (.iload 6, 2) := by decide +kernel
theorem dX7_tallied_80 : decode cX7_tallied 80 = .ok (.bipush 14, 2) := by decide +kernel
theorem dX7_tallied_82 : decode cX7_tallied 82 = .ok (.imul, 1) := by decide +kernel
theorem dX7_tallied_83 : decode cX7_tallied 83 = .ok (.iload_n 3, 1) := by decide +kernel
theorem dX7_tallied_84 : decode cX7_tallied 84 = .ok (.iadd, 1) := by decide +kernel
theorem dX7_tallied_85 : decode cX7_tallied 85 = .ok (.laload, 1) := by decide +kernel
theorem dX7_tallied_86 : decode cX7_tallied 86 = .ok (.ladd, 1) := by decide +kernel
theorem dX7_tallied_87 : decode cX7_tallied 87 = .ok (.lstore 4, 2) := by decide +kernel
theorem dX7_tallied_89 : decode cX7_tallied 89 = .ok (.iinc 6 1, 3) := by decide +kernel
theorem dX7_tallied_92 : decode cX7_tallied 92 = .ok (.goto (-37), 3) := by decide +kernel
theorem dX7_tallied_95 : decode cX7_tallied 95 = .ok (.lload 4, 2) := by decide +kernel
theorem dX7_tallied_97 : decode cX7_tallied 97 = .ok (.lreturn, 1) := by decide +kernel
set_option maxRecDepth 20000 in
theorem ggX7_extreme_X7_travel : GoodIn wsX7_extreme wsX7_travel := goodIn_r _ [9, 10, 11, 12, 13, 4, 14, 15, 16, 17, 18, 19, 20, 21, 22, 23, 24, 25, 26, 8, 27, 28, 29, 30, 31, 32, 33, 34, 35, 36, 37, 38, 39, 40, 41, 42, 43, 44, 45, 46, 47, 48, 49, 50, 51, 52, 53, 54, 55, 56, 57, 58, 59, 60, 61, 62, 63, 64, 65, 66, 67, 68, 69, 70, 71, 72, 73, 74, 75, 1, 3, 76, 77, 78, 79, 80, 81, 82, 83, 84, 85, 86, 87, 2, 88, 89, 90, 91, 92, 93, 94, 95, 96, 97, 98, 99, 100, 101, 102, 103, 104, 105, 106, 107, 108, 109, 110, 111, 112, 113, 114, 115, 116, 117, 118, 119, 120, 121, 122, 123, 124, 125, 126, 127, 128, 129, 130, 131, 132, 133] (by decide +kernel) (by decide +kernel)
set_option maxRecDepth 20000 in
theorem gX7_extreme_X7_travel : GoodIn wsX7_extreme (wsV RX7 48 RX7 yX7_travel wsX7_travel) := goodIn_app (goodIn_of _ (by decide +kernel)) ggX7_extreme_X7_travel
set_option maxRecDepth 20000 in
theorem ggX7_extreme_X7_better : GoodIn wsX7_extreme wsX7_better := goodIn_r _ [87, 2, 101, 102, 103, 104, 105, 106, 107, 108, 109, 110, 111, 112, 113, 114] (by decide +kernel) (by decide +kernel)
set_option maxRecDepth 20000 in
theorem gX7_extreme_X7_better : GoodIn wsX7_extreme (wsV RX7 55 RX7 yX7_better wsX7_better) := goodIn_app (goodIn_of _ (by decide +kernel)) ggX7_extreme_X7_better
theorem dX7_extreme_0 : decode cX7_extreme 0 = .ok (.aload_n 0, 1) := by decide +kernel
theorem dX7_extreme_1 : decode cX7_extreme 1 = .ok (.iload_n 1, 1) := by decide +kernel
theorem dX7_extreme_2 : decode cX7_extreme 2 = .ok (.putfield 37, 3) := by decide +kernel
theorem dX7_extreme_5 : decode cX7_extreme 5 = .ok (.aload_n 0, 1) := by decide +kernel
theorem dX7_extreme_6 : decode cX7_extreme 6 = .ok (.iload_n 3, 1) := by decide +kernel
theorem dX7_extreme_7 : decode cX7_extreme 7 = .ok (.putfield 52, 3) := by decide +kernel
theorem dX7_extreme_10 : decode cX7_extreme 10 = .ok (.aload_n 0, 1) := by decide +kernel
theorem dX7_extreme_11 : decode cX7_extreme 11 = .ok (.iconst 0, 1) := by decide +kernel
theorem dX7_extreme_12 : decode cX7_extreme 12 = .ok (.putfield 44, 3) := by decide +kernel
theorem dX7_extreme_15 : decode cX7_extreme 15 = .ok (.aload_n 0, 1) := by decide +kernel
theorem dX7_extreme_16 : decode cX7_extreme 16 = .ok (.iload_n 2, 1) := by decide +kernel
theorem dX7_extreme_17 : decode cX7_extreme 17 = .ok (.invokevirtual 48, 3) := by decide +kernel
theorem dX7_extreme_20 : decode cX7_extreme 20 = .ok (.lconst 0, 1) := by decide +kernel
theorem dX7_extreme_21 : decode cX7_extreme 21 = .ok (.lstore 4, 2) := by decide +kernel
theorem dX7_extreme_23 : decode cX7_extreme 23 = .ok (.iconst 0, 1) := by decide +kernel
theorem dX7_extreme_24 : decode cX7_extreme 24 = .ok (.istore 6, 2) := by decide +kernel
theorem dX7_extreme_26 : decode cX7_extreme 26 = .ok (.iload 6, 2) := by decide +kernel
theorem dX7_extreme_28 : decode cX7_extreme 28 = .ok (.bipush 8, 2) := by decide +kernel
theorem dX7_extreme_30 : decode cX7_extreme 30 = .ok (.if_icmp .ge 24, 3) := by decide +kernel
theorem dX7_extreme_33 : decode cX7_extreme 33 = .ok (.aload_n 0, 1) := by decide +kernel
theorem dX7_extreme_34 : decode cX7_extreme 34 = .ok (.lload 4, 2) := by decide +kernel
theorem dX7_extreme_36 : decode cX7_extreme 36 = .ok (.aload_n 0, 1) := by decide +kernel
theorem dX7_extreme_37 : decode cX7_extreme 37 = .ok (.getfield 22, 3) := by decide +kernel
theorem dX7_extreme_40 : decode cX7_extreme 40 = .ok (.iload 6, 2) := by decide +kernel
theorem dX7_extreme_42 : decode cX7_extreme 42 = .ok (.laload, 1) := by decide +kernel
theorem dX7_extreme_43 : decode cX7_extreme 43 = .ok (.invokevirtual 55, 3) := by decide +kernel
theorem dX7_extreme_46 : decode cX7_extreme 46 = .ok (.lstore 4, 2) := by decide +kernel
theorem dX7_extreme_48 : decode cX7_extreme 48 = .ok (.iinc 6 1, 3) := by decide +kernel
theorem dX7_extreme_51 : decode cX7_extreme 51 = .ok (.goto (-25), 3) := by decide +kernel
theorem dX7_extreme_54 : decode cX7_extreme 54 = .ok (.lload 4, 2) := by decide +kernel
theorem dX7_extreme_56 : decode cX7_extreme 56 = .ok (.l2i, 1) := by decide +kernel
theorem dX7_extreme_57 : decode cX7_extreme 57 = .ok (.iconst 1, 1) := by decide +kernel
theorem dX7_extreme_58 : decode cX7_extreme 58 = .ok (.isub, 1) := by decide +kernel
theorem dX7_extreme_59 : decode cX7_extreme 59 = .ok (.ireturn, 1) := by decide +kernel
set_option maxRecDepth 20000 in
theorem ggX7_travel_X4_cellA : GoodIn wsX7_travel wsX4_cellA := goodIn_r _ [10, 11, 12, 13, 14, 9, 15, 111, 112, 113, 114, 115, 116, 117, 118, 119, 120, 121, 122, 123, 124, 125] (by decide +kernel) (by decide +kernel)
set_option maxRecDepth 20000 in
theorem gX7_travel_X4_cellA : GoodIn wsX7_travel (wsV RX7 59 RX4 yX4_cellA wsX4_cellA) := goodIn_app (goodIn_of _ (by decide +kernel)) ggX7_travel_X4_cellA
set_option maxRecDepth 20000 in
theorem ggX7_travel_X7_advance : GoodIn wsX7_travel wsX7_advance := goodIn_r _ [20, 21, 3, 2, 22, 1, 23, 24, 25, 26, 4, 27, 28, 29, 30, 31, 32, 33, 9, 34, 35, 36, 37, 38, 39, 40, 41, 42, 43, 44, 45, 46, 47, 48, 49, 50, 51, 52, 53, 54, 55, 56, 57, 58, 59, 60, 61, 62, 19, 63, 64, 65, 66, 67, 68, 69, 70, 71, 72, 73, 74, 5, 75, 76, 77, 78, 79, 80, 81, 82, 83, 84, 85, 86, 87, 88, 89, 90, 91, 92, 93, 94, 95, 96, 97, 98, 99, 100, 101, 102, 103, 104, 105, 106, 107, 108, 109, 110, 111, 112, 113, 114, 115, 116, 117, 118, 119, 120, 121, 122, 123, 124, 125, 126, 127, 128, 129] (by decide +kernel) (by decide +kernel)
set_option maxRecDepth 20000 in
theorem gX7_travel_X7_advance : GoodIn wsX7_travel (wsV RX7 71 RX7 yX7_advance wsX7_advance) := goodIn_app (goodIn_of _ (by decide +kernel)) ggX7_travel_X7_advance
theorem dX7_travel_0 : decode cX7_travel 0 = .ok (.aload_n 0, 1) := by decide +kernel
theorem dX7_travel_1 : decode cX7_travel 1 = .ok (.getfield 15, 3) := by decide +kernel
theorem dX7_travel_4 : decode cX7_travel 4 = .ok (.iconst 0, 1) := by decide +kernel
theorem dX7_travel_5 : decode cX7_travel 5 = .ok (.aload_n 0, 1) := by decide +kernel
theorem dX7_travel_6 : decode cX7_travel 6 = .ok (.getfield 29, 3) := by decide +kernel
theorem dX7_travel_9 : decode cX7_travel 9 = .ok (.invokevirtual 59, 3) := by decide +kernel
theorem dX7_travel_12 : decode cX7_travel 12 = .ok (.iastore, 1) := by decide +kernel
theorem dX7_travel_13 : decode cX7_travel 13 = .ok (.aload_n 0, 1) := by decide +kernel
theorem dX7_travel_14 : decode cX7_travel 14 = .ok (.iconst 1, 1) := by decide +kernel
theorem dX7_travel_15 : decode cX7_travel 15 = .ok (.putfield 65, 3) := by decide +kernel
theorem dX7_travel_18 : decode cX7_travel 18 = .ok (.aload_n 0, 1) := by decide +kernel
theorem dX7_travel_19 : decode cX7_travel 19 = .ok (.iconst 0, 1) := by decide +kernel
theorem dX7_travel_20 : decode cX7_travel 20 = .ok (.putfield 68, 3) := by decide +kernel
theorem dX7_travel_23 : decode cX7_travel 23 = .ok (.iconst 0, 1) := by decide +kernel
theorem dX7_travel_24 : decode cX7_travel 24 = .ok (.istore_n 2, 1) := by decide +kernel
theorem dX7_travel_25 : decode cX7_travel 25 = .ok (.iload_n 2, 1) := by decide +kernel
theorem dX7_travel_26 : decode cX7_travel 26 = .ok (.bipush 121, 2) := by decide +kernel
theorem dX7_travel_28 : decode cX7_travel 28 = .ok (.if_icmp .ge 16, 3) := by decide +kernel
theorem dX7_travel_31 : decode cX7_travel 31 = .ok (.aload_n 0, 1) := by decide +kernel
theorem dX7_travel_32 : decode cX7_travel 32 = .ok (.getfield 22, 3) := by decide +kernel
theorem dX7_travel_35 : decode cX7_travel 35 = .ok (.iload_n 2, 1) := by decide +kernel
theorem dX7_travel_36 : decode cX7_travel 36 = .ok (.lconst 0, 1) := by decide +kernel
theorem dX7_travel_37 : decode cX7_travel 37 = .ok (.lastore, 1) := by decide +kernel
theorem dX7_travel_38 : decode cX7_travel 38 = .ok (.iinc 2 1, 3) := by decide +kernel
theorem dX7_travel_41 : decode cX7_travel 41 = .ok (.goto (-16), 3) := by decide +kernel
theorem dX7_travel_44 : decode cX7_travel 44 = .ok (.aload_n 0, 1) := by decide +kernel
theorem dX7_travel_45 : decode cX7_travel 45 = .ok (.getfield 22, 3) := by decide +kernel
theorem dX7_travel_48 : decode cX7_travel 48 = .ok (.iconst 0, 1) := by decide +kernel
theorem dX7_travel_49 : decode cX7_travel 49 = .ok (.lconst 1, 1) := by decide +kernel
theorem dX7_travel_50 : decode cX7_travel 50 = .ok (.lastore, 1) := by decide +kernel
theorem dX7_travel_51 : decode cX7_travel 51 = .ok (.iconst 0, 1) := by decide +kernel
theorem dX7_travel_52 : decode cX7_travel 52 = .ok (.istore_n 2, 1) := by decide +kernel
theorem dX7_travel_53 : decode cX7_travel 53 = .ok (.iload_n 2, 1) := by decide +kernel
theorem dX7_travel_54 : decode cX7_travel 54 = .ok (.iload_n 1, 1) := by decide +kernel
theorem dX7_travel_55 : decode cX7_travel 55 = .ok (.if_icmp .ge 19, 3) := by decide +kernel
theorem dX7_travel_58 : decode cX7_travel 58 = .ok (.aload_n 0, 1) := by decide +kernel
theorem dX7_travel_59 : decode cX7_travel 59 = .ok (.iload_n 2, 1) := by decide +kernel
theorem dX7_travel_60 : decode cX7_travel 60 = .ok (.iload_n 1, 1) := by decide +kernel
theorem dX7_travel_61 : decode cX7_travel 61 = .ok (.iload_n 2, 1) := by decide +kernel
theorem dX7_travel_62 : decode cX7_travel 62 = .ok (.isub, 1) := by decide +kernel
theorem dX7_travel_63 : decode cX7_travel 63 = .ok (.iconst 1, 1) := by decide +kernel
theorem dX7_travel_64 : decode cX7_travel 64 = .ok (.isub, 1) := by decide +kernel
theorem dX7_travel_65 : decode cX7_travel 65 = .ok (.invokevirtual 71, 3) := by decide +kernel
theorem dX7_travel_68 : decode cX7_travel 68 = .ok (.iinc 2 1, 3) := by decide +kernel
theorem dX7_travel_71 : decode cX7_travel 71 = .ok (.goto (-18), 3) := by decide +kernel
theorem dX7_travel_74 : decode cX7_travel 74 = .ok (.return_, 1) := by decide +kernel
set_option maxRecDepth 20000 in
theorem ggX7_advance_X4_ahead : GoodIn wsX7_advance wsX4_ahead := goodIn_r _ [19, 20, 21, 22, 23, 24, 25, 26, 18, 27, 28, 29, 30, 31, 32, 33, 34, 35, 36, 37, 98, 99, 100, 101, 102, 103, 104, 105, 106, 107, 108, 109, 110, 111, 112] (by decide +kernel) (by decide +kernel)
set_option maxRecDepth 20000 in
theorem gX7_advance_X4_ahead : GoodIn wsX7_advance (wsV RX7 81 RX4 yX4_ahead wsX4_ahead) := goodIn_app (goodIn_of _ (by decide +kernel)) ggX7_advance_X4_ahead
set_option maxRecDepth 20000 in
theorem ggX7_advance_X6_onward : GoodIn wsX7_advance wsX6_onward := goodIn_r _ [42, 43, 44, 113, 114, 115, 116] (by decide +kernel) (by decide +kernel)
set_option maxRecDepth 20000 in
theorem gX7_advance_X6_onward : GoodIn wsX7_advance (wsV RX7 85 RX6 yX6_onward wsX6_onward) := goodIn_app (goodIn_of _ (by decide +kernel)) ggX7_advance_X6_onward
set_option maxRecDepth 20000 in
theorem ggX7_advance_X7_slotFor : GoodIn wsX7_advance wsX7_slotFor := goodIn_r _ [49, 7, 1, 8, 50, 84, 85, 86, 87, 88, 89, 90, 91, 92, 93, 94, 95, 96, 97] (by decide +kernel) (by decide +kernel)
set_option maxRecDepth 20000 in
theorem gX7_advance_X7_slotFor : GoodIn wsX7_advance (wsV RX7 91 RX7 yX7_slotFor wsX7_slotFor) := goodIn_app (goodIn_of _ (by decide +kernel)) ggX7_advance_X7_slotFor
set_option maxRecDepth 20000 in
theorem ggX7_advance_X7_carry : GoodIn wsX7_advance wsX7_carry := goodIn_r _ [54, 55, 3, 4, 56, 10, 9, 11, 12, 13, 14, 57, 58, 59, 48, 60, 50, 61, 62, 63, 64, 65, 66, 67, 68, 69, 70, 71, 72, 73, 74, 75, 84, 85, 86, 87, 88, 89, 90, 91, 92, 93, 94, 95, 96, 97, 98, 99, 100, 101, 102, 103, 104, 105, 106, 107, 108, 109, 110, 111, 112] (by decide +kernel) (by decide +kernel)
set_option maxRecDepth 20000 in
theorem gX7_advance_X7_carry : GoodIn wsX7_advance (wsV RX7 95 RX7 yX7_carry wsX7_carry) := goodIn_app (goodIn_of _ (by decide +kernel)) ggX7_advance_X7_carry
set_option maxRecDepth 20000 in
theorem ggX7_advance_X7_swapLayers : GoodIn wsX7_advance wsX7_swapLayers := goodIn_r _ [79, 5, 8, 61, 50, 1, 2, 84, 85, 86, 87, 88, 89, 90, 91, 92, 93, 94, 95, 96, 97] (by decide +kernel) (by decide +kernel)
set_option maxRecDepth 20000 in
theorem gX7_advance_X7_swapLayers : GoodIn wsX7_advance (wsV RX7 99 RX7 yX7_swapLayers wsX7_swapLayers) := goodIn_app (goodIn_of _ (by decide +kernel)) ggX7_advance_X7_swapLayers
set_option maxRecDepth 20000 in
theorem ggX7_advance_X7_mostGain : GoodIn wsX7_advance wsX7_mostGain := goodIn_r _ [83, 55, 84, 85, 86, 87, 88, 89, 90, 91, 92, 93, 94, 95, 96, 97] (by decide +kernel) (by decide +kernel)
set_option maxRecDepth 20000 in
theorem gX7_advance_X7_mostGain : GoodIn wsX7_advance (wsV RX7 102 RX7 yX7_mostGain wsX7_mostGain) := goodIn_app (goodIn_of _ (by decide +kernel)) ggX7_advance_X7_mostGain
