def tX9_clears : List (Nat × Instr × Nat) := [
  (0, .aload_n 0, 1),
  (1, .getfield 109, 3),
  (4, .iload 4, 2),
  (6, .iload_n 2, 1),
  (7, .imul, 1),
  (8, .iload_n 3, 1),
  (9, .iadd, 1),
  (10, .laload, 1),
  (11, .invokestatic 317, 3),
  (14, .lstore 6, 2),
  (16, .iconst 0, 1),
  (17, .istore 8, 2),
  (19, .iload 8, 2),
  (21, .iload 4, 2),
  (23, .if_icmp .ge 68, 3),
  (26, .aload_n 0, 1),
  (27, .getfield 109, 3),
  (30, .iload 4, 2),
  (32, .iload_n 2, 1),
  (33, .imul, 1),
  (34, .iload 8, 2),
  (36, .iadd, 1),
  (37, .laload, 1),
  (38, .lload 6, 2),
  (40, .lmul, 1),
  (41, .ldc2_w 300, 3),
  (44, .lrem, 1),
  (45, .lstore 9, 2),
  (47, .aload_n 0, 1),
  (48, .getfield 109, 3),
  (51, .iload 4, 2),
  (53, .iload_n 2, 1),
  (54, .imul, 1),
  (55, .iload 8, 2),
  (57, .iadd, 1),
  (58, .aload_n 0, 1),
  (59, .getfield 109, 3),
  (62, .iload 4, 2),
  (64, .iload_n 1, 1),
  (65, .imul, 1),
  (66, .iload 8, 2),
  (68, .iadd, 1),
  (69, .laload, 1),
  (70, .lastore, 1),
  (71, .aload_n 0, 1),
  (72, .getfield 109, 3),
  (75, .iload 4, 2),
  (77, .iload_n 1, 1),
  (78, .imul, 1),
  (79, .iload 8, 2),
  (81, .iadd, 1),
  (82, .lload 9, 2),
  (84, .lastore, 1),
  (85, .iinc 8 1, 3),
  (88, .goto (-69), 3),
  (91, .iconst 0, 1),
  (92, .istore 8, 2),
  (94, .iload 8, 2),
  (96, .iload 5, 2),
  (98, .if_icmp .ge 105, 3),
  (101, .aload_n 0, 1),
  (102, .getfield 109, 3),
  (105, .iload 4, 2),
  (107, .iload 8, 2),
  (109, .imul, 1),
  (110, .iload_n 3, 1),
  (111, .iadd, 1),
  (112, .laload, 1),
  (113, .lstore 9, 2),
  (115, .iload 8, 2),
  (117, .iload_n 1, 1),
  (118, .if_icmp .eq 79, 3),
  (121, .lload 9, 2),
  (123, .lconst 0, 1),
  (124, .lcmp, 1),
  (125, .ifCond .ne 6, 3),
  (128, .goto 69, 3),
  (131, .iconst 0, 1),
  (132, .istore 11, 2),
  (134, .iload 11, 2),
  (136, .iload 4, 2),
  (138, .if_icmp .ge 59, 3),
  (141, .aload_n 0, 1),
  (142, .getfield 109, 3),
  (145, .iload 4, 2),
  (147, .iload 8, 2),
  (149, .imul, 1),
  (150, .iload 11, 2),
  (152, .iadd, 1),
  (153, .aload_n 0, 1),
  (154, .getfield 109, 3),
  (157, .iload 4, 2),
  (159, .iload 8, 2),
  (161, .imul, 1),
  (162, .iload 11, 2),
  (164, .iadd, 1),
  (165, .laload, 1),
  (166, .ldc2_w 300, 3),
  (169, .lload 9, 2),
  (171, .lsub, 1),
  (172, .aload_n 0, 1),
  (173, .getfield 109, 3),
  (176, .iload 4, 2),
  (178, .iload_n 1, 1),
  (179, .imul, 1),
  (180, .iload 11, 2),
  (182, .iadd, 1),
  (183, .laload, 1),
  (184, .lmul, 1),
  (185, .ladd, 1),
  (186, .ldc2_w 300, 3),
  (189, .lrem, 1),
  (190, .lastore, 1),
  (191, .iinc 11 1, 3),
  (194, .goto (-60), 3),
  (197, .iinc 8 1, 3),
  (200, .goto (-106), 3),
  (203, .return_, 1)]
set_option maxRecDepth 100000 in
theorem tX9_clears_ok : ∀ q ∈ tX9_clears, decode cX9_clears q.1 = .ok q.2 := by decide +kernel
theorem dX9_clears_0 : decode cX9_clears 0 = .ok (.aload_n 0, 1) := tX9_clears_ok (0, .aload_n 0, 1) (List.mem_of_getElem? (i := 0) rfl)
theorem dX9_clears_1 : decode cX9_clears 1 = .ok (.getfield 109, 3) := tX9_clears_ok (1, .getfield 109, 3) (List.mem_of_getElem? (i := 1) rfl)
theorem dX9_clears_4 : decode cX9_clears 4 = .ok (.iload 4, 2) := tX9_clears_ok (4, .iload 4, 2) (List.mem_of_getElem? (i := 2) rfl)
theorem dX9_clears_6 : decode cX9_clears 6 = .ok (.iload_n 2, 1) := tX9_clears_ok (6, .iload_n 2, 1) (List.mem_of_getElem? (i := 3) rfl)
theorem dX9_clears_7 : decode cX9_clears 7 = .ok (.imul, 1) := tX9_clears_ok (7, .imul, 1) (List.mem_of_getElem? (i := 4) rfl)
theorem dX9_clears_8 : decode cX9_clears 8 = .ok (.iload_n 3, 1) := tX9_clears_ok (8, .iload_n 3, 1) (List.mem_of_getElem? (i := 5) rfl)
theorem dX9_clears_9 : decode cX9_clears 9 = .ok (.iadd, 1) := tX9_clears_ok (9, .iadd, 1) (List.mem_of_getElem? (i := 6) rfl)
theorem dX9_clears_10 : decode cX9_clears 10 = .ok (.laload, 1) := tX9_clears_ok (10, .laload, 1) (List.mem_of_getElem? (i := 7) rfl)
theorem dX9_clears_11 : decode cX9_clears 11 = .ok (.invokestatic 317, 3) := tX9_clears_ok (11, .invokestatic 317, 3) (List.mem_of_getElem? (i := 8) rfl)
theorem dX9_clears_14 : decode cX9_clears 14 = .ok (.lstore 6, 2) := tX9_clears_ok (14, .lstore 6, 2) (List.mem_of_getElem? (i := 9) rfl)
theorem dX9_clears_16 : decode cX9_clears 16 = .ok (.iconst 0, 1) := tX9_clears_ok (16, .iconst 0, 1) (List.mem_of_getElem? (i := 10) rfl)
theorem dX9_clears_17 : decode cX9_clears 17 = .ok (.istore 8, 2) := tX9_clears_ok (17, .istore 8, 2) (List.mem_of_getElem? (i := 11) rfl)
theorem dX9_clears_19 : decode cX9_clears 19 = .ok (.iload 8, 2) := tX9_clears_ok (19, .iload 8, 2) (List.mem_of_getElem? (i := 12) rfl)
theorem dX9_clears_21 : decode cX9_clears 21 = .ok (.iload 4, 2) := tX9_clears_ok (21, .iload 4, 2) (List.mem_of_getElem? (i := 13) rfl)
theorem dX9_clears_23 : decode cX9_clears 23 = .ok (.if_icmp .ge 68, 3) := tX9_clears_ok (23, .if_icmp .ge 68, 3) (List.mem_of_getElem? (i := 14) rfl)
theorem dX9_clears_26 : decode cX9_clears 26 = .ok (.aload_n 0, 1) := tX9_clears_ok (26, .aload_n 0, 1) (List.mem_of_getElem? (i := 15) rfl)
theorem dX9_clears_27 : decode cX9_clears 27 = .ok (.getfield 109, 3) := tX9_clears_ok (27, .getfield 109, 3) (List.mem_of_getElem? (i := 16) rfl)
theorem dX9_clears_30 : decode cX9_clears 30 = .ok (.iload 4, 2) := tX9_clears_ok (30, .iload 4, 2) (List.mem_of_getElem? (i := 17) rfl)
theorem dX9_clears_32 : decode cX9_clears 32 = .ok (.iload_n 2, 1) := tX9_clears_ok (32, .iload_n 2, 1) (List.mem_of_getElem? (i := 18) rfl)
theorem dX9_clears_33 : decode cX9_clears 33 = .ok (.imul, 1) := tX9_clears_ok (33, .imul, 1) (List.mem_of_getElem? (i := 19) rfl)
theorem dX9_clears_34 : decode cX9_clears 34 = .ok (.iload 8, 2) := tX9_clears_ok (34, .iload 8, 2) (List.mem_of_getElem? (i := 20) rfl)
theorem dX9_clears_36 : decode cX9_clears 36 = .ok (.iadd, 1) := tX9_clears_ok (36, .iadd, 1) (List.mem_of_getElem? (i := 21) rfl)
theorem dX9_clears_37 : decode cX9_clears 37 = .ok (.laload, 1) := tX9_clears_ok (37, .laload, 1) (List.mem_of_getElem? (i := 22) rfl)
theorem dX9_clears_38 : decode cX9_clears 38 = .ok (.lload 6, 2) := tX9_clears_ok (38, .lload 6, 2) (List.mem_of_getElem? (i := 23) rfl)
theorem dX9_clears_40 : decode cX9_clears 40 = .ok (.lmul, 1) := tX9_clears_ok (40, .lmul, 1) (List.mem_of_getElem? (i := 24) rfl)
theorem dX9_clears_41 : decode cX9_clears 41 = .ok (.ldc2_w 300, 3) := tX9_clears_ok (41, .ldc2_w 300, 3) (List.mem_of_getElem? (i := 25) rfl)
theorem dX9_clears_44 : decode cX9_clears 44 = .ok (.lrem, 1) := tX9_clears_ok (44, .lrem, 1) (List.mem_of_getElem? (i := 26) rfl)
theorem dX9_clears_45 : decode cX9_clears 45 = .ok (.lstore 9, 2) := tX9_clears_ok (45, .lstore 9, 2) (List.mem_of_getElem? (i := 27) rfl)
theorem dX9_clears_47 : decode cX9_clears 47 = .ok (.aload_n 0, 1) := tX9_clears_ok (47, .aload_n 0, 1) (List.mem_of_getElem? (i := 28) rfl)
theorem dX9_clears_48 : decode cX9_clears 48 = .ok (.getfield 109, 3) := tX9_clears_ok (48, .getfield 109, 3) (List.mem_of_getElem? (i := 29) rfl)
theorem dX9_clears_51 : decode cX9_clears 51 = .ok (.iload 4, 2) := tX9_clears_ok (51, .iload 4, 2) (List.mem_of_getElem? (i := 30) rfl)
theorem dX9_clears_53 : decode cX9_clears 53 = .ok (.iload_n 2, 1) := tX9_clears_ok (53, .iload_n 2, 1) (List.mem_of_getElem? (i := 31) rfl)
theorem dX9_clears_54 : decode cX9_clears 54 = .ok (.imul, 1) := tX9_clears_ok (54, .imul, 1) (List.mem_of_getElem? (i := 32) rfl)
theorem dX9_clears_55 : decode cX9_clears 55 = .ok (.iload 8, 2) := tX9_clears_ok (55, .iload 8, 2) (List.mem_of_getElem? (i := 33) rfl)
theorem dX9_clears_57 : decode cX9_clears 57 = .ok (.iadd, 1) := tX9_clears_ok (57, .iadd, 1) (List.mem_of_getElem? (i := 34) rfl)
theorem dX9_clears_58 : decode cX9_clears 58 = .ok (.aload_n 0, 1) := tX9_clears_ok (58, .aload_n 0, 1) (List.mem_of_getElem? (i := 35) rfl)
theorem dX9_clears_59 : decode cX9_clears 59 = .ok (.getfield 109, 3) := tX9_clears_ok (59, .getfield 109, 3) (List.mem_of_getElem? (i := 36) rfl)
theorem dX9_clears_62 : decode cX9_clears 62 = .ok (.iload 4, 2) := tX9_clears_ok (62, .iload 4, 2) (List.mem_of_getElem? (i := 37) rfl)
theorem dX9_clears_64 : decode cX9_clears 64 = .ok (.iload_n 1, 1) := tX9_clears_ok (64, .iload_n 1, 1) (List.mem_of_getElem? (i := 38) rfl)
theorem dX9_clears_65 : decode cX9_clears 65 = .ok (.imul, 1) := tX9_clears_ok (65, .imul, 1) (List.mem_of_getElem? (i := 39) rfl)
theorem dX9_clears_66 : decode cX9_clears 66 = .ok (.iload 8, 2) := tX9_clears_ok (66, .iload 8, 2) (List.mem_of_getElem? (i := 40) rfl)
theorem dX9_clears_68 : decode cX9_clears 68 = .ok (.iadd, 1) := tX9_clears_ok (68, .iadd, 1) (List.mem_of_getElem? (i := 41) rfl)
theorem dX9_clears_69 : decode cX9_clears 69 = .ok (.laload, 1) := tX9_clears_ok (69, .laload, 1) (List.mem_of_getElem? (i := 42) rfl)
theorem dX9_clears_70 : decode cX9_clears 70 = .ok (.lastore, 1) := tX9_clears_ok (70, .lastore, 1) (List.mem_of_getElem? (i := 43) rfl)
theorem dX9_clears_71 : decode cX9_clears 71 = .ok (.aload_n 0, 1) := tX9_clears_ok (71, .aload_n 0, 1) (List.mem_of_getElem? (i := 44) rfl)
theorem dX9_clears_72 : decode cX9_clears 72 = .ok (.getfield 109, 3) := tX9_clears_ok (72, .getfield 109, 3) (List.mem_of_getElem? (i := 45) rfl)
theorem dX9_clears_75 : decode cX9_clears 75 = .ok (.iload 4, 2) := tX9_clears_ok (75, .iload 4, 2) (List.mem_of_getElem? (i := 46) rfl)
theorem dX9_clears_77 : decode cX9_clears 77 = .ok (.iload_n 1, 1) := tX9_clears_ok (77, .iload_n 1, 1) (List.mem_of_getElem? (i := 47) rfl)
theorem dX9_clears_78 : decode cX9_clears 78 = .ok (.imul, 1) := tX9_clears_ok (78, .imul, 1) (List.mem_of_getElem? (i := 48) rfl)
theorem dX9_clears_79 : decode cX9_clears 79 = .ok (.iload 8, 2) := tX9_clears_ok (79, .iload 8, 2) (List.mem_of_getElem? (i := 49) rfl)
theorem dX9_clears_81 : decode cX9_clears 81 = .ok (.iadd, 1) := tX9_clears_ok (81, .iadd, 1) (List.mem_of_getElem? (i := 50) rfl)
theorem dX9_clears_82 : decode cX9_clears 82 = .ok (.lload 9, 2) := tX9_clears_ok (82, .lload 9, 2) (List.mem_of_getElem? (i := 51) rfl)
theorem dX9_clears_84 : decode cX9_clears 84 = .ok (.lastore, 1) := tX9_clears_ok (84, .lastore, 1) (List.mem_of_getElem? (i := 52) rfl)
theorem dX9_clears_85 : decode cX9_clears 85 = .ok (.iinc 8 1, 3) := tX9_clears_ok (85, .iinc 8 1, 3) (List.mem_of_getElem? (i := 53) rfl)
theorem dX9_clears_88 : decode cX9_clears 88 = .ok (.goto (-69), 3) := tX9_clears_ok (88, .goto (-69), 3) (List.mem_of_getElem? (i := 54) rfl)
theorem dX9_clears_91 : decode cX9_clears 91 = .ok (.iconst 0, 1) := tX9_clears_ok (91, .iconst 0, 1) (List.mem_of_getElem? (i := 55) rfl)
theorem dX9_clears_92 : decode cX9_clears 92 = .ok (.istore 8, 2) := tX9_clears_ok (92, .istore 8, 2) (List.mem_of_getElem? (i := 56) rfl)
theorem dX9_clears_94 : decode cX9_clears 94 = .ok (.iload 8, 2) := tX9_clears_ok (94, .iload 8, 2) (List.mem_of_getElem? (i := 57) rfl)
theorem dX9_clears_96 : decode cX9_clears 96 = .ok (.iload 5, 2) := tX9_clears_ok (96, .iload 5, 2) (List.mem_of_getElem? (i := 58) rfl)
theorem dX9_clears_98 : decode cX9_clears 98 = .ok (.if_icmp .ge 105, 3) := tX9_clears_ok (98, .if_icmp .ge 105, 3) (List.mem_of_getElem? (i := 59) rfl)
theorem dX9_clears_101 : decode cX9_clears 101 = .ok (.aload_n 0, 1) := tX9_clears_ok (101, .aload_n 0, 1) (List.mem_of_getElem? (i := 60) rfl)
theorem dX9_clears_102 : decode cX9_clears 102 = .ok (.getfield 109, 3) := tX9_clears_ok (102, .getfield 109, 3) (List.mem_of_getElem? (i := 61) rfl)
theorem dX9_clears_105 : decode cX9_clears 105 = .ok (.iload 4, 2) := tX9_clears_ok (105, .iload 4, 2) (List.mem_of_getElem? (i := 62) rfl)
theorem dX9_clears_107 : decode cX9_clears 107 = .ok (.iload 8, 2) := tX9_clears_ok (107, .iload 8, 2) (List.mem_of_getElem? (i := 63) rfl)
theorem dX9_clears_109 : decode cX9_clears 109 = .ok (.imul, 1) := tX9_clears_ok (109, .imul, 1) (List.mem_of_getElem? (i := 64) rfl)
theorem dX9_clears_110 : decode cX9_clears 110 = .ok (.iload_n 3, 1) := tX9_clears_ok (110, .iload_n 3, 1) (List.mem_of_getElem? (i := 65) rfl)
theorem dX9_clears_111 : decode cX9_clears 111 = .ok (.iadd, 1) := tX9_clears_ok (111, .iadd, 1) (List.mem_of_getElem? (i := 66) rfl)
theorem dX9_clears_112 : decode cX9_clears 112 = .ok (.laload, 1) := tX9_clears_ok (112, .laload, 1) (List.mem_of_getElem? (i := 67) rfl)
theorem dX9_clears_113 : decode cX9_clears 113 = .ok (.lstore 9, 2) := tX9_clears_ok (113, .lstore 9, 2) (List.mem_of_getElem? (i := 68) rfl)
theorem dX9_clears_115 : decode cX9_clears 115 = .ok (.iload 8, 2) := tX9_clears_ok (115, .iload 8, 2) (List.mem_of_getElem? (i := 69) rfl)
theorem dX9_clears_117 : decode cX9_clears 117 = .ok (.iload_n 1, 1) := tX9_clears_ok (117, .iload_n 1, 1) (List.mem_of_getElem? (i := 70) rfl)
theorem dX9_clears_118 : decode cX9_clears 118 = .ok (.if_icmp .eq 79, 3) := tX9_clears_ok (118, .if_icmp .eq 79, 3) (List.mem_of_getElem? (i := 71) rfl)
theorem dX9_clears_121 : decode cX9_clears 121 = .ok (.lload 9, 2) := tX9_clears_ok (121, .lload 9, 2) (List.mem_of_getElem? (i := 72) rfl)
theorem dX9_clears_123 : decode cX9_clears 123 = .ok (.lconst 0, 1) := tX9_clears_ok (123, .lconst 0, 1) (List.mem_of_getElem? (i := 73) rfl)
theorem dX9_clears_124 : decode cX9_clears 124 = .ok (.lcmp, 1) := tX9_clears_ok (124, .lcmp, 1) (List.mem_of_getElem? (i := 74) rfl)
theorem dX9_clears_125 : decode cX9_clears 125 = .ok (.ifCond .ne 6, 3) := tX9_clears_ok (125, .ifCond .ne 6, 3) (List.mem_of_getElem? (i := 75) rfl)
theorem dX9_clears_128 : decode cX9_clears 128 = .ok (.goto 69, 3) := tX9_clears_ok (128, .goto 69, 3) (List.mem_of_getElem? (i := 76) rfl)
theorem dX9_clears_131 : decode cX9_clears 131 = .ok (.iconst 0, 1) := tX9_clears_ok (131, .iconst 0, 1) (List.mem_of_getElem? (i := 77) rfl)
theorem dX9_clears_132 : decode cX9_clears 132 = .ok (.istore 11, 2) := tX9_clears_ok (132, .istore 11, 2) (List.mem_of_getElem? (i := 78) rfl)
theorem dX9_clears_134 : decode cX9_clears 134 = .ok (.iload 11, 2) := tX9_clears_ok (134, .iload 11, 2) (List.mem_of_getElem? (i := 79) rfl)
theorem dX9_clears_136 : decode cX9_clears 136 = .ok (.iload 4, 2) := tX9_clears_ok (136, .iload 4, 2) (List.mem_of_getElem? (i := 80) rfl)
theorem dX9_clears_138 : decode cX9_clears 138 = .ok (.if_icmp .ge 59, 3) := tX9_clears_ok (138, .if_icmp .ge 59, 3) (List.mem_of_getElem? (i := 81) rfl)
theorem dX9_clears_141 : decode cX9_clears 141 = .ok (.aload_n 0, 1) := tX9_clears_ok (141, .aload_n 0, 1) (List.mem_of_getElem? (i := 82) rfl)
theorem dX9_clears_142 : decode cX9_clears 142 = .ok (.getfield 109, 3) := tX9_clears_ok (142, .getfield 109, 3) (List.mem_of_getElem? (i := 83) rfl)
theorem dX9_clears_145 : decode cX9_clears 145 = .ok (.iload 4, 2) := tX9_clears_ok (145, .iload 4, 2) (List.mem_of_getElem? (i := 84) rfl)
theorem dX9_clears_147 : decode cX9_clears 147 = .ok (.iload 8, 2) := tX9_clears_ok (147, .iload 8, 2) (List.mem_of_getElem? (i := 85) rfl)
theorem dX9_clears_149 : decode cX9_clears 149 = .ok (.imul, 1) := tX9_clears_ok (149, .imul, 1) (List.mem_of_getElem? (i := 86) rfl)
theorem dX9_clears_150 : decode cX9_clears 150 = .ok (.iload 11, 2) := tX9_clears_ok (150, .iload 11, 2) (List.mem_of_getElem? (i := 87) rfl)
theorem dX9_clears_152 : decode cX9_clears 152 = .ok (.iadd, 1) := tX9_clears_ok (152, .iadd, 1) (List.mem_of_getElem? (i := 88) rfl)
theorem dX9_clears_153 : decode cX9_clears 153 = .ok (.aload_n 0, 1) := tX9_clears_ok (153, .aload_n 0, 1) (List.mem_of_getElem? (i := 89) rfl)
theorem dX9_clears_154 : decode cX9_clears 154 = .ok (.getfield 109, 3) := tX9_clears_ok (154, .getfield 109, 3) (List.mem_of_getElem? (i := 90) rfl)
theorem dX9_clears_157 : decode cX9_clears 157 = .ok (.iload 4, 2) := tX9_clears_ok (157, .iload 4, 2) (List.mem_of_getElem? (i := 91) rfl)
theorem dX9_clears_159 : decode cX9_clears 159 = .ok (.iload 8, 2) := tX9_clears_ok (159, .iload 8, 2) (List.mem_of_getElem? (i := 92) rfl)
theorem dX9_clears_161 : decode cX9_clears 161 = .ok (.imul, 1) := tX9_clears_ok (161, .imul, 1) (List.mem_of_getElem? (i := 93) rfl)
theorem dX9_clears_162 : decode cX9_clears 162 = .ok (.iload 11, 2) := tX9_clears_ok (162, .iload 11, 2) (List.mem_of_getElem? (i := 94) rfl)
theorem dX9_clears_164 : decode cX9_clears 164 = .ok (.iadd, 1) := tX9_clears_ok (164, .iadd, 1) (List.mem_of_getElem? (i := 95) rfl)
theorem dX9_clears_165 : decode cX9_clears 165 = .ok (.laload, 1) := tX9_clears_ok (165, .laload, 1) (List.mem_of_getElem? (i := 96) rfl)
theorem dX9_clears_166 : decode cX9_clears 166 = .ok (.ldc2_w 300, 3) := tX9_clears_ok (166, .ldc2_w 300, 3) (List.mem_of_getElem? (i := 97) rfl)
theorem dX9_clears_169 : decode cX9_clears 169 = .ok (.lload 9, 2) := tX9_clears_ok (169, .lload 9, 2) (List.mem_of_getElem? (i := 98) rfl)
theorem dX9_clears_171 : decode cX9_clears 171 = .ok (.lsub, 1) := tX9_clears_ok (171, .lsub, 1) (List.mem_of_getElem? (i := 99) rfl)
theorem dX9_clears_172 : decode cX9_clears 172 = .ok (.aload_n 0, 1) := tX9_clears_ok (172, .aload_n 0, 1) (List.mem_of_getElem? (i := 100) rfl)
theorem dX9_clears_173 : decode cX9_clears 173 = .ok (.getfield 109, 3) := tX9_clears_ok (173, .getfield 109, 3) (List.mem_of_getElem? (i := 101) rfl)
theorem dX9_clears_176 : decode cX9_clears 176 = .ok (.iload 4, 2) := tX9_clears_ok (176, .iload 4, 2) (List.mem_of_getElem? (i := 102) rfl)
theorem dX9_clears_178 : decode cX9_clears 178 = .ok (.iload_n 1, 1) := tX9_clears_ok (178, .iload_n 1, 1) (List.mem_of_getElem? (i := 103) rfl)
theorem dX9_clears_179 : decode cX9_clears 179 = .ok (.imul, 1) := tX9_clears_ok (179, .imul, 1) (List.mem_of_getElem? (i := 104) rfl)
theorem dX9_clears_180 : decode cX9_clears 180 = .ok (.iload 11, 2) := tX9_clears_ok (180, .iload 11, 2) (List.mem_of_getElem? (i := 105) rfl)
theorem dX9_clears_182 : decode cX9_clears 182 = .ok (.iadd, 1) := tX9_clears_ok (182, .iadd, 1) (List.mem_of_getElem? (i := 106) rfl)
theorem dX9_clears_183 : decode cX9_clears 183 = .ok (.laload, 1) := tX9_clears_ok (183, .laload, 1) (List.mem_of_getElem? (i := 107) rfl)
theorem dX9_clears_184 : decode cX9_clears 184 = .ok (.lmul, 1) := tX9_clears_ok (184, .lmul, 1) (List.mem_of_getElem? (i := 108) rfl)
theorem dX9_clears_185 : decode cX9_clears 185 = .ok (.ladd, 1) := tX9_clears_ok (185, .ladd, 1) (List.mem_of_getElem? (i := 109) rfl)
theorem dX9_clears_186 : decode cX9_clears 186 = .ok (.ldc2_w 300, 3) := tX9_clears_ok (186, .ldc2_w 300, 3) (List.mem_of_getElem? (i := 110) rfl)
theorem dX9_clears_189 : decode cX9_clears 189 = .ok (.lrem, 1) := tX9_clears_ok (189, .lrem, 1) (List.mem_of_getElem? (i := 111) rfl)
theorem dX9_clears_190 : decode cX9_clears 190 = .ok (.lastore, 1) := tX9_clears_ok (190, .lastore, 1) (List.mem_of_getElem? (i := 112) rfl)
theorem dX9_clears_191 : decode cX9_clears 191 = .ok (.iinc 11 1, 3) := tX9_clears_ok (191, .iinc 11 1, 3) (List.mem_of_getElem? (i := 113) rfl)
theorem dX9_clears_194 : decode cX9_clears 194 = .ok (.goto (-60), 3) := tX9_clears_ok (194, .goto (-60), 3) (List.mem_of_getElem? (i := 114) rfl)
theorem dX9_clears_197 : decode cX9_clears 197 = .ok (.iinc 8 1, 3) := tX9_clears_ok (197, .iinc 8 1, 3) (List.mem_of_getElem? (i := 115) rfl)
theorem dX9_clears_200 : decode cX9_clears 200 = .ok (.goto (-106), 3) := tX9_clears_ok (200, .goto (-106), 3) (List.mem_of_getElem? (i := 116) rfl)
theorem dX9_clears_203 : decode cX9_clears 203 = .ok (.return_, 1) := tX9_clears_ok (203, .return_, 1) (List.mem_of_getElem? (i := 117) rfl)

def tX9_rule : List (Nat × Instr × Nat) := [
  (0, .aload_n 0, 1),
  (1, .iconst 0, 1),
  (2, .putfield 112, 3),
  (5, .aload_n 0, 1),
  (6, .iconst 0, 1),
  (7, .putfield 115, 3),
  (10, .aload_n 0, 1),
  (11, .invokevirtual 302, 3),
  (14, .ifCond .ne 10, 3),
  (17, .aload_n 0, 1),
  (18, .bipush 7, 2),
  (20, .invokevirtual 156, 3),
  (23, .ireturn, 1),
  (24, .aload_n 0, 1),
  (25, .invokevirtual 321, 3),
  (28, .iconst 0, 1),
  (29, .istore_n 1, 1),
  (30, .aload_n 0, 1),
  (31, .iload_n 1, 1),
  (32, .invokevirtual 324, 3),
  (35, .ifCond .ne 9, 3),
  (38, .iinc 1 1, 3),
  (41, .goto (-11), 3),
  (44, .iload_n 1, 1),
  (45, .ireturn, 1)]
set_option maxRecDepth 100000 in
theorem tX9_rule_ok : ∀ q ∈ tX9_rule, decode cX9_rule q.1 = .ok q.2 := by decide +kernel
theorem dX9_rule_0 : decode cX9_rule 0 = .ok (.aload_n 0, 1) := tX9_rule_ok (0, .aload_n 0, 1) (List.mem_of_getElem? (i := 0) rfl)
theorem dX9_rule_1 : decode cX9_rule 1 = .ok (.iconst 0, 1) := tX9_rule_ok (1, .iconst 0, 1) (List.mem_of_getElem? (i := 1) rfl)
theorem dX9_rule_2 : decode cX9_rule 2 = .ok (.putfield 112, 3) := tX9_rule_ok (2, .putfield 112, 3) (List.mem_of_getElem? (i := 2) rfl)
theorem dX9_rule_5 : decode cX9_rule 5 = .ok (.aload_n 0, 1) := tX9_rule_ok (5, .aload_n 0, 1) (List.mem_of_getElem? (i := 3) rfl)
theorem dX9_rule_6 : decode cX9_rule 6 = .ok (.iconst 0, 1) := tX9_rule_ok (6, .iconst 0, 1) (List.mem_of_getElem? (i := 4) rfl)
theorem dX9_rule_7 : decode cX9_rule 7 = .ok (.putfield 115, 3) := tX9_rule_ok (7, .putfield 115, 3) (List.mem_of_getElem? (i := 5) rfl)
theorem dX9_rule_10 : decode cX9_rule 10 = .ok (.aload_n 0, 1) := tX9_rule_ok (10, .aload_n 0, 1) (List.mem_of_getElem? (i := 6) rfl)
theorem dX9_rule_11 : decode cX9_rule 11 = .ok (.invokevirtual 302, 3) := tX9_rule_ok (11, .invokevirtual 302, 3) (List.mem_of_getElem? (i := 7) rfl)
theorem dX9_rule_14 : decode cX9_rule 14 = .ok (.ifCond .ne 10, 3) := tX9_rule_ok (14, .ifCond .ne 10, 3) (List.mem_of_getElem? (i := 8) rfl)
theorem dX9_rule_17 : decode cX9_rule 17 = .ok (.aload_n 0, 1) := tX9_rule_ok (17, .aload_n 0, 1) (List.mem_of_getElem? (i := 9) rfl)
theorem dX9_rule_18 : decode cX9_rule 18 = .ok (.bipush 7, 2) := tX9_rule_ok (18, .bipush 7, 2) (List.mem_of_getElem? (i := 10) rfl)
theorem dX9_rule_20 : decode cX9_rule 20 = .ok (.invokevirtual 156, 3) := tX9_rule_ok (20, .invokevirtual 156, 3) (List.mem_of_getElem? (i := 11) rfl)
theorem dX9_rule_23 : decode cX9_rule 23 = .ok (.ireturn, 1) := tX9_rule_ok (23, .ireturn, 1) (List.mem_of_getElem? (i := 12) rfl)
theorem dX9_rule_24 : decode cX9_rule 24 = .ok (.aload_n 0, 1) := tX9_rule_ok (24, .aload_n 0, 1) (List.mem_of_getElem? (i := 13) rfl)
theorem dX9_rule_25 : decode cX9_rule 25 = .ok (.invokevirtual 321, 3) := tX9_rule_ok (25, .invokevirtual 321, 3) (List.mem_of_getElem? (i := 14) rfl)
theorem dX9_rule_28 : decode cX9_rule 28 = .ok (.iconst 0, 1) := tX9_rule_ok (28, .iconst 0, 1) (List.mem_of_getElem? (i := 15) rfl)
theorem dX9_rule_29 : decode cX9_rule 29 = .ok (.istore_n 1, 1) := tX9_rule_ok (29, .istore_n 1, 1) (List.mem_of_getElem? (i := 16) rfl)
theorem dX9_rule_30 : decode cX9_rule 30 = .ok (.aload_n 0, 1) := tX9_rule_ok (30, .aload_n 0, 1) (List.mem_of_getElem? (i := 17) rfl)
theorem dX9_rule_31 : decode cX9_rule 31 = .ok (.iload_n 1, 1) := tX9_rule_ok (31, .iload_n 1, 1) (List.mem_of_getElem? (i := 18) rfl)
theorem dX9_rule_32 : decode cX9_rule 32 = .ok (.invokevirtual 324, 3) := tX9_rule_ok (32, .invokevirtual 324, 3) (List.mem_of_getElem? (i := 19) rfl)
theorem dX9_rule_35 : decode cX9_rule 35 = .ok (.ifCond .ne 9, 3) := tX9_rule_ok (35, .ifCond .ne 9, 3) (List.mem_of_getElem? (i := 20) rfl)
theorem dX9_rule_38 : decode cX9_rule 38 = .ok (.iinc 1 1, 3) := tX9_rule_ok (38, .iinc 1 1, 3) (List.mem_of_getElem? (i := 21) rfl)
theorem dX9_rule_41 : decode cX9_rule 41 = .ok (.goto (-11), 3) := tX9_rule_ok (41, .goto (-11), 3) (List.mem_of_getElem? (i := 22) rfl)
theorem dX9_rule_44 : decode cX9_rule 44 = .ok (.iload_n 1, 1) := tX9_rule_ok (44, .iload_n 1, 1) (List.mem_of_getElem? (i := 23) rfl)
theorem dX9_rule_45 : decode cX9_rule 45 = .ok (.ireturn, 1) := tX9_rule_ok (45, .ireturn, 1) (List.mem_of_getElem? (i := 24) rfl)

def tX9_part : List (Nat × Instr × Nat) := [
  (0, .aload_n 0, 1),
  (1, .iconst 0, 1),
  (2, .putfield 112, 3),
  (5, .aload_n 0, 1),
  (6, .iconst 0, 1),
  (7, .putfield 115, 3),
  (10, .iload_n 1, 1),
  (11, .iconst 1, 1),
  (12, .if_icmp .lt 11, 3),
  (15, .iload_n 1, 1),
  (16, .aload_n 0, 1),
  (17, .getfield 72, 3),
  (20, .if_icmp .le 12, 3),
  (23, .aload_n 0, 1),
  (24, .bipush 8, 2),
  (26, .invokevirtual 156, 3),
  (29, .goto 12, 3),
  (32, .aload_n 0, 1),
  (33, .getfield 75, 3),
  (36, .iload_n 1, 1),
  (37, .iconst 1, 1),
  (38, .isub, 1),
  (39, .laload, 1),
  (40, .l2i, 1),
  (41, .ireturn, 1)]
set_option maxRecDepth 100000 in
theorem tX9_part_ok : ∀ q ∈ tX9_part, decode cX9_part q.1 = .ok q.2 := by decide +kernel
theorem dX9_part_0 : decode cX9_part 0 = .ok (.aload_n 0, 1) := tX9_part_ok (0, .aload_n 0, 1) (List.mem_of_getElem? (i := 0) rfl)
theorem dX9_part_1 : decode cX9_part 1 = .ok (.iconst 0, 1) := tX9_part_ok (1, .iconst 0, 1) (List.mem_of_getElem? (i := 1) rfl)
theorem dX9_part_2 : decode cX9_part 2 = .ok (.putfield 112, 3) := tX9_part_ok (2, .putfield 112, 3) (List.mem_of_getElem? (i := 2) rfl)
theorem dX9_part_5 : decode cX9_part 5 = .ok (.aload_n 0, 1) := tX9_part_ok (5, .aload_n 0, 1) (List.mem_of_getElem? (i := 3) rfl)
theorem dX9_part_6 : decode cX9_part 6 = .ok (.iconst 0, 1) := tX9_part_ok (6, .iconst 0, 1) (List.mem_of_getElem? (i := 4) rfl)
theorem dX9_part_7 : decode cX9_part 7 = .ok (.putfield 115, 3) := tX9_part_ok (7, .putfield 115, 3) (List.mem_of_getElem? (i := 5) rfl)
theorem dX9_part_10 : decode cX9_part 10 = .ok (.iload_n 1, 1) := tX9_part_ok (10, .iload_n 1, 1) (List.mem_of_getElem? (i := 6) rfl)
theorem dX9_part_11 : decode cX9_part 11 = .ok (.iconst 1, 1) := tX9_part_ok (11, .iconst 1, 1) (List.mem_of_getElem? (i := 7) rfl)
theorem dX9_part_12 : decode cX9_part 12 = .ok (.if_icmp .lt 11, 3) := tX9_part_ok (12, .if_icmp .lt 11, 3) (List.mem_of_getElem? (i := 8) rfl)
theorem dX9_part_15 : decode cX9_part 15 = .ok (.iload_n 1, 1) := tX9_part_ok (15, .iload_n 1, 1) (List.mem_of_getElem? (i := 9) rfl)
theorem dX9_part_16 : decode cX9_part 16 = .ok (.aload_n 0, 1) := tX9_part_ok (16, .aload_n 0, 1) (List.mem_of_getElem? (i := 10) rfl)
theorem dX9_part_17 : decode cX9_part 17 = .ok (.getfield 72, 3) := tX9_part_ok (17, .getfield 72, 3) (List.mem_of_getElem? (i := 11) rfl)
theorem dX9_part_20 : decode cX9_part 20 = .ok (.if_icmp .le 12, 3) := tX9_part_ok (20, .if_icmp .le 12, 3) (List.mem_of_getElem? (i := 12) rfl)
theorem dX9_part_23 : decode cX9_part 23 = .ok (.aload_n 0, 1) := tX9_part_ok (23, .aload_n 0, 1) (List.mem_of_getElem? (i := 13) rfl)
theorem dX9_part_24 : decode cX9_part 24 = .ok (.bipush 8, 2) := tX9_part_ok (24, .bipush 8, 2) (List.mem_of_getElem? (i := 14) rfl)
theorem dX9_part_26 : decode cX9_part 26 = .ok (.invokevirtual 156, 3) := tX9_part_ok (26, .invokevirtual 156, 3) (List.mem_of_getElem? (i := 15) rfl)
theorem dX9_part_29 : decode cX9_part 29 = .ok (.goto 12, 3) := tX9_part_ok (29, .goto 12, 3) (List.mem_of_getElem? (i := 16) rfl)
theorem dX9_part_32 : decode cX9_part 32 = .ok (.aload_n 0, 1) := tX9_part_ok (32, .aload_n 0, 1) (List.mem_of_getElem? (i := 17) rfl)
theorem dX9_part_33 : decode cX9_part 33 = .ok (.getfield 75, 3) := tX9_part_ok (33, .getfield 75, 3) (List.mem_of_getElem? (i := 18) rfl)
theorem dX9_part_36 : decode cX9_part 36 = .ok (.iload_n 1, 1) := tX9_part_ok (36, .iload_n 1, 1) (List.mem_of_getElem? (i := 19) rfl)
theorem dX9_part_37 : decode cX9_part 37 = .ok (.iconst 1, 1) := tX9_part_ok (37, .iconst 1, 1) (List.mem_of_getElem? (i := 20) rfl)
theorem dX9_part_38 : decode cX9_part 38 = .ok (.isub, 1) := tX9_part_ok (38, .isub, 1) (List.mem_of_getElem? (i := 21) rfl)
theorem dX9_part_39 : decode cX9_part 39 = .ok (.laload, 1) := tX9_part_ok (39, .laload, 1) (List.mem_of_getElem? (i := 22) rfl)
theorem dX9_part_40 : decode cX9_part 40 = .ok (.l2i, 1) := tX9_part_ok (40, .l2i, 1) (List.mem_of_getElem? (i := 23) rfl)
theorem dX9_part_41 : decode cX9_part 41 = .ok (.ireturn, 1) := tX9_part_ok (41, .ireturn, 1) (List.mem_of_getElem? (i := 24) rfl)

def tX9_out : List (Nat × Instr × Nat) := [
  (0, .aload_n 0, 1),
  (1, .iconst 0, 1),
  (2, .putfield 112, 3),
  (5, .iload_n 1, 1),
  (6, .ifCond .lt 11, 3),
  (9, .iload_n 1, 1),
  (10, .aload_n 0, 1),
  (11, .getfield 234, 3),
  (14, .if_icmp .lt 10, 3),
  (17, .aload_n 0, 1),
  (18, .iconst 1, 1),
  (19, .putfield 112, 3),
  (22, .iconst 0, 1),
  (23, .ireturn, 1),
  (24, .aload_n 0, 1),
  (25, .getfield 78, 3),
  (28, .iload_n 1, 1),
  (29, .baload, 1),
  (30, .ireturn, 1)]
set_option maxRecDepth 100000 in
theorem tX9_out_ok : ∀ q ∈ tX9_out, decode cX9_out q.1 = .ok q.2 := by decide +kernel
theorem dX9_out_0 : decode cX9_out 0 = .ok (.aload_n 0, 1) := tX9_out_ok (0, .aload_n 0, 1) (List.mem_of_getElem? (i := 0) rfl)
theorem dX9_out_1 : decode cX9_out 1 = .ok (.iconst 0, 1) := tX9_out_ok (1, .iconst 0, 1) (List.mem_of_getElem? (i := 1) rfl)
theorem dX9_out_2 : decode cX9_out 2 = .ok (.putfield 112, 3) := tX9_out_ok (2, .putfield 112, 3) (List.mem_of_getElem? (i := 2) rfl)
theorem dX9_out_5 : decode cX9_out 5 = .ok (.iload_n 1, 1) := tX9_out_ok (5, .iload_n 1, 1) (List.mem_of_getElem? (i := 3) rfl)
theorem dX9_out_6 : decode cX9_out 6 = .ok (.ifCond .lt 11, 3) := tX9_out_ok (6, .ifCond .lt 11, 3) (List.mem_of_getElem? (i := 4) rfl)
theorem dX9_out_9 : decode cX9_out 9 = .ok (.iload_n 1, 1) := tX9_out_ok (9, .iload_n 1, 1) (List.mem_of_getElem? (i := 5) rfl)
theorem dX9_out_10 : decode cX9_out 10 = .ok (.aload_n 0, 1) := tX9_out_ok (10, .aload_n 0, 1) (List.mem_of_getElem? (i := 6) rfl)
theorem dX9_out_11 : decode cX9_out 11 = .ok (.getfield 234, 3) := tX9_out_ok (11, .getfield 234, 3) (List.mem_of_getElem? (i := 7) rfl)
theorem dX9_out_14 : decode cX9_out 14 = .ok (.if_icmp .lt 10, 3) := tX9_out_ok (14, .if_icmp .lt 10, 3) (List.mem_of_getElem? (i := 8) rfl)
theorem dX9_out_17 : decode cX9_out 17 = .ok (.aload_n 0, 1) := tX9_out_ok (17, .aload_n 0, 1) (List.mem_of_getElem? (i := 9) rfl)
theorem dX9_out_18 : decode cX9_out 18 = .ok (.iconst 1, 1) := tX9_out_ok (18, .iconst 1, 1) (List.mem_of_getElem? (i := 10) rfl)
theorem dX9_out_19 : decode cX9_out 19 = .ok (.putfield 112, 3) := tX9_out_ok (19, .putfield 112, 3) (List.mem_of_getElem? (i := 11) rfl)
theorem dX9_out_22 : decode cX9_out 22 = .ok (.iconst 0, 1) := tX9_out_ok (22, .iconst 0, 1) (List.mem_of_getElem? (i := 12) rfl)
theorem dX9_out_23 : decode cX9_out 23 = .ok (.ireturn, 1) := tX9_out_ok (23, .ireturn, 1) (List.mem_of_getElem? (i := 13) rfl)
theorem dX9_out_24 : decode cX9_out 24 = .ok (.aload_n 0, 1) := tX9_out_ok (24, .aload_n 0, 1) (List.mem_of_getElem? (i := 14) rfl)
theorem dX9_out_25 : decode cX9_out 25 = .ok (.getfield 78, 3) := tX9_out_ok (25, .getfield 78, 3) (List.mem_of_getElem? (i := 15) rfl)
theorem dX9_out_28 : decode cX9_out 28 = .ok (.iload_n 1, 1) := tX9_out_ok (28, .iload_n 1, 1) (List.mem_of_getElem? (i := 16) rfl)
theorem dX9_out_29 : decode cX9_out 29 = .ok (.baload, 1) := tX9_out_ok (29, .baload, 1) (List.mem_of_getElem? (i := 17) rfl)
theorem dX9_out_30 : decode cX9_out 30 = .ok (.ireturn, 1) := tX9_out_ok (30, .ireturn, 1) (List.mem_of_getElem? (i := 18) rfl)

def tJ9_floorMod_7cf53 : List (Nat × Instr × Nat) := [
  (0, .iload_n 0, 1),
  (1, .iload_n 1, 1),
  (2, .irem, 1),
  (3, .istore_n 2, 1),
  (4, .iload_n 0, 1),
  (5, .iload_n 1, 1),
  (6, .ixor, 1),
  (7, .ifCond .ge 11, 3),
  (10, .iload_n 2, 1),
  (11, .ifCond .eq 7, 3),
  (14, .iload_n 2, 1),
  (15, .iload_n 1, 1),
  (16, .iadd, 1),
  (17, .ireturn, 1),
  (18, .iload_n 2, 1),
  (19, .ireturn, 1)]
set_option maxRecDepth 100000 in
theorem tJ9_floorMod_7cf53_ok : ∀ q ∈ tJ9_floorMod_7cf53, decode cJ9_floorMod_7cf53 q.1 = .ok q.2 := by decide +kernel
theorem dJ9_floorMod_7cf53_0 : decode cJ9_floorMod_7cf53 0 = .ok (.iload_n 0, 1) := tJ9_floorMod_7cf53_ok (0, .iload_n 0, 1) (List.mem_of_getElem? (i := 0) rfl)
theorem dJ9_floorMod_7cf53_1 : decode cJ9_floorMod_7cf53 1 = .ok (.iload_n 1, 1) := tJ9_floorMod_7cf53_ok (1, .iload_n 1, 1) (List.mem_of_getElem? (i := 1) rfl)
theorem dJ9_floorMod_7cf53_2 : decode cJ9_floorMod_7cf53 2 = .ok (.irem, 1) := tJ9_floorMod_7cf53_ok (2, .irem, 1) (List.mem_of_getElem? (i := 2) rfl)
theorem dJ9_floorMod_7cf53_3 : decode cJ9_floorMod_7cf53 3 = .ok (.istore_n 2, 1) := tJ9_floorMod_7cf53_ok (3, .istore_n 2, 1) (List.mem_of_getElem? (i := 3) rfl)
theorem dJ9_floorMod_7cf53_4 : decode cJ9_floorMod_7cf53 4 = .ok (.iload_n 0, 1) := tJ9_floorMod_7cf53_ok (4, .iload_n 0, 1) (List.mem_of_getElem? (i := 4) rfl)
theorem dJ9_floorMod_7cf53_5 : decode cJ9_floorMod_7cf53 5 = .ok (.iload_n 1, 1) := tJ9_floorMod_7cf53_ok (5, .iload_n 1, 1) (List.mem_of_getElem? (i := 5) rfl)
theorem dJ9_floorMod_7cf53_6 : decode cJ9_floorMod_7cf53 6 = .ok (.ixor, 1) := tJ9_floorMod_7cf53_ok (6, .ixor, 1) (List.mem_of_getElem? (i := 6) rfl)
theorem dJ9_floorMod_7cf53_7 : decode cJ9_floorMod_7cf53 7 = .ok (.ifCond .ge 11, 3) := tJ9_floorMod_7cf53_ok (7, .ifCond .ge 11, 3) (List.mem_of_getElem? (i := 7) rfl)
theorem dJ9_floorMod_7cf53_10 : decode cJ9_floorMod_7cf53 10 = .ok (.iload_n 2, 1) := tJ9_floorMod_7cf53_ok (10, .iload_n 2, 1) (List.mem_of_getElem? (i := 8) rfl)
theorem dJ9_floorMod_7cf53_11 : decode cJ9_floorMod_7cf53 11 = .ok (.ifCond .eq 7, 3) := tJ9_floorMod_7cf53_ok (11, .ifCond .eq 7, 3) (List.mem_of_getElem? (i := 9) rfl)
theorem dJ9_floorMod_7cf53_14 : decode cJ9_floorMod_7cf53 14 = .ok (.iload_n 2, 1) := tJ9_floorMod_7cf53_ok (14, .iload_n 2, 1) (List.mem_of_getElem? (i := 10) rfl)
theorem dJ9_floorMod_7cf53_15 : decode cJ9_floorMod_7cf53 15 = .ok (.iload_n 1, 1) := tJ9_floorMod_7cf53_ok (15, .iload_n 1, 1) (List.mem_of_getElem? (i := 11) rfl)
theorem dJ9_floorMod_7cf53_16 : decode cJ9_floorMod_7cf53 16 = .ok (.iadd, 1) := tJ9_floorMod_7cf53_ok (16, .iadd, 1) (List.mem_of_getElem? (i := 12) rfl)
theorem dJ9_floorMod_7cf53_17 : decode cJ9_floorMod_7cf53 17 = .ok (.ireturn, 1) := tJ9_floorMod_7cf53_ok (17, .ireturn, 1) (List.mem_of_getElem? (i := 13) rfl)
theorem dJ9_floorMod_7cf53_18 : decode cJ9_floorMod_7cf53 18 = .ok (.iload_n 2, 1) := tJ9_floorMod_7cf53_ok (18, .iload_n 2, 1) (List.mem_of_getElem? (i := 14) rfl)
theorem dJ9_floorMod_7cf53_19 : decode cJ9_floorMod_7cf53 19 = .ok (.ireturn, 1) := tJ9_floorMod_7cf53_ok (19, .ireturn, 1) (List.mem_of_getElem? (i := 15) rfl)

def tJ9_abs_0f7a4 : List (Nat × Instr × Nat) := [
  (0, .iload_n 0, 1),
  (1, .ifCond .ge 8, 3),
  (4, .iload_n 0, 1),
  (5, .ineg, 1),
  (6, .goto 4, 3),
  (9, .iload_n 0, 1),
  (10, .ireturn, 1)]
set_option maxRecDepth 100000 in
theorem tJ9_abs_0f7a4_ok : ∀ q ∈ tJ9_abs_0f7a4, decode cJ9_abs_0f7a4 q.1 = .ok q.2 := by decide +kernel
theorem dJ9_abs_0f7a4_0 : decode cJ9_abs_0f7a4 0 = .ok (.iload_n 0, 1) := tJ9_abs_0f7a4_ok (0, .iload_n 0, 1) (List.mem_of_getElem? (i := 0) rfl)
theorem dJ9_abs_0f7a4_1 : decode cJ9_abs_0f7a4 1 = .ok (.ifCond .ge 8, 3) := tJ9_abs_0f7a4_ok (1, .ifCond .ge 8, 3) (List.mem_of_getElem? (i := 1) rfl)
theorem dJ9_abs_0f7a4_4 : decode cJ9_abs_0f7a4 4 = .ok (.iload_n 0, 1) := tJ9_abs_0f7a4_ok (4, .iload_n 0, 1) (List.mem_of_getElem? (i := 2) rfl)
theorem dJ9_abs_0f7a4_5 : decode cJ9_abs_0f7a4 5 = .ok (.ineg, 1) := tJ9_abs_0f7a4_ok (5, .ineg, 1) (List.mem_of_getElem? (i := 3) rfl)
theorem dJ9_abs_0f7a4_6 : decode cJ9_abs_0f7a4 6 = .ok (.goto 4, 3) := tJ9_abs_0f7a4_ok (6, .goto 4, 3) (List.mem_of_getElem? (i := 4) rfl)
theorem dJ9_abs_0f7a4_9 : decode cJ9_abs_0f7a4 9 = .ok (.iload_n 0, 1) := tJ9_abs_0f7a4_ok (9, .iload_n 0, 1) (List.mem_of_getElem? (i := 5) rfl)
theorem dJ9_abs_0f7a4_10 : decode cJ9_abs_0f7a4 10 = .ok (.ireturn, 1) := tJ9_abs_0f7a4_ok (10, .ireturn, 1) (List.mem_of_getElem? (i := 6) rfl)

def tJ9_max_7cf53 : List (Nat × Instr × Nat) := [
  (0, .iload_n 0, 1),
  (1, .iload_n 1, 1),
  (2, .if_icmp .lt 7, 3),
  (5, .iload_n 0, 1),
  (6, .goto 4, 3),
  (9, .iload_n 1, 1),
  (10, .ireturn, 1)]
set_option maxRecDepth 100000 in
theorem tJ9_max_7cf53_ok : ∀ q ∈ tJ9_max_7cf53, decode cJ9_max_7cf53 q.1 = .ok q.2 := by decide +kernel
theorem dJ9_max_7cf53_0 : decode cJ9_max_7cf53 0 = .ok (.iload_n 0, 1) := tJ9_max_7cf53_ok (0, .iload_n 0, 1) (List.mem_of_getElem? (i := 0) rfl)
theorem dJ9_max_7cf53_1 : decode cJ9_max_7cf53 1 = .ok (.iload_n 1, 1) := tJ9_max_7cf53_ok (1, .iload_n 1, 1) (List.mem_of_getElem? (i := 1) rfl)
theorem dJ9_max_7cf53_2 : decode cJ9_max_7cf53 2 = .ok (.if_icmp .lt 7, 3) := tJ9_max_7cf53_ok (2, .if_icmp .lt 7, 3) (List.mem_of_getElem? (i := 2) rfl)
theorem dJ9_max_7cf53_5 : decode cJ9_max_7cf53 5 = .ok (.iload_n 0, 1) := tJ9_max_7cf53_ok (5, .iload_n 0, 1) (List.mem_of_getElem? (i := 3) rfl)
theorem dJ9_max_7cf53_6 : decode cJ9_max_7cf53 6 = .ok (.goto 4, 3) := tJ9_max_7cf53_ok (6, .goto 4, 3) (List.mem_of_getElem? (i := 4) rfl)
theorem dJ9_max_7cf53_9 : decode cJ9_max_7cf53 9 = .ok (.iload_n 1, 1) := tJ9_max_7cf53_ok (9, .iload_n 1, 1) (List.mem_of_getElem? (i := 5) rfl)
theorem dJ9_max_7cf53_10 : decode cJ9_max_7cf53 10 = .ok (.ireturn, 1) := tJ9_max_7cf53_ok (10, .ireturn, 1) (List.mem_of_getElem? (i := 6) rfl)

def tJ9_min_7cf53 : List (Nat × Instr × Nat) := [
  (0, .iload_n 0, 1),
  (1, .iload_n 1, 1),
  (2, .if_icmp .gt 7, 3),
  (5, .iload_n 0, 1),
  (6, .goto 4, 3),
  (9, .iload_n 1, 1),
  (10, .ireturn, 1)]
set_option maxRecDepth 100000 in
theorem tJ9_min_7cf53_ok : ∀ q ∈ tJ9_min_7cf53, decode cJ9_min_7cf53 q.1 = .ok q.2 := by decide +kernel
theorem dJ9_min_7cf53_0 : decode cJ9_min_7cf53 0 = .ok (.iload_n 0, 1) := tJ9_min_7cf53_ok (0, .iload_n 0, 1) (List.mem_of_getElem? (i := 0) rfl)
theorem dJ9_min_7cf53_1 : decode cJ9_min_7cf53 1 = .ok (.iload_n 1, 1) := tJ9_min_7cf53_ok (1, .iload_n 1, 1) (List.mem_of_getElem? (i := 1) rfl)
theorem dJ9_min_7cf53_2 : decode cJ9_min_7cf53 2 = .ok (.if_icmp .gt 7, 3) := tJ9_min_7cf53_ok (2, .if_icmp .gt 7, 3) (List.mem_of_getElem? (i := 2) rfl)
theorem dJ9_min_7cf53_5 : decode cJ9_min_7cf53 5 = .ok (.iload_n 0, 1) := tJ9_min_7cf53_ok (5, .iload_n 0, 1) (List.mem_of_getElem? (i := 3) rfl)
theorem dJ9_min_7cf53_6 : decode cJ9_min_7cf53 6 = .ok (.goto 4, 3) := tJ9_min_7cf53_ok (6, .goto 4, 3) (List.mem_of_getElem? (i := 4) rfl)
theorem dJ9_min_7cf53_9 : decode cJ9_min_7cf53 9 = .ok (.iload_n 1, 1) := tJ9_min_7cf53_ok (9, .iload_n 1, 1) (List.mem_of_getElem? (i := 5) rfl)
theorem dJ9_min_7cf53_10 : decode cJ9_min_7cf53 10 = .ok (.ireturn, 1) := tJ9_min_7cf53_ok (10, .ireturn, 1) (List.mem_of_getElem? (i := 6) rfl)

def tJ9_min_f86c9 : List (Nat × Instr × Nat) := [
  (0, .lload_n 0, 1),
  (1, .lload_n 2, 1),
  (2, .lcmp, 1),
  (3, .ifCond .gt 7, 3),
  (6, .lload_n 0, 1),
  (7, .goto 4, 3),
  (10, .lload_n 2, 1),
  (11, .lreturn, 1)]
set_option maxRecDepth 100000 in
theorem tJ9_min_f86c9_ok : ∀ q ∈ tJ9_min_f86c9, decode cJ9_min_f86c9 q.1 = .ok q.2 := by decide +kernel
theorem dJ9_min_f86c9_0 : decode cJ9_min_f86c9 0 = .ok (.lload_n 0, 1) := tJ9_min_f86c9_ok (0, .lload_n 0, 1) (List.mem_of_getElem? (i := 0) rfl)
theorem dJ9_min_f86c9_1 : decode cJ9_min_f86c9 1 = .ok (.lload_n 2, 1) := tJ9_min_f86c9_ok (1, .lload_n 2, 1) (List.mem_of_getElem? (i := 1) rfl)
theorem dJ9_min_f86c9_2 : decode cJ9_min_f86c9 2 = .ok (.lcmp, 1) := tJ9_min_f86c9_ok (2, .lcmp, 1) (List.mem_of_getElem? (i := 2) rfl)
theorem dJ9_min_f86c9_3 : decode cJ9_min_f86c9 3 = .ok (.ifCond .gt 7, 3) := tJ9_min_f86c9_ok (3, .ifCond .gt 7, 3) (List.mem_of_getElem? (i := 3) rfl)
theorem dJ9_min_f86c9_6 : decode cJ9_min_f86c9 6 = .ok (.lload_n 0, 1) := tJ9_min_f86c9_ok (6, .lload_n 0, 1) (List.mem_of_getElem? (i := 4) rfl)
theorem dJ9_min_f86c9_7 : decode cJ9_min_f86c9 7 = .ok (.goto 4, 3) := tJ9_min_f86c9_ok (7, .goto 4, 3) (List.mem_of_getElem? (i := 5) rfl)
theorem dJ9_min_f86c9_10 : decode cJ9_min_f86c9 10 = .ok (.lload_n 2, 1) := tJ9_min_f86c9_ok (10, .lload_n 2, 1) (List.mem_of_getElem? (i := 6) rfl)
theorem dJ9_min_f86c9_11 : decode cJ9_min_f86c9 11 = .ok (.lreturn, 1) := tJ9_min_f86c9_ok (11, .lreturn, 1) (List.mem_of_getElem? (i := 7) rfl)
