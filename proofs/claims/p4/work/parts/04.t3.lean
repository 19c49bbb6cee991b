def tX8_walkNumber : List (Nat × Instr × Nat) := [
  (0, .lconst 0, 1),
  (1, .lstore_n 3, 1),
  (2, .aload_n 0, 1),
  (3, .getfield 19, 3),
  (6, .invokevirtual 176, 3),
  (9, .istore 5, 2),
  (11, .iconst 0, 1),
  (12, .istore 6, 2),
  (14, .iload 6, 2),
  (16, .iload_n 2, 1),
  (17, .if_icmp .ge 77, 3),
  (20, .aload_n 0, 1),
  (21, .getfield 12, 3),
  (24, .iload_n 1, 1),
  (25, .iload 6, 2),
  (27, .invokevirtual 92, 3),
  (30, .istore 7, 2),
  (32, .iconst 0, 1),
  (33, .istore 8, 2),
  (35, .iload 8, 2),
  (37, .iload 7, 2),
  (39, .if_icmp .ge 36, 3),
  (42, .lload_n 3, 1),
  (43, .aload_n 0, 1),
  (44, .invokevirtual 190, 3),
  (47, .iload_n 2, 1),
  (48, .iload 6, 2),
  (50, .isub, 1),
  (51, .iconst 1, 1),
  (52, .isub, 1),
  (53, .aload_n 0, 1),
  (54, .getfield 19, 3),
  (57, .iload 5, 2),
  (59, .iload 8, 2),
  (61, .invokevirtual 358, 3),
  (64, .invokevirtual 180, 3),
  (67, .ladd, 1),
  (68, .lstore_n 3, 1),
  (69, .iinc 8 1, 3),
  (72, .goto (-37), 3),
  (75, .aload_n 0, 1),
  (76, .getfield 19, 3),
  (79, .iload 5, 2),
  (81, .iload 7, 2),
  (83, .invokevirtual 358, 3),
  (86, .istore 5, 2),
  (88, .iinc 6 1, 3),
  (91, .goto (-77), 3),
  (94, .lload_n 3, 1),
  (95, .lreturn, 1)]
set_option maxRecDepth 100000 in
theorem tX8_walkNumber_ok : ∀ q ∈ tX8_walkNumber, decode cX8_walkNumber q.1 = .ok q.2 := by decide +kernel
theorem dX8_walkNumber_0 : decode cX8_walkNumber 0 = .ok (.lconst 0, 1) := tX8_walkNumber_ok (0, .lconst 0, 1) (List.mem_of_getElem? (i := 0) rfl)
theorem dX8_walkNumber_1 : decode cX8_walkNumber 1 = .ok (.lstore_n 3, 1) := tX8_walkNumber_ok (1, .lstore_n 3, 1) (List.mem_of_getElem? (i := 1) rfl)
theorem dX8_walkNumber_2 : decode cX8_walkNumber 2 = .ok (.aload_n 0, 1) := tX8_walkNumber_ok (2, .aload_n 0, 1) (List.mem_of_getElem? (i := 2) rfl)
theorem dX8_walkNumber_3 : decode cX8_walkNumber 3 = .ok (.getfield 19, 3) := tX8_walkNumber_ok (3, .getfield 19, 3) (List.mem_of_getElem? (i := 3) rfl)
theorem dX8_walkNumber_6 : decode cX8_walkNumber 6 = .ok (.invokevirtual 176, 3) := tX8_walkNumber_ok (6, .invokevirtual 176, 3) (List.mem_of_getElem? (i := 4) rfl)
theorem dX8_walkNumber_9 : decode cX8_walkNumber 9 = .ok (.istore 5, 2) := tX8_walkNumber_ok (9, .istore 5, 2) (List.mem_of_getElem? (i := 5) rfl)
theorem dX8_walkNumber_11 : decode cX8_walkNumber 11 = .ok (.iconst 0, 1) := tX8_walkNumber_ok (11, .iconst 0, 1) (List.mem_of_getElem? (i := 6) rfl)
theorem dX8_walkNumber_12 : decode cX8_walkNumber 12 = .ok (.istore 6, 2) := tX8_walkNumber_ok (12, .istore 6, 2) (List.mem_of_getElem? (i := 7) rfl)
theorem dX8_walkNumber_14 : decode cX8_walkNumber 14 = .ok (.iload 6, 2) := tX8_walkNumber_ok (14, .iload 6, 2) (List.mem_of_getElem? (i := 8) rfl)
theorem dX8_walkNumber_16 : decode cX8_walkNumber 16 = .ok (.iload_n 2, 1) := tX8_walkNumber_ok (16, .iload_n 2, 1) (List.mem_of_getElem? (i := 9) rfl)
theorem dX8_walkNumber_17 : decode cX8_walkNumber 17 = .ok (.if_icmp .ge 77, 3) := tX8_walkNumber_ok (17, .if_icmp .ge 77, 3) (List.mem_of_getElem? (i := 10) rfl)
theorem dX8_walkNumber_20 : decode cX8_walkNumber 20 = .ok (.aload_n 0, 1) := tX8_walkNumber_ok (20, .aload_n 0, 1) (List.mem_of_getElem? (i := 11) rfl)
theorem dX8_walkNumber_21 : decode cX8_walkNumber 21 = .ok (.getfield 12, 3) := tX8_walkNumber_ok (21, .getfield 12, 3) (List.mem_of_getElem? (i := 12) rfl)
theorem dX8_walkNumber_24 : decode cX8_walkNumber 24 = .ok (.iload_n 1, 1) := tX8_walkNumber_ok (24, .iload_n 1, 1) (List.mem_of_getElem? (i := 13) rfl)
theorem dX8_walkNumber_25 : decode cX8_walkNumber 25 = .ok (.iload 6, 2) := tX8_walkNumber_ok (25, .iload 6, 2) (List.mem_of_getElem? (i := 14) rfl)
theorem dX8_walkNumber_27 : decode cX8_walkNumber 27 = .ok (.invokevirtual 92, 3) := tX8_walkNumber_ok (27, .invokevirtual 92, 3) (List.mem_of_getElem? (i := 15) rfl)
theorem dX8_walkNumber_30 : decode cX8_walkNumber 30 = .ok (.istore 7, 2) := tX8_walkNumber_ok (30, .istore 7, 2) (List.mem_of_getElem? (i := 16) rfl)
theorem dX8_walkNumber_32 : decode cX8_walkNumber 32 = .ok (.iconst 0, 1) := tX8_walkNumber_ok (32, .iconst 0, 1) (List.mem_of_getElem? (i := 17) rfl)
theorem dX8_walkNumber_33 : decode cX8_walkNumber 33 = .ok (.istore 8, 2) := tX8_walkNumber_ok (33, .istore 8, 2) (List.mem_of_getElem? (i := 18) rfl)
theorem dX8_walkNumber_35 : decode cX8_walkNumber 35 = .ok (.iload 8, 2) := tX8_walkNumber_ok (35, .iload 8, 2) (List.mem_of_getElem? (i := 19) rfl)
theorem dX8_walkNumber_37 : decode cX8_walkNumber 37 = .ok (.iload 7, 2) := tX8_walkNumber_ok (37, .iload 7, 2) (List.mem_of_getElem? (i := 20) rfl)
theorem dX8_walkNumber_39 : decode cX8_walkNumber 39 = .ok (.if_icmp .ge 36, 3) := tX8_walkNumber_ok (39, .if_icmp .ge 36, 3) (List.mem_of_getElem? (i := 21) rfl)
theorem dX8_walkNumber_42 : decode cX8_walkNumber 42 = .ok (.lload_n 3, 1) := tX8_walkNumber_ok (42, .lload_n 3, 1) (List.mem_of_getElem? (i := 22) rfl)
theorem dX8_walkNumber_43 : decode cX8_walkNumber 43 = .ok (.aload_n 0, 1) := tX8_walkNumber_ok (43, .aload_n 0, 1) (List.mem_of_getElem? (i := 23) rfl)
theorem dX8_walkNumber_44 : decode cX8_walkNumber 44 = .ok (.invokevirtual 190, 3) := tX8_walkNumber_ok (44, .invokevirtual 190, 3) (List.mem_of_getElem? (i := 24) rfl)
theorem dX8_walkNumber_47 : decode cX8_walkNumber 47 = .ok (.iload_n 2, 1) := tX8_walkNumber_ok (47, .iload_n 2, 1) (List.mem_of_getElem? (i := 25) rfl)
theorem dX8_walkNumber_48 : decode cX8_walkNumber 48 = .ok (.iload 6, 2) := tX8_walkNumber_ok (48, .iload 6, 2) (List.mem_of_getElem? (i := 26) rfl)
theorem dX8_walkNumber_50 : decode cX8_walkNumber 50 = .ok (.isub, 1) := tX8_walkNumber_ok (50, .isub, 1) (List.mem_of_getElem? (i := 27) rfl)
theorem dX8_walkNumber_51 : decode cX8_walkNumber 51 = .ok (.iconst 1, 1) := tX8_walkNumber_ok (51, .iconst 1, 1) (List.mem_of_getElem? (i := 28) rfl)
theorem dX8_walkNumber_52 : decode cX8_walkNumber 52 = .ok (.isub, 1) := tX8_walkNumber_ok (52, .isub, 1) (List.mem_of_getElem? (i := 29) rfl)
theorem dX8_walkNumber_53 : decode cX8_walkNumber 53 = .ok (.aload_n 0, 1) := tX8_walkNumber_ok (53, .aload_n 0, 1) (List.mem_of_getElem? (i := 30) rfl)
theorem dX8_walkNumber_54 : decode cX8_walkNumber 54 = .ok (.getfield 19, 3) := tX8_walkNumber_ok (54, .getfield 19, 3) (List.mem_of_getElem? (i := 31) rfl)
theorem dX8_walkNumber_57 : decode cX8_walkNumber 57 = .ok (.iload 5, 2) := tX8_walkNumber_ok (57, .iload 5, 2) (List.mem_of_getElem? (i := 32) rfl)
theorem dX8_walkNumber_59 : decode cX8_walkNumber 59 = .ok (.iload 8, 2) := tX8_walkNumber_ok (59, .iload 8, 2) (List.mem_of_getElem? (i := 33) rfl)
theorem dX8_walkNumber_61 : decode cX8_walkNumber 61 = .ok (.invokevirtual 358, 3) := tX8_walkNumber_ok (61, .invokevirtual 358, 3) (List.mem_of_getElem? (i := 34) rfl)
theorem dX8_walkNumber_64 : decode cX8_walkNumber 64 = .ok (.invokevirtual 180, 3) := tX8_walkNumber_ok (64, .invokevirtual 180, 3) (List.mem_of_getElem? (i := 35) rfl)
theorem dX8_walkNumber_67 : decode cX8_walkNumber 67 = .ok (.ladd, 1) := tX8_walkNumber_ok (67, .ladd, 1) (List.mem_of_getElem? (i := 36) rfl)
theorem dX8_walkNumber_68 : decode cX8_walkNumber 68 = .ok (.lstore_n 3, 1) := tX8_walkNumber_ok (68, .lstore_n 3, 1) (List.mem_of_getElem? (i := 37) rfl)
theorem dX8_walkNumber_69 : decode cX8_walkNumber 69 = .ok (.iinc 8 1, 3) := tX8_walkNumber_ok (69, .iinc 8 1, 3) (List.mem_of_getElem? (i := 38) rfl)
theorem dX8_walkNumber_72 : decode cX8_walkNumber 72 = .ok (.goto (-37), 3) := tX8_walkNumber_ok (72, .goto (-37), 3) (List.mem_of_getElem? (i := 39) rfl)
theorem dX8_walkNumber_75 : decode cX8_walkNumber 75 = .ok (.aload_n 0, 1) := tX8_walkNumber_ok (75, .aload_n 0, 1) (List.mem_of_getElem? (i := 40) rfl)
theorem dX8_walkNumber_76 : decode cX8_walkNumber 76 = .ok (.getfield 19, 3) := tX8_walkNumber_ok (76, .getfield 19, 3) (List.mem_of_getElem? (i := 41) rfl)
theorem dX8_walkNumber_79 : decode cX8_walkNumber 79 = .ok (.iload 5, 2) := tX8_walkNumber_ok (79, .iload 5, 2) (List.mem_of_getElem? (i := 42) rfl)
theorem dX8_walkNumber_81 : decode cX8_walkNumber 81 = .ok (.iload 7, 2) := tX8_walkNumber_ok (81, .iload 7, 2) (List.mem_of_getElem? (i := 43) rfl)
theorem dX8_walkNumber_83 : decode cX8_walkNumber 83 = .ok (.invokevirtual 358, 3) := tX8_walkNumber_ok (83, .invokevirtual 358, 3) (List.mem_of_getElem? (i := 44) rfl)
theorem dX8_walkNumber_86 : decode cX8_walkNumber 86 = .ok (.istore 5, 2) := tX8_walkNumber_ok (86, .istore 5, 2) (List.mem_of_getElem? (i := 45) rfl)
theorem dX8_walkNumber_88 : decode cX8_walkNumber 88 = .ok (.iinc 6 1, 3) := tX8_walkNumber_ok (88, .iinc 6 1, 3) (List.mem_of_getElem? (i := 46) rfl)
theorem dX8_walkNumber_91 : decode cX8_walkNumber 91 = .ok (.goto (-77), 3) := tX8_walkNumber_ok (91, .goto (-77), 3) (List.mem_of_getElem? (i := 47) rfl)
theorem dX8_walkNumber_94 : decode cX8_walkNumber 94 = .ok (.lload_n 3, 1) := tX8_walkNumber_ok (94, .lload_n 3, 1) (List.mem_of_getElem? (i := 48) rfl)
theorem dX8_walkNumber_95 : decode cX8_walkNumber 95 = .ok (.lreturn, 1) := tX8_walkNumber_ok (95, .lreturn, 1) (List.mem_of_getElem? (i := 49) rfl)

def tX8_showWalk : List (Nat × Instr × Nat) := [
  (0, .lload_n 2, 1),
  (1, .lstore 4, 2),
  (3, .aload_n 0, 1),
  (4, .getfield 19, 3),
  (7, .invokevirtual 176, 3),
  (10, .istore 6, 2),
  (12, .iconst 0, 1),
  (13, .istore 7, 2),
  (15, .iload 7, 2),
  (17, .iload_n 1, 1),
  (18, .if_icmp .ge 130, 3),
  (21, .iload 7, 2),
  (23, .bipush 60, 2),
  (25, .if_icmp .ge 123, 3),
  (28, .iconst 0, 1),
  (29, .istore 8, 2),
  (31, .aload_n 0, 1),
  (32, .invokevirtual 190, 3),
  (35, .iload_n 1, 1),
  (36, .iload 7, 2),
  (38, .isub, 1),
  (39, .iconst 1, 1),
  (40, .isub, 1),
  (41, .aload_n 0, 1),
  (42, .getfield 19, 3),
  (45, .iload 6, 2),
  (47, .iconst 0, 1),
  (48, .invokevirtual 358, 3),
  (51, .invokevirtual 180, 3),
  (54, .lstore 9, 2),
  (56, .lload 4, 2),
  (58, .lload 9, 2),
  (60, .lcmp, 1),
  (61, .ifCond .lt 56, 3),
  (64, .iload 8, 2),
  (66, .iconst 1, 1),
  (67, .iadd, 1),
  (68, .aload_n 0, 1),
  (69, .getfield 19, 3),
  (72, .getfield 364, 3),
  (75, .if_icmp .ge 42, 3),
  (78, .lload 4, 2),
  (80, .lload 9, 2),
  (82, .lsub, 1),
  (83, .lstore 4, 2),
  (85, .iinc 8 1, 3),
  (88, .aload_n 0, 1),
  (89, .invokevirtual 190, 3),
  (92, .iload_n 1, 1),
  (93, .iload 7, 2),
  (95, .isub, 1),
  (96, .iconst 1, 1),
  (97, .isub, 1),
  (98, .aload_n 0, 1),
  (99, .getfield 19, 3),
  (102, .iload 6, 2),
  (104, .iload 8, 2),
  (106, .invokevirtual 358, 3),
  (109, .invokevirtual 180, 3),
  (112, .lstore 9, 2),
  (114, .goto (-58), 3),
  (117, .aload_n 0, 1),
  (118, .getfield 51, 3),
  (121, .iload 7, 2),
  (123, .bipush 48, 2),
  (125, .iload 8, 2),
  (127, .iadd, 1),
  (128, .iastore, 1),
  (129, .aload_n 0, 1),
  (130, .getfield 19, 3),
  (133, .iload 6, 2),
  (135, .iload 8, 2),
  (137, .invokevirtual 358, 3),
  (140, .istore 6, 2),
  (142, .iinc 7 1, 3),
  (145, .goto (-130), 3),
  (148, .aload_n 0, 1),
  (149, .iload_n 1, 1),
  (150, .putfield 308, 3),
  (153, .return_, 1)]
set_option maxRecDepth 100000 in
theorem tX8_showWalk_ok : ∀ q ∈ tX8_showWalk, decode cX8_showWalk q.1 = .ok q.2 := by decide +kernel
theorem dX8_showWalk_0 : decode cX8_showWalk 0 = .ok (.lload_n 2, 1) := tX8_showWalk_ok (0, .lload_n 2, 1) (List.mem_of_getElem? (i := 0) rfl)
theorem dX8_showWalk_1 : decode cX8_showWalk 1 = .ok (.lstore 4, 2) := tX8_showWalk_ok (1, .lstore 4, 2) (List.mem_of_getElem? (i := 1) rfl)
theorem dX8_showWalk_3 : decode cX8_showWalk 3 = .ok (.aload_n 0, 1) := tX8_showWalk_ok (3, .aload_n 0, 1) (List.mem_of_getElem? (i := 2) rfl)
theorem dX8_showWalk_4 : decode cX8_showWalk 4 = .ok (.getfield 19, 3) := tX8_showWalk_ok (4, .getfield 19, 3) (List.mem_of_getElem? (i := 3) rfl)
theorem dX8_showWalk_7 : decode cX8_showWalk 7 = .ok (.invokevirtual 176, 3) := tX8_showWalk_ok (7, .invokevirtual 176, 3) (List.mem_of_getElem? (i := 4) rfl)
theorem dX8_showWalk_10 : decode cX8_showWalk 10 = .ok (.istore 6, 2) := tX8_showWalk_ok (10, .istore 6, 2) (List.mem_of_getElem? (i := 5) rfl)
theorem dX8_showWalk_12 : decode cX8_showWalk 12 = .ok (.iconst 0, 1) := tX8_showWalk_ok (12, .iconst 0, 1) (List.mem_of_getElem? (i := 6) rfl)
theorem dX8_showWalk_13 : decode cX8_showWalk 13 = .ok (.istore 7, 2) := tX8_showWalk_ok (13, .istore 7, 2) (List.mem_of_getElem? (i := 7) rfl)
theorem dX8_showWalk_15 : decode cX8_showWalk 15 = .ok (.iload 7, 2) := tX8_showWalk_ok (15, .iload 7, 2) (List.mem_of_getElem? (i := 8) rfl)
theorem dX8_showWalk_17 : decode cX8_showWalk 17 = .ok (.iload_n 1, 1) := tX8_showWalk_ok (17, .iload_n 1, 1) (List.mem_of_getElem? (i := 9) rfl)
theorem dX8_showWalk_18 : decode cX8_showWalk 18 = .ok (.if_icmp .ge 130, 3) := tX8_showWalk_ok (18, .if_icmp .ge 130, 3) (List.mem_of_getElem? (i := 10) rfl)
theorem dX8_showWalk_21 : decode cX8_showWalk 21 = .ok (.iload 7, 2) := tX8_showWalk_ok (21, .iload 7, 2) (List.mem_of_getElem? (i := 11) rfl)
theorem dX8_showWalk_23 : decode cX8_showWalk 23 = .ok (.bipush 60, 2) := tX8_showWalk_ok (23, .bipush 60, 2) (List.mem_of_getElem? (i := 12) rfl)
theorem dX8_showWalk_25 : decode cX8_showWalk 25 = .ok (.if_icmp .ge 123, 3) := tX8_showWalk_ok (25, .if_icmp .ge 123, 3) (List.mem_of_getElem? (i := 13) rfl)
theorem dX8_showWalk_28 : decode cX8_showWalk 28 = .ok (.iconst 0, 1) := tX8_showWalk_ok (28, .iconst 0, 1) (List.mem_of_getElem? (i := 14) rfl)
theorem dX8_showWalk_29 : decode cX8_showWalk 29 = .ok (.istore 8, 2) := tX8_showWalk_ok (29, .istore 8, 2) (List.mem_of_getElem? (i := 15) rfl)
theorem dX8_showWalk_31 : decode cX8_showWalk 31 = .ok (.aload_n 0, 1) := tX8_showWalk_ok (31, .aload_n 0, 1) (List.mem_of_getElem? (i := 16) rfl)
theorem dX8_showWalk_32 : decode cX8_showWalk 32 = .ok (.invokevirtual 190, 3) := tX8_showWalk_ok (32, .invokevirtual 190, 3) (List.mem_of_getElem? (i := 17) rfl)
theorem dX8_showWalk_35 : decode cX8_showWalk 35 = .ok (.iload_n 1, 1) := tX8_showWalk_ok (35, .iload_n 1, 1) (List.mem_of_getElem? (i := 18) rfl)
theorem dX8_showWalk_36 : decode cX8_showWalk 36 = .ok (.iload 7, 2) := tX8_showWalk_ok (36, .iload 7, 2) (List.mem_of_getElem? (i := 19) rfl)
theorem dX8_showWalk_38 : decode cX8_showWalk 38 = .ok (.isub, 1) := tX8_showWalk_ok (38, .isub, 1) (List.mem_of_getElem? (i := 20) rfl)
theorem dX8_showWalk_39 : decode cX8_showWalk 39 = .ok (.iconst 1, 1) := tX8_showWalk_ok (39, .iconst 1, 1) (List.mem_of_getElem? (i := 21) rfl)
theorem dX8_showWalk_40 : decode cX8_showWalk 40 = .ok (.isub, 1) := tX8_showWalk_ok (40, .isub, 1) (List.mem_of_getElem? (i := 22) rfl)
theorem dX8_showWalk_41 : decode cX8_showWalk 41 = .ok (.aload_n 0, 1) := tX8_showWalk_ok (41, .aload_n 0, 1) (List.mem_of_getElem? (i := 23) rfl)
theorem dX8_showWalk_42 : decode cX8_showWalk 42 = .ok (.getfield 19, 3) := tX8_showWalk_ok (42, .getfield 19, 3) (List.mem_of_getElem? (i := 24) rfl)
theorem dX8_showWalk_45 : decode cX8_showWalk 45 = .ok (.iload 6, 2) := tX8_showWalk_ok (45, .iload 6, 2) (List.mem_of_getElem? (i := 25) rfl)
theorem dX8_showWalk_47 : decode cX8_showWalk 47 = .ok (.iconst 0, 1) := tX8_showWalk_ok (47, .iconst 0, 1) (List.mem_of_getElem? (i := 26) rfl)
theorem dX8_showWalk_48 : decode cX8_showWalk 48 = .ok (.invokevirtual 358, 3) := tX8_showWalk_ok (48, .invokevirtual 358, 3) (List.mem_of_getElem? (i := 27) rfl)
theorem dX8_showWalk_51 : decode cX8_showWalk 51 = .ok (.invokevirtual 180, 3) := tX8_showWalk_ok (51, .invokevirtual 180, 3) (List.mem_of_getElem? (i := 28) rfl)
theorem dX8_showWalk_54 : decode cX8_showWalk 54 = .ok (.lstore 9, 2) := tX8_showWalk_ok (54, .lstore 9, 2) (List.mem_of_getElem? (i := 29) rfl)
theorem dX8_showWalk_56 : decode cX8_showWalk 56 = .ok (.lload 4, 2) := tX8_showWalk_ok (56, .lload 4, 2) (List.mem_of_getElem? (i := 30) rfl)
theorem dX8_showWalk_58 : decode cX8_showWalk 58 = .ok (.lload 9, 2) := tX8_showWalk_ok (58, .lload 9, 2) (List.mem_of_getElem? (i := 31) rfl)
theorem dX8_showWalk_60 : decode cX8_showWalk 60 = .ok (.lcmp, 1) := tX8_showWalk_ok (60, .lcmp, 1) (List.mem_of_getElem? (i := 32) rfl)
theorem dX8_showWalk_61 : decode cX8_showWalk 61 = .ok (.ifCond .lt 56, 3) := tX8_showWalk_ok (61, .ifCond .lt 56, 3) (List.mem_of_getElem? (i := 33) rfl)
theorem dX8_showWalk_64 : decode cX8_showWalk 64 = .ok (.iload 8, 2) := tX8_showWalk_ok (64, .iload 8, 2) (List.mem_of_getElem? (i := 34) rfl)
theorem dX8_showWalk_66 : decode cX8_showWalk 66 = .ok (.iconst 1, 1) := tX8_showWalk_ok (66, .iconst 1, 1) (List.mem_of_getElem? (i := 35) rfl)
theorem dX8_showWalk_67 : decode cX8_showWalk 67 = .ok (.iadd, 1) := tX8_showWalk_ok (67, .iadd, 1) (List.mem_of_getElem? (i := 36) rfl)
theorem dX8_showWalk_68 : decode cX8_showWalk 68 = .ok (.aload_n 0, 1) := tX8_showWalk_ok (68, .aload_n 0, 1) (List.mem_of_getElem? (i := 37) rfl)
theorem dX8_showWalk_69 : decode cX8_showWalk 69 = .ok (.getfield 19, 3) := tX8_showWalk_ok (69, .getfield 19, 3) (List.mem_of_getElem? (i := 38) rfl)
theorem dX8_showWalk_72 : decode cX8_showWalk 72 = .ok (.getfield 364, 3) := tX8_showWalk_ok (72, .getfield 364, 3) (List.mem_of_getElem? (i := 39) rfl)
theorem dX8_showWalk_75 : decode cX8_showWalk 75 = .ok (.if_icmp .ge 42, 3) := tX8_showWalk_ok (75, .if_icmp .ge 42, 3) (List.mem_of_getElem? (i := 40) rfl)
theorem dX8_showWalk_78 : decode cX8_showWalk 78 = .ok (.lload 4, 2) := tX8_showWalk_ok (78, .lload 4, 2) (List.mem_of_getElem? (i := 41) rfl)
theorem dX8_showWalk_80 : decode cX8_showWalk 80 = .ok (.lload 9, 2) := tX8_showWalk_ok (80, .lload 9, 2) (List.mem_of_getElem? (i := 42) rfl)
theorem dX8_showWalk_82 : decode cX8_showWalk 82 = .ok (.lsub, 1) := tX8_showWalk_ok (82, .lsub, 1) (List.mem_of_getElem? (i := 43) rfl)
theorem dX8_showWalk_83 : decode cX8_showWalk 83 = .ok (.lstore 4, 2) := tX8_showWalk_ok (83, .lstore 4, 2) (List.mem_of_getElem? (i := 44) rfl)
theorem dX8_showWalk_85 : decode cX8_showWalk 85 = .ok (.iinc 8 1, 3) := tX8_showWalk_ok (85, .iinc 8 1, 3) (List.mem_of_getElem? (i := 45) rfl)
theorem dX8_showWalk_88 : decode cX8_showWalk 88 = .ok (.aload_n 0, 1) := tX8_showWalk_ok (88, .aload_n 0, 1) (List.mem_of_getElem? (i := 46) rfl)
theorem dX8_showWalk_89 : decode cX8_showWalk 89 = .ok (.invokevirtual 190, 3) := tX8_showWalk_ok (89, .invokevirtual 190, 3) (List.mem_of_getElem? (i := 47) rfl)
theorem dX8_showWalk_92 : decode cX8_showWalk 92 = .ok (.iload_n 1, 1) := tX8_showWalk_ok (92, .iload_n 1, 1) (List.mem_of_getElem? (i := 48) rfl)
theorem dX8_showWalk_93 : decode cX8_showWalk 93 = .ok (.iload 7, 2) := tX8_showWalk_ok (93, .iload 7, 2) (List.mem_of_getElem? (i := 49) rfl)
theorem dX8_showWalk_95 : decode cX8_showWalk 95 = .ok (.isub, 1) := tX8_showWalk_ok (95, .isub, 1) (List.mem_of_getElem? (i := 50) rfl)
theorem dX8_showWalk_96 : decode cX8_showWalk 96 = .ok (.iconst 1, 1) := tX8_showWalk_ok (96, .iconst 1, 1) (List.mem_of_getElem? (i := 51) rfl)
theorem dX8_showWalk_97 : decode cX8_showWalk 97 = .ok (.isub, 1) := tX8_showWalk_ok (97, .isub, 1) (List.mem_of_getElem? (i := 52) rfl)
theorem dX8_showWalk_98 : decode cX8_showWalk 98 = .ok (.aload_n 0, 1) := tX8_showWalk_ok (98, .aload_n 0, 1) (List.mem_of_getElem? (i := 53) rfl)
theorem dX8_showWalk_99 : decode cX8_showWalk 99 = .ok (.getfield 19, 3) := tX8_showWalk_ok (99, .getfield 19, 3) (List.mem_of_getElem? (i := 54) rfl)
theorem dX8_showWalk_102 : decode cX8_showWalk 102 = .ok (.iload 6, 2) := tX8_showWalk_ok (102, .iload 6, 2) (List.mem_of_getElem? (i := 55) rfl)
theorem dX8_showWalk_104 : decode cX8_showWalk 104 = .ok (.iload 8, 2) := tX8_showWalk_ok (104, .iload 8, 2) (List.mem_of_getElem? (i := 56) rfl)
theorem dX8_showWalk_106 : decode cX8_showWalk 106 = .ok (.invokevirtual 358, 3) := tX8_showWalk_ok (106, .invokevirtual 358, 3) (List.mem_of_getElem? (i := 57) rfl)
theorem dX8_showWalk_109 : decode cX8_showWalk 109 = .ok (.invokevirtual 180, 3) := tX8_showWalk_ok (109, .invokevirtual 180, 3) (List.mem_of_getElem? (i := 58) rfl)
theorem dX8_showWalk_112 : decode cX8_showWalk 112 = .ok (.lstore 9, 2) := tX8_showWalk_ok (112, .lstore 9, 2) (List.mem_of_getElem? (i := 59) rfl)
theorem dX8_showWalk_114 : decode cX8_showWalk 114 = .ok (.goto (-58), 3) := tX8_showWalk_ok (114, .goto (-58), 3) (List.mem_of_getElem? (i := 60) rfl)
theorem dX8_showWalk_117 : decode cX8_showWalk 117 = .ok (.aload_n 0, 1) := tX8_showWalk_ok (117, .aload_n 0, 1) (List.mem_of_getElem? (i := 61) rfl)
theorem dX8_showWalk_118 : decode cX8_showWalk 118 = .ok (.getfield 51, 3) := tX8_showWalk_ok (118, .getfield 51, 3) (List.mem_of_getElem? (i := 62) rfl)
theorem dX8_showWalk_121 : decode cX8_showWalk 121 = .ok (.iload 7, 2) := tX8_showWalk_ok (121, .iload 7, 2) (List.mem_of_getElem? (i := 63) rfl)
theorem dX8_showWalk_123 : decode cX8_showWalk 123 = .ok (.bipush 48, 2) := tX8_showWalk_ok (123, .bipush 48, 2) (List.mem_of_getElem? (i := 64) rfl)
theorem dX8_showWalk_125 : decode cX8_showWalk 125 = .ok (.iload 8, 2) := tX8_showWalk_ok (125, .iload 8, 2) (List.mem_of_getElem? (i := 65) rfl)
theorem dX8_showWalk_127 : decode cX8_showWalk 127 = .ok (.iadd, 1) := tX8_showWalk_ok (127, .iadd, 1) (List.mem_of_getElem? (i := 66) rfl)
theorem dX8_showWalk_128 : decode cX8_showWalk 128 = .ok (.iastore, 1) := tX8_showWalk_ok (128, .iastore, 1) (List.mem_of_getElem? (i := 67) rfl)
theorem dX8_showWalk_129 : decode cX8_showWalk 129 = .ok (.aload_n 0, 1) := tX8_showWalk_ok (129, .aload_n 0, 1) (List.mem_of_getElem? (i := 68) rfl)
theorem dX8_showWalk_130 : decode cX8_showWalk 130 = .ok (.getfield 19, 3) := tX8_showWalk_ok (130, .getfield 19, 3) (List.mem_of_getElem? (i := 69) rfl)
theorem dX8_showWalk_133 : decode cX8_showWalk 133 = .ok (.iload 6, 2) := tX8_showWalk_ok (133, .iload 6, 2) (List.mem_of_getElem? (i := 70) rfl)
theorem dX8_showWalk_135 : decode cX8_showWalk 135 = .ok (.iload 8, 2) := tX8_showWalk_ok (135, .iload 8, 2) (List.mem_of_getElem? (i := 71) rfl)
theorem dX8_showWalk_137 : decode cX8_showWalk 137 = .ok (.invokevirtual 358, 3) := tX8_showWalk_ok (137, .invokevirtual 358, 3) (List.mem_of_getElem? (i := 72) rfl)
theorem dX8_showWalk_140 : decode cX8_showWalk 140 = .ok (.istore 6, 2) := tX8_showWalk_ok (140, .istore 6, 2) (List.mem_of_getElem? (i := 73) rfl)
theorem dX8_showWalk_142 : decode cX8_showWalk 142 = .ok (.iinc 7 1, 3) := tX8_showWalk_ok (142, .iinc 7 1, 3) (List.mem_of_getElem? (i := 74) rfl)
theorem dX8_showWalk_145 : decode cX8_showWalk 145 = .ok (.goto (-130), 3) := tX8_showWalk_ok (145, .goto (-130), 3) (List.mem_of_getElem? (i := 75) rfl)
theorem dX8_showWalk_148 : decode cX8_showWalk 148 = .ok (.aload_n 0, 1) := tX8_showWalk_ok (148, .aload_n 0, 1) (List.mem_of_getElem? (i := 76) rfl)
theorem dX8_showWalk_149 : decode cX8_showWalk 149 = .ok (.iload_n 1, 1) := tX8_showWalk_ok (149, .iload_n 1, 1) (List.mem_of_getElem? (i := 77) rfl)
theorem dX8_showWalk_150 : decode cX8_showWalk 150 = .ok (.putfield 308, 3) := tX8_showWalk_ok (150, .putfield 308, 3) (List.mem_of_getElem? (i := 78) rfl)
theorem dX8_showWalk_153 : decode cX8_showWalk 153 = .ok (.return_, 1) := tX8_showWalk_ok (153, .return_, 1) (List.mem_of_getElem? (i := 79) rfl)

def tX8_drawn : List (Nat × Instr × Nat) := [
  (0, .iload_n 2, 1),
  (1, .i2l, 1),
  (2, .lstore_n 3, 1),
  (3, .lconst 0, 1),
  (4, .lstore 5, 2),
  (6, .iconst 0, 1),
  (7, .istore 7, 2),
  (9, .iload 7, 2),
  (11, .bipush 62, 2),
  (13, .if_icmp .ge 28, 3),
  (16, .lload 5, 2),
  (18, .lload_n 0, 1),
  (19, .lconst 1, 1),
  (20, .lsub, 1),
  (21, .lcmp, 1),
  (22, .ifCond .ge 19, 3),
  (25, .ldc2_w 367, 3),
  (28, .lload 5, 2),
  (30, .lmul, 1),
  (31, .lconst 1, 1),
  (32, .ladd, 1),
  (33, .lstore 5, 2),
  (35, .iinc 7 1, 3),
  (38, .goto (-29), 3),
  (41, .lconst 0, 1),
  (42, .lstore 7, 2),
  (44, .iconst 0, 1),
  (45, .istore 9, 2),
  (47, .iload 9, 2),
  (49, .bipush 64, 2),
  (51, .if_icmp .ge 74, 3),
  (54, .lconst 0, 1),
  (55, .lstore 7, 2),
  (57, .iconst 0, 1),
  (58, .istore 10, 2),
  (60, .iload 10, 2),
  (62, .iconst 5, 1),
  (63, .if_icmp .ge 39, 3),
  (66, .ldc2_w 369, 3),
  (69, .lload_n 3, 1),
  (70, .lmul, 1),
  (71, .ldc2_w 371, 3),
  (74, .ladd, 1),
  (75, .ldc2_w 373, 3),
  (78, .land, 1),
  (79, .lstore_n 3, 1),
  (80, .lload 7, 2),
  (82, .bipush 15, 2),
  (84, .lshl, 1),
  (85, .lload_n 3, 1),
  (86, .bipush 16, 2),
  (88, .lshr, 1),
  (89, .ldc2_w 375, 3),
  (92, .land, 1),
  (93, .lor, 1),
  (94, .lstore 7, 2),
  (96, .iinc 10 1, 3),
  (99, .goto (-39), 3),
  (102, .lload 7, 2),
  (104, .lload 5, 2),
  (106, .land, 1),
  (107, .lstore 7, 2),
  (109, .lload 7, 2),
  (111, .lload_n 0, 1),
  (112, .lcmp, 1),
  (113, .ifCond .ge 6, 3),
  (116, .lload 7, 2),
  (118, .lreturn, 1),
  (119, .iinc 9 1, 3),
  (122, .goto (-75), 3),
  (125, .lload_n 0, 1),
  (126, .lconst 0, 1),
  (127, .lcmp, 1),
  (128, .ifCond .le 10, 3),
  (131, .lload 7, 2),
  (133, .lload_n 0, 1),
  (134, .lrem, 1),
  (135, .goto 4, 3),
  (138, .lconst 0, 1),
  (139, .lreturn, 1)]
set_option maxRecDepth 100000 in
theorem tX8_drawn_ok : ∀ q ∈ tX8_drawn, decode cX8_drawn q.1 = .ok q.2 := by decide +kernel
theorem dX8_drawn_0 : decode cX8_drawn 0 = .ok (.iload_n 2, 1) := tX8_drawn_ok (0, .iload_n 2, 1) (List.mem_of_getElem? (i := 0) rfl)
theorem dX8_drawn_1 : decode cX8_drawn 1 = .ok (.i2l, 1) := tX8_drawn_ok (1, .i2l, 1) (List.mem_of_getElem? (i := 1) rfl)
theorem dX8_drawn_2 : decode cX8_drawn 2 = .ok (.lstore_n 3, 1) := tX8_drawn_ok (2, .lstore_n 3, 1) (List.mem_of_getElem? (i := 2) rfl)
theorem dX8_drawn_3 : decode cX8_drawn 3 = .ok (.lconst 0, 1) := tX8_drawn_ok (3, .lconst 0, 1) (List.mem_of_getElem? (i := 3) rfl)
theorem dX8_drawn_4 : decode cX8_drawn 4 = .ok (.lstore 5, 2) := tX8_drawn_ok (4, .lstore 5, 2) (List.mem_of_getElem? (i := 4) rfl)
theorem dX8_drawn_6 : decode cX8_drawn 6 = .ok (.iconst 0, 1) := tX8_drawn_ok (6, .iconst 0, 1) (List.mem_of_getElem? (i := 5) rfl)
theorem dX8_drawn_7 : decode cX8_drawn 7 = .ok (.istore 7, 2) := tX8_drawn_ok (7, .istore 7, 2) (List.mem_of_getElem? (i := 6) rfl)
theorem dX8_drawn_9 : decode cX8_drawn 9 = .ok (.iload 7, 2) := tX8_drawn_ok (9, .iload 7, 2) (List.mem_of_getElem? (i := 7) rfl)
theorem dX8_drawn_11 : decode cX8_drawn 11 = .ok (.bipush 62, 2) := tX8_drawn_ok (11, .bipush 62, 2) (List.mem_of_getElem? (i := 8) rfl)
theorem dX8_drawn_13 : decode cX8_drawn 13 = .ok (.if_icmp .ge 28, 3) := tX8_drawn_ok (13, .if_icmp .ge 28, 3) (List.mem_of_getElem? (i := 9) rfl)
theorem dX8_drawn_16 : decode cX8_drawn 16 = .ok (.lload 5, 2) := tX8_drawn_ok (16, .lload 5, 2) (List.mem_of_getElem? (i := 10) rfl)
theorem dX8_drawn_18 : decode cX8_drawn 18 = .ok (.lload_n 0, 1) := tX8_drawn_ok (18, .lload_n 0, 1) (List.mem_of_getElem? (i := 11) rfl)
theorem dX8_drawn_19 : decode cX8_drawn 19 = .ok (.lconst 1, 1) := tX8_drawn_ok (19, .lconst 1, 1) (List.mem_of_getElem? (i := 12) rfl)
theorem dX8_drawn_20 : decode cX8_drawn 20 = .ok (.lsub, 1) := tX8_drawn_ok (20, .lsub, 1) (List.mem_of_getElem? (i := 13) rfl)
theorem dX8_drawn_21 : decode cX8_drawn 21 = .ok (.lcmp, 1) := tX8_drawn_ok (21, .lcmp, 1) (List.mem_of_getElem? (i := 14) rfl)
theorem dX8_drawn_22 : decode cX8_drawn 22 = .ok (.ifCond .ge 19, 3) := tX8_drawn_ok (22, .ifCond .ge 19, 3) (List.mem_of_getElem? (i := 15) rfl)
theorem dX8_drawn_25 : decode cX8_drawn 25 = .ok (.ldc2_w 367, 3) := tX8_drawn_ok (25, .ldc2_w 367, 3) (List.mem_of_getElem? (i := 16) rfl)
theorem dX8_drawn_28 : decode cX8_drawn 28 = .ok (.lload 5, 2) := tX8_drawn_ok (28, .lload 5, 2) (List.mem_of_getElem? (i := 17) rfl)
theorem dX8_drawn_30 : decode cX8_drawn 30 = .ok (.lmul, 1) := tX8_drawn_ok (30, .lmul, 1) (List.mem_of_getElem? (i := 18) rfl)
theorem dX8_drawn_31 : decode cX8_drawn 31 = .ok (.lconst 1, 1) := tX8_drawn_ok (31, .lconst 1, 1) (List.mem_of_getElem? (i := 19) rfl)
theorem dX8_drawn_32 : decode cX8_drawn 32 = .ok (.ladd, 1) := tX8_drawn_ok (32, .ladd, 1) (List.mem_of_getElem? (i := 20) rfl)
theorem dX8_drawn_33 : decode cX8_drawn 33 = .ok (.lstore 5, 2) := tX8_drawn_ok (33, .lstore 5, 2) (List.mem_of_getElem? (i := 21) rfl)
theorem dX8_drawn_35 : decode cX8_drawn 35 = .ok (.iinc 7 1, 3) := tX8_drawn_ok (35, .iinc 7 1, 3) (List.mem_of_getElem? (i := 22) rfl)
theorem dX8_drawn_38 : decode cX8_drawn 38 = .ok (.goto (-29), 3) := tX8_drawn_ok (38, .goto (-29), 3) (List.mem_of_getElem? (i := 23) rfl)
theorem dX8_drawn_41 : decode cX8_drawn 41 = .ok (.lconst 0, 1) := tX8_drawn_ok (41, .lconst 0, 1) (List.mem_of_getElem? (i := 24) rfl)
theorem dX8_drawn_42 : decode cX8_drawn 42 = .ok (.lstore 7, 2) := tX8_drawn_ok (42, .lstore 7, 2) (List.mem_of_getElem? (i := 25) rfl)
theorem dX8_drawn_44 : decode cX8_drawn 44 = .ok (.iconst 0, 1) := tX8_drawn_ok (44, .iconst 0, 1) (List.mem_of_getElem? (i := 26) rfl)
theorem dX8_drawn_45 : decode cX8_drawn 45 = .ok (.istore 9, 2) := tX8_drawn_ok (45, .istore 9, 2) (List.mem_of_getElem? (i := 27) rfl)
theorem dX8_drawn_47 : decode cX8_drawn 47 = .ok (.iload 9, 2) := tX8_drawn_ok (47, .iload 9, 2) (List.mem_of_getElem? (i := 28) rfl)
theorem dX8_drawn_49 : decode cX8_drawn 49 = .ok (.bipush 64, 2) := tX8_drawn_ok (49, .bipush 64, 2) (List.mem_of_getElem? (i := 29) rfl)
theorem dX8_drawn_51 : decode cX8_drawn 51 = .ok (.if_icmp .ge 74, 3) := tX8_drawn_ok (51, .if_icmp .ge 74, 3) (List.mem_of_getElem? (i := 30) rfl)
theorem dX8_drawn_54 : decode cX8_drawn 54 = .ok (.lconst 0, 1) := tX8_drawn_ok (54, .lconst 0, 1) (List.mem_of_getElem? (i := 31) rfl)
theorem dX8_drawn_55 : decode cX8_drawn 55 = .ok (.lstore 7, 2) := tX8_drawn_ok (55, .lstore 7, 2) (List.mem_of_getElem? (i := 32) rfl)
theorem dX8_drawn_57 : decode cX8_drawn 57 = .ok (.iconst 0, 1) := tX8_drawn_ok (57, .iconst 0, 1) (List.mem_of_getElem? (i := 33) rfl)
theorem dX8_drawn_58 : decode cX8_drawn 58 = .ok (.istore 10, 2) := tX8_drawn_ok (58, .istore 10, 2) (List.mem_of_getElem? (i := 34) rfl)
theorem dX8_drawn_60 : decode cX8_drawn 60 = .ok (.iload 10, 2) := tX8_drawn_ok (60, .iload 10, 2) (List.mem_of_getElem? (i := 35) rfl)
theorem dX8_drawn_62 : decode cX8_drawn 62 = .ok (.iconst 5, 1) := tX8_drawn_ok (62, .iconst 5, 1) (List.mem_of_getElem? (i := 36) rfl)
theorem dX8_drawn_63 : decode cX8_drawn 63 = .ok (.if_icmp .ge 39, 3) := tX8_drawn_ok (63, .if_icmp .ge 39, 3) (List.mem_of_getElem? (i := 37) rfl)
theorem dX8_drawn_66 : decode cX8_drawn 66 = .ok (.ldc2_w 369, 3) := tX8_drawn_ok (66, .ldc2_w 369, 3) (List.mem_of_getElem? (i := 38) rfl)
theorem dX8_drawn_69 : decode cX8_drawn 69 = .ok (.lload_n 3, 1) := tX8_drawn_ok (69, .lload_n 3, 1) (List.mem_of_getElem? (i := 39) rfl)
theorem dX8_drawn_70 : decode cX8_drawn 70 = .ok (.lmul, 1) := tX8_drawn_ok (70, .lmul, 1) (List.mem_of_getElem? (i := 40) rfl)
theorem dX8_drawn_71 : decode cX8_drawn 71 = .ok (.ldc2_w 371, 3) := tX8_drawn_ok (71, .ldc2_w 371, 3) (List.mem_of_getElem? (i := 41) rfl)
theorem dX8_drawn_74 : decode cX8_drawn 74 = .ok (.ladd, 1) := tX8_drawn_ok (74, .ladd, 1) (List.mem_of_getElem? (i := 42) rfl)
theorem dX8_drawn_75 : decode cX8_drawn 75 = .ok (.ldc2_w 373, 3) := tX8_drawn_ok (75, .ldc2_w 373, 3) (List.mem_of_getElem? (i := 43) rfl)
theorem dX8_drawn_78 : decode cX8_drawn 78 = .ok (.land, 1) := tX8_drawn_ok (78, .land, 1) (List.mem_of_getElem? (i := 44) rfl)
theorem dX8_drawn_79 : decode cX8_drawn 79 = .ok (.lstore_n 3, 1) := tX8_drawn_ok (79, .lstore_n 3, 1) (List.mem_of_getElem? (i := 45) rfl)
theorem dX8_drawn_80 : decode cX8_drawn 80 = .ok (.lload 7, 2) := tX8_drawn_ok (80, .lload 7, 2) (List.mem_of_getElem? (i := 46) rfl)
theorem dX8_drawn_82 : decode cX8_drawn 82 = .ok (.bipush 15, 2) := tX8_drawn_ok (82, .bipush 15, 2) (List.mem_of_getElem? (i := 47) rfl)
theorem dX8_drawn_84 : decode cX8_drawn 84 = .ok (.lshl, 1) := tX8_drawn_ok (84, .lshl, 1) (List.mem_of_getElem? (i := 48) rfl)
theorem dX8_drawn_85 : decode cX8_drawn 85 = .ok (.lload_n 3, 1) := tX8_drawn_ok (85, .lload_n 3, 1) (List.mem_of_getElem? (i := 49) rfl)
theorem dX8_drawn_86 : decode cX8_drawn 86 = .ok (.bipush 16, 2) := tX8_drawn_ok (86, .bipush 16, 2) (List.mem_of_getElem? (i := 50) rfl)
theorem dX8_drawn_88 : decode cX8_drawn 88 = .ok (.lshr, 1) := tX8_drawn_ok (88, .lshr, 1) (List.mem_of_getElem? (i := 51) rfl)
theorem dX8_drawn_89 : decode cX8_drawn 89 = .ok (.ldc2_w 375, 3) := tX8_drawn_ok (89, .ldc2_w 375, 3) (List.mem_of_getElem? (i := 52) rfl)
theorem dX8_drawn_92 : decode cX8_drawn 92 = .ok (.land, 1) := tX8_drawn_ok (92, .land, 1) (List.mem_of_getElem? (i := 53) rfl)
theorem dX8_drawn_93 : decode cX8_drawn 93 = .ok (.lor, 1) := tX8_drawn_ok (93, .lor, 1) (List.mem_of_getElem? (i := 54) rfl)
theorem dX8_drawn_94 : decode cX8_drawn 94 = .ok (.lstore 7, 2) := tX8_drawn_ok (94, .lstore 7, 2) (List.mem_of_getElem? (i := 55) rfl)
theorem dX8_drawn_96 : decode cX8_drawn 96 = .ok (.iinc 10 1, 3) := tX8_drawn_ok (96, .iinc 10 1, 3) (List.mem_of_getElem? (i := 56) rfl)
theorem dX8_drawn_99 : decode cX8_drawn 99 = .ok (.goto (-39), 3) := tX8_drawn_ok (99, .goto (-39), 3) (List.mem_of_getElem? (i := 57) rfl)
theorem dX8_drawn_102 : decode cX8_drawn 102 = .ok (.lload 7, 2) := tX8_drawn_ok (102, .lload 7, 2) (List.mem_of_getElem? (i := 58) rfl)
theorem dX8_drawn_104 : decode cX8_drawn 104 = .ok (.lload 5, 2) := tX8_drawn_ok (104, .lload 5, 2) (List.mem_of_getElem? (i := 59) rfl)
theorem dX8_drawn_106 : decode cX8_drawn 106 = .ok (.land, 1) := tX8_drawn_ok (106, .land, 1) (List.mem_of_getElem? (i := 60) rfl)
theorem dX8_drawn_107 : decode cX8_drawn 107 = .ok (.lstore 7, 2) := tX8_drawn_ok (107, .lstore 7, 2) (List.mem_of_getElem? (i := 61) rfl)
theorem dX8_drawn_109 : decode cX8_drawn 109 = .ok (.lload 7, 2) := tX8_drawn_ok (109, .lload 7, 2) (List.mem_of_getElem? (i := 62) rfl)
theorem dX8_drawn_111 : decode cX8_drawn 111 = .ok (.lload_n 0, 1) := tX8_drawn_ok (111, .lload_n 0, 1) (List.mem_of_getElem? (i := 63) rfl)
theorem dX8_drawn_112 : decode cX8_drawn 112 = .ok (.lcmp, 1) := tX8_drawn_ok (112, .lcmp, 1) (List.mem_of_getElem? (i := 64) rfl)
theorem dX8_drawn_113 : decode cX8_drawn 113 = .ok (.ifCond .ge 6, 3) := tX8_drawn_ok (113, .ifCond .ge 6, 3) (List.mem_of_getElem? (i := 65) rfl)
theorem dX8_drawn_116 : decode cX8_drawn 116 = .ok (.lload 7, 2) := tX8_drawn_ok (116, .lload 7, 2) (List.mem_of_getElem? (i := 66) rfl)
theorem dX8_drawn_118 : decode cX8_drawn 118 = .ok (.lreturn, 1) := tX8_drawn_ok (118, .lreturn, 1) (List.mem_of_getElem? (i := 67) rfl)
theorem dX8_drawn_119 : decode cX8_drawn 119 = .ok (.iinc 9 1, 3) := tX8_drawn_ok (119, .iinc 9 1, 3) (List.mem_of_getElem? (i := 68) rfl)
theorem dX8_drawn_122 : decode cX8_drawn 122 = .ok (.goto (-75), 3) := tX8_drawn_ok (122, .goto (-75), 3) (List.mem_of_getElem? (i := 69) rfl)
theorem dX8_drawn_125 : decode cX8_drawn 125 = .ok (.lload_n 0, 1) := tX8_drawn_ok (125, .lload_n 0, 1) (List.mem_of_getElem? (i := 70) rfl)
theorem dX8_drawn_126 : decode cX8_drawn 126 = .ok (.lconst 0, 1) := tX8_drawn_ok (126, .lconst 0, 1) (List.mem_of_getElem? (i := 71) rfl)
theorem dX8_drawn_127 : decode cX8_drawn 127 = .ok (.lcmp, 1) := tX8_drawn_ok (127, .lcmp, 1) (List.mem_of_getElem? (i := 72) rfl)
theorem dX8_drawn_128 : decode cX8_drawn 128 = .ok (.ifCond .le 10, 3) := tX8_drawn_ok (128, .ifCond .le 10, 3) (List.mem_of_getElem? (i := 73) rfl)
theorem dX8_drawn_131 : decode cX8_drawn 131 = .ok (.lload 7, 2) := tX8_drawn_ok (131, .lload 7, 2) (List.mem_of_getElem? (i := 74) rfl)
theorem dX8_drawn_133 : decode cX8_drawn 133 = .ok (.lload_n 0, 1) := tX8_drawn_ok (133, .lload_n 0, 1) (List.mem_of_getElem? (i := 75) rfl)
theorem dX8_drawn_134 : decode cX8_drawn 134 = .ok (.lrem, 1) := tX8_drawn_ok (134, .lrem, 1) (List.mem_of_getElem? (i := 76) rfl)
theorem dX8_drawn_135 : decode cX8_drawn 135 = .ok (.goto 4, 3) := tX8_drawn_ok (135, .goto 4, 3) (List.mem_of_getElem? (i := 77) rfl)
theorem dX8_drawn_138 : decode cX8_drawn 138 = .ok (.lconst 0, 1) := tX8_drawn_ok (138, .lconst 0, 1) (List.mem_of_getElem? (i := 78) rfl)
theorem dX8_drawn_139 : decode cX8_drawn 139 = .ok (.lreturn, 1) := tX8_drawn_ok (139, .lreturn, 1) (List.mem_of_getElem? (i := 79) rfl)

def tX8_heaped : List (Nat × Instr × Nat) := [
  (0, .iconst 0, 1),
  (1, .istore 4, 2),
  (3, .iload 4, 2),
  (5, .aload_n 0, 1),
  (6, .getfield 55, 3),
  (9, .arraylength, 1),
  (10, .if_icmp .ge 17, 3),
  (13, .aload_n 0, 1),
  (14, .getfield 55, 3),
  (17, .iload 4, 2),
  (19, .iconst 0, 1),
  (20, .iastore, 1),
  (21, .iinc 4 1, 3),
  (24, .goto (-21), 3),
  (27, .iconst 1, 1),
  (28, .istore 4, 2),
  (30, .iload 4, 2),
  (32, .iload_n 1, 1),
  (33, .if_icmp .gt 58, 3),
  (36, .iconst 1, 1),
  (37, .istore 5, 2),
  (39, .iload 5, 2),
  (41, .iload_n 2, 1),
  (42, .if_icmp .gt 43, 3),
  (45, .aload_n 0, 1),
  (46, .getfield 55, 3),
  (49, .iload 4, 2),
  (51, .iload 5, 2),
  (53, .iadd, 1),
  (54, .iload_n 3, 1),
  (55, .iadd, 1),
  (56, .iconst 1, 1),
  (57, .isub, 1),
  (58, .dup2, 1),
  (59, .iaload, 1),
  (60, .iconst 1, 1),
  (61, .iadd, 1),
  (62, .iastore, 1),
  (63, .aload_n 0, 1),
  (64, .getfield 55, 3),
  (67, .iload 4, 2),
  (69, .iload 5, 2),
  (71, .iadd, 1),
  (72, .iconst 1, 1),
  (73, .isub, 1),
  (74, .dup2, 1),
  (75, .iaload, 1),
  (76, .iconst 1, 1),
  (77, .isub, 1),
  (78, .iastore, 1),
  (79, .iinc 5 1, 3),
  (82, .goto (-43), 3),
  (85, .iinc 4 1, 3),
  (88, .goto (-58), 3),
  (91, .lconst 1, 1),
  (92, .lstore 4, 2),
  (94, .aload_n 0, 1),
  (95, .getfield 55, 3),
  (98, .arraylength, 1),
  (99, .iconst 1, 1),
  (100, .isub, 1),
  (101, .istore 6, 2),
  (103, .iload 6, 2),
  (105, .iconst 2, 1),
  (106, .if_icmp .lt 68, 3),
  (109, .iload 6, 2),
  (111, .invokestatic 377, 3),
  (114, .istore 7, 2),
  (116, .iload 7, 2),
  (118, .iload 6, 2),
  (120, .if_icmp .ge 48, 3),
  (123, .aload_n 0, 1),
  (124, .getfield 55, 3),
  (127, .iload 7, 2),
  (129, .dup2, 1),
  (130, .iaload, 1),
  (131, .aload_n 0, 1),
  (132, .getfield 55, 3),
  (135, .iload 6, 2),
  (137, .iaload, 1),
  (138, .iadd, 1),
  (139, .iastore, 1),
  (140, .aload_n 0, 1),
  (141, .getfield 55, 3),
  (144, .iload 6, 2),
  (146, .iload 7, 2),
  (148, .idiv, 1),
  (149, .dup2, 1),
  (150, .iaload, 1),
  (151, .aload_n 0, 1),
  (152, .getfield 55, 3),
  (155, .iload 6, 2),
  (157, .iaload, 1),
  (158, .iadd, 1),
  (159, .iastore, 1),
  (160, .aload_n 0, 1),
  (161, .getfield 55, 3),
  (164, .iload 6, 2),
  (166, .iconst 0, 1),
  (167, .iastore, 1),
  (168, .iinc 6 (-1), 3),
  (171, .goto (-68), 3),
  (174, .iconst 2, 1),
  (175, .istore 6, 2),
  (177, .iload 6, 2),
  (179, .aload_n 0, 1),
  (180, .getfield 55, 3),
  (183, .arraylength, 1),
  (184, .if_icmp .ge 38, 3),
  (187, .iconst 0, 1),
  (188, .istore 7, 2),
  (190, .iload 7, 2),
  (192, .aload_n 0, 1),
  (193, .getfield 55, 3),
  (196, .iload 6, 2),
  (198, .iaload, 1),
  (199, .if_icmp .ge 17, 3),
  (202, .lload 4, 2),
  (204, .iload 6, 2),
  (206, .i2l, 1),
  (207, .lmul, 1),
  (208, .lstore 4, 2),
  (210, .iinc 7 1, 3),
  (213, .goto (-23), 3),
  (216, .iinc 6 1, 3),
  (219, .goto (-42), 3),
  (222, .lload 4, 2),
  (224, .lreturn, 1)]
set_option maxRecDepth 100000 in
theorem tX8_heaped_ok : ∀ q ∈ tX8_heaped, decode cX8_heaped q.1 = .ok q.2 := by decide +kernel
theorem dX8_heaped_0 : decode cX8_heaped 0 = .ok (.iconst 0, 1) := tX8_heaped_ok (0, .iconst 0, 1) (List.mem_of_getElem? (i := 0) rfl)
theorem dX8_heaped_1 : decode cX8_heaped 1 = .ok (.istore 4, 2) := tX8_heaped_ok (1, .istore 4, 2) (List.mem_of_getElem? (i := 1) rfl)
theorem dX8_heaped_3 : decode cX8_heaped 3 = .ok (.iload 4, 2) := tX8_heaped_ok (3, .iload 4, 2) (List.mem_of_getElem? (i := 2) rfl)
theorem dX8_heaped_5 : decode cX8_heaped 5 = .ok (.aload_n 0, 1) := tX8_heaped_ok (5, .aload_n 0, 1) (List.mem_of_getElem? (i := 3) rfl)
theorem dX8_heaped_6 : decode cX8_heaped 6 = .ok (.getfield 55, 3) := tX8_heaped_ok (6, .getfield 55, 3) (List.mem_of_getElem? (i := 4) rfl)
theorem dX8_heaped_9 : decode cX8_heaped 9 = .ok (.arraylength, 1) := tX8_heaped_ok (9, .arraylength, 1) (List.mem_of_getElem? (i := 5) rfl)
theorem dX8_heaped_10 : decode cX8_heaped 10 = .ok (.if_icmp .ge 17, 3) := tX8_heaped_ok (10, .if_icmp .ge 17, 3) (List.mem_of_getElem? (i := 6) rfl)
theorem dX8_heaped_13 : decode cX8_heaped 13 = .ok (.aload_n 0, 1) := tX8_heaped_ok (13, .aload_n 0, 1) (List.mem_of_getElem? (i := 7) rfl)
theorem dX8_heaped_14 : decode cX8_heaped 14 = .ok (.getfield 55, 3) := tX8_heaped_ok (14, .getfield 55, 3) (List.mem_of_getElem? (i := 8) rfl)
theorem dX8_heaped_17 : decode cX8_heaped 17 = .ok (.iload 4, 2) := tX8_heaped_ok (17, .iload 4, 2) (List.mem_of_getElem? (i := 9) rfl)
theorem dX8_heaped_19 : decode cX8_heaped 19 = .ok (.iconst 0, 1) := tX8_heaped_ok (19, .iconst 0, 1) (List.mem_of_getElem? (i := 10) rfl)
theorem dX8_heaped_20 : decode cX8_heaped 20 = .ok (.iastore, 1) := tX8_heaped_ok (20, .iastore, 1) (List.mem_of_getElem? (i := 11) rfl)
theorem dX8_heaped_21 : decode cX8_heaped 21 = .ok (.iinc 4 1, 3) := tX8_heaped_ok (21, .iinc 4 1, 3) (List.mem_of_getElem? (i := 12) rfl)
theorem dX8_heaped_24 : decode cX8_heaped 24 = .ok (.goto (-21), 3) := tX8_heaped_ok (24, .goto (-21), 3) (List.mem_of_getElem? (i := 13) rfl)
theorem dX8_heaped_27 : decode cX8_heaped 27 = .ok (.iconst 1, 1) := tX8_heaped_ok (27, .iconst 1, 1) (List.mem_of_getElem? (i := 14) rfl)
theorem dX8_heaped_28 : decode cX8_heaped 28 = .ok (.istore 4, 2) := tX8_heaped_ok (28, .istore 4, 2) (List.mem_of_getElem? (i := 15) rfl)
theorem dX8_heaped_30 : decode cX8_heaped 30 = .ok (.iload 4, 2) := tX8_heaped_ok (30, .iload 4, 2) (List.mem_of_getElem? (i := 16) rfl)
theorem dX8_heaped_32 : decode cX8_heaped 32 = .ok (.iload_n 1, 1) := tX8_heaped_ok (32, .iload_n 1, 1) (List.mem_of_getElem? (i := 17) rfl)
theorem dX8_heaped_33 : decode cX8_heaped 33 = .ok (.if_icmp .gt 58, 3) := tX8_heaped_ok (33, .if_icmp .gt 58, 3) (List.mem_of_getElem? (i := 18) rfl)
theorem dX8_heaped_36 : decode cX8_heaped 36 = .ok (.iconst 1, 1) := tX8_heaped_ok (36, .iconst 1, 1) (List.mem_of_getElem? (i := 19) rfl)
theorem dX8_heaped_37 : decode cX8_heaped 37 = .ok (.istore 5, 2) := tX8_heaped_ok (37, .istore 5, 2) (List.mem_of_getElem? (i := 20) rfl)
theorem dX8_heaped_39 : decode cX8_heaped 39 = .ok (.iload 5, 2) := tX8_heaped_ok (39, .iload 5, 2) (List.mem_of_getElem? (i := 21) rfl)
theorem dX8_heaped_41 : decode cX8_heaped 41 = .ok (.iload_n 2, 1) := tX8_heaped_ok (41, .iload_n 2, 1) (List.mem_of_getElem? (i := 22) rfl)
theorem dX8_heaped_42 : decode cX8_heaped 42 = .ok (.if_icmp .gt 43, 3) := tX8_heaped_ok (42, .if_icmp .gt 43, 3) (List.mem_of_getElem? (i := 23) rfl)
theorem dX8_heaped_45 : decode cX8_heaped 45 = .ok (.aload_n 0, 1) := tX8_heaped_ok (45, .aload_n 0, 1) (List.mem_of_getElem? (i := 24) rfl)
theorem dX8_heaped_46 : decode cX8_heaped 46 = .ok (.getfield 55, 3) := tX8_heaped_ok (46, .getfield 55, 3) (List.mem_of_getElem? (i := 25) rfl)
theorem dX8_heaped_49 : decode cX8_heaped 49 = .ok (.iload 4, 2) := tX8_heaped_ok (49, .iload 4, 2) (List.mem_of_getElem? (i := 26) rfl)
theorem dX8_heaped_51 : decode cX8_heaped 51 = .ok (.iload 5, 2) := tX8_heaped_ok (51, .iload 5, 2) (List.mem_of_getElem? (i := 27) rfl)
theorem dX8_heaped_53 : decode cX8_heaped 53 = .ok (.iadd, 1) := tX8_heaped_ok (53, .iadd, 1) (List.mem_of_getElem? (i := 28) rfl)
theorem dX8_heaped_54 : decode cX8_heaped 54 = .ok (.iload_n 3, 1) := tX8_heaped_ok (54, .iload_n 3, 1) (List.mem_of_getElem? (i := 29) rfl)
theorem dX8_heaped_55 : decode cX8_heaped 55 = .ok (.iadd, 1) := tX8_heaped_ok (55, .iadd, 1) (List.mem_of_getElem? (i := 30) rfl)
theorem dX8_heaped_56 : decode cX8_heaped 56 = .ok (.iconst 1, 1) := tX8_heaped_ok (56, .iconst 1, 1) (List.mem_of_getElem? (i := 31) rfl)
theorem dX8_heaped_57 : decode cX8_heaped 57 = .ok (.isub, 1) := tX8_heaped_ok (57, .isub, 1) (List.mem_of_getElem? (i := 32) rfl)
theorem dX8_heaped_58 : decode cX8_heaped 58 = .ok (.dup2, 1) := tX8_heaped_ok (58, .dup2, 1) (List.mem_of_getElem? (i := 33) rfl)
theorem dX8_heaped_59 : decode cX8_heaped 59 = .ok (.iaload, 1) := tX8_heaped_ok (59, .iaload, 1) (List.mem_of_getElem? (i := 34) rfl)
theorem dX8_heaped_60 : decode cX8_heaped 60 = .ok (.iconst 1, 1) := tX8_heaped_ok (60, .iconst 1, 1) (List.mem_of_getElem? (i := 35) rfl)
theorem dX8_heaped_61 : decode cX8_heaped 61 = .ok (.iadd, 1) := tX8_heaped_ok (61, .iadd, 1) (List.mem_of_getElem? (i := 36) rfl)
theorem dX8_heaped_62 : decode cX8_heaped 62 = .ok (.iastore, 1) := tX8_heaped_ok (62, .iastore, 1) (List.mem_of_getElem? (i := 37) rfl)
theorem dX8_heaped_63 : decode cX8_heaped 63 = .ok (.aload_n 0, 1) := tX8_heaped_ok (63, .aload_n 0, 1) (List.mem_of_getElem? (i := 38) rfl)
theorem dX8_heaped_64 : decode cX8_heaped 64 = .ok (.getfield 55, 3) := tX8_heaped_ok (64, .getfield 55, 3) (List.mem_of_getElem? (i := 39) rfl)
theorem dX8_heaped_67 : decode cX8_heaped 67 = .ok (.iload 4, 2) := tX8_heaped_ok (67, .iload 4, 2) (List.mem_of_getElem? (i := 40) rfl)
theorem dX8_heaped_69 : decode cX8_heaped 69 = .ok (.iload 5, 2) := tX8_heaped_ok (69, .iload 5, 2) (List.mem_of_getElem? (i := 41) rfl)
theorem dX8_heaped_71 : decode cX8_heaped 71 = .ok (.iadd, 1) := tX8_heaped_ok (71, .iadd, 1) (List.mem_of_getElem? (i := 42) rfl)
theorem dX8_heaped_72 : decode cX8_heaped 72 = .ok (.iconst 1, 1) := tX8_heaped_ok (72, .iconst 1, 1) (List.mem_of_getElem? (i := 43) rfl)
theorem dX8_heaped_73 : decode cX8_heaped 73 = .ok (.isub, 1) := tX8_heaped_ok (73, .isub, 1) (List.mem_of_getElem? (i := 44) rfl)
theorem dX8_heaped_74 : decode cX8_heaped 74 = .ok (.dup2, 1) := tX8_heaped_ok (74, .dup2, 1) (List.mem_of_getElem? (i := 45) rfl)
theorem dX8_heaped_75 : decode cX8_heaped 75 = .ok (.iaload, 1) := tX8_heaped_ok (75, .iaload, 1) (List.mem_of_getElem? (i := 46) rfl)
theorem dX8_heaped_76 : decode cX8_heaped 76 = .ok (.iconst 1, 1) := tX8_heaped_ok (76, .iconst 1, 1) (List.mem_of_getElem? (i := 47) rfl)
theorem dX8_heaped_77 : decode cX8_heaped 77 = .ok (.isub, 1) := tX8_heaped_ok (77, .isub, 1) (List.mem_of_getElem? (i := 48) rfl)
theorem dX8_heaped_78 : decode cX8_heaped 78 = .ok (.iastore, 1) := tX8_heaped_ok (78, .iastore, 1) (List.mem_of_getElem? (i := 49) rfl)
theorem dX8_heaped_79 : decode cX8_heaped 79 = .ok (.iinc 5 1, 3) := tX8_heaped_ok (79, .iinc 5 1, 3) (List.mem_of_getElem? (i := 50) rfl)
theorem dX8_heaped_82 : decode cX8_heaped 82 = .ok (.goto (-43), 3) := tX8_heaped_ok (82, .goto (-43), 3) (List.mem_of_getElem? (i := 51) rfl)
theorem dX8_heaped_85 : decode cX8_heaped 85 = .ok (.iinc 4 1, 3) := tX8_heaped_ok (85, .iinc 4 1, 3) (List.mem_of_getElem? (i := 52) rfl)
theorem dX8_heaped_88 : decode cX8_heaped 88 = .ok (.goto (-58), 3) := tX8_heaped_ok (88, .goto (-58), 3) (List.mem_of_getElem? (i := 53) rfl)
theorem dX8_heaped_91 : decode cX8_heaped 91 = .ok (.lconst 1, 1) := tX8_heaped_ok (91, .lconst 1, 1) (List.mem_of_getElem? (i := 54) rfl)
theorem dX8_heaped_92 : decode cX8_heaped 92 = .ok (.lstore 4, 2) := tX8_heaped_ok (92, .lstore 4, 2) (List.mem_of_getElem? (i := 55) rfl)
theorem dX8_heaped_94 : decode cX8_heaped 94 = .ok (.aload_n 0, 1) := tX8_heaped_ok (94, .aload_n 0, 1) (List.mem_of_getElem? (i := 56) rfl)
theorem dX8_heaped_95 : decode cX8_heaped 95 = .ok (.getfield 55, 3) := tX8_heaped_ok (95, .getfield 55, 3) (List.mem_of_getElem? (i := 57) rfl)
theorem dX8_heaped_98 : decode cX8_heaped 98 = .ok (.arraylength, 1) := tX8_heaped_ok (98, .arraylength, 1) (List.mem_of_getElem? (i := 58) rfl)
theorem dX8_heaped_99 : decode cX8_heaped 99 = .ok (.iconst 1, 1) := tX8_heaped_ok (99, .iconst 1, 1) (List.mem_of_getElem? (i := 59) rfl)
theorem dX8_heaped_100 : decode cX8_heaped 100 = .ok (.isub, 1) := tX8_heaped_ok (100, .isub, 1) (List.mem_of_getElem? (i := 60) rfl)
theorem dX8_heaped_101 : decode cX8_heaped 101 = .ok (.istore 6, 2) := tX8_heaped_ok (101, .istore 6, 2) (List.mem_of_getElem? (i := 61) rfl)
theorem dX8_heaped_103 : decode cX8_heaped 103 = .ok (.iload 6, 2) := tX8_heaped_ok (103, .iload 6, 2) (List.mem_of_getElem? (i := 62) rfl)
theorem dX8_heaped_105 : decode cX8_heaped 105 = .ok (.iconst 2, 1) := tX8_heaped_ok (105, .iconst 2, 1) (List.mem_of_getElem? (i := 63) rfl)
theorem dX8_heaped_106 : decode cX8_heaped 106 = .ok (.if_icmp .lt 68, 3) := tX8_heaped_ok (106, .if_icmp .lt 68, 3) (List.mem_of_getElem? (i := 64) rfl)
theorem dX8_heaped_109 : decode cX8_heaped 109 = .ok (.iload 6, 2) := tX8_heaped_ok (109, .iload 6, 2) (List.mem_of_getElem? (i := 65) rfl)
theorem dX8_heaped_111 : decode cX8_heaped 111 = .ok (.invokestatic 377, 3) := tX8_heaped_ok (111, .invokestatic 377, 3) (List.mem_of_getElem? (i := 66) rfl)
theorem dX8_heaped_114 : decode cX8_heaped 114 = .ok (.istore 7, 2) := tX8_heaped_ok (114, .istore 7, 2) (List.mem_of_getElem? (i := 67) rfl)
theorem dX8_heaped_116 : decode cX8_heaped 116 = .ok (.iload 7, 2) := tX8_heaped_ok (116, .iload 7, 2) (List.mem_of_getElem? (i := 68) rfl)
theorem dX8_heaped_118 : decode cX8_heaped 118 = .ok (.iload 6, 2) := tX8_heaped_ok (118, .iload 6, 2) (List.mem_of_getElem? (i := 69) rfl)
theorem dX8_heaped_120 : decode cX8_heaped 120 = .ok (.if_icmp .ge 48, 3) := tX8_heaped_ok (120, .if_icmp .ge 48, 3) (List.mem_of_getElem? (i := 70) rfl)
theorem dX8_heaped_123 : decode cX8_heaped 123 = .ok (.aload_n 0, 1) := tX8_heaped_ok (123, .aload_n 0, 1) (List.mem_of_getElem? (i := 71) rfl)
theorem dX8_heaped_124 : decode cX8_heaped 124 = .ok (.getfield 55, 3) := tX8_heaped_ok (124, .getfield 55, 3) (List.mem_of_getElem? (i := 72) rfl)
theorem dX8_heaped_127 : decode cX8_heaped 127 = .ok (.iload 7, 2) := tX8_heaped_ok (127, .iload 7, 2) (List.mem_of_getElem? (i := 73) rfl)
theorem dX8_heaped_129 : decode cX8_heaped 129 = .ok (.dup2, 1) := tX8_heaped_ok (129, .dup2, 1) (List.mem_of_getElem? (i := 74) rfl)
theorem dX8_heaped_130 : decode cX8_heaped 130 = .ok (.iaload, 1) := tX8_heaped_ok (130, .iaload, 1) (List.mem_of_getElem? (i := 75) rfl)
theorem dX8_heaped_131 : decode cX8_heaped 131 = .ok (.aload_n 0, 1) := tX8_heaped_ok (131, .aload_n 0, 1) (List.mem_of_getElem? (i := 76) rfl)
theorem dX8_heaped_132 : decode cX8_heaped 132 = .ok (.getfield 55, 3) := tX8_heaped_ok (132, .getfield 55, 3) (List.mem_of_getElem? (i := 77) rfl)
theorem dX8_heaped_135 : decode cX8_heaped 135 = .ok (.iload 6, 2) := tX8_heaped_ok (135, .iload 6, 2) (List.mem_of_getElem? (i := 78) rfl)
theorem dX8_heaped_137 : decode cX8_heaped 137 = .ok (.iaload, 1) := tX8_heaped_ok (137, .iaload, 1) (List.mem_of_getElem? (i := 79) rfl)
theorem dX8_heaped_138 : decode cX8_heaped 138 = .ok (.iadd, 1) := tX8_heaped_ok (138, .iadd, 1) (List.mem_of_getElem? (i := 80) rfl)
theorem dX8_heaped_139 : decode cX8_heaped 139 = .ok (.iastore, 1) := tX8_heaped_ok (139, .iastore, 1) (List.mem_of_getElem? (i := 81) rfl)
theorem dX8_heaped_140 : decode cX8_heaped 140 = .ok (.aload_n 0, 1) := tX8_heaped_ok (140, .aload_n 0, 1) (List.mem_of_getElem? (i := 82) rfl)
theorem dX8_heaped_141 : decode cX8_heaped 141 = .ok (.getfield 55, 3) := tX8_heaped_ok (141, .getfield 55, 3) (List.mem_of_getElem? (i := 83) rfl)
theorem dX8_heaped_144 : decode cX8_heaped 144 = .ok (.iload 6, 2) := tX8_heaped_ok (144, .iload 6, 2) (List.mem_of_getElem? (i := 84) rfl)
theorem dX8_heaped_146 : decode cX8_heaped 146 = .ok (.iload 7, 2) := tX8_heaped_ok (146, .iload 7, 2) (List.mem_of_getElem? (i := 85) rfl)
theorem dX8_heaped_148 : decode cX8_heaped 148 = .ok (.idiv, 1) := tX8_heaped_ok (148, .idiv, 1) (List.mem_of_getElem? (i := 86) rfl)
theorem dX8_heaped_149 : decode cX8_heaped 149 = .ok (.dup2, 1) := tX8_heaped_ok (149, .dup2, 1) (List.mem_of_getElem? (i := 87) rfl)
theorem dX8_heaped_150 : decode cX8_heaped 150 = .ok (.iaload, 1) := tX8_heaped_ok (150, .iaload, 1) (List.mem_of_getElem? (i := 88) rfl)
theorem dX8_heaped_151 : decode cX8_heaped 151 = .ok (.aload_n 0, 1) := tX8_heaped_ok (151, .aload_n 0, 1) (List.mem_of_getElem? (i := 89) rfl)
theorem dX8_heaped_152 : decode cX8_heaped 152 = .ok (.getfield 55, 3) := tX8_heaped_ok (152, .getfield 55, 3) (List.mem_of_getElem? (i := 90) rfl)
theorem dX8_heaped_155 : decode cX8_heaped 155 = .ok (.iload 6, 2) := tX8_heaped_ok (155, .iload 6, 2) (List.mem_of_getElem? (i := 91) rfl)
theorem dX8_heaped_157 : decode cX8_heaped 157 = .ok (.iaload, 1) := tX8_heaped_ok (157, .iaload, 1) (List.mem_of_getElem? (i := 92) rfl)
theorem dX8_heaped_158 : decode cX8_heaped 158 = .ok (.iadd, 1) := tX8_heaped_ok (158, .iadd, 1) (List.mem_of_getElem? (i := 93) rfl)
theorem dX8_heaped_159 : decode cX8_heaped 159 = .ok (.iastore, 1) := tX8_heaped_ok (159, .iastore, 1) (List.mem_of_getElem? (i := 94) rfl)
theorem dX8_heaped_160 : decode cX8_heaped 160 = .ok (.aload_n 0, 1) := tX8_heaped_ok (160, .aload_n 0, 1) (List.mem_of_getElem? (i := 95) rfl)
theorem dX8_heaped_161 : decode cX8_heaped 161 = .ok (.getfield 55, 3) := tX8_heaped_ok (161, .getfield 55, 3) (List.mem_of_getElem? (i := 96) rfl)
theorem dX8_heaped_164 : decode cX8_heaped 164 = .ok (.iload 6, 2) := tX8_heaped_ok (164, .iload 6, 2) (List.mem_of_getElem? (i := 97) rfl)
theorem dX8_heaped_166 : decode cX8_heaped 166 = .ok (.iconst 0, 1) := tX8_heaped_ok (166, .iconst 0, 1) (List.mem_of_getElem? (i := 98) rfl)
theorem dX8_heaped_167 : decode cX8_heaped 167 = .ok (.iastore, 1) := tX8_heaped_ok (167, .iastore, 1) (List.mem_of_getElem? (i := 99) rfl)
theorem dX8_heaped_168 : decode cX8_heaped 168 = .ok (.iinc 6 (-1), 3) := tX8_heaped_ok (168, .iinc 6 (-1), 3) (List.mem_of_getElem? (i := 100) rfl)
theorem dX8_heaped_171 : decode cX8_heaped 171 = .ok (.goto (-68), 3) := tX8_heaped_ok (171, .goto (-68), 3) (List.mem_of_getElem? (i := 101) rfl)
theorem dX8_heaped_174 : decode cX8_heaped 174 = .ok (.iconst 2, 1) := tX8_heaped_ok (174, .iconst 2, 1) (List.mem_of_getElem? (i := 102) rfl)
theorem dX8_heaped_175 : decode cX8_heaped 175 = .ok (.istore 6, 2) := tX8_heaped_ok (175, .istore 6, 2) (List.mem_of_getElem? (i := 103) rfl)
theorem dX8_heaped_177 : decode cX8_heaped 177 = .ok (.iload 6, 2) := tX8_heaped_ok (177, .iload 6, 2) (List.mem_of_getElem? (i := 104) rfl)
theorem dX8_heaped_179 : decode cX8_heaped 179 = .ok (.aload_n 0, 1) := tX8_heaped_ok (179, .aload_n 0, 1) (List.mem_of_getElem? (i := 105) rfl)
theorem dX8_heaped_180 : decode cX8_heaped 180 = .ok (.getfield 55, 3) := tX8_heaped_ok (180, .getfield 55, 3) (List.mem_of_getElem? (i := 106) rfl)
theorem dX8_heaped_183 : decode cX8_heaped 183 = .ok (.arraylength, 1) := tX8_heaped_ok (183, .arraylength, 1) (List.mem_of_getElem? (i := 107) rfl)
theorem dX8_heaped_184 : decode cX8_heaped 184 = .ok (.if_icmp .ge 38, 3) := tX8_heaped_ok (184, .if_icmp .ge 38, 3) (List.mem_of_getElem? (i := 108) rfl)
theorem dX8_heaped_187 : decode cX8_heaped 187 = .ok (.iconst 0, 1) := tX8_heaped_ok (187, .iconst 0, 1) (List.mem_of_getElem? (i := 109) rfl)
theorem dX8_heaped_188 : decode cX8_heaped 188 = .ok (.istore 7, 2) := tX8_heaped_ok (188, .istore 7, 2) (List.mem_of_getElem? (i := 110) rfl)
theorem dX8_heaped_190 : decode cX8_heaped 190 = .ok (.iload 7, 2) := tX8_heaped_ok (190, .iload 7, 2) (List.mem_of_getElem? (i := 111) rfl)
theorem dX8_heaped_192 : decode cX8_heaped 192 = .ok (.aload_n 0, 1) := tX8_heaped_ok (192, .aload_n 0, 1) (List.mem_of_getElem? (i := 112) rfl)
theorem dX8_heaped_193 : decode cX8_heaped 193 = .ok (.getfield 55, 3) := tX8_heaped_ok (193, .getfield 55, 3) (List.mem_of_getElem? (i := 113) rfl)
theorem dX8_heaped_196 : decode cX8_heaped 196 = .ok (.iload 6, 2) := tX8_heaped_ok (196, .iload 6, 2) (List.mem_of_getElem? (i := 114) rfl)
theorem dX8_heaped_198 : decode cX8_heaped 198 = .ok (.iaload, 1) := tX8_heaped_ok (198, .iaload, 1) (List.mem_of_getElem? (i := 115) rfl)
theorem dX8_heaped_199 : decode cX8_heaped 199 = .ok (.if_icmp .ge 17, 3) := tX8_heaped_ok (199, .if_icmp .ge 17, 3) (List.mem_of_getElem? (i := 116) rfl)
theorem dX8_heaped_202 : decode cX8_heaped 202 = .ok (.lload 4, 2) := tX8_heaped_ok (202, .lload 4, 2) (List.mem_of_getElem? (i := 117) rfl)
theorem dX8_heaped_204 : decode cX8_heaped 204 = .ok (.iload 6, 2) := tX8_heaped_ok (204, .iload 6, 2) (List.mem_of_getElem? (i := 118) rfl)
theorem dX8_heaped_206 : decode cX8_heaped 206 = .ok (.i2l, 1) := tX8_heaped_ok (206, .i2l, 1) (List.mem_of_getElem? (i := 119) rfl)
theorem dX8_heaped_207 : decode cX8_heaped 207 = .ok (.lmul, 1) := tX8_heaped_ok (207, .lmul, 1) (List.mem_of_getElem? (i := 120) rfl)
theorem dX8_heaped_208 : decode cX8_heaped 208 = .ok (.lstore 4, 2) := tX8_heaped_ok (208, .lstore 4, 2) (List.mem_of_getElem? (i := 121) rfl)
theorem dX8_heaped_210 : decode cX8_heaped 210 = .ok (.iinc 7 1, 3) := tX8_heaped_ok (210, .iinc 7 1, 3) (List.mem_of_getElem? (i := 122) rfl)
theorem dX8_heaped_213 : decode cX8_heaped 213 = .ok (.goto (-23), 3) := tX8_heaped_ok (213, .goto (-23), 3) (List.mem_of_getElem? (i := 123) rfl)
theorem dX8_heaped_216 : decode cX8_heaped 216 = .ok (.iinc 6 1, 3) := tX8_heaped_ok (216, .iinc 6 1, 3) (List.mem_of_getElem? (i := 124) rfl)
theorem dX8_heaped_219 : decode cX8_heaped 219 = .ok (.goto (-42), 3) := tX8_heaped_ok (219, .goto (-42), 3) (List.mem_of_getElem? (i := 125) rfl)
theorem dX8_heaped_222 : decode cX8_heaped 222 = .ok (.lload 4, 2) := tX8_heaped_ok (222, .lload 4, 2) (List.mem_of_getElem? (i := 126) rfl)
theorem dX8_heaped_224 : decode cX8_heaped 224 = .ok (.lreturn, 1) := tX8_heaped_ok (224, .lreturn, 1) (List.mem_of_getElem? (i := 127) rfl)

def tX8_leastDivisor : List (Nat × Instr × Nat) := [
  (0, .iconst 2, 1),
  (1, .istore_n 1, 1),
  (2, .iload_n 1, 1),
  (3, .iload_n 1, 1),
  (4, .imul, 1),
  (5, .iload_n 0, 1),
  (6, .if_icmp .gt 17, 3),
  (9, .iload_n 0, 1),
  (10, .iload_n 1, 1),
  (11, .irem, 1),
  (12, .ifCond .ne 5, 3),
  (15, .iload_n 1, 1),
  (16, .ireturn, 1),
  (17, .iinc 1 1, 3),
  (20, .goto (-18), 3),
  (23, .iload_n 0, 1),
  (24, .ireturn, 1)]
set_option maxRecDepth 100000 in
theorem tX8_leastDivisor_ok : ∀ q ∈ tX8_leastDivisor, decode cX8_leastDivisor q.1 = .ok q.2 := by decide +kernel
theorem dX8_leastDivisor_0 : decode cX8_leastDivisor 0 = .ok (.iconst 2, 1) := tX8_leastDivisor_ok (0, .iconst 2, 1) (List.mem_of_getElem? (i := 0) rfl)
theorem dX8_leastDivisor_1 : decode cX8_leastDivisor 1 = .ok (.istore_n 1, 1) := tX8_leastDivisor_ok (1, .istore_n 1, 1) (List.mem_of_getElem? (i := 1) rfl)
theorem dX8_leastDivisor_2 : decode cX8_leastDivisor 2 = .ok (.iload_n 1, 1) := tX8_leastDivisor_ok (2, .iload_n 1, 1) (List.mem_of_getElem? (i := 2) rfl)
theorem dX8_leastDivisor_3 : decode cX8_leastDivisor 3 = .ok (.iload_n 1, 1) := tX8_leastDivisor_ok (3, .iload_n 1, 1) (List.mem_of_getElem? (i := 3) rfl)
theorem dX8_leastDivisor_4 : decode cX8_leastDivisor 4 = .ok (.imul, 1) := tX8_leastDivisor_ok (4, .imul, 1) (List.mem_of_getElem? (i := 4) rfl)
theorem dX8_leastDivisor_5 : decode cX8_leastDivisor 5 = .ok (.iload_n 0, 1) := tX8_leastDivisor_ok (5, .iload_n 0, 1) (List.mem_of_getElem? (i := 5) rfl)
theorem dX8_leastDivisor_6 : decode cX8_leastDivisor 6 = .ok (.if_icmp .gt 17, 3) := tX8_leastDivisor_ok (6, .if_icmp .gt 17, 3) (List.mem_of_getElem? (i := 6) rfl)
theorem dX8_leastDivisor_9 : decode cX8_leastDivisor 9 = .ok (.iload_n 0, 1) := tX8_leastDivisor_ok (9, .iload_n 0, 1) (List.mem_of_getElem? (i := 7) rfl)
theorem dX8_leastDivisor_10 : decode cX8_leastDivisor 10 = .ok (.iload_n 1, 1) := tX8_leastDivisor_ok (10, .iload_n 1, 1) (List.mem_of_getElem? (i := 8) rfl)
theorem dX8_leastDivisor_11 : decode cX8_leastDivisor 11 = .ok (.irem, 1) := tX8_leastDivisor_ok (11, .irem, 1) (List.mem_of_getElem? (i := 9) rfl)
theorem dX8_leastDivisor_12 : decode cX8_leastDivisor 12 = .ok (.ifCond .ne 5, 3) := tX8_leastDivisor_ok (12, .ifCond .ne 5, 3) (List.mem_of_getElem? (i := 10) rfl)
theorem dX8_leastDivisor_15 : decode cX8_leastDivisor 15 = .ok (.iload_n 1, 1) := tX8_leastDivisor_ok (15, .iload_n 1, 1) (List.mem_of_getElem? (i := 11) rfl)
theorem dX8_leastDivisor_16 : decode cX8_leastDivisor 16 = .ok (.ireturn, 1) := tX8_leastDivisor_ok (16, .ireturn, 1) (List.mem_of_getElem? (i := 12) rfl)
theorem dX8_leastDivisor_17 : decode cX8_leastDivisor 17 = .ok (.iinc 1 1, 3) := tX8_leastDivisor_ok (17, .iinc 1 1, 3) (List.mem_of_getElem? (i := 13) rfl)
theorem dX8_leastDivisor_20 : decode cX8_leastDivisor 20 = .ok (.goto (-18), 3) := tX8_leastDivisor_ok (20, .goto (-18), 3) (List.mem_of_getElem? (i := 14) rfl)
theorem dX8_leastDivisor_23 : decode cX8_leastDivisor 23 = .ok (.iload_n 0, 1) := tX8_leastDivisor_ok (23, .iload_n 0, 1) (List.mem_of_getElem? (i := 15) rfl)
theorem dX8_leastDivisor_24 : decode cX8_leastDivisor 24 = .ok (.ireturn, 1) := tX8_leastDivisor_ok (24, .ireturn, 1) (List.mem_of_getElem? (i := 16) rfl)

def tX9_init : List (Nat × Instr × Nat) := [
  (0, .aload_n 0, 1),
  (1, .invokespecial 1, 3),
  (4, .aload_n 0, 1),
  (5, .iconst 4, 1),
  (6, .newarray .int, 2),
  (8, .putfield 7, 3),
  (11, .aload_n 0, 1),
  (12, .iconst 4, 1),
  (13, .newarray .int, 2),
  (15, .putfield 13, 3),
  (18, .aload_n 0, 1),
  (19, .sipush 256, 3),
  (22, .newarray .int, 2),
  (24, .putfield 16, 3),
  (27, .aload_n 0, 1),
  (28, .iconst 4, 1),
  (29, .putfield 19, 3),
  (32, .aload_n 0, 1),
  (33, .iconst 5, 1),
  (34, .putfield 23, 3),
  (37, .aload_n 0, 1),
  (38, .bipush 6, 2),
  (40, .putfield 26, 3),
  (43, .aload_n 0, 1),
  (44, .bipush 8, 2),
  (46, .newarray .int, 2),
  (48, .putfield 29, 3),
  (51, .aload_n 0, 1),
  (52, .bipush 8, 2),
  (54, .newarray .int, 2),
  (56, .putfield 32, 3),
  (59, .aload_n 0, 1),
  (60, .bipush 8, 2),
  (62, .newarray .int, 2),
  (64, .putfield 35, 3),
  (67, .aload_n 0, 1),
  (68, .sipush 3721, 3),
  (71, .newarray .boolean, 2),
  (73, .putfield 38, 3),
  (76, .aload_n 0, 1),
  (77, .ldc 42, 2),
  (79, .newarray .long, 2),
  (81, .putfield 43, 3),
  (84, .aload_n 0, 1),
  (85, .ldc 47, 2),
  (87, .newarray .long, 2),
  (89, .putfield 48, 3),
  (92, .aload_n 0, 1),
  (93, .ldc 47, 2),
  (95, .newarray .long, 2),
  (97, .putfield 51, 3),
  (100, .aload_n 0, 1),
  (101, .sipush 29768, 3),
  (104, .newarray .int, 2),
  (106, .putfield 54, 3),
  (109, .aload_n 0, 1),
  (110, .sipush 29768, 3),
  (113, .newarray .int, 2),
  (115, .putfield 57, 3),
  (118, .aload_n 0, 1),
  (119, .iconst 4, 1),
  (120, .newarray .int, 2),
  (122, .putfield 60, 3),
  (125, .aload_n 0, 1),
  (126, .iconst 4, 1),
  (127, .newarray .int, 2),
  (129, .putfield 63, 3),
  (132, .aload_n 0, 1),
  (133, .iconst 4, 1),
  (134, .newarray .int, 2),
  (136, .putfield 66, 3),
  (139, .aload_n 0, 1),
  (140, .iconst 4, 1),
  (141, .newarray .int, 2),
  (143, .putfield 69, 3),
  (146, .aload_n 0, 1),
  (147, .iconst (-1), 1),
  (148, .putfield 72, 3),
  (151, .aload_n 0, 1),
  (152, .bipush 64, 2),
  (154, .newarray .long, 2),
  (156, .putfield 75, 3),
  (159, .aload_n 0, 1),
  (160, .bipush 64, 2),
  (162, .newarray .byte, 2),
  (164, .putfield 78, 3),
  (167, .aload_n 0, 1),
  (168, .bipush 16, 2),
  (170, .newarray .long, 2),
  (172, .putfield 82, 3),
  (175, .aload_n 0, 1),
  (176, .sipush 5550, 3),
  (179, .newarray .int, 2),
  (181, .putfield 85, 3),
  (184, .aload_n 0, 1),
  (185, .sipush 3782, 3),
  (188, .newarray .long, 2),
  (190, .putfield 88, 3),
  (193, .aload_n 0, 1),
  (194, .sipush 961, 3),
  (197, .newarray .long, 2),
  (199, .putfield 91, 3),
  (202, .aload_n 0, 1),
  (203, .sipush 961, 3),
  (206, .newarray .long, 2),
  (208, .putfield 94, 3),
  (211, .aload_n 0, 1),
  (212, .sipush 961, 3),
  (215, .newarray .long, 2),
  (217, .putfield 97, 3),
  (220, .aload_n 0, 1),
  (221, .sipush 128, 3),
  (224, .newarray .long, 2),
  (226, .putfield 100, 3),
  (229, .aload_n 0, 1),
  (230, .bipush 31, 2),
  (232, .newarray .long, 2),
  (234, .putfield 103, 3),
  (237, .aload_n 0, 1),
  (238, .bipush 31, 2),
  (240, .newarray .long, 2),
  (242, .putfield 106, 3),
  (245, .aload_n 0, 1),
  (246, .sipush 2048, 3),
  (249, .newarray .long, 2),
  (251, .putfield 109, 3),
  (254, .iconst 0, 1),
  (255, .istore_n 1, 1),
  (256, .iload_n 1, 1),
  (257, .iconst 4, 1),
  (258, .if_icmp .ge 16, 3),
  (261, .aload_n 0, 1),
  (262, .getfield 13, 3),
  (265, .iload_n 1, 1),
  (266, .iconst (-1), 1),
  (267, .iastore, 1),
  (268, .iinc 1 1, 3),
  (271, .goto (-15), 3),
  (274, .aload_n 0, 1),
  (275, .getfield 29, 3),
  (278, .iconst 0, 1),
  (279, .iconst 1, 1),
  (280, .iastore, 1),
  (281, .aload_n 0, 1),
  (282, .getfield 32, 3),
  (285, .iconst 1, 1),
  (286, .iconst 1, 1),
  (287, .iastore, 1),
  (288, .aload_n 0, 1),
  (289, .getfield 29, 3),
  (292, .iconst 2, 1),
  (293, .iconst (-1), 1),
  (294, .iastore, 1),
  (295, .aload_n 0, 1),
  (296, .getfield 32, 3),
  (299, .iconst 3, 1),
  (300, .iconst (-1), 1),
  (301, .iastore, 1),
  (302, .iconst 0, 1),
  (303, .istore_n 1, 1),
  (304, .iload_n 1, 1),
  (305, .iconst 4, 1),
  (306, .if_icmp .ge 16, 3),
  (309, .aload_n 0, 1),
  (310, .getfield 35, 3),
  (313, .iload_n 1, 1),
  (314, .iconst 1, 1),
  (315, .iastore, 1),
  (316, .iinc 1 1, 3),
  (319, .goto (-15), 3),
  (322, .return_, 1)]
set_option maxRecDepth 100000 in
theorem tX9_init_ok : ∀ q ∈ tX9_init, decode cX9_init q.1 = .ok q.2 := by decide +kernel
theorem dX9_init_0 : decode cX9_init 0 = .ok (.aload_n 0, 1) := tX9_init_ok (0, .aload_n 0, 1) (List.mem_of_getElem? (i := 0) rfl)
theorem dX9_init_1 : decode cX9_init 1 = .ok (.invokespecial 1, 3) := tX9_init_ok (1, .invokespecial 1, 3) (List.mem_of_getElem? (i := 1) rfl)
theorem dX9_init_4 : decode cX9_init 4 = .ok (.aload_n 0, 1) := tX9_init_ok (4, .aload_n 0, 1) (List.mem_of_getElem? (i := 2) rfl)
theorem dX9_init_5 : decode cX9_init 5 = .ok (.iconst 4, 1) := tX9_init_ok (5, .iconst 4, 1) (List.mem_of_getElem? (i := 3) rfl)
theorem dX9_init_6 : decode cX9_init 6 = .ok (.newarray .int, 2) := tX9_init_ok (6, .newarray .int, 2) (List.mem_of_getElem? (i := 4) rfl)
theorem dX9_init_8 : decode cX9_init 8 = .ok (.putfield 7, 3) := tX9_init_ok (8, .putfield 7, 3) (List.mem_of_getElem? (i := 5) rfl)
theorem dX9_init_11 : decode cX9_init 11 = .ok (.aload_n 0, 1) := tX9_init_ok (11, .aload_n 0, 1) (List.mem_of_getElem? (i := 6) rfl)
theorem dX9_init_12 : decode cX9_init 12 = .ok (.iconst 4, 1) := tX9_init_ok (12, .iconst 4, 1) (List.mem_of_getElem? (i := 7) rfl)
theorem dX9_init_13 : decode cX9_init 13 = .ok (.newarray .int, 2) := tX9_init_ok (13, .newarray .int, 2) (List.mem_of_getElem? (i := 8) rfl)
theorem dX9_init_15 : decode cX9_init 15 = .ok (.putfield 13, 3) := tX9_init_ok (15, .putfield 13, 3) (List.mem_of_getElem? (i := 9) rfl)
theorem dX9_init_18 : decode cX9_init 18 = .ok (.aload_n 0, 1) := tX9_init_ok (18, .aload_n 0, 1) (List.mem_of_getElem? (i := 10) rfl)
theorem dX9_init_19 : decode cX9_init 19 = .ok (.sipush 256, 3) := tX9_init_ok (19, .sipush 256, 3) (List.mem_of_getElem? (i := 11) rfl)
theorem dX9_init_22 : decode cX9_init 22 = .ok (.newarray .int, 2) := tX9_init_ok (22, .newarray .int, 2) (List.mem_of_getElem? (i := 12) rfl)
theorem dX9_init_24 : decode cX9_init 24 = .ok (.putfield 16, 3) := tX9_init_ok (24, .putfield 16, 3) (List.mem_of_getElem? (i := 13) rfl)
theorem dX9_init_27 : decode cX9_init 27 = .ok (.aload_n 0, 1) := tX9_init_ok (27, .aload_n 0, 1) (List.mem_of_getElem? (i := 14) rfl)
theorem dX9_init_28 : decode cX9_init 28 = .ok (.iconst 4, 1) := tX9_init_ok (28, .iconst 4, 1) (List.mem_of_getElem? (i := 15) rfl)
theorem dX9_init_29 : decode cX9_init 29 = .ok (.putfield 19, 3) := tX9_init_ok (29, .putfield 19, 3) (List.mem_of_getElem? (i := 16) rfl)
theorem dX9_init_32 : decode cX9_init 32 = .ok (.aload_n 0, 1) := tX9_init_ok (32, .aload_n 0, 1) (List.mem_of_getElem? (i := 17) rfl)
theorem dX9_init_33 : decode cX9_init 33 = .ok (.iconst 5, 1) := tX9_init_ok (33, .iconst 5, 1) (List.mem_of_getElem? (i := 18) rfl)
theorem dX9_init_34 : decode cX9_init 34 = .ok (.putfield 23, 3) := tX9_init_ok (34, .putfield 23, 3) (List.mem_of_getElem? (i := 19) rfl)
theorem dX9_init_37 : decode cX9_init 37 = .ok (.aload_n 0, 1) := tX9_init_ok (37, .aload_n 0, 1) (List.mem_of_getElem? (i := 20) rfl)
theorem dX9_init_38 : decode cX9_init 38 = .ok (.bipush 6, 2) := tX9_init_ok (38, .bipush 6, 2) (List.mem_of_getElem? (i := 21) rfl)
theorem dX9_init_40 : decode cX9_init 40 = .ok (.putfield 26, 3) := tX9_init_ok (40, .putfield 26, 3) (List.mem_of_getElem? (i := 22) rfl)
theorem dX9_init_43 : decode cX9_init 43 = .ok (.aload_n 0, 1) := tX9_init_ok (43, .aload_n 0, 1) (List.mem_of_getElem? (i := 23) rfl)
theorem dX9_init_44 : decode cX9_init 44 = .ok (.bipush 8, 2) := tX9_init_ok (44, .bipush 8, 2) (List.mem_of_getElem? (i := 24) rfl)
theorem dX9_init_46 : decode cX9_init 46 = .ok (.newarray .int, 2) := tX9_init_ok (46, .newarray .int, 2) (List.mem_of_getElem? (i := 25) rfl)
theorem dX9_init_48 : decode cX9_init 48 = .ok (.putfield 29, 3) := tX9_init_ok (48, .putfield 29, 3) (List.mem_of_getElem? (i := 26) rfl)
theorem dX9_init_51 : decode cX9_init 51 = .ok (.aload_n 0, 1) := tX9_init_ok (51, .aload_n 0, 1) (List.mem_of_getElem? (i := 27) rfl)
theorem dX9_init_52 : decode cX9_init 52 = .ok (.bipush 8, 2) := tX9_init_ok (52, .bipush 8, 2) (List.mem_of_getElem? (i := 28) rfl)
theorem dX9_init_54 : decode cX9_init 54 = .ok (.newarray .int, 2) := tX9_init_ok (54, .newarray .int, 2) (List.mem_of_getElem? (i := 29) rfl)
theorem dX9_init_56 : decode cX9_init 56 = .ok (.putfield 32, 3) := tX9_init_ok (56, .putfield 32, 3) (List.mem_of_getElem? (i := 30) rfl)
theorem dX9_init_59 : decode cX9_init 59 = .ok (.aload_n 0, 1) := tX9_init_ok (59, .aload_n 0, 1) (List.mem_of_getElem? (i := 31) rfl)
theorem dX9_init_60 : decode cX9_init 60 = .ok (.bipush 8, 2) := tX9_init_ok (60, .bipush 8, 2) (List.mem_of_getElem? (i := 32) rfl)
theorem dX9_init_62 : decode cX9_init 62 = .ok (.newarray .int, 2) := tX9_init_ok (62, .newarray .int, 2) (List.mem_of_getElem? (i := 33) rfl)
theorem dX9_init_64 : decode cX9_init 64 = .ok (.putfield 35, 3) := tX9_init_ok (64, .putfield 35, 3) (List.mem_of_getElem? (i := 34) rfl)
theorem dX9_init_67 : decode cX9_init 67 = .ok (.aload_n 0, 1) := tX9_init_ok (67, .aload_n 0, 1) (List.mem_of_getElem? (i := 35) rfl)
theorem dX9_init_68 : decode cX9_init 68 = .ok (.sipush 3721, 3) := tX9_init_ok (68, .sipush 3721, 3) (List.mem_of_getElem? (i := 36) rfl)
theorem dX9_init_71 : decode cX9_init 71 = .ok (.newarray .boolean, 2) := tX9_init_ok (71, .newarray .boolean, 2) (List.mem_of_getElem? (i := 37) rfl)
theorem dX9_init_73 : decode cX9_init 73 = .ok (.putfield 38, 3) := tX9_init_ok (73, .putfield 38, 3) (List.mem_of_getElem? (i := 38) rfl)
theorem dX9_init_76 : decode cX9_init 76 = .ok (.aload_n 0, 1) := tX9_init_ok (76, .aload_n 0, 1) (List.mem_of_getElem? (i := 39) rfl)
theorem dX9_init_77 : decode cX9_init 77 = .ok (.ldc 42, 2) := tX9_init_ok (77, .ldc 42, 2) (List.mem_of_getElem? (i := 40) rfl)
theorem dX9_init_79 : decode cX9_init 79 = .ok (.newarray .long, 2) := tX9_init_ok (79, .newarray .long, 2) (List.mem_of_getElem? (i := 41) rfl)
theorem dX9_init_81 : decode cX9_init 81 = .ok (.putfield 43, 3) := tX9_init_ok (81, .putfield 43, 3) (List.mem_of_getElem? (i := 42) rfl)
theorem dX9_init_84 : decode cX9_init 84 = .ok (.aload_n 0, 1) := tX9_init_ok (84, .aload_n 0, 1) (List.mem_of_getElem? (i := 43) rfl)
theorem dX9_init_85 : decode cX9_init 85 = .ok (.ldc 47, 2) := tX9_init_ok (85, .ldc 47, 2) (List.mem_of_getElem? (i := 44) rfl)
theorem dX9_init_87 : decode cX9_init 87 = .ok (.newarray .long, 2) := tX9_init_ok (87, .newarray .long, 2) (List.mem_of_getElem? (i := 45) rfl)
theorem dX9_init_89 : decode cX9_init 89 = .ok (.putfield 48, 3) := tX9_init_ok (89, .putfield 48, 3) (List.mem_of_getElem? (i := 46) rfl)
theorem dX9_init_92 : decode cX9_init 92 = .ok (.aload_n 0, 1) := tX9_init_ok (92, .aload_n 0, 1) (List.mem_of_getElem? (i := 47) rfl)
theorem dX9_init_93 : decode cX9_init 93 = .ok (.ldc 47, 2) := tX9_init_ok (93, .ldc 47, 2) (List.mem_of_getElem? (i := 48) rfl)
theorem dX9_init_95 : decode cX9_init 95 = .ok (.newarray .long, 2) := tX9_init_ok (95, .newarray .long, 2) (List.mem_of_getElem? (i := 49) rfl)
theorem dX9_init_97 : decode cX9_init 97 = .ok (.putfield 51, 3) := tX9_init_ok (97, .putfield 51, 3) (List.mem_of_getElem? (i := 50) rfl)
theorem dX9_init_100 : decode cX9_init 100 = .ok (.aload_n 0, 1) := tX9_init_ok (100, .aload_n 0, 1) (List.mem_of_getElem? (i := 51) rfl)
theorem dX9_init_101 : decode cX9_init 101 = .ok (.sipush 29768, 3) := tX9_init_ok (101, .sipush 29768, 3) (List.mem_of_getElem? (i := 52) rfl)
theorem dX9_init_104 : decode cX9_init 104 = .ok (.newarray .int, 2) := tX9_init_ok (104, .newarray .int, 2) (List.mem_of_getElem? (i := 53) rfl)
theorem dX9_init_106 : decode cX9_init 106 = .ok (.putfield 54, 3) := tX9_init_ok (106, .putfield 54, 3) (List.mem_of_getElem? (i := 54) rfl)
theorem dX9_init_109 : decode cX9_init 109 = .ok (.aload_n 0, 1) := tX9_init_ok (109, .aload_n 0, 1) (List.mem_of_getElem? (i := 55) rfl)
theorem dX9_init_110 : decode cX9_init 110 = .ok (.sipush 29768, 3) := tX9_init_ok (110, .sipush 29768, 3) (List.mem_of_getElem? (i := 56) rfl)
theorem dX9_init_113 : decode cX9_init 113 = .ok (.newarray .int, 2) := tX9_init_ok (113, .newarray .int, 2) (List.mem_of_getElem? (i := 57) rfl)
theorem dX9_init_115 : decode cX9_init 115 = .ok (.putfield 57, 3) := tX9_init_ok (115, .putfield 57, 3) (List.mem_of_getElem? (i := 58) rfl)
theorem dX9_init_118 : decode cX9_init 118 = .ok (.aload_n 0, 1) := tX9_init_ok (118, .aload_n 0, 1) (List.mem_of_getElem? (i := 59) rfl)
theorem dX9_init_119 : decode cX9_init 119 = .ok (.iconst 4, 1) := tX9_init_ok (119, .iconst 4, 1) (List.mem_of_getElem? (i := 60) rfl)
theorem dX9_init_120 : decode cX9_init 120 = .ok (.newarray .int, 2) := tX9_init_ok (120, .newarray .int, 2) (List.mem_of_getElem? (i := 61) rfl)
theorem dX9_init_122 : decode cX9_init 122 = .ok (.putfield 60, 3) := tX9_init_ok (122, .putfield 60, 3) (List.mem_of_getElem? (i := 62) rfl)
theorem dX9_init_125 : decode cX9_init 125 = .ok (.aload_n 0, 1) := tX9_init_ok (125, .aload_n 0, 1) (List.mem_of_getElem? (i := 63) rfl)
theorem dX9_init_126 : decode cX9_init 126 = .ok (.iconst 4, 1) := tX9_init_ok (126, .iconst 4, 1) (List.mem_of_getElem? (i := 64) rfl)
theorem dX9_init_127 : decode cX9_init 127 = .ok (.newarray .int, 2) := tX9_init_ok (127, .newarray .int, 2) (List.mem_of_getElem? (i := 65) rfl)
theorem dX9_init_129 : decode cX9_init 129 = .ok (.putfield 63, 3) := tX9_init_ok (129, .putfield 63, 3) (List.mem_of_getElem? (i := 66) rfl)
theorem dX9_init_132 : decode cX9_init 132 = .ok (.aload_n 0, 1) := tX9_init_ok (132, .aload_n 0, 1) (List.mem_of_getElem? (i := 67) rfl)
theorem dX9_init_133 : decode cX9_init 133 = .ok (.iconst 4, 1) := tX9_init_ok (133, .iconst 4, 1) (List.mem_of_getElem? (i := 68) rfl)
theorem dX9_init_134 : decode cX9_init 134 = .ok (.newarray .int, 2) := tX9_init_ok (134, .newarray .int, 2) (List.mem_of_getElem? (i := 69) rfl)
theorem dX9_init_136 : decode cX9_init 136 = .ok (.putfield 66, 3) := tX9_init_ok (136, .putfield 66, 3) (List.mem_of_getElem? (i := 70) rfl)
theorem dX9_init_139 : decode cX9_init 139 = .ok (.aload_n 0, 1) := tX9_init_ok (139, .aload_n 0, 1) (List.mem_of_getElem? (i := 71) rfl)
theorem dX9_init_140 : decode cX9_init 140 = .ok (.iconst 4, 1) := tX9_init_ok (140, .iconst 4, 1) (List.mem_of_getElem? (i := 72) rfl)
theorem dX9_init_141 : decode cX9_init 141 = .ok (.newarray .int, 2) := tX9_init_ok (141, .newarray .int, 2) (List.mem_of_getElem? (i := 73) rfl)
theorem dX9_init_143 : decode cX9_init 143 = .ok (.putfield 69, 3) := tX9_init_ok (143, .putfield 69, 3) (List.mem_of_getElem? (i := 74) rfl)
theorem dX9_init_146 : decode cX9_init 146 = .ok (.aload_n 0, 1) := tX9_init_ok (146, .aload_n 0, 1) (List.mem_of_getElem? (i := 75) rfl)
theorem dX9_init_147 : decode cX9_init 147 = .ok (.iconst (-1), 1) := tX9_init_ok (147, .iconst (-1), 1) (List.mem_of_getElem? (i := 76) rfl)
theorem dX9_init_148 : decode cX9_init 148 = .ok (.putfield 72, 3) := tX9_init_ok (148, .putfield 72, 3) (List.mem_of_getElem? (i := 77) rfl)
theorem dX9_init_151 : decode cX9_init 151 = .ok (.aload_n 0, 1) := tX9_init_ok (151, .aload_n 0, 1) (List.mem_of_getElem? (i := 78) rfl)
theorem dX9_init_152 : decode cX9_init 152 = .ok (.bipush 64, 2) := tX9_init_ok (152, .bipush 64, 2) (List.mem_of_getElem? (i := 79) rfl)
theorem dX9_init_154 : decode cX9_init 154 = .ok (.newarray .long, 2) := tX9_init_ok (154, .newarray .long, 2) (List.mem_of_getElem? (i := 80) rfl)
theorem dX9_init_156 : decode cX9_init 156 = .ok (.putfield 75, 3) := tX9_init_ok (156, .putfield 75, 3) (List.mem_of_getElem? (i := 81) rfl)
theorem dX9_init_159 : decode cX9_init 159 = .ok (.aload_n 0, 1) := tX9_init_ok (159, .aload_n 0, 1) (List.mem_of_getElem? (i := 82) rfl)
theorem dX9_init_160 : decode cX9_init 160 = .ok (.bipush 64, 2) := tX9_init_ok (160, .bipush 64, 2) (List.mem_of_getElem? (i := 83) rfl)
theorem dX9_init_162 : decode cX9_init 162 = .ok (.newarray .byte, 2) := tX9_init_ok (162, .newarray .byte, 2) (List.mem_of_getElem? (i := 84) rfl)
theorem dX9_init_164 : decode cX9_init 164 = .ok (.putfield 78, 3) := tX9_init_ok (164, .putfield 78, 3) (List.mem_of_getElem? (i := 85) rfl)
theorem dX9_init_167 : decode cX9_init 167 = .ok (.aload_n 0, 1) := tX9_init_ok (167, .aload_n 0, 1) (List.mem_of_getElem? (i := 86) rfl)
theorem dX9_init_168 : decode cX9_init 168 = .ok (.bipush 16, 2) := tX9_init_ok (168, .bipush 16, 2) (List.mem_of_getElem? (i := 87) rfl)
theorem dX9_init_170 : decode cX9_init 170 = .ok (.newarray .long, 2) := tX9_init_ok (170, .newarray .long, 2) (List.mem_of_getElem? (i := 88) rfl)
theorem dX9_init_172 : decode cX9_init 172 = .ok (.putfield 82, 3) := tX9_init_ok (172, .putfield 82, 3) (List.mem_of_getElem? (i := 89) rfl)
theorem dX9_init_175 : decode cX9_init 175 = .ok (.aload_n 0, 1) := tX9_init_ok (175, .aload_n 0, 1) (List.mem_of_getElem? (i := 90) rfl)
theorem dX9_init_176 : decode cX9_init 176 = .ok (.sipush 5550, 3) := tX9_init_ok (176, .sipush 5550, 3) (List.mem_of_getElem? (i := 91) rfl)
theorem dX9_init_179 : decode cX9_init 179 = .ok (.newarray .int, 2) := tX9_init_ok (179, .newarray .int, 2) (List.mem_of_getElem? (i := 92) rfl)
theorem dX9_init_181 : decode cX9_init 181 = .ok (.putfield 85, 3) := tX9_init_ok (181, .putfield 85, 3) (List.mem_of_getElem? (i := 93) rfl)
theorem dX9_init_184 : decode cX9_init 184 = .ok (.aload_n 0, 1) := tX9_init_ok (184, .aload_n 0, 1) (List.mem_of_getElem? (i := 94) rfl)
theorem dX9_init_185 : decode cX9_init 185 = .ok (.sipush 3782, 3) := tX9_init_ok (185, .sipush 3782, 3) (List.mem_of_getElem? (i := 95) rfl)
theorem dX9_init_188 : decode cX9_init 188 = .ok (.newarray .long, 2) := tX9_init_ok (188, .newarray .long, 2) (List.mem_of_getElem? (i := 96) rfl)
theorem dX9_init_190 : decode cX9_init 190 = .ok (.putfield 88, 3) := tX9_init_ok (190, .putfield 88, 3) (List.mem_of_getElem? (i := 97) rfl)
theorem dX9_init_193 : decode cX9_init 193 = .ok (.aload_n 0, 1) := tX9_init_ok (193, .aload_n 0, 1) (List.mem_of_getElem? (i := 98) rfl)
theorem dX9_init_194 : decode cX9_init 194 = .ok (.sipush 961, 3) := tX9_init_ok (194, .sipush 961, 3) (List.mem_of_getElem? (i := 99) rfl)
theorem dX9_init_197 : decode cX9_init 197 = .ok (.newarray .long, 2) := tX9_init_ok (197, .newarray .long, 2) (List.mem_of_getElem? (i := 100) rfl)
theorem dX9_init_199 : decode cX9_init 199 = .ok (.putfield 91, 3) := tX9_init_ok (199, .putfield 91, 3) (List.mem_of_getElem? (i := 101) rfl)
theorem dX9_init_202 : decode cX9_init 202 = .ok (.aload_n 0, 1) := tX9_init_ok (202, .aload_n 0, 1) (List.mem_of_getElem? (i := 102) rfl)
theorem dX9_init_203 : decode cX9_init 203 = .ok (.sipush 961, 3) := tX9_init_ok (203, .sipush 961, 3) (List.mem_of_getElem? (i := 103) rfl)
theorem dX9_init_206 : decode cX9_init 206 = .ok (.newarray .long, 2) := tX9_init_ok (206, .newarray .long, 2) (List.mem_of_getElem? (i := 104) rfl)
theorem dX9_init_208 : decode cX9_init 208 = .ok (.putfield 94, 3) := tX9_init_ok (208, .putfield 94, 3) (List.mem_of_getElem? (i := 105) rfl)
theorem dX9_init_211 : decode cX9_init 211 = .ok (.aload_n 0, 1) := tX9_init_ok (211, .aload_n 0, 1) (List.mem_of_getElem? (i := 106) rfl)
theorem dX9_init_212 : decode cX9_init 212 = .ok (.sipush 961, 3) := tX9_init_ok (212, .sipush 961, 3) (List.mem_of_getElem? (i := 107) rfl)
theorem dX9_init_215 : decode cX9_init 215 = .ok (.newarray .long, 2) := tX9_init_ok (215, .newarray .long, 2) (List.mem_of_getElem? (i := 108) rfl)
theorem dX9_init_217 : decode cX9_init 217 = .ok (.putfield 97, 3) := tX9_init_ok (217, .putfield 97, 3) (List.mem_of_getElem? (i := 109) rfl)
theorem dX9_init_220 : decode cX9_init 220 = .ok (.aload_n 0, 1) := tX9_init_ok (220, .aload_n 0, 1) (List.mem_of_getElem? (i := 110) rfl)
theorem dX9_init_221 : decode cX9_init 221 = .ok (.sipush 128, 3) := tX9_init_ok (221, .sipush 128, 3) (List.mem_of_getElem? (i := 111) rfl)
theorem dX9_init_224 : decode cX9_init 224 = .ok (.newarray .long, 2) := tX9_init_ok (224, .newarray .long, 2) (List.mem_of_getElem? (i := 112) rfl)
theorem dX9_init_226 : decode cX9_init 226 = .ok (.putfield 100, 3) := tX9_init_ok (226, .putfield 100, 3) (List.mem_of_getElem? (i := 113) rfl)
theorem dX9_init_229 : decode cX9_init 229 = .ok (.aload_n 0, 1) := tX9_init_ok (229, .aload_n 0, 1) (List.mem_of_getElem? (i := 114) rfl)
theorem dX9_init_230 : decode cX9_init 230 = .ok (.bipush 31, 2) := tX9_init_ok (230, .bipush 31, 2) (List.mem_of_getElem? (i := 115) rfl)
theorem dX9_init_232 : decode cX9_init 232 = .ok (.newarray .long, 2) := tX9_init_ok (232, .newarray .long, 2) (List.mem_of_getElem? (i := 116) rfl)
theorem dX9_init_234 : decode cX9_init 234 = .ok (.putfield 103, 3) := tX9_init_ok (234, .putfield 103, 3) (List.mem_of_getElem? (i := 117) rfl)
theorem dX9_init_237 : decode cX9_init 237 = .ok (.aload_n 0, 1) := tX9_init_ok (237, .aload_n 0, 1) (List.mem_of_getElem? (i := 118) rfl)
theorem dX9_init_238 : decode cX9_init 238 = .ok (.bipush 31, 2) := tX9_init_ok (238, .bipush 31, 2) (List.mem_of_getElem? (i := 119) rfl)
theorem dX9_init_240 : decode cX9_init 240 = .ok (.newarray .long, 2) := tX9_init_ok (240, .newarray .long, 2) (List.mem_of_getElem? (i := 120) rfl)
theorem dX9_init_242 : decode cX9_init 242 = .ok (.putfield 106, 3) := tX9_init_ok (242, .putfield 106, 3) (List.mem_of_getElem? (i := 121) rfl)
theorem dX9_init_245 : decode cX9_init 245 = .ok (.aload_n 0, 1) := tX9_init_ok (245, .aload_n 0, 1) (List.mem_of_getElem? (i := 122) rfl)
theorem dX9_init_246 : decode cX9_init 246 = .ok (.sipush 2048, 3) := tX9_init_ok (246, .sipush 2048, 3) (List.mem_of_getElem? (i := 123) rfl)
theorem dX9_init_249 : decode cX9_init 249 = .ok (.newarray .long, 2) := tX9_init_ok (249, .newarray .long, 2) (List.mem_of_getElem? (i := 124) rfl)
theorem dX9_init_251 : decode cX9_init 251 = .ok (.putfield 109, 3) := tX9_init_ok (251, .putfield 109, 3) (List.mem_of_getElem? (i := 125) rfl)
theorem dX9_init_254 : decode cX9_init 254 = .ok (.iconst 0, 1) := tX9_init_ok (254, .iconst 0, 1) (List.mem_of_getElem? (i := 126) rfl)
theorem dX9_init_255 : decode cX9_init 255 = .ok (.istore_n 1, 1) := tX9_init_ok (255, .istore_n 1, 1) (List.mem_of_getElem? (i := 127) rfl)
theorem dX9_init_256 : decode cX9_init 256 = .ok (.iload_n 1, 1) := tX9_init_ok (256, .iload_n 1, 1) (List.mem_of_getElem? (i := 128) rfl)
theorem dX9_init_257 : decode cX9_init 257 = .ok (.iconst 4, 1) := tX9_init_ok (257, .iconst 4, 1) (List.mem_of_getElem? (i := 129) rfl)
theorem dX9_init_258 : decode cX9_init 258 = .ok (.if_icmp .ge 16, 3) := tX9_init_ok (258, .if_icmp .ge 16, 3) (List.mem_of_getElem? (i := 130) rfl)
theorem dX9_init_261 : decode cX9_init 261 = .ok (.aload_n 0, 1) := tX9_init_ok (261, .aload_n 0, 1) (List.mem_of_getElem? (i := 131) rfl)
theorem dX9_init_262 : decode cX9_init 262 = .ok (.getfield 13, 3) := tX9_init_ok (262, .getfield 13, 3) (List.mem_of_getElem? (i := 132) rfl)
theorem dX9_init_265 : decode cX9_init 265 = .ok (.iload_n 1, 1) := tX9_init_ok (265, .iload_n 1, 1) (List.mem_of_getElem? (i := 133) rfl)
theorem dX9_init_266 : decode cX9_init 266 = .ok (.iconst (-1), 1) := tX9_init_ok (266, .iconst (-1), 1) (List.mem_of_getElem? (i := 134) rfl)
theorem dX9_init_267 : decode cX9_init 267 = .ok (.iastore, 1) := tX9_init_ok (267, .iastore, 1) (List.mem_of_getElem? (i := 135) rfl)
theorem dX9_init_268 : decode cX9_init 268 = .ok (.iinc 1 1, 3) := tX9_init_ok (268, .iinc 1 1, 3) (List.mem_of_getElem? (i := 136) rfl)
theorem dX9_init_271 : decode cX9_init 271 = .ok (.goto (-15), 3) := tX9_init_ok (271, .goto (-15), 3) (List.mem_of_getElem? (i := 137) rfl)
theorem dX9_init_274 : decode cX9_init 274 = .ok (.aload_n 0, 1) := tX9_init_ok (274, .aload_n 0, 1) (List.mem_of_getElem? (i := 138) rfl)
theorem dX9_init_275 : decode cX9_init 275 = .ok (.getfield 29, 3) := tX9_init_ok (275, .getfield 29, 3) (List.mem_of_getElem? (i := 139) rfl)
theorem dX9_init_278 : decode cX9_init 278 = .ok (.iconst 0, 1) := tX9_init_ok (278, .iconst 0, 1) (List.mem_of_getElem? (i := 140) rfl)
theorem dX9_init_279 : decode cX9_init 279 = .ok (.iconst 1, 1) := tX9_init_ok (279, .iconst 1, 1) (List.mem_of_getElem? (i := 141) rfl)
theorem dX9_init_280 : decode cX9_init 280 = .ok (.iastore, 1) := tX9_init_ok (280, .iastore, 1) (List.mem_of_getElem? (i := 142) rfl)
theorem dX9_init_281 : decode cX9_init 281 = .ok (.aload_n 0, 1) := tX9_init_ok (281, .aload_n 0, 1) (List.mem_of_getElem? (i := 143) rfl)
theorem dX9_init_282 : decode cX9_init 282 = .ok (.getfield 32, 3) := tX9_init_ok (282, .getfield 32, 3) (List.mem_of_getElem? (i := 144) rfl)
theorem dX9_init_285 : decode cX9_init 285 = .ok (.iconst 1, 1) := tX9_init_ok (285, .iconst 1, 1) (List.mem_of_getElem? (i := 145) rfl)
theorem dX9_init_286 : decode cX9_init 286 = .ok (.iconst 1, 1) := tX9_init_ok (286, .iconst 1, 1) (List.mem_of_getElem? (i := 146) rfl)
theorem dX9_init_287 : decode cX9_init 287 = .ok (.iastore, 1) := tX9_init_ok (287, .iastore, 1) (List.mem_of_getElem? (i := 147) rfl)
theorem dX9_init_288 : decode cX9_init 288 = .ok (.aload_n 0, 1) := tX9_init_ok (288, .aload_n 0, 1) (List.mem_of_getElem? (i := 148) rfl)
theorem dX9_init_289 : decode cX9_init 289 = .ok (.getfield 29, 3) := tX9_init_ok (289, .getfield 29, 3) (List.mem_of_getElem? (i := 149) rfl)
theorem dX9_init_292 : decode cX9_init 292 = .ok (.iconst 2, 1) := tX9_init_ok (292, .iconst 2, 1) (List.mem_of_getElem? (i := 150) rfl)
theorem dX9_init_293 : decode cX9_init 293 = .ok (.iconst (-1), 1) := tX9_init_ok (293, .iconst (-1), 1) (List.mem_of_getElem? (i := 151) rfl)
theorem dX9_init_294 : decode cX9_init 294 = .ok (.iastore, 1) := tX9_init_ok (294, .iastore, 1) (List.mem_of_getElem? (i := 152) rfl)
theorem dX9_init_295 : decode cX9_init 295 = .ok (.aload_n 0, 1) := tX9_init_ok (295, .aload_n 0, 1) (List.mem_of_getElem? (i := 153) rfl)
theorem dX9_init_296 : decode cX9_init 296 = .ok (.getfield 32, 3) := tX9_init_ok (296, .getfield 32, 3) (List.mem_of_getElem? (i := 154) rfl)
theorem dX9_init_299 : decode cX9_init 299 = .ok (.iconst 3, 1) := tX9_init_ok (299, .iconst 3, 1) (List.mem_of_getElem? (i := 155) rfl)
theorem dX9_init_300 : decode cX9_init 300 = .ok (.iconst (-1), 1) := tX9_init_ok (300, .iconst (-1), 1) (List.mem_of_getElem? (i := 156) rfl)
theorem dX9_init_301 : decode cX9_init 301 = .ok (.iastore, 1) := tX9_init_ok (301, .iastore, 1) (List.mem_of_getElem? (i := 157) rfl)
theorem dX9_init_302 : decode cX9_init 302 = .ok (.iconst 0, 1) := tX9_init_ok (302, .iconst 0, 1) (List.mem_of_getElem? (i := 158) rfl)
theorem dX9_init_303 : decode cX9_init 303 = .ok (.istore_n 1, 1) := tX9_init_ok (303, .istore_n 1, 1) (List.mem_of_getElem? (i := 159) rfl)
theorem dX9_init_304 : decode cX9_init 304 = .ok (.iload_n 1, 1) := tX9_init_ok (304, .iload_n 1, 1) (List.mem_of_getElem? (i := 160) rfl)
theorem dX9_init_305 : decode cX9_init 305 = .ok (.iconst 4, 1) := tX9_init_ok (305, .iconst 4, 1) (List.mem_of_getElem? (i := 161) rfl)
theorem dX9_init_306 : decode cX9_init 306 = .ok (.if_icmp .ge 16, 3) := tX9_init_ok (306, .if_icmp .ge 16, 3) (List.mem_of_getElem? (i := 162) rfl)
theorem dX9_init_309 : decode cX9_init 309 = .ok (.aload_n 0, 1) := tX9_init_ok (309, .aload_n 0, 1) (List.mem_of_getElem? (i := 163) rfl)
theorem dX9_init_310 : decode cX9_init 310 = .ok (.getfield 35, 3) := tX9_init_ok (310, .getfield 35, 3) (List.mem_of_getElem? (i := 164) rfl)
theorem dX9_init_313 : decode cX9_init 313 = .ok (.iload_n 1, 1) := tX9_init_ok (313, .iload_n 1, 1) (List.mem_of_getElem? (i := 165) rfl)
theorem dX9_init_314 : decode cX9_init 314 = .ok (.iconst 1, 1) := tX9_init_ok (314, .iconst 1, 1) (List.mem_of_getElem? (i := 166) rfl)
theorem dX9_init_315 : decode cX9_init 315 = .ok (.iastore, 1) := tX9_init_ok (315, .iastore, 1) (List.mem_of_getElem? (i := 167) rfl)
theorem dX9_init_316 : decode cX9_init 316 = .ok (.iinc 1 1, 3) := tX9_init_ok (316, .iinc 1 1, 3) (List.mem_of_getElem? (i := 168) rfl)
theorem dX9_init_319 : decode cX9_init 319 = .ok (.goto (-15), 3) := tX9_init_ok (319, .goto (-15), 3) (List.mem_of_getElem? (i := 169) rfl)
theorem dX9_init_322 : decode cX9_init 322 = .ok (.return_, 1) := tX9_init_ok (322, .return_, 1) (List.mem_of_getElem? (i := 170) rfl)

def tX9_status : List (Nat × Instr × Nat) := [
  (0, .aload_n 0, 1),
  (1, .iconst 0, 1),
  (2, .putfield 112, 3),
  (5, .aload_n 0, 1),
  (6, .getfield 115, 3),
  (9, .ireturn, 1)]
set_option maxRecDepth 100000 in
theorem tX9_status_ok : ∀ q ∈ tX9_status, decode cX9_status q.1 = .ok q.2 := by decide +kernel
theorem dX9_status_0 : decode cX9_status 0 = .ok (.aload_n 0, 1) := tX9_status_ok (0, .aload_n 0, 1) (List.mem_of_getElem? (i := 0) rfl)
theorem dX9_status_1 : decode cX9_status 1 = .ok (.iconst 0, 1) := tX9_status_ok (1, .iconst 0, 1) (List.mem_of_getElem? (i := 1) rfl)
theorem dX9_status_2 : decode cX9_status 2 = .ok (.putfield 112, 3) := tX9_status_ok (2, .putfield 112, 3) (List.mem_of_getElem? (i := 2) rfl)
theorem dX9_status_5 : decode cX9_status 5 = .ok (.aload_n 0, 1) := tX9_status_ok (5, .aload_n 0, 1) (List.mem_of_getElem? (i := 3) rfl)
theorem dX9_status_6 : decode cX9_status 6 = .ok (.getfield 115, 3) := tX9_status_ok (6, .getfield 115, 3) (List.mem_of_getElem? (i := 4) rfl)
theorem dX9_status_9 : decode cX9_status 9 = .ok (.ireturn, 1) := tX9_status_ok (9, .ireturn, 1) (List.mem_of_getElem? (i := 5) rfl)

def tX9_refuse : List (Nat × Instr × Nat) := [
  (0, .aload_n 0, 1),
  (1, .iload_n 1, 1),
  (2, .putfield 115, 3),
  (5, .iconst (-1), 1),
  (6, .ireturn, 1)]
set_option maxRecDepth 100000 in
theorem tX9_refuse_ok : ∀ q ∈ tX9_refuse, decode cX9_refuse q.1 = .ok q.2 := by decide +kernel
theorem dX9_refuse_0 : decode cX9_refuse 0 = .ok (.aload_n 0, 1) := tX9_refuse_ok (0, .aload_n 0, 1) (List.mem_of_getElem? (i := 0) rfl)
theorem dX9_refuse_1 : decode cX9_refuse 1 = .ok (.iload_n 1, 1) := tX9_refuse_ok (1, .iload_n 1, 1) (List.mem_of_getElem? (i := 1) rfl)
theorem dX9_refuse_2 : decode cX9_refuse 2 = .ok (.putfield 115, 3) := tX9_refuse_ok (2, .putfield 115, 3) (List.mem_of_getElem? (i := 2) rfl)
theorem dX9_refuse_5 : decode cX9_refuse 5 = .ok (.iconst (-1), 1) := tX9_refuse_ok (5, .iconst (-1), 1) (List.mem_of_getElem? (i := 3) rfl)
theorem dX9_refuse_6 : decode cX9_refuse 6 = .ok (.ireturn, 1) := tX9_refuse_ok (6, .ireturn, 1) (List.mem_of_getElem? (i := 4) rfl)

def tX9_no : List (Nat × Instr × Nat) := [
  (0, .aload_n 0, 1),
  (1, .iload_n 1, 1),
  (2, .putfield 115, 3),
  (5, .iconst 0, 1),
  (6, .ireturn, 1)]
set_option maxRecDepth 100000 in
theorem tX9_no_ok : ∀ q ∈ tX9_no, decode cX9_no q.1 = .ok q.2 := by decide +kernel
theorem dX9_no_0 : decode cX9_no 0 = .ok (.aload_n 0, 1) := tX9_no_ok (0, .aload_n 0, 1) (List.mem_of_getElem? (i := 0) rfl)
theorem dX9_no_1 : decode cX9_no 1 = .ok (.iload_n 1, 1) := tX9_no_ok (1, .iload_n 1, 1) (List.mem_of_getElem? (i := 1) rfl)
theorem dX9_no_2 : decode cX9_no 2 = .ok (.putfield 115, 3) := tX9_no_ok (2, .putfield 115, 3) (List.mem_of_getElem? (i := 2) rfl)
theorem dX9_no_5 : decode cX9_no 5 = .ok (.iconst 0, 1) := tX9_no_ok (5, .iconst 0, 1) (List.mem_of_getElem? (i := 3) rfl)
theorem dX9_no_6 : decode cX9_no 6 = .ok (.ireturn, 1) := tX9_no_ok (6, .ireturn, 1) (List.mem_of_getElem? (i := 4) rfl)

def tX9_cut : List (Nat × Instr × Nat) := [
  (0, .iload_n 0, 1),
  (1, .ifCond .ne 8, 3),
  (4, .iload_n 1, 1),
  (5, .i2b, 1),
  (6, .goto 14, 3),
  (9, .iload_n 0, 1),
  (10, .iconst 1, 1),
  (11, .if_icmp .ne 8, 3),
  (14, .iload_n 1, 1),
  (15, .i2s, 1),
  (16, .goto 4, 3),
  (19, .iload_n 1, 1),
  (20, .ireturn, 1)]
set_option maxRecDepth 100000 in
theorem tX9_cut_ok : ∀ q ∈ tX9_cut, decode cX9_cut q.1 = .ok q.2 := by decide +kernel
theorem dX9_cut_0 : decode cX9_cut 0 = .ok (.iload_n 0, 1) := tX9_cut_ok (0, .iload_n 0, 1) (List.mem_of_getElem? (i := 0) rfl)
theorem dX9_cut_1 : decode cX9_cut 1 = .ok (.ifCond .ne 8, 3) := tX9_cut_ok (1, .ifCond .ne 8, 3) (List.mem_of_getElem? (i := 1) rfl)
theorem dX9_cut_4 : decode cX9_cut 4 = .ok (.iload_n 1, 1) := tX9_cut_ok (4, .iload_n 1, 1) (List.mem_of_getElem? (i := 2) rfl)
theorem dX9_cut_5 : decode cX9_cut 5 = .ok (.i2b, 1) := tX9_cut_ok (5, .i2b, 1) (List.mem_of_getElem? (i := 3) rfl)
theorem dX9_cut_6 : decode cX9_cut 6 = .ok (.goto 14, 3) := tX9_cut_ok (6, .goto 14, 3) (List.mem_of_getElem? (i := 4) rfl)
theorem dX9_cut_9 : decode cX9_cut 9 = .ok (.iload_n 0, 1) := tX9_cut_ok (9, .iload_n 0, 1) (List.mem_of_getElem? (i := 5) rfl)
theorem dX9_cut_10 : decode cX9_cut 10 = .ok (.iconst 1, 1) := tX9_cut_ok (10, .iconst 1, 1) (List.mem_of_getElem? (i := 6) rfl)
theorem dX9_cut_11 : decode cX9_cut 11 = .ok (.if_icmp .ne 8, 3) := tX9_cut_ok (11, .if_icmp .ne 8, 3) (List.mem_of_getElem? (i := 7) rfl)
theorem dX9_cut_14 : decode cX9_cut 14 = .ok (.iload_n 1, 1) := tX9_cut_ok (14, .iload_n 1, 1) (List.mem_of_getElem? (i := 8) rfl)
theorem dX9_cut_15 : decode cX9_cut 15 = .ok (.i2s, 1) := tX9_cut_ok (15, .i2s, 1) (List.mem_of_getElem? (i := 9) rfl)
theorem dX9_cut_16 : decode cX9_cut 16 = .ok (.goto 4, 3) := tX9_cut_ok (16, .goto 4, 3) (List.mem_of_getElem? (i := 10) rfl)
theorem dX9_cut_19 : decode cX9_cut 19 = .ok (.iload_n 1, 1) := tX9_cut_ok (19, .iload_n 1, 1) (List.mem_of_getElem? (i := 11) rfl)
theorem dX9_cut_20 : decode cX9_cut 20 = .ok (.ireturn, 1) := tX9_cut_ok (20, .ireturn, 1) (List.mem_of_getElem? (i := 12) rfl)

def tX9_sheet : List (Nat × Instr × Nat) := [
  (0, .aload_n 0, 1),
  (1, .iconst 0, 1),
  (2, .putfield 112, 3),
  (5, .aload_n 0, 1),
  (6, .iconst 0, 1),
  (7, .putfield 115, 3),
  (10, .iload_n 1, 1),
  (11, .ifCond .lt 17, 3),
  (14, .iload_n 1, 1),
  (15, .iconst 4, 1),
  (16, .if_icmp .ge 12, 3),
  (19, .iload_n 2, 1),
  (20, .ifCond .lt 8, 3),
  (23, .iload_n 2, 1),
  (24, .iconst 2, 1),
  (25, .if_icmp .le 9, 3),
  (28, .aload_n 0, 1),
  (29, .iconst 1, 1),
  (30, .invokevirtual 118, 3),
  (33, .ireturn, 1),
  (34, .iload_n 3, 1),
  (35, .bipush 64, 2),
  (37, .if_icmp .le 9, 3),
  (40, .aload_n 0, 1),
  (41, .iconst 2, 1),
  (42, .invokevirtual 118, 3),
  (45, .ireturn, 1),
  (46, .iload_n 3, 1),
  (47, .ifCond .ge 10, 3),
  (50, .aload_n 0, 1),
  (51, .bipush 6, 2),
  (53, .invokevirtual 118, 3),
  (56, .ireturn, 1),
  (57, .aload_n 0, 1),
  (58, .getfield 7, 3),
  (61, .iload_n 1, 1),
  (62, .iload_n 2, 1),
  (63, .iastore, 1),
  (64, .aload_n 0, 1),
  (65, .getfield 13, 3),
  (68, .iload_n 1, 1),
  (69, .iload_n 3, 1),
  (70, .iastore, 1),
  (71, .iconst 0, 1),
  (72, .istore 4, 2),
  (74, .iload 4, 2),
  (76, .iload_n 3, 1),
  (77, .if_icmp .ge 22, 3),
  (80, .aload_n 0, 1),
  (81, .getfield 16, 3),
  (84, .bipush 64, 2),
  (86, .iload_n 1, 1),
  (87, .imul, 1),
  (88, .iload 4, 2),
  (90, .iadd, 1),
  (91, .iconst 0, 1),
  (92, .iastore, 1),
  (93, .iinc 4 1, 3),
  (96, .goto (-22), 3),
  (99, .iconst 1, 1),
  (100, .ireturn, 1)]
set_option maxRecDepth 100000 in
theorem tX9_sheet_ok : ∀ q ∈ tX9_sheet, decode cX9_sheet q.1 = .ok q.2 := by decide +kernel
theorem dX9_sheet_0 : decode cX9_sheet 0 = .ok (.aload_n 0, 1) := tX9_sheet_ok (0, .aload_n 0, 1) (List.mem_of_getElem? (i := 0) rfl)
theorem dX9_sheet_1 : decode cX9_sheet 1 = .ok (.iconst 0, 1) := tX9_sheet_ok (1, .iconst 0, 1) (List.mem_of_getElem? (i := 1) rfl)
theorem dX9_sheet_2 : decode cX9_sheet 2 = .ok (.putfield 112, 3) := tX9_sheet_ok (2, .putfield 112, 3) (List.mem_of_getElem? (i := 2) rfl)
theorem dX9_sheet_5 : decode cX9_sheet 5 = .ok (.aload_n 0, 1) := tX9_sheet_ok (5, .aload_n 0, 1) (List.mem_of_getElem? (i := 3) rfl)
theorem dX9_sheet_6 : decode cX9_sheet 6 = .ok (.iconst 0, 1) := tX9_sheet_ok (6, .iconst 0, 1) (List.mem_of_getElem? (i := 4) rfl)
theorem dX9_sheet_7 : decode cX9_sheet 7 = .ok (.putfield 115, 3) := tX9_sheet_ok (7, .putfield 115, 3) (List.mem_of_getElem? (i := 5) rfl)
theorem dX9_sheet_10 : decode cX9_sheet 10 = .ok (.iload_n 1, 1) := tX9_sheet_ok (10, .iload_n 1, 1) (List.mem_of_getElem? (i := 6) rfl)
theorem dX9_sheet_11 : decode cX9_sheet 11 = .ok (.ifCond .lt 17, 3) := tX9_sheet_ok (11, .ifCond .lt 17, 3) (List.mem_of_getElem? (i := 7) rfl)
theorem dX9_sheet_14 : decode cX9_sheet 14 = .ok (.iload_n 1, 1) := tX9_sheet_ok (14, .iload_n 1, 1) (List.mem_of_getElem? (i := 8) rfl)
theorem dX9_sheet_15 : decode cX9_sheet 15 = .ok (.iconst 4, 1) := tX9_sheet_ok (15, .iconst 4, 1) (List.mem_of_getElem? (i := 9) rfl)
theorem dX9_sheet_16 : decode cX9_sheet 16 = .ok (.if_icmp .ge 12, 3) := tX9_sheet_ok (16, .if_icmp .ge 12, 3) (List.mem_of_getElem? (i := 10) rfl)
theorem dX9_sheet_19 : decode cX9_sheet 19 = .ok (.iload_n 2, 1) := tX9_sheet_ok (19, .iload_n 2, 1) (List.mem_of_getElem? (i := 11) rfl)
theorem dX9_sheet_20 : decode cX9_sheet 20 = .ok (.ifCond .lt 8, 3) := tX9_sheet_ok (20, .ifCond .lt 8, 3) (List.mem_of_getElem? (i := 12) rfl)
theorem dX9_sheet_23 : decode cX9_sheet 23 = .ok (.iload_n 2, 1) := tX9_sheet_ok (23, .iload_n 2, 1) (List.mem_of_getElem? (i := 13) rfl)
theorem dX9_sheet_24 : decode cX9_sheet 24 = .ok (.iconst 2, 1) := tX9_sheet_ok (24, .iconst 2, 1) (List.mem_of_getElem? (i := 14) rfl)
theorem dX9_sheet_25 : decode cX9_sheet 25 = .ok (.if_icmp .le 9, 3) := tX9_sheet_ok (25, .if_icmp .le 9, 3) (List.mem_of_getElem? (i := 15) rfl)
theorem dX9_sheet_28 : decode cX9_sheet 28 = .ok (.aload_n 0, 1) := tX9_sheet_ok (28, .aload_n 0, 1) (List.mem_of_getElem? (i := 16) rfl)
theorem dX9_sheet_29 : decode cX9_sheet 29 = .ok (.iconst 1, 1) := tX9_sheet_ok (29, .iconst 1, 1) (List.mem_of_getElem? (i := 17) rfl)
theorem dX9_sheet_30 : decode cX9_sheet 30 = .ok (.invokevirtual 118, 3) := tX9_sheet_ok (30, .invokevirtual 118, 3) (List.mem_of_getElem? (i := 18) rfl)
theorem dX9_sheet_33 : decode cX9_sheet 33 = .ok (.ireturn, 1) := tX9_sheet_ok (33, .ireturn, 1) (List.mem_of_getElem? (i := 19) rfl)
theorem dX9_sheet_34 : decode cX9_sheet 34 = .ok (.iload_n 3, 1) := tX9_sheet_ok (34, .iload_n 3, 1) (List.mem_of_getElem? (i := 20) rfl)
theorem dX9_sheet_35 : decode cX9_sheet 35 = .ok (.bipush 64, 2) := tX9_sheet_ok (35, .bipush 64, 2) (List.mem_of_getElem? (i := 21) rfl)
theorem dX9_sheet_37 : decode cX9_sheet 37 = .ok (.if_icmp .le 9, 3) := tX9_sheet_ok (37, .if_icmp .le 9, 3) (List.mem_of_getElem? (i := 22) rfl)
theorem dX9_sheet_40 : decode cX9_sheet 40 = .ok (.aload_n 0, 1) := tX9_sheet_ok (40, .aload_n 0, 1) (List.mem_of_getElem? (i := 23) rfl)
theorem dX9_sheet_41 : decode cX9_sheet 41 = .ok (.iconst 2, 1) := tX9_sheet_ok (41, .iconst 2, 1) (List.mem_of_getElem? (i := 24) rfl)
theorem dX9_sheet_42 : decode cX9_sheet 42 = .ok (.invokevirtual 118, 3) := tX9_sheet_ok (42, .invokevirtual 118, 3) (List.mem_of_getElem? (i := 25) rfl)
theorem dX9_sheet_45 : decode cX9_sheet 45 = .ok (.ireturn, 1) := tX9_sheet_ok (45, .ireturn, 1) (List.mem_of_getElem? (i := 26) rfl)
theorem dX9_sheet_46 : decode cX9_sheet 46 = .ok (.iload_n 3, 1) := tX9_sheet_ok (46, .iload_n 3, 1) (List.mem_of_getElem? (i := 27) rfl)
theorem dX9_sheet_47 : decode cX9_sheet 47 = .ok (.ifCond .ge 10, 3) := tX9_sheet_ok (47, .ifCond .ge 10, 3) (List.mem_of_getElem? (i := 28) rfl)
theorem dX9_sheet_50 : decode cX9_sheet 50 = .ok (.aload_n 0, 1) := tX9_sheet_ok (50, .aload_n 0, 1) (List.mem_of_getElem? (i := 29) rfl)
theorem dX9_sheet_51 : decode cX9_sheet 51 = .ok (.bipush 6, 2) := tX9_sheet_ok (51, .bipush 6, 2) (List.mem_of_getElem? (i := 30) rfl)
theorem dX9_sheet_53 : decode cX9_sheet 53 = .ok (.invokevirtual 118, 3) := tX9_sheet_ok (53, .invokevirtual 118, 3) (List.mem_of_getElem? (i := 31) rfl)
theorem dX9_sheet_56 : decode cX9_sheet 56 = .ok (.ireturn, 1) := tX9_sheet_ok (56, .ireturn, 1) (List.mem_of_getElem? (i := 32) rfl)
theorem dX9_sheet_57 : decode cX9_sheet 57 = .ok (.aload_n 0, 1) := tX9_sheet_ok (57, .aload_n 0, 1) (List.mem_of_getElem? (i := 33) rfl)
theorem dX9_sheet_58 : decode cX9_sheet 58 = .ok (.getfield 7, 3) := tX9_sheet_ok (58, .getfield 7, 3) (List.mem_of_getElem? (i := 34) rfl)
theorem dX9_sheet_61 : decode cX9_sheet 61 = .ok (.iload_n 1, 1) := tX9_sheet_ok (61, .iload_n 1, 1) (List.mem_of_getElem? (i := 35) rfl)
theorem dX9_sheet_62 : decode cX9_sheet 62 = .ok (.iload_n 2, 1) := tX9_sheet_ok (62, .iload_n 2, 1) (List.mem_of_getElem? (i := 36) rfl)
theorem dX9_sheet_63 : decode cX9_sheet 63 = .ok (.iastore, 1) := tX9_sheet_ok (63, .iastore, 1) (List.mem_of_getElem? (i := 37) rfl)
theorem dX9_sheet_64 : decode cX9_sheet 64 = .ok (.aload_n 0, 1) := tX9_sheet_ok (64, .aload_n 0, 1) (List.mem_of_getElem? (i := 38) rfl)
theorem dX9_sheet_65 : decode cX9_sheet 65 = .ok (.getfield 13, 3) := tX9_sheet_ok (65, .getfield 13, 3) (List.mem_of_getElem? (i := 39) rfl)
theorem dX9_sheet_68 : decode cX9_sheet 68 = .ok (.iload_n 1, 1) := tX9_sheet_ok (68, .iload_n 1, 1) (List.mem_of_getElem? (i := 40) rfl)
theorem dX9_sheet_69 : decode cX9_sheet 69 = .ok (.iload_n 3, 1) := tX9_sheet_ok (69, .iload_n 3, 1) (List.mem_of_getElem? (i := 41) rfl)
theorem dX9_sheet_70 : decode cX9_sheet 70 = .ok (.iastore, 1) := tX9_sheet_ok (70, .iastore, 1) (List.mem_of_getElem? (i := 42) rfl)
theorem dX9_sheet_71 : decode cX9_sheet 71 = .ok (.iconst 0, 1) := tX9_sheet_ok (71, .iconst 0, 1) (List.mem_of_getElem? (i := 43) rfl)
theorem dX9_sheet_72 : decode cX9_sheet 72 = .ok (.istore 4, 2) := tX9_sheet_ok (72, .istore 4, 2) (List.mem_of_getElem? (i := 44) rfl)
theorem dX9_sheet_74 : decode cX9_sheet 74 = .ok (.iload 4, 2) := tX9_sheet_ok (74, .iload 4, 2) (List.mem_of_getElem? (i := 45) rfl)
theorem dX9_sheet_76 : decode cX9_sheet 76 = .ok (.iload_n 3, 1) := tX9_sheet_ok (76, .iload_n 3, 1) (List.mem_of_getElem? (i := 46) rfl)
theorem dX9_sheet_77 : decode cX9_sheet 77 = .ok (.if_icmp .ge 22, 3) := tX9_sheet_ok (77, .if_icmp .ge 22, 3) (List.mem_of_getElem? (i := 47) rfl)
theorem dX9_sheet_80 : decode cX9_sheet 80 = .ok (.aload_n 0, 1) := tX9_sheet_ok (80, .aload_n 0, 1) (List.mem_of_getElem? (i := 48) rfl)
theorem dX9_sheet_81 : decode cX9_sheet 81 = .ok (.getfield 16, 3) := tX9_sheet_ok (81, .getfield 16, 3) (List.mem_of_getElem? (i := 49) rfl)
theorem dX9_sheet_84 : decode cX9_sheet 84 = .ok (.bipush 64, 2) := tX9_sheet_ok (84, .bipush 64, 2) (List.mem_of_getElem? (i := 50) rfl)
theorem dX9_sheet_86 : decode cX9_sheet 86 = .ok (.iload_n 1, 1) := tX9_sheet_ok (86, .iload_n 1, 1) (List.mem_of_getElem? (i := 51) rfl)
theorem dX9_sheet_87 : decode cX9_sheet 87 = .ok (.imul, 1) := tX9_sheet_ok (87, .imul, 1) (List.mem_of_getElem? (i := 52) rfl)
theorem dX9_sheet_88 : decode cX9_sheet 88 = .ok (.iload 4, 2) := tX9_sheet_ok (88, .iload 4, 2) (List.mem_of_getElem? (i := 53) rfl)
theorem dX9_sheet_90 : decode cX9_sheet 90 = .ok (.iadd, 1) := tX9_sheet_ok (90, .iadd, 1) (List.mem_of_getElem? (i := 54) rfl)
theorem dX9_sheet_91 : decode cX9_sheet 91 = .ok (.iconst 0, 1) := tX9_sheet_ok (91, .iconst 0, 1) (List.mem_of_getElem? (i := 55) rfl)
theorem dX9_sheet_92 : decode cX9_sheet 92 = .ok (.iastore, 1) := tX9_sheet_ok (92, .iastore, 1) (List.mem_of_getElem? (i := 56) rfl)
theorem dX9_sheet_93 : decode cX9_sheet 93 = .ok (.iinc 4 1, 3) := tX9_sheet_ok (93, .iinc 4 1, 3) (List.mem_of_getElem? (i := 57) rfl)
theorem dX9_sheet_96 : decode cX9_sheet 96 = .ok (.goto (-22), 3) := tX9_sheet_ok (96, .goto (-22), 3) (List.mem_of_getElem? (i := 58) rfl)
theorem dX9_sheet_99 : decode cX9_sheet 99 = .ok (.iconst 1, 1) := tX9_sheet_ok (99, .iconst 1, 1) (List.mem_of_getElem? (i := 59) rfl)
theorem dX9_sheet_100 : decode cX9_sheet 100 = .ok (.ireturn, 1) := tX9_sheet_ok (100, .ireturn, 1) (List.mem_of_getElem? (i := 60) rfl)

def tX9_sheeted : List (Nat × Instr × Nat) := [
  (0, .iload_n 1, 1),
  (1, .ifCond .lt 8, 3),
  (4, .iload_n 1, 1),
  (5, .iconst 4, 1),
  (6, .if_icmp .lt 7, 3),
  (9, .iconst 1, 1),
  (10, .goto 17, 3),
  (13, .aload_n 0, 1),
  (14, .getfield 13, 3),
  (17, .iload_n 1, 1),
  (18, .iaload, 1),
  (19, .ifCond .ge 7, 3),
  (22, .iconst 3, 1),
  (23, .goto 4, 3),
  (26, .iconst 0, 1),
  (27, .ireturn, 1)]
set_option maxRecDepth 100000 in
theorem tX9_sheeted_ok : ∀ q ∈ tX9_sheeted, decode cX9_sheeted q.1 = .ok q.2 := by decide +kernel
theorem dX9_sheeted_0 : decode cX9_sheeted 0 = .ok (.iload_n 1, 1) := tX9_sheeted_ok (0, .iload_n 1, 1) (List.mem_of_getElem? (i := 0) rfl)
theorem dX9_sheeted_1 : decode cX9_sheeted 1 = .ok (.ifCond .lt 8, 3) := tX9_sheeted_ok (1, .ifCond .lt 8, 3) (List.mem_of_getElem? (i := 1) rfl)
theorem dX9_sheeted_4 : decode cX9_sheeted 4 = .ok (.iload_n 1, 1) := tX9_sheeted_ok (4, .iload_n 1, 1) (List.mem_of_getElem? (i := 2) rfl)
theorem dX9_sheeted_5 : decode cX9_sheeted 5 = .ok (.iconst 4, 1) := tX9_sheeted_ok (5, .iconst 4, 1) (List.mem_of_getElem? (i := 3) rfl)
theorem dX9_sheeted_6 : decode cX9_sheeted 6 = .ok (.if_icmp .lt 7, 3) := tX9_sheeted_ok (6, .if_icmp .lt 7, 3) (List.mem_of_getElem? (i := 4) rfl)
theorem dX9_sheeted_9 : decode cX9_sheeted 9 = .ok (.iconst 1, 1) := tX9_sheeted_ok (9, .iconst 1, 1) (List.mem_of_getElem? (i := 5) rfl)
theorem dX9_sheeted_10 : decode cX9_sheeted 10 = .ok (.goto 17, 3) := tX9_sheeted_ok (10, .goto 17, 3) (List.mem_of_getElem? (i := 6) rfl)
theorem dX9_sheeted_13 : decode cX9_sheeted 13 = .ok (.aload_n 0, 1) := tX9_sheeted_ok (13, .aload_n 0, 1) (List.mem_of_getElem? (i := 7) rfl)
theorem dX9_sheeted_14 : decode cX9_sheeted 14 = .ok (.getfield 13, 3) := tX9_sheeted_ok (14, .getfield 13, 3) (List.mem_of_getElem? (i := 8) rfl)
theorem dX9_sheeted_17 : decode cX9_sheeted 17 = .ok (.iload_n 1, 1) := tX9_sheeted_ok (17, .iload_n 1, 1) (List.mem_of_getElem? (i := 9) rfl)
theorem dX9_sheeted_18 : decode cX9_sheeted 18 = .ok (.iaload, 1) := tX9_sheeted_ok (18, .iaload, 1) (List.mem_of_getElem? (i := 10) rfl)
theorem dX9_sheeted_19 : decode cX9_sheeted 19 = .ok (.ifCond .ge 7, 3) := tX9_sheeted_ok (19, .ifCond .ge 7, 3) (List.mem_of_getElem? (i := 11) rfl)
theorem dX9_sheeted_22 : decode cX9_sheeted 22 = .ok (.iconst 3, 1) := tX9_sheeted_ok (22, .iconst 3, 1) (List.mem_of_getElem? (i := 12) rfl)
theorem dX9_sheeted_23 : decode cX9_sheeted 23 = .ok (.goto 4, 3) := tX9_sheeted_ok (23, .goto 4, 3) (List.mem_of_getElem? (i := 13) rfl)
theorem dX9_sheeted_26 : decode cX9_sheeted 26 = .ok (.iconst 0, 1) := tX9_sheeted_ok (26, .iconst 0, 1) (List.mem_of_getElem? (i := 14) rfl)
theorem dX9_sheeted_27 : decode cX9_sheeted 27 = .ok (.ireturn, 1) := tX9_sheeted_ok (27, .ireturn, 1) (List.mem_of_getElem? (i := 15) rfl)

def tX9_placed : List (Nat × Instr × Nat) := [
  (0, .aload_n 0, 1),
  (1, .iload_n 1, 1),
  (2, .invokevirtual 122, 3),
  (5, .istore_n 3, 1),
  (6, .iload_n 3, 1),
  (7, .ifCond .le 7, 3),
  (10, .iload_n 3, 1),
  (11, .goto 22, 3),
  (14, .iload_n 2, 1),
  (15, .ifCond .lt 13, 3),
  (18, .iload_n 2, 1),
  (19, .aload_n 0, 1),
  (20, .getfield 13, 3),
  (23, .iload_n 1, 1),
  (24, .iaload, 1),
  (25, .if_icmp .lt 7, 3),
  (28, .iconst 4, 1),
  (29, .goto 4, 3),
  (32, .iconst 0, 1),
  (33, .ireturn, 1)]
set_option maxRecDepth 100000 in
theorem tX9_placed_ok : ∀ q ∈ tX9_placed, decode cX9_placed q.1 = .ok q.2 := by decide +kernel
theorem dX9_placed_0 : decode cX9_placed 0 = .ok (.aload_n 0, 1) := tX9_placed_ok (0, .aload_n 0, 1) (List.mem_of_getElem? (i := 0) rfl)
theorem dX9_placed_1 : decode cX9_placed 1 = .ok (.iload_n 1, 1) := tX9_placed_ok (1, .iload_n 1, 1) (List.mem_of_getElem? (i := 1) rfl)
theorem dX9_placed_2 : decode cX9_placed 2 = .ok (.invokevirtual 122, 3) := tX9_placed_ok (2, .invokevirtual 122, 3) (List.mem_of_getElem? (i := 2) rfl)
theorem dX9_placed_5 : decode cX9_placed 5 = .ok (.istore_n 3, 1) := tX9_placed_ok (5, .istore_n 3, 1) (List.mem_of_getElem? (i := 3) rfl)
theorem dX9_placed_6 : decode cX9_placed 6 = .ok (.iload_n 3, 1) := tX9_placed_ok (6, .iload_n 3, 1) (List.mem_of_getElem? (i := 4) rfl)
theorem dX9_placed_7 : decode cX9_placed 7 = .ok (.ifCond .le 7, 3) := tX9_placed_ok (7, .ifCond .le 7, 3) (List.mem_of_getElem? (i := 5) rfl)
theorem dX9_placed_10 : decode cX9_placed 10 = .ok (.iload_n 3, 1) := tX9_placed_ok (10, .iload_n 3, 1) (List.mem_of_getElem? (i := 6) rfl)
theorem dX9_placed_11 : decode cX9_placed 11 = .ok (.goto 22, 3) := tX9_placed_ok (11, .goto 22, 3) (List.mem_of_getElem? (i := 7) rfl)
theorem dX9_placed_14 : decode cX9_placed 14 = .ok (.iload_n 2, 1) := tX9_placed_ok (14, .iload_n 2, 1) (List.mem_of_getElem? (i := 8) rfl)
theorem dX9_placed_15 : decode cX9_placed 15 = .ok (.ifCond .lt 13, 3) := tX9_placed_ok (15, .ifCond .lt 13, 3) (List.mem_of_getElem? (i := 9) rfl)
theorem dX9_placed_18 : decode cX9_placed 18 = .ok (.iload_n 2, 1) := tX9_placed_ok (18, .iload_n 2, 1) (List.mem_of_getElem? (i := 10) rfl)
theorem dX9_placed_19 : decode cX9_placed 19 = .ok (.aload_n 0, 1) := tX9_placed_ok (19, .aload_n 0, 1) (List.mem_of_getElem? (i := 11) rfl)
theorem dX9_placed_20 : decode cX9_placed 20 = .ok (.getfield 13, 3) := tX9_placed_ok (20, .getfield 13, 3) (List.mem_of_getElem? (i := 12) rfl)
theorem dX9_placed_23 : decode cX9_placed 23 = .ok (.iload_n 1, 1) := tX9_placed_ok (23, .iload_n 1, 1) (List.mem_of_getElem? (i := 13) rfl)
theorem dX9_placed_24 : decode cX9_placed 24 = .ok (.iaload, 1) := tX9_placed_ok (24, .iaload, 1) (List.mem_of_getElem? (i := 14) rfl)
theorem dX9_placed_25 : decode cX9_placed 25 = .ok (.if_icmp .lt 7, 3) := tX9_placed_ok (25, .if_icmp .lt 7, 3) (List.mem_of_getElem? (i := 15) rfl)
theorem dX9_placed_28 : decode cX9_placed 28 = .ok (.iconst 4, 1) := tX9_placed_ok (28, .iconst 4, 1) (List.mem_of_getElem? (i := 16) rfl)
theorem dX9_placed_29 : decode cX9_placed 29 = .ok (.goto 4, 3) := tX9_placed_ok (29, .goto 4, 3) (List.mem_of_getElem? (i := 17) rfl)
theorem dX9_placed_32 : decode cX9_placed 32 = .ok (.iconst 0, 1) := tX9_placed_ok (32, .iconst 0, 1) (List.mem_of_getElem? (i := 18) rfl)
theorem dX9_placed_33 : decode cX9_placed 33 = .ok (.ireturn, 1) := tX9_placed_ok (33, .ireturn, 1) (List.mem_of_getElem? (i := 19) rfl)

def tX9_write : List (Nat × Instr × Nat) := [
  (0, .aload_n 0, 1),
  (1, .iconst 0, 1),
  (2, .putfield 112, 3),
  (5, .aload_n 0, 1),
  (6, .aload_n 0, 1),
  (7, .iload_n 1, 1),
  (8, .iload_n 2, 1),
  (9, .invokevirtual 126, 3),
  (12, .putfield 115, 3),
  (15, .aload_n 0, 1),
  (16, .getfield 115, 3),
  (19, .ifCond .le 5, 3),
  (22, .iconst 0, 1),
  (23, .ireturn, 1),
  (24, .aload_n 0, 1),
  (25, .getfield 16, 3),
  (28, .bipush 64, 2),
  (30, .iload_n 1, 1),
  (31, .imul, 1),
  (32, .iload_n 2, 1),
  (33, .iadd, 1),
  (34, .aload_n 0, 1),
  (35, .getfield 7, 3),
  (38, .iload_n 1, 1),
  (39, .iaload, 1),
  (40, .iload_n 3, 1),
  (41, .invokestatic 130, 3),
  (44, .iastore, 1),
  (45, .iconst 1, 1),
  (46, .ireturn, 1)]
set_option maxRecDepth 100000 in
theorem tX9_write_ok : ∀ q ∈ tX9_write, decode cX9_write q.1 = .ok q.2 := by decide +kernel
theorem dX9_write_0 : decode cX9_write 0 = .ok (.aload_n 0, 1) := tX9_write_ok (0, .aload_n 0, 1) (List.mem_of_getElem? (i := 0) rfl)
theorem dX9_write_1 : decode cX9_write 1 = .ok (.iconst 0, 1) := tX9_write_ok (1, .iconst 0, 1) (List.mem_of_getElem? (i := 1) rfl)
theorem dX9_write_2 : decode cX9_write 2 = .ok (.putfield 112, 3) := tX9_write_ok (2, .putfield 112, 3) (List.mem_of_getElem? (i := 2) rfl)
theorem dX9_write_5 : decode cX9_write 5 = .ok (.aload_n 0, 1) := tX9_write_ok (5, .aload_n 0, 1) (List.mem_of_getElem? (i := 3) rfl)
theorem dX9_write_6 : decode cX9_write 6 = .ok (.aload_n 0, 1) := tX9_write_ok (6, .aload_n 0, 1) (List.mem_of_getElem? (i := 4) rfl)
theorem dX9_write_7 : decode cX9_write 7 = .ok (.iload_n 1, 1) := tX9_write_ok (7, .iload_n 1, 1) (List.mem_of_getElem? (i := 5) rfl)
theorem dX9_write_8 : decode cX9_write 8 = .ok (.iload_n 2, 1) := tX9_write_ok (8, .iload_n 2, 1) (List.mem_of_getElem? (i := 6) rfl)
theorem dX9_write_9 : decode cX9_write 9 = .ok (.invokevirtual 126, 3) := tX9_write_ok (9, .invokevirtual 126, 3) (List.mem_of_getElem? (i := 7) rfl)
theorem dX9_write_12 : decode cX9_write 12 = .ok (.putfield 115, 3) := tX9_write_ok (12, .putfield 115, 3) (List.mem_of_getElem? (i := 8) rfl)
theorem dX9_write_15 : decode cX9_write 15 = .ok (.aload_n 0, 1) := tX9_write_ok (15, .aload_n 0, 1) (List.mem_of_getElem? (i := 9) rfl)
theorem dX9_write_16 : decode cX9_write 16 = .ok (.getfield 115, 3) := tX9_write_ok (16, .getfield 115, 3) (List.mem_of_getElem? (i := 10) rfl)
theorem dX9_write_19 : decode cX9_write 19 = .ok (.ifCond .le 5, 3) := tX9_write_ok (19, .ifCond .le 5, 3) (List.mem_of_getElem? (i := 11) rfl)
theorem dX9_write_22 : decode cX9_write 22 = .ok (.iconst 0, 1) := tX9_write_ok (22, .iconst 0, 1) (List.mem_of_getElem? (i := 12) rfl)
theorem dX9_write_23 : decode cX9_write 23 = .ok (.ireturn, 1) := tX9_write_ok (23, .ireturn, 1) (List.mem_of_getElem? (i := 13) rfl)
theorem dX9_write_24 : decode cX9_write 24 = .ok (.aload_n 0, 1) := tX9_write_ok (24, .aload_n 0, 1) (List.mem_of_getElem? (i := 14) rfl)
theorem dX9_write_25 : decode cX9_write 25 = .ok (.getfield 16, 3) := tX9_write_ok (25, .getfield 16, 3) (List.mem_of_getElem? (i := 15) rfl)
theorem dX9_write_28 : decode cX9_write 28 = .ok (.bipush 64, 2) := tX9_write_ok (28, .bipush 64, 2) (List.mem_of_getElem? (i := 16) rfl)
theorem dX9_write_30 : decode cX9_write 30 = .ok (.iload_n 1, 1) := tX9_write_ok (30, .iload_n 1, 1) (List.mem_of_getElem? (i := 17) rfl)
theorem dX9_write_31 : decode cX9_write 31 = .ok (.imul, 1) := tX9_write_ok (31, .imul, 1) (List.mem_of_getElem? (i := 18) rfl)
theorem dX9_write_32 : decode cX9_write 32 = .ok (.iload_n 2, 1) := tX9_write_ok (32, .iload_n 2, 1) (List.mem_of_getElem? (i := 19) rfl)
theorem dX9_write_33 : decode cX9_write 33 = .ok (.iadd, 1) := tX9_write_ok (33, .iadd, 1) (List.mem_of_getElem? (i := 20) rfl)
theorem dX9_write_34 : decode cX9_write 34 = .ok (.aload_n 0, 1) := tX9_write_ok (34, .aload_n 0, 1) (List.mem_of_getElem? (i := 21) rfl)
theorem dX9_write_35 : decode cX9_write 35 = .ok (.getfield 7, 3) := tX9_write_ok (35, .getfield 7, 3) (List.mem_of_getElem? (i := 22) rfl)
theorem dX9_write_38 : decode cX9_write 38 = .ok (.iload_n 1, 1) := tX9_write_ok (38, .iload_n 1, 1) (List.mem_of_getElem? (i := 23) rfl)
theorem dX9_write_39 : decode cX9_write 39 = .ok (.iaload, 1) := tX9_write_ok (39, .iaload, 1) (List.mem_of_getElem? (i := 24) rfl)
theorem dX9_write_40 : decode cX9_write 40 = .ok (.iload_n 3, 1) := tX9_write_ok (40, .iload_n 3, 1) (List.mem_of_getElem? (i := 25) rfl)
theorem dX9_write_41 : decode cX9_write 41 = .ok (.invokestatic 130, 3) := tX9_write_ok (41, .invokestatic 130, 3) (List.mem_of_getElem? (i := 26) rfl)
theorem dX9_write_44 : decode cX9_write 44 = .ok (.iastore, 1) := tX9_write_ok (44, .iastore, 1) (List.mem_of_getElem? (i := 27) rfl)
theorem dX9_write_45 : decode cX9_write 45 = .ok (.iconst 1, 1) := tX9_write_ok (45, .iconst 1, 1) (List.mem_of_getElem? (i := 28) rfl)
theorem dX9_write_46 : decode cX9_write 46 = .ok (.ireturn, 1) := tX9_write_ok (46, .ireturn, 1) (List.mem_of_getElem? (i := 29) rfl)

def tX9_read : List (Nat × Instr × Nat) := [
  (0, .aload_n 0, 1),
  (1, .iconst 0, 1),
  (2, .putfield 112, 3),
  (5, .aload_n 0, 1),
  (6, .aload_n 0, 1),
  (7, .iload_n 1, 1),
  (8, .iload_n 2, 1),
  (9, .invokevirtual 126, 3),
  (12, .putfield 115, 3),
  (15, .aload_n 0, 1),
  (16, .getfield 115, 3),
  (19, .ifCond .le 7, 3),
  (22, .iconst (-1), 1),
  (23, .goto 14, 3),
  (26, .aload_n 0, 1),
  (27, .getfield 16, 3),
  (30, .bipush 64, 2),
  (32, .iload_n 1, 1),
  (33, .imul, 1),
  (34, .iload_n 2, 1),
  (35, .iadd, 1),
  (36, .iaload, 1),
  (37, .ireturn, 1)]
set_option maxRecDepth 100000 in
theorem tX9_read_ok : ∀ q ∈ tX9_read, decode cX9_read q.1 = .ok q.2 := by decide +kernel
theorem dX9_read_0 : decode cX9_read 0 = .ok (.aload_n 0, 1) := tX9_read_ok (0, .aload_n 0, 1) (List.mem_of_getElem? (i := 0) rfl)
theorem dX9_read_1 : decode cX9_read 1 = .ok (.iconst 0, 1) := tX9_read_ok (1, .iconst 0, 1) (List.mem_of_getElem? (i := 1) rfl)
theorem dX9_read_2 : decode cX9_read 2 = .ok (.putfield 112, 3) := tX9_read_ok (2, .putfield 112, 3) (List.mem_of_getElem? (i := 2) rfl)
theorem dX9_read_5 : decode cX9_read 5 = .ok (.aload_n 0, 1) := tX9_read_ok (5, .aload_n 0, 1) (List.mem_of_getElem? (i := 3) rfl)
theorem dX9_read_6 : decode cX9_read 6 = .ok (.aload_n 0, 1) := tX9_read_ok (6, .aload_n 0, 1) (List.mem_of_getElem? (i := 4) rfl)
theorem dX9_read_7 : decode cX9_read 7 = .ok (.iload_n 1, 1) := tX9_read_ok (7, .iload_n 1, 1) (List.mem_of_getElem? (i := 5) rfl)
theorem dX9_read_8 : decode cX9_read 8 = .ok (.iload_n 2, 1) := tX9_read_ok (8, .iload_n 2, 1) (List.mem_of_getElem? (i := 6) rfl)
theorem dX9_read_9 : decode cX9_read 9 = .ok (.invokevirtual 126, 3) := tX9_read_ok (9, .invokevirtual 126, 3) (List.mem_of_getElem? (i := 7) rfl)
theorem dX9_read_12 : decode cX9_read 12 = .ok (.putfield 115, 3) := tX9_read_ok (12, .putfield 115, 3) (List.mem_of_getElem? (i := 8) rfl)
theorem dX9_read_15 : decode cX9_read 15 = .ok (.aload_n 0, 1) := tX9_read_ok (15, .aload_n 0, 1) (List.mem_of_getElem? (i := 9) rfl)
theorem dX9_read_16 : decode cX9_read 16 = .ok (.getfield 115, 3) := tX9_read_ok (16, .getfield 115, 3) (List.mem_of_getElem? (i := 10) rfl)
theorem dX9_read_19 : decode cX9_read 19 = .ok (.ifCond .le 7, 3) := tX9_read_ok (19, .ifCond .le 7, 3) (List.mem_of_getElem? (i := 11) rfl)
theorem dX9_read_22 : decode cX9_read 22 = .ok (.iconst (-1), 1) := tX9_read_ok (22, .iconst (-1), 1) (List.mem_of_getElem? (i := 12) rfl)
theorem dX9_read_23 : decode cX9_read 23 = .ok (.goto 14, 3) := tX9_read_ok (23, .goto 14, 3) (List.mem_of_getElem? (i := 13) rfl)
theorem dX9_read_26 : decode cX9_read 26 = .ok (.aload_n 0, 1) := tX9_read_ok (26, .aload_n 0, 1) (List.mem_of_getElem? (i := 14) rfl)
theorem dX9_read_27 : decode cX9_read 27 = .ok (.getfield 16, 3) := tX9_read_ok (27, .getfield 16, 3) (List.mem_of_getElem? (i := 15) rfl)
theorem dX9_read_30 : decode cX9_read 30 = .ok (.bipush 64, 2) := tX9_read_ok (30, .bipush 64, 2) (List.mem_of_getElem? (i := 16) rfl)
theorem dX9_read_32 : decode cX9_read 32 = .ok (.iload_n 1, 1) := tX9_read_ok (32, .iload_n 1, 1) (List.mem_of_getElem? (i := 17) rfl)
theorem dX9_read_33 : decode cX9_read 33 = .ok (.imul, 1) := tX9_read_ok (33, .imul, 1) (List.mem_of_getElem? (i := 18) rfl)
theorem dX9_read_34 : decode cX9_read 34 = .ok (.iload_n 2, 1) := tX9_read_ok (34, .iload_n 2, 1) (List.mem_of_getElem? (i := 19) rfl)
theorem dX9_read_35 : decode cX9_read 35 = .ok (.iadd, 1) := tX9_read_ok (35, .iadd, 1) (List.mem_of_getElem? (i := 20) rfl)
theorem dX9_read_36 : decode cX9_read 36 = .ok (.iaload, 1) := tX9_read_ok (36, .iaload, 1) (List.mem_of_getElem? (i := 21) rfl)
theorem dX9_read_37 : decode cX9_read 37 = .ok (.ireturn, 1) := tX9_read_ok (37, .ireturn, 1) (List.mem_of_getElem? (i := 22) rfl)

def tX9_pour : List (Nat × Instr × Nat) := [
  (0, .aload_n 0, 1),
  (1, .iconst 0, 1),
  (2, .putfield 112, 3),
  (5, .aload_n 0, 1),
  (6, .iconst 0, 1),
  (7, .putfield 115, 3),
  (10, .iload_n 1, 1),
  (11, .ifCond .lt 17, 3),
  (14, .iload_n 1, 1),
  (15, .iconst 4, 1),
  (16, .if_icmp .ge 12, 3),
  (19, .iload_n 3, 1),
  (20, .ifCond .lt 8, 3),
  (23, .iload_n 3, 1),
  (24, .iconst 4, 1),
  (25, .if_icmp .lt 9, 3),
  (28, .aload_n 0, 1),
  (29, .iconst 1, 1),
  (30, .invokevirtual 118, 3),
  (33, .ireturn, 1),
  (34, .aload_n 0, 1),
  (35, .getfield 13, 3),
  (38, .iload_n 1, 1),
  (39, .iaload, 1),
  (40, .ifCond .lt 12, 3),
  (43, .aload_n 0, 1),
  (44, .getfield 13, 3),
  (47, .iload_n 3, 1),
  (48, .iaload, 1),
  (49, .ifCond .ge 9, 3),
  (52, .aload_n 0, 1),
  (53, .iconst 3, 1),
  (54, .invokevirtual 118, 3),
  (57, .ireturn, 1),
  (58, .aload_n 0, 1),
  (59, .getfield 7, 3),
  (62, .iload_n 1, 1),
  (63, .iaload, 1),
  (64, .aload_n 0, 1),
  (65, .getfield 7, 3),
  (68, .iload_n 3, 1),
  (69, .iaload, 1),
  (70, .if_icmp .eq 10, 3),
  (73, .aload_n 0, 1),
  (74, .bipush 11, 2),
  (76, .invokevirtual 118, 3),
  (79, .ireturn, 1),
  (80, .iload 5, 2),
  (82, .ifCond .ge 10, 3),
  (85, .aload_n 0, 1),
  (86, .bipush 6, 2),
  (88, .invokevirtual 118, 3),
  (91, .ireturn, 1),
  (92, .iload_n 2, 1),
  (93, .ifCond .lt 43, 3),
  (96, .iload 4, 2),
  (98, .ifCond .lt 38, 3),
  (101, .iload_n 2, 1),
  (102, .i2l, 1),
  (103, .iload 5, 2),
  (105, .i2l, 1),
  (106, .ladd, 1),
  (107, .aload_n 0, 1),
  (108, .getfield 13, 3),
  (111, .iload_n 1, 1),
  (112, .iaload, 1),
  (113, .i2l, 1),
  (114, .lcmp, 1),
  (115, .ifCond .gt 21, 3),
  (118, .iload 4, 2),
  (120, .i2l, 1),
  (121, .iload 5, 2),
  (123, .i2l, 1),
  (124, .ladd, 1),
  (125, .aload_n 0, 1),
  (126, .getfield 13, 3),
  (129, .iload_n 3, 1),
  (130, .iaload, 1),
  (131, .i2l, 1),
  (132, .lcmp, 1),
  (133, .ifCond .le 9, 3),
  (136, .aload_n 0, 1),
  (137, .iconst 4, 1),
  (138, .invokevirtual 118, 3),
  (141, .ireturn, 1),
  (142, .iload_n 2, 1),
  (143, .iload 4, 2),
  (145, .if_icmp .ge 7, 3),
  (148, .iconst 1, 1),
  (149, .goto 4, 3),
  (152, .iconst 0, 1),
  (153, .istore 6, 2),
  (155, .iconst 0, 1),
  (156, .istore 7, 2),
  (158, .iload 7, 2),
  (160, .iload 5, 2),
  (162, .if_icmp .ge 57, 3),
  (165, .iload 6, 2),
  (167, .ifCond .eq 13, 3),
  (170, .iload 5, 2),
  (172, .iconst 1, 1),
  (173, .isub, 1),
  (174, .iload 7, 2),
  (176, .isub, 1),
  (177, .goto 5, 3),
  (180, .iload 7, 2),
  (182, .istore 8, 2),
  (184, .aload_n 0, 1),
  (185, .getfield 16, 3),
  (188, .bipush 64, 2),
  (190, .iload_n 3, 1),
  (191, .imul, 1),
  (192, .iload 4, 2),
  (194, .iadd, 1),
  (195, .iload 8, 2),
  (197, .iadd, 1),
  (198, .aload_n 0, 1),
  (199, .getfield 16, 3),
  (202, .bipush 64, 2),
  (204, .iload_n 1, 1),
  (205, .imul, 1),
  (206, .iload_n 2, 1),
  (207, .iadd, 1),
  (208, .iload 8, 2),
  (210, .iadd, 1),
  (211, .iaload, 1),
  (212, .iastore, 1),
  (213, .iinc 7 1, 3),
  (216, .goto (-58), 3),
  (219, .iconst 1, 1),
  (220, .ireturn, 1)]
set_option maxRecDepth 100000 in
theorem tX9_pour_ok : ∀ q ∈ tX9_pour, decode cX9_pour q.1 = .ok q.2 := by decide +kernel
theorem dX9_pour_0 : decode cX9_pour 0 = .ok (.aload_n 0, 1) := tX9_pour_ok (0, .aload_n 0, 1) (List.mem_of_getElem? (i := 0) rfl)
theorem dX9_pour_1 : decode cX9_pour 1 = .ok (.iconst 0, 1) := tX9_pour_ok (1, .iconst 0, 1) (List.mem_of_getElem? (i := 1) rfl)
theorem dX9_pour_2 : decode cX9_pour 2 = .ok (.putfield 112, 3) := tX9_pour_ok (2, .putfield 112, 3) (List.mem_of_getElem? (i := 2) rfl)
theorem dX9_pour_5 : decode cX9_pour 5 = .ok (.aload_n 0, 1) := tX9_pour_ok (5, .aload_n 0, 1) (List.mem_of_getElem? (i := 3) rfl)
theorem dX9_pour_6 : decode cX9_pour 6 = .ok (.iconst 0, 1) := tX9_pour_ok (6, .iconst 0, 1) (List.mem_of_getElem? (i := 4) rfl)
theorem dX9_pour_7 : decode cX9_pour 7 = .ok (.putfield 115, 3) := tX9_pour_ok (7, .putfield 115, 3) (List.mem_of_getElem? (i := 5) rfl)
theorem dX9_pour_10 : decode cX9_pour 10 = .ok (.iload_n 1, 1) := tX9_pour_ok (10, .iload_n 1, 1) (List.mem_of_getElem? (i := 6) rfl)
theorem dX9_pour_11 : decode cX9_pour 11 = .ok (.ifCond .lt 17, 3) := tX9_pour_ok (11, .ifCond .lt 17, 3) (List.mem_of_getElem? (i := 7) rfl)
theorem dX9_pour_14 : decode cX9_pour 14 = .ok (.iload_n 1, 1) := tX9_pour_ok (14, .iload_n 1, 1) (List.mem_of_getElem? (i := 8) rfl)
theorem dX9_pour_15 : decode cX9_pour 15 = .ok (.iconst 4, 1) := tX9_pour_ok (15, .iconst 4, 1) (List.mem_of_getElem? (i := 9) rfl)
theorem dX9_pour_16 : decode cX9_pour 16 = .ok (.if_icmp .ge 12, 3) := tX9_pour_ok (16, .if_icmp .ge 12, 3) (List.mem_of_getElem? (i := 10) rfl)
theorem dX9_pour_19 : decode cX9_pour 19 = .ok (.iload_n 3, 1) := tX9_pour_ok (19, .iload_n 3, 1) (List.mem_of_getElem? (i := 11) rfl)
theorem dX9_pour_20 : decode cX9_pour 20 = .ok (.ifCond .lt 8, 3) := tX9_pour_ok (20, .ifCond .lt 8, 3) (List.mem_of_getElem? (i := 12) rfl)
theorem dX9_pour_23 : decode cX9_pour 23 = .ok (.iload_n 3, 1) := tX9_pour_ok (23, .iload_n 3, 1) (List.mem_of_getElem? (i := 13) rfl)
theorem dX9_pour_24 : decode cX9_pour 24 = .ok (.iconst 4, 1) := tX9_pour_ok (24, .iconst 4, 1) (List.mem_of_getElem? (i := 14) rfl)
theorem dX9_pour_25 : decode cX9_pour 25 = .ok (.if_icmp .lt 9, 3) := tX9_pour_ok (25, .if_icmp .lt 9, 3) (List.mem_of_getElem? (i := 15) rfl)
theorem dX9_pour_28 : decode cX9_pour 28 = .ok (.aload_n 0, 1) := tX9_pour_ok (28, .aload_n 0, 1) (List.mem_of_getElem? (i := 16) rfl)
theorem dX9_pour_29 : decode cX9_pour 29 = .ok (.iconst 1, 1) := tX9_pour_ok (29, .iconst 1, 1) (List.mem_of_getElem? (i := 17) rfl)
theorem dX9_pour_30 : decode cX9_pour 30 = .ok (.invokevirtual 118, 3) := tX9_pour_ok (30, .invokevirtual 118, 3) (List.mem_of_getElem? (i := 18) rfl)
theorem dX9_pour_33 : decode cX9_pour 33 = .ok (.ireturn, 1) := tX9_pour_ok (33, .ireturn, 1) (List.mem_of_getElem? (i := 19) rfl)
theorem dX9_pour_34 : decode cX9_pour 34 = .ok (.aload_n 0, 1) := tX9_pour_ok (34, .aload_n 0, 1) (List.mem_of_getElem? (i := 20) rfl)
theorem dX9_pour_35 : decode cX9_pour 35 = .ok (.getfield 13, 3) := tX9_pour_ok (35, .getfield 13, 3) (List.mem_of_getElem? (i := 21) rfl)
theorem dX9_pour_38 : decode cX9_pour 38 = .ok (.iload_n 1, 1) := tX9_pour_ok (38, .iload_n 1, 1) (List.mem_of_getElem? (i := 22) rfl)
theorem dX9_pour_39 : decode cX9_pour 39 = .ok (.iaload, 1) := tX9_pour_ok (39, .iaload, 1) (List.mem_of_getElem? (i := 23) rfl)
theorem dX9_pour_40 : decode cX9_pour 40 = .ok (.ifCond .lt 12, 3) := tX9_pour_ok (40, .ifCond .lt 12, 3) (List.mem_of_getElem? (i := 24) rfl)
theorem dX9_pour_43 : decode cX9_pour 43 = .ok (.aload_n 0, 1) := tX9_pour_ok (43, .aload_n 0, 1) (List.mem_of_getElem? (i := 25) rfl)
theorem dX9_pour_44 : decode cX9_pour 44 = .ok (.getfield 13, 3) := tX9_pour_ok (44, .getfield 13, 3) (List.mem_of_getElem? (i := 26) rfl)
theorem dX9_pour_47 : decode cX9_pour 47 = .ok (.iload_n 3, 1) := tX9_pour_ok (47, .iload_n 3, 1) (List.mem_of_getElem? (i := 27) rfl)
theorem dX9_pour_48 : decode cX9_pour 48 = .ok (.iaload, 1) := tX9_pour_ok (48, .iaload, 1) (List.mem_of_getElem? (i := 28) rfl)
theorem dX9_pour_49 : decode cX9_pour 49 = .ok (.ifCond .ge 9, 3) := tX9_pour_ok (49, .ifCond .ge 9, 3) (List.mem_of_getElem? (i := 29) rfl)
theorem dX9_pour_52 : decode cX9_pour 52 = .ok (.aload_n 0, 1) := tX9_pour_ok (52, .aload_n 0, 1) (List.mem_of_getElem? (i := 30) rfl)
theorem dX9_pour_53 : decode cX9_pour 53 = .ok (.iconst 3, 1) := tX9_pour_ok (53, .iconst 3, 1) (List.mem_of_getElem? (i := 31) rfl)
theorem dX9_pour_54 : decode cX9_pour 54 = .ok (.invokevirtual 118, 3) := tX9_pour_ok (54, .invokevirtual 118, 3) (List.mem_of_getElem? (i := 32) rfl)
theorem dX9_pour_57 : decode cX9_pour 57 = .ok (.ireturn, 1) := tX9_pour_ok (57, .ireturn, 1) (List.mem_of_getElem? (i := 33) rfl)
theorem dX9_pour_58 : decode cX9_pour 58 = .ok (.aload_n 0, 1) := tX9_pour_ok (58, .aload_n 0, 1) (List.mem_of_getElem? (i := 34) rfl)
theorem dX9_pour_59 : decode cX9_pour 59 = .ok (.getfield 7, 3) := tX9_pour_ok (59, .getfield 7, 3) (List.mem_of_getElem? (i := 35) rfl)
theorem dX9_pour_62 : decode cX9_pour 62 = .ok (.iload_n 1, 1) := tX9_pour_ok (62, .iload_n 1, 1) (List.mem_of_getElem? (i := 36) rfl)
theorem dX9_pour_63 : decode cX9_pour 63 = .ok (.iaload, 1) := tX9_pour_ok (63, .iaload, 1) (List.mem_of_getElem? (i := 37) rfl)
theorem dX9_pour_64 : decode cX9_pour 64 = .ok (.aload_n 0, 1) := tX9_pour_ok (64, .aload_n 0, 1) (List.mem_of_getElem? (i := 38) rfl)
theorem dX9_pour_65 : decode cX9_pour 65 = .ok (.getfield 7, 3) := tX9_pour_ok (65, .getfield 7, 3) (List.mem_of_getElem? (i := 39) rfl)
theorem dX9_pour_68 : decode cX9_pour 68 = .ok (.iload_n 3, 1) := tX9_pour_ok (68, .iload_n 3, 1) (List.mem_of_getElem? (i := 40) rfl)
theorem dX9_pour_69 : decode cX9_pour 69 = .ok (.iaload, 1) := tX9_pour_ok (69, .iaload, 1) (List.mem_of_getElem? (i := 41) rfl)
theorem dX9_pour_70 : decode cX9_pour 70 = .ok (.if_icmp .eq 10, 3) := tX9_pour_ok (70, .if_icmp .eq 10, 3) (List.mem_of_getElem? (i := 42) rfl)
theorem dX9_pour_73 : decode cX9_pour 73 = .ok (.aload_n 0, 1) := tX9_pour_ok (73, .aload_n 0, 1) (List.mem_of_getElem? (i := 43) rfl)
theorem dX9_pour_74 : decode cX9_pour 74 = .ok (.bipush 11, 2) := tX9_pour_ok (74, .bipush 11, 2) (List.mem_of_getElem? (i := 44) rfl)
theorem dX9_pour_76 : decode cX9_pour 76 = .ok (.invokevirtual 118, 3) := tX9_pour_ok (76, .invokevirtual 118, 3) (List.mem_of_getElem? (i := 45) rfl)
theorem dX9_pour_79 : decode cX9_pour 79 = .ok (.ireturn, 1) := tX9_pour_ok (79, .ireturn, 1) (List.mem_of_getElem? (i := 46) rfl)
theorem dX9_pour_80 : decode cX9_pour 80 = .ok (.iload 5, 2) := tX9_pour_ok (80, .iload 5, 2) (List.mem_of_getElem? (i := 47) rfl)
theorem dX9_pour_82 : decode cX9_pour 82 = .ok (.ifCond .ge 10, 3) := tX9_pour_ok (82, .ifCond .ge 10, 3) (List.mem_of_getElem? (i := 48) rfl)
theorem dX9_pour_85 : decode cX9_pour 85 = .ok (.aload_n 0, 1) := tX9_pour_ok (85, .aload_n 0, 1) (List.mem_of_getElem? (i := 49) rfl)
theorem dX9_pour_86 : decode cX9_pour 86 = .ok (.bipush 6, 2) := tX9_pour_ok (86, .bipush 6, 2) (List.mem_of_getElem? (i := 50) rfl)
theorem dX9_pour_88 : decode cX9_pour 88 = .ok (.invokevirtual 118, 3) := tX9_pour_ok (88, .invokevirtual 118, 3) (List.mem_of_getElem? (i := 51) rfl)
theorem dX9_pour_91 : decode cX9_pour 91 = .ok (.ireturn, 1) := tX9_pour_ok (91, .ireturn, 1) (List.mem_of_getElem? (i := 52) rfl)
theorem dX9_pour_92 : decode cX9_pour 92 = .ok (.iload_n 2, 1) := tX9_pour_ok (92, .iload_n 2, 1) (List.mem_of_getElem? (i := 53) rfl)
theorem dX9_pour_93 : decode cX9_pour 93 = .ok (.ifCond .lt 43, 3) := tX9_pour_ok (93, .ifCond .lt 43, 3) (List.mem_of_getElem? (i := 54) rfl)
theorem dX9_pour_96 : decode cX9_pour 96 = .ok (.iload 4, 2) := tX9_pour_ok (96, .iload 4, 2) (List.mem_of_getElem? (i := 55) rfl)
theorem dX9_pour_98 : decode cX9_pour 98 = .ok (.ifCond .lt 38, 3) := tX9_pour_ok (98, .ifCond .lt 38, 3) (List.mem_of_getElem? (i := 56) rfl)
theorem dX9_pour_101 : decode cX9_pour 101 = .ok (.iload_n 2, 1) := tX9_pour_ok (101, .iload_n 2, 1) (List.mem_of_getElem? (i := 57) rfl)
theorem dX9_pour_102 : decode cX9_pour 102 = .ok (.i2l, 1) := tX9_pour_ok (102, .i2l, 1) (List.mem_of_getElem? (i := 58) rfl)
theorem dX9_pour_103 : decode cX9_pour 103 = .ok (.iload 5, 2) := tX9_pour_ok (103, .iload 5, 2) (List.mem_of_getElem? (i := 59) rfl)
theorem dX9_pour_105 : decode cX9_pour 105 = .ok (.i2l, 1) := tX9_pour_ok (105, .i2l, 1) (List.mem_of_getElem? (i := 60) rfl)
theorem dX9_pour_106 : decode cX9_pour 106 = .ok (.ladd, 1) := tX9_pour_ok (106, .ladd, 1) (List.mem_of_getElem? (i := 61) rfl)
theorem dX9_pour_107 : decode cX9_pour 107 = .ok (.aload_n 0, 1) := tX9_pour_ok (107, .aload_n 0, 1) (List.mem_of_getElem? (i := 62) rfl)
theorem dX9_pour_108 : decode cX9_pour 108 = .ok (.getfield 13, 3) := tX9_pour_ok (108, .getfield 13, 3) (List.mem_of_getElem? (i := 63) rfl)
theorem dX9_pour_111 : decode cX9_pour 111 = .ok (.iload_n 1, 1) := tX9_pour_ok (111, .iload_n 1, 1) (List.mem_of_getElem? (i := 64) rfl)
theorem dX9_pour_112 : decode cX9_pour 112 = .ok (.iaload, 1) := tX9_pour_ok (112, .iaload, 1) (List.mem_of_getElem? (i := 65) rfl)
theorem dX9_pour_113 : decode cX9_pour 113 = .ok (.i2l, 1) := tX9_pour_ok (113, .i2l, 1) (List.mem_of_getElem? (i := 66) rfl)
theorem dX9_pour_114 : decode cX9_pour 114 = .ok (.lcmp, 1) := tX9_pour_ok (114, .lcmp, 1) (List.mem_of_getElem? (i := 67) rfl)
theorem dX9_pour_115 : decode cX9_pour 115 = .ok (.ifCond .gt 21, 3) := tX9_pour_ok (115, .ifCond .gt 21, 3) (List.mem_of_getElem? (i := 68) rfl)
theorem dX9_pour_118 : decode cX9_pour 118 = .ok (.iload 4, 2) := tX9_pour_ok (118, .iload 4, 2) (List.mem_of_getElem? (i := 69) rfl)
theorem dX9_pour_120 : decode cX9_pour 120 = .ok (.i2l, 1) := tX9_pour_ok (120, .i2l, 1) (List.mem_of_getElem? (i := 70) rfl)
theorem dX9_pour_121 : decode cX9_pour 121 = .ok (.iload 5, 2) := tX9_pour_ok (121, .iload 5, 2) (List.mem_of_getElem? (i := 71) rfl)
theorem dX9_pour_123 : decode cX9_pour 123 = .ok (.i2l, 1) := tX9_pour_ok (123, .i2l, 1) (List.mem_of_getElem? (i := 72) rfl)
theorem dX9_pour_124 : decode cX9_pour 124 = .ok (.ladd, 1) := tX9_pour_ok (124, .ladd, 1) (List.mem_of_getElem? (i := 73) rfl)
theorem dX9_pour_125 : decode cX9_pour 125 = .ok (.aload_n 0, 1) := tX9_pour_ok (125, .aload_n 0, 1) (List.mem_of_getElem? (i := 74) rfl)
theorem dX9_pour_126 : decode cX9_pour 126 = .ok (.getfield 13, 3) := tX9_pour_ok (126, .getfield 13, 3) (List.mem_of_getElem? (i := 75) rfl)
theorem dX9_pour_129 : decode cX9_pour 129 = .ok (.iload_n 3, 1) := tX9_pour_ok (129, .iload_n 3, 1) (List.mem_of_getElem? (i := 76) rfl)
theorem dX9_pour_130 : decode cX9_pour 130 = .ok (.iaload, 1) := tX9_pour_ok (130, .iaload, 1) (List.mem_of_getElem? (i := 77) rfl)
theorem dX9_pour_131 : decode cX9_pour 131 = .ok (.i2l, 1) := tX9_pour_ok (131, .i2l, 1) (List.mem_of_getElem? (i := 78) rfl)
theorem dX9_pour_132 : decode cX9_pour 132 = .ok (.lcmp, 1) := tX9_pour_ok (132, .lcmp, 1) (List.mem_of_getElem? (i := 79) rfl)
theorem dX9_pour_133 : decode cX9_pour 133 = .ok (.ifCond .le 9, 3) := tX9_pour_ok (133, .ifCond .le 9, 3) (List.mem_of_getElem? (i := 80) rfl)
theorem dX9_pour_136 : decode cX9_pour 136 = .ok (.aload_n 0, 1) := tX9_pour_ok (136, .aload_n 0, 1) (List.mem_of_getElem? (i := 81) rfl)
theorem dX9_pour_137 : decode cX9_pour 137 = .ok (.iconst 4, 1) := tX9_pour_ok (137, .iconst 4, 1) (List.mem_of_getElem? (i := 82) rfl)
theorem dX9_pour_138 : decode cX9_pour 138 = .ok (.invokevirtual 118, 3) := tX9_pour_ok (138, .invokevirtual 118, 3) (List.mem_of_getElem? (i := 83) rfl)
theorem dX9_pour_141 : decode cX9_pour 141 = .ok (.ireturn, 1) := tX9_pour_ok (141, .ireturn, 1) (List.mem_of_getElem? (i := 84) rfl)
theorem dX9_pour_142 : decode cX9_pour 142 = .ok (.iload_n 2, 1) := tX9_pour_ok (142, .iload_n 2, 1) (List.mem_of_getElem? (i := 85) rfl)
theorem dX9_pour_143 : decode cX9_pour 143 = .ok (.iload 4, 2) := tX9_pour_ok (143, .iload 4, 2) (List.mem_of_getElem? (i := 86) rfl)
theorem dX9_pour_145 : decode cX9_pour 145 = .ok (.if_icmp .ge 7, 3) := tX9_pour_ok (145, .if_icmp .ge 7, 3) (List.mem_of_getElem? (i := 87) rfl)
theorem dX9_pour_148 : decode cX9_pour 148 = .ok (.iconst 1, 1) := tX9_pour_ok (148, .iconst 1, 1) (List.mem_of_getElem? (i := 88) rfl)
theorem dX9_pour_149 : decode cX9_pour 149 = .ok (.goto 4, 3) := tX9_pour_ok (149, .goto 4, 3) (List.mem_of_getElem? (i := 89) rfl)
theorem dX9_pour_152 : decode cX9_pour 152 = .ok (.iconst 0, 1) := tX9_pour_ok (152, .iconst 0, 1) (List.mem_of_getElem? (i := 90) rfl)
theorem dX9_pour_153 : decode cX9_pour 153 = .ok (.istore 6, 2) := tX9_pour_ok (153, .istore 6, 2) (List.mem_of_getElem? (i := 91) rfl)
theorem dX9_pour_155 : decode cX9_pour 155 = .ok (.iconst 0, 1) := tX9_pour_ok (155, .iconst 0, 1) (List.mem_of_getElem? (i := 92) rfl)
theorem dX9_pour_156 : decode cX9_pour 156 = .ok (.istore 7, 2) := tX9_pour_ok (156, .istore 7, 2) (List.mem_of_getElem? (i := 93) rfl)
theorem dX9_pour_158 : decode cX9_pour 158 = .ok (.iload 7, 2) := tX9_pour_ok (158, .iload 7, 2) (List.mem_of_getElem? (i := 94) rfl)
theorem dX9_pour_160 : decode cX9_pour 160 = .ok (.iload 5, 2) := tX9_pour_ok (160, .iload 5, 2) (List.mem_of_getElem? (i := 95) rfl)
theorem dX9_pour_162 : decode cX9_pour 162 = .ok (.if_icmp .ge 57, 3) := tX9_pour_ok (162, .if_icmp .ge 57, 3) (List.mem_of_getElem? (i := 96) rfl)
theorem dX9_pour_165 : decode cX9_pour 165 = .ok (.iload 6, 2) := tX9_pour_ok (165, .iload 6, 2) (List.mem_of_getElem? (i := 97) rfl)
theorem dX9_pour_167 : decode cX9_pour 167 = .ok (.ifCond .eq 13, 3) := tX9_pour_ok (167, .ifCond .eq 13, 3) (List.mem_of_getElem? (i := 98) rfl)
theorem dX9_pour_170 : decode cX9_pour 170 = .ok (.iload 5, 2) := tX9_pour_ok (170, .iload 5, 2) (List.mem_of_getElem? (i := 99) rfl)
theorem dX9_pour_172 : decode cX9_pour 172 = .ok (.iconst 1, 1) := tX9_pour_ok (172, .iconst 1, 1) (List.mem_of_getElem? (i := 100) rfl)
theorem dX9_pour_173 : decode cX9_pour 173 = .ok (.isub, 1) := tX9_pour_ok (173, .isub, 1) (List.mem_of_getElem? (i := 101) rfl)
theorem dX9_pour_174 : decode cX9_pour 174 = .ok (.iload 7, 2) := tX9_pour_ok (174, .iload 7, 2) (List.mem_of_getElem? (i := 102) rfl)
theorem dX9_pour_176 : decode cX9_pour 176 = .ok (.isub, 1) := tX9_pour_ok (176, .isub, 1) (List.mem_of_getElem? (i := 103) rfl)
theorem dX9_pour_177 : decode cX9_pour 177 = .ok (.goto 5, 3) := tX9_pour_ok (177, .goto 5, 3) (List.mem_of_getElem? (i := 104) rfl)
theorem dX9_pour_180 : decode cX9_pour 180 = .ok (.iload 7, 2) := tX9_pour_ok (180, .iload 7, 2) (List.mem_of_getElem? (i := 105) rfl)
theorem dX9_pour_182 : decode cX9_pour 182 = .ok (.istore 8, 2) := tX9_pour_ok (182, .istore 8, 2) (List.mem_of_getElem? (i := 106) rfl)
theorem dX9_pour_184 : decode cX9_pour 184 = .ok (.aload_n 0, 1) := tX9_pour_ok (184, .aload_n 0, 1) (List.mem_of_getElem? (i := 107) rfl)
theorem dX9_pour_185 : decode cX9_pour 185 = .ok (.getfield 16, 3) := tX9_pour_ok (185, .getfield 16, 3) (List.mem_of_getElem? (i := 108) rfl)
theorem dX9_pour_188 : decode cX9_pour 188 = .ok (.bipush 64, 2) := tX9_pour_ok (188, .bipush 64, 2) (List.mem_of_getElem? (i := 109) rfl)
theorem dX9_pour_190 : decode cX9_pour 190 = .ok (.iload_n 3, 1) := tX9_pour_ok (190, .iload_n 3, 1) (List.mem_of_getElem? (i := 110) rfl)
theorem dX9_pour_191 : decode cX9_pour 191 = .ok (.imul, 1) := tX9_pour_ok (191, .imul, 1) (List.mem_of_getElem? (i := 111) rfl)
theorem dX9_pour_192 : decode cX9_pour 192 = .ok (.iload 4, 2) := tX9_pour_ok (192, .iload 4, 2) (List.mem_of_getElem? (i := 112) rfl)
theorem dX9_pour_194 : decode cX9_pour 194 = .ok (.iadd, 1) := tX9_pour_ok (194, .iadd, 1) (List.mem_of_getElem? (i := 113) rfl)
theorem dX9_pour_195 : decode cX9_pour 195 = .ok (.iload 8, 2) := tX9_pour_ok (195, .iload 8, 2) (List.mem_of_getElem? (i := 114) rfl)
theorem dX9_pour_197 : decode cX9_pour 197 = .ok (.iadd, 1) := tX9_pour_ok (197, .iadd, 1) (List.mem_of_getElem? (i := 115) rfl)
theorem dX9_pour_198 : decode cX9_pour 198 = .ok (.aload_n 0, 1) := tX9_pour_ok (198, .aload_n 0, 1) (List.mem_of_getElem? (i := 116) rfl)
theorem dX9_pour_199 : decode cX9_pour 199 = .ok (.getfield 16, 3) := tX9_pour_ok (199, .getfield 16, 3) (List.mem_of_getElem? (i := 117) rfl)
theorem dX9_pour_202 : decode cX9_pour 202 = .ok (.bipush 64, 2) := tX9_pour_ok (202, .bipush 64, 2) (List.mem_of_getElem? (i := 118) rfl)
theorem dX9_pour_204 : decode cX9_pour 204 = .ok (.iload_n 1, 1) := tX9_pour_ok (204, .iload_n 1, 1) (List.mem_of_getElem? (i := 119) rfl)
theorem dX9_pour_205 : decode cX9_pour 205 = .ok (.imul, 1) := tX9_pour_ok (205, .imul, 1) (List.mem_of_getElem? (i := 120) rfl)
theorem dX9_pour_206 : decode cX9_pour 206 = .ok (.iload_n 2, 1) := tX9_pour_ok (206, .iload_n 2, 1) (List.mem_of_getElem? (i := 121) rfl)
theorem dX9_pour_207 : decode cX9_pour 207 = .ok (.iadd, 1) := tX9_pour_ok (207, .iadd, 1) (List.mem_of_getElem? (i := 122) rfl)
theorem dX9_pour_208 : decode cX9_pour 208 = .ok (.iload 8, 2) := tX9_pour_ok (208, .iload 8, 2) (List.mem_of_getElem? (i := 123) rfl)
theorem dX9_pour_210 : decode cX9_pour 210 = .ok (.iadd, 1) := tX9_pour_ok (210, .iadd, 1) (List.mem_of_getElem? (i := 124) rfl)
theorem dX9_pour_211 : decode cX9_pour 211 = .ok (.iaload, 1) := tX9_pour_ok (211, .iaload, 1) (List.mem_of_getElem? (i := 125) rfl)
theorem dX9_pour_212 : decode cX9_pour 212 = .ok (.iastore, 1) := tX9_pour_ok (212, .iastore, 1) (List.mem_of_getElem? (i := 126) rfl)
theorem dX9_pour_213 : decode cX9_pour 213 = .ok (.iinc 7 1, 3) := tX9_pour_ok (213, .iinc 7 1, 3) (List.mem_of_getElem? (i := 127) rfl)
theorem dX9_pour_216 : decode cX9_pour 216 = .ok (.goto (-58), 3) := tX9_pour_ok (216, .goto (-58), 3) (List.mem_of_getElem? (i := 128) rfl)
theorem dX9_pour_219 : decode cX9_pour 219 = .ok (.iconst 1, 1) := tX9_pour_ok (219, .iconst 1, 1) (List.mem_of_getElem? (i := 129) rfl)
theorem dX9_pour_220 : decode cX9_pour 220 = .ok (.ireturn, 1) := tX9_pour_ok (220, .ireturn, 1) (List.mem_of_getElem? (i := 130) rfl)

def tX9_isSquare : List (Nat × Instr × Nat) := [
  (0, .iload_n 0, 1),
  (1, .bipush (-30), 2),
  (3, .if_icmp .lt 25, 3),
  (6, .iload_n 0, 1),
  (7, .bipush 30, 2),
  (9, .if_icmp .gt 19, 3),
  (12, .iload_n 1, 1),
  (13, .bipush (-30), 2),
  (15, .if_icmp .lt 13, 3),
  (18, .iload_n 1, 1),
  (19, .bipush 30, 2),
  (21, .if_icmp .gt 7, 3),
  (24, .iconst 1, 1),
  (25, .goto 4, 3),
  (28, .iconst 0, 1),
  (29, .ireturn, 1)]
set_option maxRecDepth 100000 in
theorem tX9_isSquare_ok : ∀ q ∈ tX9_isSquare, decode cX9_isSquare q.1 = .ok q.2 := by decide +kernel
theorem dX9_isSquare_0 : decode cX9_isSquare 0 = .ok (.iload_n 0, 1) := tX9_isSquare_ok (0, .iload_n 0, 1) (List.mem_of_getElem? (i := 0) rfl)
theorem dX9_isSquare_1 : decode cX9_isSquare 1 = .ok (.bipush (-30), 2) := tX9_isSquare_ok (1, .bipush (-30), 2) (List.mem_of_getElem? (i := 1) rfl)
theorem dX9_isSquare_3 : decode cX9_isSquare 3 = .ok (.if_icmp .lt 25, 3) := tX9_isSquare_ok (3, .if_icmp .lt 25, 3) (List.mem_of_getElem? (i := 2) rfl)
theorem dX9_isSquare_6 : decode cX9_isSquare 6 = .ok (.iload_n 0, 1) := tX9_isSquare_ok (6, .iload_n 0, 1) (List.mem_of_getElem? (i := 3) rfl)
theorem dX9_isSquare_7 : decode cX9_isSquare 7 = .ok (.bipush 30, 2) := tX9_isSquare_ok (7, .bipush 30, 2) (List.mem_of_getElem? (i := 4) rfl)
theorem dX9_isSquare_9 : decode cX9_isSquare 9 = .ok (.if_icmp .gt 19, 3) := tX9_isSquare_ok (9, .if_icmp .gt 19, 3) (List.mem_of_getElem? (i := 5) rfl)
theorem dX9_isSquare_12 : decode cX9_isSquare 12 = .ok (.iload_n 1, 1) := tX9_isSquare_ok (12, .iload_n 1, 1) (List.mem_of_getElem? (i := 6) rfl)
theorem dX9_isSquare_13 : decode cX9_isSquare 13 = .ok (.bipush (-30), 2) := tX9_isSquare_ok (13, .bipush (-30), 2) (List.mem_of_getElem? (i := 7) rfl)
theorem dX9_isSquare_15 : decode cX9_isSquare 15 = .ok (.if_icmp .lt 13, 3) := tX9_isSquare_ok (15, .if_icmp .lt 13, 3) (List.mem_of_getElem? (i := 8) rfl)
theorem dX9_isSquare_18 : decode cX9_isSquare 18 = .ok (.iload_n 1, 1) := tX9_isSquare_ok (18, .iload_n 1, 1) (List.mem_of_getElem? (i := 9) rfl)
theorem dX9_isSquare_19 : decode cX9_isSquare 19 = .ok (.bipush 30, 2) := tX9_isSquare_ok (19, .bipush 30, 2) (List.mem_of_getElem? (i := 10) rfl)
theorem dX9_isSquare_21 : decode cX9_isSquare 21 = .ok (.if_icmp .gt 7, 3) := tX9_isSquare_ok (21, .if_icmp .gt 7, 3) (List.mem_of_getElem? (i := 11) rfl)
theorem dX9_isSquare_24 : decode cX9_isSquare 24 = .ok (.iconst 1, 1) := tX9_isSquare_ok (24, .iconst 1, 1) (List.mem_of_getElem? (i := 12) rfl)
theorem dX9_isSquare_25 : decode cX9_isSquare 25 = .ok (.goto 4, 3) := tX9_isSquare_ok (25, .goto 4, 3) (List.mem_of_getElem? (i := 13) rfl)
theorem dX9_isSquare_28 : decode cX9_isSquare 28 = .ok (.iconst 0, 1) := tX9_isSquare_ok (28, .iconst 0, 1) (List.mem_of_getElem? (i := 14) rfl)
theorem dX9_isSquare_29 : decode cX9_isSquare 29 = .ok (.ireturn, 1) := tX9_isSquare_ok (29, .ireturn, 1) (List.mem_of_getElem? (i := 15) rfl)

def tX9_squareOf : List (Nat × Instr × Nat) := [
  (0, .bipush 61, 2),
  (2, .iload_n 0, 1),
  (3, .bipush 30, 2),
  (5, .iadd, 1),
  (6, .imul, 1),
  (7, .iload_n 1, 1),
  (8, .iadd, 1),
  (9, .bipush 30, 2),
  (11, .iadd, 1),
  (12, .ireturn, 1)]
set_option maxRecDepth 100000 in
theorem tX9_squareOf_ok : ∀ q ∈ tX9_squareOf, decode cX9_squareOf q.1 = .ok q.2 := by decide +kernel
theorem dX9_squareOf_0 : decode cX9_squareOf 0 = .ok (.bipush 61, 2) := tX9_squareOf_ok (0, .bipush 61, 2) (List.mem_of_getElem? (i := 0) rfl)
theorem dX9_squareOf_2 : decode cX9_squareOf 2 = .ok (.iload_n 0, 1) := tX9_squareOf_ok (2, .iload_n 0, 1) (List.mem_of_getElem? (i := 1) rfl)
theorem dX9_squareOf_3 : decode cX9_squareOf 3 = .ok (.bipush 30, 2) := tX9_squareOf_ok (3, .bipush 30, 2) (List.mem_of_getElem? (i := 2) rfl)
theorem dX9_squareOf_5 : decode cX9_squareOf 5 = .ok (.iadd, 1) := tX9_squareOf_ok (5, .iadd, 1) (List.mem_of_getElem? (i := 3) rfl)
theorem dX9_squareOf_6 : decode cX9_squareOf 6 = .ok (.imul, 1) := tX9_squareOf_ok (6, .imul, 1) (List.mem_of_getElem? (i := 4) rfl)
theorem dX9_squareOf_7 : decode cX9_squareOf 7 = .ok (.iload_n 1, 1) := tX9_squareOf_ok (7, .iload_n 1, 1) (List.mem_of_getElem? (i := 5) rfl)
theorem dX9_squareOf_8 : decode cX9_squareOf 8 = .ok (.iadd, 1) := tX9_squareOf_ok (8, .iadd, 1) (List.mem_of_getElem? (i := 6) rfl)
theorem dX9_squareOf_9 : decode cX9_squareOf 9 = .ok (.bipush 30, 2) := tX9_squareOf_ok (9, .bipush 30, 2) (List.mem_of_getElem? (i := 7) rfl)
theorem dX9_squareOf_11 : decode cX9_squareOf 11 = .ok (.iadd, 1) := tX9_squareOf_ok (11, .iadd, 1) (List.mem_of_getElem? (i := 8) rfl)
theorem dX9_squareOf_12 : decode cX9_squareOf 12 = .ok (.ireturn, 1) := tX9_squareOf_ok (12, .ireturn, 1) (List.mem_of_getElem? (i := 9) rfl)

def tX9_xOf : List (Nat × Instr × Nat) := [
  (0, .iload_n 0, 1),
  (1, .bipush 61, 2),
  (3, .idiv, 1),
  (4, .bipush 30, 2),
  (6, .isub, 1),
  (7, .ireturn, 1)]
set_option maxRecDepth 100000 in
theorem tX9_xOf_ok : ∀ q ∈ tX9_xOf, decode cX9_xOf q.1 = .ok q.2 := by decide +kernel
theorem dX9_xOf_0 : decode cX9_xOf 0 = .ok (.iload_n 0, 1) := tX9_xOf_ok (0, .iload_n 0, 1) (List.mem_of_getElem? (i := 0) rfl)
theorem dX9_xOf_1 : decode cX9_xOf 1 = .ok (.bipush 61, 2) := tX9_xOf_ok (1, .bipush 61, 2) (List.mem_of_getElem? (i := 1) rfl)
theorem dX9_xOf_3 : decode cX9_xOf 3 = .ok (.idiv, 1) := tX9_xOf_ok (3, .idiv, 1) (List.mem_of_getElem? (i := 2) rfl)
theorem dX9_xOf_4 : decode cX9_xOf 4 = .ok (.bipush 30, 2) := tX9_xOf_ok (4, .bipush 30, 2) (List.mem_of_getElem? (i := 3) rfl)
theorem dX9_xOf_6 : decode cX9_xOf 6 = .ok (.isub, 1) := tX9_xOf_ok (6, .isub, 1) (List.mem_of_getElem? (i := 4) rfl)
theorem dX9_xOf_7 : decode cX9_xOf 7 = .ok (.ireturn, 1) := tX9_xOf_ok (7, .ireturn, 1) (List.mem_of_getElem? (i := 5) rfl)

def tX9_yOf : List (Nat × Instr × Nat) := [
  (0, .iload_n 0, 1),
  (1, .bipush 61, 2),
  (3, .irem, 1),
  (4, .bipush 30, 2),
  (6, .isub, 1),
  (7, .ireturn, 1)]
set_option maxRecDepth 100000 in
theorem tX9_yOf_ok : ∀ q ∈ tX9_yOf, decode cX9_yOf q.1 = .ok q.2 := by decide +kernel
theorem dX9_yOf_0 : decode cX9_yOf 0 = .ok (.iload_n 0, 1) := tX9_yOf_ok (0, .iload_n 0, 1) (List.mem_of_getElem? (i := 0) rfl)
theorem dX9_yOf_1 : decode cX9_yOf 1 = .ok (.bipush 61, 2) := tX9_yOf_ok (1, .bipush 61, 2) (List.mem_of_getElem? (i := 1) rfl)
theorem dX9_yOf_3 : decode cX9_yOf 3 = .ok (.irem, 1) := tX9_yOf_ok (3, .irem, 1) (List.mem_of_getElem? (i := 2) rfl)
theorem dX9_yOf_4 : decode cX9_yOf 4 = .ok (.bipush 30, 2) := tX9_yOf_ok (4, .bipush 30, 2) (List.mem_of_getElem? (i := 3) rfl)
theorem dX9_yOf_6 : decode cX9_yOf 6 = .ok (.isub, 1) := tX9_yOf_ok (6, .isub, 1) (List.mem_of_getElem? (i := 4) rfl)
theorem dX9_yOf_7 : decode cX9_yOf 7 = .ok (.ireturn, 1) := tX9_yOf_ok (7, .ireturn, 1) (List.mem_of_getElem? (i := 5) rfl)

def tX9_isIn : List (Nat × Instr × Nat) := [
  (0, .iload_n 1, 1),
  (1, .tableswitch 91 1 4 #[31, 41, 59, 73], 31),
  (32, .iload_n 3, 1),
  (33, .ifCond .lt 7, 3),
  (36, .iconst 1, 1),
  (37, .goto 4, 3),
  (40, .iconst 0, 1),
  (41, .ireturn, 1),
  (42, .iload_n 3, 1),
  (43, .ifCond .lt 15, 3),
  (46, .iload_n 3, 1),
  (47, .aload_n 0, 1),
  (48, .getfield 23, 3),
  (51, .if_icmp .gt 7, 3),
  (54, .iconst 1, 1),
  (55, .goto 4, 3),
  (58, .iconst 0, 1),
  (59, .ireturn, 1),
  (60, .iload_n 2, 1),
  (61, .ifCond .lt 11, 3),
  (64, .iload_n 3, 1),
  (65, .ifCond .lt 7, 3),
  (68, .iconst 1, 1),
  (69, .goto 4, 3),
  (72, .iconst 0, 1),
  (73, .ireturn, 1),
  (74, .iload_n 2, 1),
  (75, .ifCond .lt 15, 3),
  (78, .iload_n 2, 1),
  (79, .aload_n 0, 1),
  (80, .getfield 26, 3),
  (83, .if_icmp .ge 7, 3),
  (86, .iconst 1, 1),
  (87, .goto 4, 3),
  (90, .iconst 0, 1),
  (91, .ireturn, 1),
  (92, .iconst 1, 1),
  (93, .ireturn, 1)]
set_option maxRecDepth 100000 in
theorem tX9_isIn_ok : ∀ q ∈ tX9_isIn, decode cX9_isIn q.1 = .ok q.2 := by decide +kernel
theorem dX9_isIn_0 : decode cX9_isIn 0 = .ok (.iload_n 1, 1) := tX9_isIn_ok (0, .iload_n 1, 1) (List.mem_of_getElem? (i := 0) rfl)
theorem dX9_isIn_1 : decode cX9_isIn 1 = .ok (.tableswitch 91 1 4 #[31, 41, 59, 73], 31) := tX9_isIn_ok (1, .tableswitch 91 1 4 #[31, 41, 59, 73], 31) (List.mem_of_getElem? (i := 1) rfl)
theorem dX9_isIn_32 : decode cX9_isIn 32 = .ok (.iload_n 3, 1) := tX9_isIn_ok (32, .iload_n 3, 1) (List.mem_of_getElem? (i := 2) rfl)
theorem dX9_isIn_33 : decode cX9_isIn 33 = .ok (.ifCond .lt 7, 3) := tX9_isIn_ok (33, .ifCond .lt 7, 3) (List.mem_of_getElem? (i := 3) rfl)
theorem dX9_isIn_36 : decode cX9_isIn 36 = .ok (.iconst 1, 1) := tX9_isIn_ok (36, .iconst 1, 1) (List.mem_of_getElem? (i := 4) rfl)
theorem dX9_isIn_37 : decode cX9_isIn 37 = .ok (.goto 4, 3) := tX9_isIn_ok (37, .goto 4, 3) (List.mem_of_getElem? (i := 5) rfl)
theorem dX9_isIn_40 : decode cX9_isIn 40 = .ok (.iconst 0, 1) := tX9_isIn_ok (40, .iconst 0, 1) (List.mem_of_getElem? (i := 6) rfl)
theorem dX9_isIn_41 : decode cX9_isIn 41 = .ok (.ireturn, 1) := tX9_isIn_ok (41, .ireturn, 1) (List.mem_of_getElem? (i := 7) rfl)
theorem dX9_isIn_42 : decode cX9_isIn 42 = .ok (.iload_n 3, 1) := tX9_isIn_ok (42, .iload_n 3, 1) (List.mem_of_getElem? (i := 8) rfl)
theorem dX9_isIn_43 : decode cX9_isIn 43 = .ok (.ifCond .lt 15, 3) := tX9_isIn_ok (43, .ifCond .lt 15, 3) (List.mem_of_getElem? (i := 9) rfl)
theorem dX9_isIn_46 : decode cX9_isIn 46 = .ok (.iload_n 3, 1) := tX9_isIn_ok (46, .iload_n 3, 1) (List.mem_of_getElem? (i := 10) rfl)
theorem dX9_isIn_47 : decode cX9_isIn 47 = .ok (.aload_n 0, 1) := tX9_isIn_ok (47, .aload_n 0, 1) (List.mem_of_getElem? (i := 11) rfl)
theorem dX9_isIn_48 : decode cX9_isIn 48 = .ok (.getfield 23, 3) := tX9_isIn_ok (48, .getfield 23, 3) (List.mem_of_getElem? (i := 12) rfl)
theorem dX9_isIn_51 : decode cX9_isIn 51 = .ok (.if_icmp .gt 7, 3) := tX9_isIn_ok (51, .if_icmp .gt 7, 3) (List.mem_of_getElem? (i := 13) rfl)
theorem dX9_isIn_54 : decode cX9_isIn 54 = .ok (.iconst 1, 1) := tX9_isIn_ok (54, .iconst 1, 1) (List.mem_of_getElem? (i := 14) rfl)
theorem dX9_isIn_55 : decode cX9_isIn 55 = .ok (.goto 4, 3) := tX9_isIn_ok (55, .goto 4, 3) (List.mem_of_getElem? (i := 15) rfl)
theorem dX9_isIn_58 : decode cX9_isIn 58 = .ok (.iconst 0, 1) := tX9_isIn_ok (58, .iconst 0, 1) (List.mem_of_getElem? (i := 16) rfl)
theorem dX9_isIn_59 : decode cX9_isIn 59 = .ok (.ireturn, 1) := tX9_isIn_ok (59, .ireturn, 1) (List.mem_of_getElem? (i := 17) rfl)
theorem dX9_isIn_60 : decode cX9_isIn 60 = .ok (.iload_n 2, 1) := tX9_isIn_ok (60, .iload_n 2, 1) (List.mem_of_getElem? (i := 18) rfl)
theorem dX9_isIn_61 : decode cX9_isIn 61 = .ok (.ifCond .lt 11, 3) := tX9_isIn_ok (61, .ifCond .lt 11, 3) (List.mem_of_getElem? (i := 19) rfl)
theorem dX9_isIn_64 : decode cX9_isIn 64 = .ok (.iload_n 3, 1) := tX9_isIn_ok (64, .iload_n 3, 1) (List.mem_of_getElem? (i := 20) rfl)
theorem dX9_isIn_65 : decode cX9_isIn 65 = .ok (.ifCond .lt 7, 3) := tX9_isIn_ok (65, .ifCond .lt 7, 3) (List.mem_of_getElem? (i := 21) rfl)
theorem dX9_isIn_68 : decode cX9_isIn 68 = .ok (.iconst 1, 1) := tX9_isIn_ok (68, .iconst 1, 1) (List.mem_of_getElem? (i := 22) rfl)
theorem dX9_isIn_69 : decode cX9_isIn 69 = .ok (.goto 4, 3) := tX9_isIn_ok (69, .goto 4, 3) (List.mem_of_getElem? (i := 23) rfl)
theorem dX9_isIn_72 : decode cX9_isIn 72 = .ok (.iconst 0, 1) := tX9_isIn_ok (72, .iconst 0, 1) (List.mem_of_getElem? (i := 24) rfl)
theorem dX9_isIn_73 : decode cX9_isIn 73 = .ok (.ireturn, 1) := tX9_isIn_ok (73, .ireturn, 1) (List.mem_of_getElem? (i := 25) rfl)
theorem dX9_isIn_74 : decode cX9_isIn 74 = .ok (.iload_n 2, 1) := tX9_isIn_ok (74, .iload_n 2, 1) (List.mem_of_getElem? (i := 26) rfl)
theorem dX9_isIn_75 : decode cX9_isIn 75 = .ok (.ifCond .lt 15, 3) := tX9_isIn_ok (75, .ifCond .lt 15, 3) (List.mem_of_getElem? (i := 27) rfl)
theorem dX9_isIn_78 : decode cX9_isIn 78 = .ok (.iload_n 2, 1) := tX9_isIn_ok (78, .iload_n 2, 1) (List.mem_of_getElem? (i := 28) rfl)
theorem dX9_isIn_79 : decode cX9_isIn 79 = .ok (.aload_n 0, 1) := tX9_isIn_ok (79, .aload_n 0, 1) (List.mem_of_getElem? (i := 29) rfl)
theorem dX9_isIn_80 : decode cX9_isIn 80 = .ok (.getfield 26, 3) := tX9_isIn_ok (80, .getfield 26, 3) (List.mem_of_getElem? (i := 30) rfl)
theorem dX9_isIn_83 : decode cX9_isIn 83 = .ok (.if_icmp .ge 7, 3) := tX9_isIn_ok (83, .if_icmp .ge 7, 3) (List.mem_of_getElem? (i := 31) rfl)
theorem dX9_isIn_86 : decode cX9_isIn 86 = .ok (.iconst 1, 1) := tX9_isIn_ok (86, .iconst 1, 1) (List.mem_of_getElem? (i := 32) rfl)
theorem dX9_isIn_87 : decode cX9_isIn 87 = .ok (.goto 4, 3) := tX9_isIn_ok (87, .goto 4, 3) (List.mem_of_getElem? (i := 33) rfl)
theorem dX9_isIn_90 : decode cX9_isIn 90 = .ok (.iconst 0, 1) := tX9_isIn_ok (90, .iconst 0, 1) (List.mem_of_getElem? (i := 34) rfl)
theorem dX9_isIn_91 : decode cX9_isIn 91 = .ok (.ireturn, 1) := tX9_isIn_ok (91, .ireturn, 1) (List.mem_of_getElem? (i := 35) rfl)
theorem dX9_isIn_92 : decode cX9_isIn 92 = .ok (.iconst 1, 1) := tX9_isIn_ok (92, .iconst 1, 1) (List.mem_of_getElem? (i := 36) rfl)
theorem dX9_isIn_93 : decode cX9_isIn 93 = .ok (.ireturn, 1) := tX9_isIn_ok (93, .ireturn, 1) (List.mem_of_getElem? (i := 37) rfl)

def tX9_isOpen : List (Nat × Instr × Nat) := [
  (0, .iload_n 1, 1),
  (1, .iload_n 2, 1),
  (2, .invokestatic 133, 3),
  (5, .ifCond .eq 33, 3),
  (8, .aload_n 0, 1),
  (9, .aload_n 0, 1),
  (10, .getfield 137, 3),
  (13, .iload_n 1, 1),
  (14, .iload_n 2, 1),
  (15, .invokevirtual 140, 3),
  (18, .ifCond .eq 20, 3),
  (21, .aload_n 0, 1),
  (22, .getfield 38, 3),
  (25, .iload_n 1, 1),
  (26, .iload_n 2, 1),
  (27, .invokestatic 144, 3),
  (30, .baload, 1),
  (31, .ifCond .ne 7, 3),
  (34, .iconst 1, 1),
  (35, .goto 4, 3),
  (38, .iconst 0, 1),
  (39, .ireturn, 1)]
set_option maxRecDepth 100000 in
theorem tX9_isOpen_ok : ∀ q ∈ tX9_isOpen, decode cX9_isOpen q.1 = .ok q.2 := by decide +kernel
theorem dX9_isOpen_0 : decode cX9_isOpen 0 = .ok (.iload_n 1, 1) := tX9_isOpen_ok (0, .iload_n 1, 1) (List.mem_of_getElem? (i := 0) rfl)
theorem dX9_isOpen_1 : decode cX9_isOpen 1 = .ok (.iload_n 2, 1) := tX9_isOpen_ok (1, .iload_n 2, 1) (List.mem_of_getElem? (i := 1) rfl)
theorem dX9_isOpen_2 : decode cX9_isOpen 2 = .ok (.invokestatic 133, 3) := tX9_isOpen_ok (2, .invokestatic 133, 3) (List.mem_of_getElem? (i := 2) rfl)
theorem dX9_isOpen_5 : decode cX9_isOpen 5 = .ok (.ifCond .eq 33, 3) := tX9_isOpen_ok (5, .ifCond .eq 33, 3) (List.mem_of_getElem? (i := 3) rfl)
theorem dX9_isOpen_8 : decode cX9_isOpen 8 = .ok (.aload_n 0, 1) := tX9_isOpen_ok (8, .aload_n 0, 1) (List.mem_of_getElem? (i := 4) rfl)
theorem dX9_isOpen_9 : decode cX9_isOpen 9 = .ok (.aload_n 0, 1) := tX9_isOpen_ok (9, .aload_n 0, 1) (List.mem_of_getElem? (i := 5) rfl)
theorem dX9_isOpen_10 : decode cX9_isOpen 10 = .ok (.getfield 137, 3) := tX9_isOpen_ok (10, .getfield 137, 3) (List.mem_of_getElem? (i := 6) rfl)
theorem dX9_isOpen_13 : decode cX9_isOpen 13 = .ok (.iload_n 1, 1) := tX9_isOpen_ok (13, .iload_n 1, 1) (List.mem_of_getElem? (i := 7) rfl)
theorem dX9_isOpen_14 : decode cX9_isOpen 14 = .ok (.iload_n 2, 1) := tX9_isOpen_ok (14, .iload_n 2, 1) (List.mem_of_getElem? (i := 8) rfl)
theorem dX9_isOpen_15 : decode cX9_isOpen 15 = .ok (.invokevirtual 140, 3) := tX9_isOpen_ok (15, .invokevirtual 140, 3) (List.mem_of_getElem? (i := 9) rfl)
theorem dX9_isOpen_18 : decode cX9_isOpen 18 = .ok (.ifCond .eq 20, 3) := tX9_isOpen_ok (18, .ifCond .eq 20, 3) (List.mem_of_getElem? (i := 10) rfl)
theorem dX9_isOpen_21 : decode cX9_isOpen 21 = .ok (.aload_n 0, 1) := tX9_isOpen_ok (21, .aload_n 0, 1) (List.mem_of_getElem? (i := 11) rfl)
theorem dX9_isOpen_22 : decode cX9_isOpen 22 = .ok (.getfield 38, 3) := tX9_isOpen_ok (22, .getfield 38, 3) (List.mem_of_getElem? (i := 12) rfl)
theorem dX9_isOpen_25 : decode cX9_isOpen 25 = .ok (.iload_n 1, 1) := tX9_isOpen_ok (25, .iload_n 1, 1) (List.mem_of_getElem? (i := 13) rfl)
theorem dX9_isOpen_26 : decode cX9_isOpen 26 = .ok (.iload_n 2, 1) := tX9_isOpen_ok (26, .iload_n 2, 1) (List.mem_of_getElem? (i := 14) rfl)
theorem dX9_isOpen_27 : decode cX9_isOpen 27 = .ok (.invokestatic 144, 3) := tX9_isOpen_ok (27, .invokestatic 144, 3) (List.mem_of_getElem? (i := 15) rfl)
theorem dX9_isOpen_30 : decode cX9_isOpen 30 = .ok (.baload, 1) := tX9_isOpen_ok (30, .baload, 1) (List.mem_of_getElem? (i := 16) rfl)
theorem dX9_isOpen_31 : decode cX9_isOpen 31 = .ok (.ifCond .ne 7, 3) := tX9_isOpen_ok (31, .ifCond .ne 7, 3) (List.mem_of_getElem? (i := 17) rfl)
theorem dX9_isOpen_34 : decode cX9_isOpen 34 = .ok (.iconst 1, 1) := tX9_isOpen_ok (34, .iconst 1, 1) (List.mem_of_getElem? (i := 18) rfl)
theorem dX9_isOpen_35 : decode cX9_isOpen 35 = .ok (.goto 4, 3) := tX9_isOpen_ok (35, .goto 4, 3) (List.mem_of_getElem? (i := 19) rfl)
theorem dX9_isOpen_38 : decode cX9_isOpen 38 = .ok (.iconst 0, 1) := tX9_isOpen_ok (38, .iconst 0, 1) (List.mem_of_getElem? (i := 20) rfl)
theorem dX9_isOpen_39 : decode cX9_isOpen 39 = .ok (.ireturn, 1) := tX9_isOpen_ok (39, .ireturn, 1) (List.mem_of_getElem? (i := 21) rfl)

def tX9_next : List (Nat × Instr × Nat) := [
  (0, .iload_n 1, 1),
  (1, .invokestatic 147, 3),
  (4, .aload_n 0, 1),
  (5, .getfield 29, 3),
  (8, .iload_n 2, 1),
  (9, .iaload, 1),
  (10, .iadd, 1),
  (11, .istore_n 3, 1),
  (12, .iload_n 1, 1),
  (13, .invokestatic 150, 3),
  (16, .aload_n 0, 1),
  (17, .getfield 32, 3),
  (20, .iload_n 2, 1),
  (21, .iaload, 1),
  (22, .iadd, 1),
  (23, .istore 4, 2),
  (25, .aload_n 0, 1),
  (26, .getfield 137, 3),
  (29, .iconst 4, 1),
  (30, .if_icmp .ne 20, 3),
  (33, .iload_n 3, 1),
  (34, .aload_n 0, 1),
  (35, .getfield 26, 3),
  (38, .irem, 1),
  (39, .aload_n 0, 1),
  (40, .getfield 26, 3),
  (43, .iadd, 1),
  (44, .aload_n 0, 1),
  (45, .getfield 26, 3),
  (48, .irem, 1),
  (49, .istore_n 3, 1),
  (50, .aload_n 0, 1),
  (51, .iload_n 3, 1),
  (52, .iload 4, 2),
  (54, .invokevirtual 153, 3),
  (57, .ifCond .eq 12, 3),
  (60, .iload_n 3, 1),
  (61, .iload 4, 2),
  (63, .invokestatic 144, 3),
  (66, .goto 4, 3),
  (69, .iconst (-1), 1),
  (70, .ireturn, 1)]
set_option maxRecDepth 100000 in
theorem tX9_next_ok : ∀ q ∈ tX9_next, decode cX9_next q.1 = .ok q.2 := by decide +kernel
theorem dX9_next_0 : decode cX9_next 0 = .ok (.iload_n 1, 1) := tX9_next_ok (0, .iload_n 1, 1) (List.mem_of_getElem? (i := 0) rfl)
theorem dX9_next_1 : decode cX9_next 1 = .ok (.invokestatic 147, 3) := tX9_next_ok (1, .invokestatic 147, 3) (List.mem_of_getElem? (i := 1) rfl)
theorem dX9_next_4 : decode cX9_next 4 = .ok (.aload_n 0, 1) := tX9_next_ok (4, .aload_n 0, 1) (List.mem_of_getElem? (i := 2) rfl)
theorem dX9_next_5 : decode cX9_next 5 = .ok (.getfield 29, 3) := tX9_next_ok (5, .getfield 29, 3) (List.mem_of_getElem? (i := 3) rfl)
theorem dX9_next_8 : decode cX9_next 8 = .ok (.iload_n 2, 1) := tX9_next_ok (8, .iload_n 2, 1) (List.mem_of_getElem? (i := 4) rfl)
theorem dX9_next_9 : decode cX9_next 9 = .ok (.iaload, 1) := tX9_next_ok (9, .iaload, 1) (List.mem_of_getElem? (i := 5) rfl)
theorem dX9_next_10 : decode cX9_next 10 = .ok (.iadd, 1) := tX9_next_ok (10, .iadd, 1) (List.mem_of_getElem? (i := 6) rfl)
theorem dX9_next_11 : decode cX9_next 11 = .ok (.istore_n 3, 1) := tX9_next_ok (11, .istore_n 3, 1) (List.mem_of_getElem? (i := 7) rfl)
theorem dX9_next_12 : decode cX9_next 12 = .ok (.iload_n 1, 1) := tX9_next_ok (12, .iload_n 1, 1) (List.mem_of_getElem? (i := 8) rfl)
theorem dX9_next_13 : decode cX9_next 13 = .ok (.invokestatic 150, 3) := tX9_next_ok (13, .invokestatic 150, 3) (List.mem_of_getElem? (i := 9) rfl)
theorem dX9_next_16 : decode cX9_next 16 = .ok (.aload_n 0, 1) := tX9_next_ok (16, .aload_n 0, 1) (List.mem_of_getElem? (i := 10) rfl)
theorem dX9_next_17 : decode cX9_next 17 = .ok (.getfield 32, 3) := tX9_next_ok (17, .getfield 32, 3) (List.mem_of_getElem? (i := 11) rfl)
theorem dX9_next_20 : decode cX9_next 20 = .ok (.iload_n 2, 1) := tX9_next_ok (20, .iload_n 2, 1) (List.mem_of_getElem? (i := 12) rfl)
theorem dX9_next_21 : decode cX9_next 21 = .ok (.iaload, 1) := tX9_next_ok (21, .iaload, 1) (List.mem_of_getElem? (i := 13) rfl)
theorem dX9_next_22 : decode cX9_next 22 = .ok (.iadd, 1) := tX9_next_ok (22, .iadd, 1) (List.mem_of_getElem? (i := 14) rfl)
theorem dX9_next_23 : decode cX9_next 23 = .ok (.istore 4, 2) := tX9_next_ok (23, .istore 4, 2) (List.mem_of_getElem? (i := 15) rfl)
theorem dX9_next_25 : decode cX9_next 25 = .ok (.aload_n 0, 1) := tX9_next_ok (25, .aload_n 0, 1) (List.mem_of_getElem? (i := 16) rfl)
theorem dX9_next_26 : decode cX9_next 26 = .ok (.getfield 137, 3) := tX9_next_ok (26, .getfield 137, 3) (List.mem_of_getElem? (i := 17) rfl)
theorem dX9_next_29 : decode cX9_next 29 = .ok (.iconst 4, 1) := tX9_next_ok (29, .iconst 4, 1) (List.mem_of_getElem? (i := 18) rfl)
theorem dX9_next_30 : decode cX9_next 30 = .ok (.if_icmp .ne 20, 3) := tX9_next_ok (30, .if_icmp .ne 20, 3) (List.mem_of_getElem? (i := 19) rfl)
theorem dX9_next_33 : decode cX9_next 33 = .ok (.iload_n 3, 1) := tX9_next_ok (33, .iload_n 3, 1) (List.mem_of_getElem? (i := 20) rfl)
theorem dX9_next_34 : decode cX9_next 34 = .ok (.aload_n 0, 1) := tX9_next_ok (34, .aload_n 0, 1) (List.mem_of_getElem? (i := 21) rfl)
theorem dX9_next_35 : decode cX9_next 35 = .ok (.getfield 26, 3) := tX9_next_ok (35, .getfield 26, 3) (List.mem_of_getElem? (i := 22) rfl)
theorem dX9_next_38 : decode cX9_next 38 = .ok (.irem, 1) := tX9_next_ok (38, .irem, 1) (List.mem_of_getElem? (i := 23) rfl)
theorem dX9_next_39 : decode cX9_next 39 = .ok (.aload_n 0, 1) := tX9_next_ok (39, .aload_n 0, 1) (List.mem_of_getElem? (i := 24) rfl)
theorem dX9_next_40 : decode cX9_next 40 = .ok (.getfield 26, 3) := tX9_next_ok (40, .getfield 26, 3) (List.mem_of_getElem? (i := 25) rfl)
theorem dX9_next_43 : decode cX9_next 43 = .ok (.iadd, 1) := tX9_next_ok (43, .iadd, 1) (List.mem_of_getElem? (i := 26) rfl)
theorem dX9_next_44 : decode cX9_next 44 = .ok (.aload_n 0, 1) := tX9_next_ok (44, .aload_n 0, 1) (List.mem_of_getElem? (i := 27) rfl)
theorem dX9_next_45 : decode cX9_next 45 = .ok (.getfield 26, 3) := tX9_next_ok (45, .getfield 26, 3) (List.mem_of_getElem? (i := 28) rfl)
theorem dX9_next_48 : decode cX9_next 48 = .ok (.irem, 1) := tX9_next_ok (48, .irem, 1) (List.mem_of_getElem? (i := 29) rfl)
theorem dX9_next_49 : decode cX9_next 49 = .ok (.istore_n 3, 1) := tX9_next_ok (49, .istore_n 3, 1) (List.mem_of_getElem? (i := 30) rfl)
theorem dX9_next_50 : decode cX9_next 50 = .ok (.aload_n 0, 1) := tX9_next_ok (50, .aload_n 0, 1) (List.mem_of_getElem? (i := 31) rfl)
theorem dX9_next_51 : decode cX9_next 51 = .ok (.iload_n 3, 1) := tX9_next_ok (51, .iload_n 3, 1) (List.mem_of_getElem? (i := 32) rfl)
theorem dX9_next_52 : decode cX9_next 52 = .ok (.iload 4, 2) := tX9_next_ok (52, .iload 4, 2) (List.mem_of_getElem? (i := 33) rfl)
theorem dX9_next_54 : decode cX9_next 54 = .ok (.invokevirtual 153, 3) := tX9_next_ok (54, .invokevirtual 153, 3) (List.mem_of_getElem? (i := 34) rfl)
theorem dX9_next_57 : decode cX9_next 57 = .ok (.ifCond .eq 12, 3) := tX9_next_ok (57, .ifCond .eq 12, 3) (List.mem_of_getElem? (i := 35) rfl)
theorem dX9_next_60 : decode cX9_next 60 = .ok (.iload_n 3, 1) := tX9_next_ok (60, .iload_n 3, 1) (List.mem_of_getElem? (i := 36) rfl)
theorem dX9_next_61 : decode cX9_next 61 = .ok (.iload 4, 2) := tX9_next_ok (61, .iload 4, 2) (List.mem_of_getElem? (i := 37) rfl)
theorem dX9_next_63 : decode cX9_next 63 = .ok (.invokestatic 144, 3) := tX9_next_ok (63, .invokestatic 144, 3) (List.mem_of_getElem? (i := 38) rfl)
theorem dX9_next_66 : decode cX9_next 66 = .ok (.goto 4, 3) := tX9_next_ok (66, .goto 4, 3) (List.mem_of_getElem? (i := 39) rfl)
theorem dX9_next_69 : decode cX9_next 69 = .ok (.iconst (-1), 1) := tX9_next_ok (69, .iconst (-1), 1) (List.mem_of_getElem? (i := 40) rfl)
theorem dX9_next_70 : decode cX9_next 70 = .ok (.ireturn, 1) := tX9_next_ok (70, .ireturn, 1) (List.mem_of_getElem? (i := 41) rfl)

def tX9_steps : List (Nat × Instr × Nat) := [
  (0, .aload_n 0, 1),
  (1, .iconst 0, 1),
  (2, .putfield 112, 3),
  (5, .aload_n 0, 1),
  (6, .aload_n 0, 1),
  (7, .iload_n 1, 1),
  (8, .invokevirtual 122, 3),
  (11, .putfield 115, 3),
  (14, .aload_n 0, 1),
  (15, .getfield 115, 3),
  (18, .ifCond .le 5, 3),
  (21, .iconst 0, 1),
  (22, .ireturn, 1),
  (23, .iload_n 2, 1),
  (24, .iconst 1, 1),
  (25, .if_icmp .lt 9, 3),
  (28, .iload_n 2, 1),
  (29, .bipush 8, 2),
  (31, .if_icmp .le 9, 3),
  (34, .aload_n 0, 1),
  (35, .iconst 2, 1),
  (36, .invokevirtual 118, 3),
  (39, .ireturn, 1),
  (40, .iconst 2, 1),
  (41, .iload_n 2, 1),
  (42, .imul, 1),
  (43, .aload_n 0, 1),
  (44, .getfield 13, 3),
  (47, .iload_n 1, 1),
  (48, .iaload, 1),
  (49, .if_icmp .le 9, 3),
  (52, .aload_n 0, 1),
  (53, .iconst 4, 1),
  (54, .invokevirtual 118, 3),
  (57, .ireturn, 1),
  (58, .bipush 64, 2),
  (60, .iload_n 1, 1),
  (61, .imul, 1),
  (62, .istore_n 3, 1),
  (63, .iconst 0, 1),
  (64, .istore 4, 2),
  (66, .iload 4, 2),
  (68, .iload_n 2, 1),
  (69, .if_icmp .ge 153, 3),
  (72, .aload_n 0, 1),
  (73, .getfield 16, 3),
  (76, .iload_n 3, 1),
  (77, .iconst 2, 1),
  (78, .iload 4, 2),
  (80, .imul, 1),
  (81, .iadd, 1),
  (82, .iaload, 1),
  (83, .istore 5, 2),
  (85, .aload_n 0, 1),
  (86, .getfield 16, 3),
  (89, .iload_n 3, 1),
  (90, .iconst 2, 1),
  (91, .iload 4, 2),
  (93, .imul, 1),
  (94, .iadd, 1),
  (95, .iconst 1, 1),
  (96, .iadd, 1),
  (97, .iaload, 1),
  (98, .istore 6, 2),
  (100, .iload 5, 2),
  (102, .bipush (-3), 2),
  (104, .if_icmp .lt 36, 3),
  (107, .iload 5, 2),
  (109, .iconst 3, 1),
  (110, .if_icmp .gt 30, 3),
  (113, .iload 6, 2),
  (115, .bipush (-3), 2),
  (117, .if_icmp .lt 23, 3),
  (120, .iload 6, 2),
  (122, .iconst 3, 1),
  (123, .if_icmp .gt 17, 3),
  (126, .iload 5, 2),
  (128, .ifCond .ne 8, 3),
  (131, .iload 6, 2),
  (133, .ifCond .eq 7, 3),
  (136, .iconst 1, 1),
  (137, .goto 4, 3),
  (140, .iconst 0, 1),
  (141, .istore 7, 2),
  (143, .iconst 0, 1),
  (144, .istore 8, 2),
  (146, .iload 8, 2),
  (148, .iload 4, 2),
  (150, .if_icmp .ge 55, 3),
  (153, .iload 7, 2),
  (155, .ifCond .eq 41, 3),
  (158, .aload_n 0, 1),
  (159, .getfield 16, 3),
  (162, .iload_n 3, 1),
  (163, .iconst 2, 1),
  (164, .iload 8, 2),
  (166, .imul, 1),
  (167, .iadd, 1),
  (168, .iaload, 1),
  (169, .iload 5, 2),
  (171, .if_icmp .ne 21, 3),
  (174, .aload_n 0, 1),
  (175, .getfield 16, 3),
  (178, .iload_n 3, 1),
  (179, .iconst 2, 1),
  (180, .iload 8, 2),
  (182, .imul, 1),
  (183, .iadd, 1),
  (184, .iconst 1, 1),
  (185, .iadd, 1),
  (186, .iaload, 1),
  (187, .iload 6, 2),
  (189, .if_icmp .eq 7, 3),
  (192, .iconst 1, 1),
  (193, .goto 4, 3),
  (196, .iconst 0, 1),
  (197, .istore 7, 2),
  (199, .iinc 8 1, 3),
  (202, .goto (-56), 3),
  (205, .iload 7, 2),
  (207, .ifCond .ne 9, 3),
  (210, .aload_n 0, 1),
  (211, .iconst 2, 1),
  (212, .invokevirtual 118, 3),
  (215, .ireturn, 1),
  (216, .iinc 4 1, 3),
  (219, .goto (-153), 3),
  (222, .aload_n 0, 1),
  (223, .iload_n 2, 1),
  (224, .putfield 19, 3),
  (227, .iconst 0, 1),
  (228, .istore 4, 2),
  (230, .iload 4, 2),
  (232, .iload_n 2, 1),
  (233, .if_icmp .ge 55, 3),
  (236, .aload_n 0, 1),
  (237, .getfield 29, 3),
  (240, .iload 4, 2),
  (242, .aload_n 0, 1),
  (243, .getfield 16, 3),
  (246, .iload_n 3, 1),
  (247, .iconst 2, 1),
  (248, .iload 4, 2),
  (250, .imul, 1),
  (251, .iadd, 1),
  (252, .iaload, 1),
  (253, .iastore, 1),
  (254, .aload_n 0, 1),
  (255, .getfield 32, 3),
  (258, .iload 4, 2),
  (260, .aload_n 0, 1),
  (261, .getfield 16, 3),
  (264, .iload_n 3, 1),
  (265, .iconst 2, 1),
  (266, .iload 4, 2),
  (268, .imul, 1),
  (269, .iadd, 1),
  (270, .iconst 1, 1),
  (271, .iadd, 1),
  (272, .iaload, 1),
  (273, .iastore, 1),
  (274, .aload_n 0, 1),
  (275, .getfield 35, 3),
  (278, .iload 4, 2),
  (280, .iconst 1, 1),
  (281, .iastore, 1),
  (282, .iinc 4 1, 3),
  (285, .goto (-55), 3),
  (288, .iconst 1, 1),
  (289, .ireturn, 1)]
set_option maxRecDepth 100000 in
theorem tX9_steps_ok : ∀ q ∈ tX9_steps, decode cX9_steps q.1 = .ok q.2 := by decide +kernel
theorem dX9_steps_0 : decode cX9_steps 0 = .ok (.aload_n 0, 1) := tX9_steps_ok (0, .aload_n 0, 1) (List.mem_of_getElem? (i := 0) rfl)
theorem dX9_steps_1 : decode cX9_steps 1 = .ok (.iconst 0, 1) := tX9_steps_ok (1, .iconst 0, 1) (List.mem_of_getElem? (i := 1) rfl)
theorem dX9_steps_2 : decode cX9_steps 2 = .ok (.putfield 112, 3) := tX9_steps_ok (2, .putfield 112, 3) (List.mem_of_getElem? (i := 2) rfl)
theorem dX9_steps_5 : decode cX9_steps 5 = .ok (.aload_n 0, 1) := tX9_steps_ok (5, .aload_n 0, 1) (List.mem_of_getElem? (i := 3) rfl)
theorem dX9_steps_6 : decode cX9_steps 6 = .ok (.aload_n 0, 1) := tX9_steps_ok (6, .aload_n 0, 1) (List.mem_of_getElem? (i := 4) rfl)
theorem dX9_steps_7 : decode cX9_steps 7 = .ok (.iload_n 1, 1) := tX9_steps_ok (7, .iload_n 1, 1) (List.mem_of_getElem? (i := 5) rfl)
theorem dX9_steps_8 : decode cX9_steps 8 = .ok (.invokevirtual 122, 3) := tX9_steps_ok (8, .invokevirtual 122, 3) (List.mem_of_getElem? (i := 6) rfl)
theorem dX9_steps_11 : decode cX9_steps 11 = .ok (.putfield 115, 3) := tX9_steps_ok (11, .putfield 115, 3) (List.mem_of_getElem? (i := 7) rfl)
theorem dX9_steps_14 : decode cX9_steps 14 = .ok (.aload_n 0, 1) := tX9_steps_ok (14, .aload_n 0, 1) (List.mem_of_getElem? (i := 8) rfl)
theorem dX9_steps_15 : decode cX9_steps 15 = .ok (.getfield 115, 3) := tX9_steps_ok (15, .getfield 115, 3) (List.mem_of_getElem? (i := 9) rfl)
theorem dX9_steps_18 : decode cX9_steps 18 = .ok (.ifCond .le 5, 3) := tX9_steps_ok (18, .ifCond .le 5, 3) (List.mem_of_getElem? (i := 10) rfl)
theorem dX9_steps_21 : decode cX9_steps 21 = .ok (.iconst 0, 1) := tX9_steps_ok (21, .iconst 0, 1) (List.mem_of_getElem? (i := 11) rfl)
theorem dX9_steps_22 : decode cX9_steps 22 = .ok (.ireturn, 1) := tX9_steps_ok (22, .ireturn, 1) (List.mem_of_getElem? (i := 12) rfl)
theorem dX9_steps_23 : decode cX9_steps 23 = .ok (.iload_n 2, 1) := tX9_steps_ok (23, .iload_n 2, 1) (List.mem_of_getElem? (i := 13) rfl)
theorem dX9_steps_24 : decode cX9_steps 24 = .ok (.iconst 1, 1) := tX9_steps_ok (24, .iconst 1, 1) (List.mem_of_getElem? (i := 14) rfl)
theorem dX9_steps_25 : decode cX9_steps 25 = .ok (.if_icmp .lt 9, 3) := tX9_steps_ok (25, .if_icmp .lt 9, 3) (List.mem_of_getElem? (i := 15) rfl)
theorem dX9_steps_28 : decode cX9_steps 28 = .ok (.iload_n 2, 1) := tX9_steps_ok (28, .iload_n 2, 1) (List.mem_of_getElem? (i := 16) rfl)
theorem dX9_steps_29 : decode cX9_steps 29 = .ok (.bipush 8, 2) := tX9_steps_ok (29, .bipush 8, 2) (List.mem_of_getElem? (i := 17) rfl)
theorem dX9_steps_31 : decode cX9_steps 31 = .ok (.if_icmp .le 9, 3) := tX9_steps_ok (31, .if_icmp .le 9, 3) (List.mem_of_getElem? (i := 18) rfl)
theorem dX9_steps_34 : decode cX9_steps 34 = .ok (.aload_n 0, 1) := tX9_steps_ok (34, .aload_n 0, 1) (List.mem_of_getElem? (i := 19) rfl)
theorem dX9_steps_35 : decode cX9_steps 35 = .ok (.iconst 2, 1) := tX9_steps_ok (35, .iconst 2, 1) (List.mem_of_getElem? (i := 20) rfl)
theorem dX9_steps_36 : decode cX9_steps 36 = .ok (.invokevirtual 118, 3) := tX9_steps_ok (36, .invokevirtual 118, 3) (List.mem_of_getElem? (i := 21) rfl)
theorem dX9_steps_39 : decode cX9_steps 39 = .ok (.ireturn, 1) := tX9_steps_ok (39, .ireturn, 1) (List.mem_of_getElem? (i := 22) rfl)
theorem dX9_steps_40 : decode cX9_steps 40 = .ok (.iconst 2, 1) := tX9_steps_ok (40, .iconst 2, 1) (List.mem_of_getElem? (i := 23) rfl)
theorem dX9_steps_41 : decode cX9_steps 41 = .ok (.iload_n 2, 1) := tX9_steps_ok (41, .iload_n 2, 1) (List.mem_of_getElem? (i := 24) rfl)
theorem dX9_steps_42 : decode cX9_steps 42 = .ok (.imul, 1) := tX9_steps_ok (42, .imul, 1) (List.mem_of_getElem? (i := 25) rfl)
theorem dX9_steps_43 : decode cX9_steps 43 = .ok (.aload_n 0, 1) := tX9_steps_ok (43, .aload_n 0, 1) (List.mem_of_getElem? (i := 26) rfl)
theorem dX9_steps_44 : decode cX9_steps 44 = .ok (.getfield 13, 3) := tX9_steps_ok (44, .getfield 13, 3) (List.mem_of_getElem? (i := 27) rfl)
theorem dX9_steps_47 : decode cX9_steps 47 = .ok (.iload_n 1, 1) := tX9_steps_ok (47, .iload_n 1, 1) (List.mem_of_getElem? (i := 28) rfl)
theorem dX9_steps_48 : decode cX9_steps 48 = .ok (.iaload, 1) := tX9_steps_ok (48, .iaload, 1) (List.mem_of_getElem? (i := 29) rfl)
theorem dX9_steps_49 : decode cX9_steps 49 = .ok (.if_icmp .le 9, 3) := tX9_steps_ok (49, .if_icmp .le 9, 3) (List.mem_of_getElem? (i := 30) rfl)
theorem dX9_steps_52 : decode cX9_steps 52 = .ok (.aload_n 0, 1) := tX9_steps_ok (52, .aload_n 0, 1) (List.mem_of_getElem? (i := 31) rfl)
theorem dX9_steps_53 : decode cX9_steps 53 = .ok (.iconst 4, 1) := tX9_steps_ok (53, .iconst 4, 1) (List.mem_of_getElem? (i := 32) rfl)
theorem dX9_steps_54 : decode cX9_steps 54 = .ok (.invokevirtual 118, 3) := tX9_steps_ok (54, .invokevirtual 118, 3) (List.mem_of_getElem? (i := 33) rfl)
theorem dX9_steps_57 : decode cX9_steps 57 = .ok (.ireturn, 1) := tX9_steps_ok (57, .ireturn, 1) (List.mem_of_getElem? (i := 34) rfl)
theorem dX9_steps_58 : decode cX9_steps 58 = .ok (.bipush 64, 2) := tX9_steps_ok (58, .bipush 64, 2) (List.mem_of_getElem? (i := 35) rfl)
theorem dX9_steps_60 : decode cX9_steps 60 = .ok (.iload_n 1, 1) := tX9_steps_ok (60, .iload_n 1, 1) (List.mem_of_getElem? (i := 36) rfl)
theorem dX9_steps_61 : decode cX9_steps 61 = .ok (.imul, 1) := tX9_steps_ok (61, .imul, 1) (List.mem_of_getElem? (i := 37) rfl)
theorem dX9_steps_62 : decode cX9_steps 62 = .ok (.istore_n 3, 1) := tX9_steps_ok (62, .istore_n 3, 1) (List.mem_of_getElem? (i := 38) rfl)
theorem dX9_steps_63 : decode cX9_steps 63 = .ok (.iconst 0, 1) := tX9_steps_ok (63, .iconst 0, 1) (List.mem_of_getElem? (i := 39) rfl)
theorem dX9_steps_64 : decode cX9_steps 64 = .ok (.istore 4, 2) := tX9_steps_ok (64, .istore 4, 2) (List.mem_of_getElem? (i := 40) rfl)
theorem dX9_steps_66 : decode cX9_steps 66 = .ok (.iload 4, 2) := tX9_steps_ok (66, .iload 4, 2) (List.mem_of_getElem? (i := 41) rfl)
theorem dX9_steps_68 : decode cX9_steps 68 = .ok (.iload_n 2, 1) := tX9_steps_ok (68, .iload_n 2, 1) (List.mem_of_getElem? (i := 42) rfl)
theorem dX9_steps_69 : decode cX9_steps 69 = .ok (.if_icmp .ge 153, 3) := tX9_steps_ok (69, .if_icmp .ge 153, 3) (List.mem_of_getElem? (i := 43) rfl)
theorem dX9_steps_72 : decode cX9_steps 72 = .ok (.aload_n 0, 1) := tX9_steps_ok (72, .aload_n 0, 1) (List.mem_of_getElem? (i := 44) rfl)
theorem dX9_steps_73 : decode cX9_steps 73 = .ok (.getfield 16, 3) := tX9_steps_ok (73, .getfield 16, 3) (List.mem_of_getElem? (i := 45) rfl)
theorem dX9_steps_76 : decode cX9_steps 76 = .ok (.iload_n 3, 1) := tX9_steps_ok (76, .iload_n 3, 1) (List.mem_of_getElem? (i := 46) rfl)
theorem dX9_steps_77 : decode cX9_steps 77 = .ok (.iconst 2, 1) := tX9_steps_ok (77, .iconst 2, 1) (List.mem_of_getElem? (i := 47) rfl)
theorem dX9_steps_78 : decode cX9_steps 78 = .ok (.iload 4, 2) := tX9_steps_ok (78, .iload 4, 2) (List.mem_of_getElem? (i := 48) rfl)
theorem dX9_steps_80 : decode cX9_steps 80 = .ok (.imul, 1) := tX9_steps_ok (80, .imul, 1) (List.mem_of_getElem? (i := 49) rfl)
theorem dX9_steps_81 : decode cX9_steps 81 = .ok (.iadd, 1) := tX9_steps_ok (81, .iadd, 1) (List.mem_of_getElem? (i := 50) rfl)
theorem dX9_steps_82 : decode cX9_steps 82 = .ok (.iaload, 1) := tX9_steps_ok (82, .iaload, 1) (List.mem_of_getElem? (i := 51) rfl)
theorem dX9_steps_83 : decode cX9_steps 83 = .ok (.istore 5, 2) := tX9_steps_ok (83, .istore 5, 2) (List.mem_of_getElem? (i := 52) rfl)
theorem dX9_steps_85 : decode cX9_steps 85 = .ok (.aload_n 0, 1) := tX9_steps_ok (85, .aload_n 0, 1) (List.mem_of_getElem? (i := 53) rfl)
theorem dX9_steps_86 : decode cX9_steps 86 = .ok (.getfield 16, 3) := tX9_steps_ok (86, .getfield 16, 3) (List.mem_of_getElem? (i := 54) rfl)
theorem dX9_steps_89 : decode cX9_steps 89 = .ok (.iload_n 3, 1) := tX9_steps_ok (89, .iload_n 3, 1) (List.mem_of_getElem? (i := 55) rfl)
theorem dX9_steps_90 : decode cX9_steps 90 = .ok (.iconst 2, 1) := tX9_steps_ok (90, .iconst 2, 1) (List.mem_of_getElem? (i := 56) rfl)
theorem dX9_steps_91 : decode cX9_steps 91 = .ok (.iload 4, 2) := tX9_steps_ok (91, .iload 4, 2) (List.mem_of_getElem? (i := 57) rfl)
theorem dX9_steps_93 : decode cX9_steps 93 = .ok (.imul, 1) := tX9_steps_ok (93, .imul, 1) (List.mem_of_getElem? (i := 58) rfl)
theorem dX9_steps_94 : decode cX9_steps 94 = .ok (.iadd, 1) := tX9_steps_ok (94, .iadd, 1) (List.mem_of_getElem? (i := 59) rfl)
theorem dX9_steps_95 : decode cX9_steps 95 = .ok (.iconst 1, 1) := tX9_steps_ok (95, .iconst 1, 1) (List.mem_of_getElem? (i := 60) rfl)
theorem dX9_steps_96 : decode cX9_steps 96 = .ok (.iadd, 1) := tX9_steps_ok (96, .iadd, 1) (List.mem_of_getElem? (i := 61) rfl)
theorem dX9_steps_97 : decode cX9_steps 97 = .ok (.iaload, 1) := tX9_steps_ok (97, .iaload, 1) (List.mem_of_getElem? (i := 62) rfl)
theorem dX9_steps_98 : decode cX9_steps 98 = .ok (.istore 6, 2) := tX9_steps_ok (98, .istore 6, 2) (List.mem_of_getElem? (i := 63) rfl)
theorem dX9_steps_100 : decode cX9_steps 100 = .ok (.iload 5, 2) := tX9_steps_ok (100, .iload 5, 2) (List.mem_of_getElem? (i := 64) rfl)
theorem dX9_steps_102 : decode cX9_steps 102 = .ok (.bipush (-3), 2) := tX9_steps_ok (102, .bipush (-3), 2) (List.mem_of_getElem? (i := 65) rfl)
theorem dX9_steps_104 : decode cX9_steps 104 = .ok (.if_icmp .lt 36, 3) := tX9_steps_ok (104, .if_icmp .lt 36, 3) (List.mem_of_getElem? (i := 66) rfl)
theorem dX9_steps_107 : decode cX9_steps 107 = .ok (.iload 5, 2) := tX9_steps_ok (107, .iload 5, 2) (List.mem_of_getElem? (i := 67) rfl)
theorem dX9_steps_109 : decode cX9_steps 109 = .ok (.iconst 3, 1) := tX9_steps_ok (109, .iconst 3, 1) (List.mem_of_getElem? (i := 68) rfl)
theorem dX9_steps_110 : decode cX9_steps 110 = .ok (.if_icmp .gt 30, 3) := tX9_steps_ok (110, .if_icmp .gt 30, 3) (List.mem_of_getElem? (i := 69) rfl)
theorem dX9_steps_113 : decode cX9_steps 113 = .ok (.iload 6, 2) := tX9_steps_ok (113, .iload 6, 2) (List.mem_of_getElem? (i := 70) rfl)
theorem dX9_steps_115 : decode cX9_steps 115 = .ok (.bipush (-3), 2) := tX9_steps_ok (115, .bipush (-3), 2) (List.mem_of_getElem? (i := 71) rfl)
theorem dX9_steps_117 : decode cX9_steps 117 = .ok (.if_icmp .lt 23, 3) := tX9_steps_ok (117, .if_icmp .lt 23, 3) (List.mem_of_getElem? (i := 72) rfl)
theorem dX9_steps_120 : decode cX9_steps 120 = .ok (.iload 6, 2) := tX9_steps_ok (120, .iload 6, 2) (List.mem_of_getElem? (i := 73) rfl)
theorem dX9_steps_122 : decode cX9_steps 122 = .ok (.iconst 3, 1) := tX9_steps_ok (122, .iconst 3, 1) (List.mem_of_getElem? (i := 74) rfl)
theorem dX9_steps_123 : decode cX9_steps 123 = .ok (.if_icmp .gt 17, 3) := tX9_steps_ok (123, .if_icmp .gt 17, 3) (List.mem_of_getElem? (i := 75) rfl)
theorem dX9_steps_126 : decode cX9_steps 126 = .ok (.iload 5, 2) := tX9_steps_ok (126, .iload 5, 2) (List.mem_of_getElem? (i := 76) rfl)
theorem dX9_steps_128 : decode cX9_steps 128 = .ok (.ifCond .ne 8, 3) := tX9_steps_ok (128, .ifCond .ne 8, 3) (List.mem_of_getElem? (i := 77) rfl)
theorem dX9_steps_131 : decode cX9_steps 131 = .ok (.iload 6, 2) := tX9_steps_ok (131, .iload 6, 2) (List.mem_of_getElem? (i := 78) rfl)
theorem dX9_steps_133 : decode cX9_steps 133 = .ok (.ifCond .eq 7, 3) := tX9_steps_ok (133, .ifCond .eq 7, 3) (List.mem_of_getElem? (i := 79) rfl)
theorem dX9_steps_136 : decode cX9_steps 136 = .ok (.iconst 1, 1) := tX9_steps_ok (136, .iconst 1, 1) (List.mem_of_getElem? (i := 80) rfl)
theorem dX9_steps_137 : decode cX9_steps 137 = .ok (.goto 4, 3) := tX9_steps_ok (137, .goto 4, 3) (List.mem_of_getElem? (i := 81) rfl)
theorem dX9_steps_140 : decode cX9_steps 140 = .ok (.iconst 0, 1) := tX9_steps_ok (140, .iconst 0, 1) (List.mem_of_getElem? (i := 82) rfl)
theorem dX9_steps_141 : decode cX9_steps 141 = .ok (.istore 7, 2) := tX9_steps_ok (141, .istore 7, 2) (List.mem_of_getElem? (i := 83) rfl)
theorem dX9_steps_143 : decode cX9_steps 143 = .ok (.iconst 0, 1) := tX9_steps_ok (143, .iconst 0, 1) (List.mem_of_getElem? (i := 84) rfl)
theorem dX9_steps_144 : decode cX9_steps 144 = .ok (.istore 8, 2) := tX9_steps_ok (144, .istore 8, 2) (List.mem_of_getElem? (i := 85) rfl)
theorem dX9_steps_146 : decode cX9_steps 146 = .ok (.iload 8, 2) := tX9_steps_ok (146, .iload 8, 2) (List.mem_of_getElem? (i := 86) rfl)
theorem dX9_steps_148 : decode cX9_steps 148 = .ok (.iload 4, 2) := tX9_steps_ok (148, .iload 4, 2) (List.mem_of_getElem? (i := 87) rfl)
theorem dX9_steps_150 : decode cX9_steps 150 = .ok (.if_icmp .ge 55, 3) := tX9_steps_ok (150, .if_icmp .ge 55, 3) (List.mem_of_getElem? (i := 88) rfl)
theorem dX9_steps_153 : decode cX9_steps 153 = .ok (.iload 7, 2) := tX9_steps_ok (153, .iload 7, 2) (List.mem_of_getElem? (i := 89) rfl)
theorem dX9_steps_155 : decode cX9_steps 155 = .ok (.ifCond .eq 41, 3) := tX9_steps_ok (155, .ifCond .eq 41, 3) (List.mem_of_getElem? (i := 90) rfl)
theorem dX9_steps_158 : decode cX9_steps 158 = .ok (.aload_n 0, 1) := tX9_steps_ok (158, .aload_n 0, 1) (List.mem_of_getElem? (i := 91) rfl)
theorem dX9_steps_159 : decode cX9_steps 159 = .ok (.getfield 16, 3) := tX9_steps_ok (159, .getfield 16, 3) (List.mem_of_getElem? (i := 92) rfl)
theorem dX9_steps_162 : decode cX9_steps 162 = .ok (.iload_n 3, 1) := tX9_steps_ok (162, .iload_n 3, 1) (List.mem_of_getElem? (i := 93) rfl)
theorem dX9_steps_163 : decode cX9_steps 163 = .ok (.iconst 2, 1) := tX9_steps_ok (163, .iconst 2, 1) (List.mem_of_getElem? (i := 94) rfl)
theorem dX9_steps_164 : decode cX9_steps 164 = .ok (.iload 8, 2) := tX9_steps_ok (164, .iload 8, 2) (List.mem_of_getElem? (i := 95) rfl)
theorem dX9_steps_166 : decode cX9_steps 166 = .ok (.imul, 1) := tX9_steps_ok (166, .imul, 1) (List.mem_of_getElem? (i := 96) rfl)
theorem dX9_steps_167 : decode cX9_steps 167 = .ok (.iadd, 1) := tX9_steps_ok (167, .iadd, 1) (List.mem_of_getElem? (i := 97) rfl)
theorem dX9_steps_168 : decode cX9_steps 168 = .ok (.iaload, 1) := tX9_steps_ok (168, .iaload, 1) (List.mem_of_getElem? (i := 98) rfl)
theorem dX9_steps_169 : decode cX9_steps 169 = .ok (.iload 5, 2) := tX9_steps_ok (169, .iload 5, 2) (List.mem_of_getElem? (i := 99) rfl)
theorem dX9_steps_171 : decode cX9_steps 171 = .ok (.if_icmp .ne 21, 3) := tX9_steps_ok (171, .if_icmp .ne 21, 3) (List.mem_of_getElem? (i := 100) rfl)
theorem dX9_steps_174 : decode cX9_steps 174 = .ok (.aload_n 0, 1) := tX9_steps_ok (174, .aload_n 0, 1) (List.mem_of_getElem? (i := 101) rfl)
theorem dX9_steps_175 : decode cX9_steps 175 = .ok (.getfield 16, 3) := tX9_steps_ok (175, .getfield 16, 3) (List.mem_of_getElem? (i := 102) rfl)
theorem dX9_steps_178 : decode cX9_steps 178 = .ok (.iload_n 3, 1) := tX9_steps_ok (178, .iload_n 3, 1) (List.mem_of_getElem? (i := 103) rfl)
theorem dX9_steps_179 : decode cX9_steps 179 = .ok (.iconst 2, 1) := tX9_steps_ok (179, .iconst 2, 1) (List.mem_of_getElem? (i := 104) rfl)
theorem dX9_steps_180 : decode cX9_steps 180 = .ok (.iload 8, 2) := tX9_steps_ok (180, .iload 8, 2) (List.mem_of_getElem? (i := 105) rfl)
theorem dX9_steps_182 : decode cX9_steps 182 = .ok (.imul, 1) := tX9_steps_ok (182, .imul, 1) (List.mem_of_getElem? (i := 106) rfl)
theorem dX9_steps_183 : decode cX9_steps 183 = .ok (.iadd, 1) := tX9_steps_ok (183, .iadd, 1) (List.mem_of_getElem? (i := 107) rfl)
theorem dX9_steps_184 : decode cX9_steps 184 = .ok (.iconst 1, 1) := tX9_steps_ok (184, .iconst 1, 1) (List.mem_of_getElem? (i := 108) rfl)
theorem dX9_steps_185 : decode cX9_steps 185 = .ok (.iadd, 1) := tX9_steps_ok (185, .iadd, 1) (List.mem_of_getElem? (i := 109) rfl)
theorem dX9_steps_186 : decode cX9_steps 186 = .ok (.iaload, 1) := tX9_steps_ok (186, .iaload, 1) (List.mem_of_getElem? (i := 110) rfl)
theorem dX9_steps_187 : decode cX9_steps 187 = .ok (.iload 6, 2) := tX9_steps_ok (187, .iload 6, 2) (List.mem_of_getElem? (i := 111) rfl)
theorem dX9_steps_189 : decode cX9_steps 189 = .ok (.if_icmp .eq 7, 3) := tX9_steps_ok (189, .if_icmp .eq 7, 3) (List.mem_of_getElem? (i := 112) rfl)
theorem dX9_steps_192 : decode cX9_steps 192 = .ok (.iconst 1, 1) := tX9_steps_ok (192, .iconst 1, 1) (List.mem_of_getElem? (i := 113) rfl)
theorem dX9_steps_193 : decode cX9_steps 193 = .ok (.goto 4, 3) := tX9_steps_ok (193, .goto 4, 3) (List.mem_of_getElem? (i := 114) rfl)
theorem dX9_steps_196 : decode cX9_steps 196 = .ok (.iconst 0, 1) := tX9_steps_ok (196, .iconst 0, 1) (List.mem_of_getElem? (i := 115) rfl)
theorem dX9_steps_197 : decode cX9_steps 197 = .ok (.istore 7, 2) := tX9_steps_ok (197, .istore 7, 2) (List.mem_of_getElem? (i := 116) rfl)
theorem dX9_steps_199 : decode cX9_steps 199 = .ok (.iinc 8 1, 3) := tX9_steps_ok (199, .iinc 8 1, 3) (List.mem_of_getElem? (i := 117) rfl)
theorem dX9_steps_202 : decode cX9_steps 202 = .ok (.goto (-56), 3) := tX9_steps_ok (202, .goto (-56), 3) (List.mem_of_getElem? (i := 118) rfl)
theorem dX9_steps_205 : decode cX9_steps 205 = .ok (.iload 7, 2) := tX9_steps_ok (205, .iload 7, 2) (List.mem_of_getElem? (i := 119) rfl)
theorem dX9_steps_207 : decode cX9_steps 207 = .ok (.ifCond .ne 9, 3) := tX9_steps_ok (207, .ifCond .ne 9, 3) (List.mem_of_getElem? (i := 120) rfl)
theorem dX9_steps_210 : decode cX9_steps 210 = .ok (.aload_n 0, 1) := tX9_steps_ok (210, .aload_n 0, 1) (List.mem_of_getElem? (i := 121) rfl)
theorem dX9_steps_211 : decode cX9_steps 211 = .ok (.iconst 2, 1) := tX9_steps_ok (211, .iconst 2, 1) (List.mem_of_getElem? (i := 122) rfl)
theorem dX9_steps_212 : decode cX9_steps 212 = .ok (.invokevirtual 118, 3) := tX9_steps_ok (212, .invokevirtual 118, 3) (List.mem_of_getElem? (i := 123) rfl)
theorem dX9_steps_215 : decode cX9_steps 215 = .ok (.ireturn, 1) := tX9_steps_ok (215, .ireturn, 1) (List.mem_of_getElem? (i := 124) rfl)
theorem dX9_steps_216 : decode cX9_steps 216 = .ok (.iinc 4 1, 3) := tX9_steps_ok (216, .iinc 4 1, 3) (List.mem_of_getElem? (i := 125) rfl)
theorem dX9_steps_219 : decode cX9_steps 219 = .ok (.goto (-153), 3) := tX9_steps_ok (219, .goto (-153), 3) (List.mem_of_getElem? (i := 126) rfl)
theorem dX9_steps_222 : decode cX9_steps 222 = .ok (.aload_n 0, 1) := tX9_steps_ok (222, .aload_n 0, 1) (List.mem_of_getElem? (i := 127) rfl)
theorem dX9_steps_223 : decode cX9_steps 223 = .ok (.iload_n 2, 1) := tX9_steps_ok (223, .iload_n 2, 1) (List.mem_of_getElem? (i := 128) rfl)
theorem dX9_steps_224 : decode cX9_steps 224 = .ok (.putfield 19, 3) := tX9_steps_ok (224, .putfield 19, 3) (List.mem_of_getElem? (i := 129) rfl)
theorem dX9_steps_227 : decode cX9_steps 227 = .ok (.iconst 0, 1) := tX9_steps_ok (227, .iconst 0, 1) (List.mem_of_getElem? (i := 130) rfl)
theorem dX9_steps_228 : decode cX9_steps 228 = .ok (.istore 4, 2) := tX9_steps_ok (228, .istore 4, 2) (List.mem_of_getElem? (i := 131) rfl)
theorem dX9_steps_230 : decode cX9_steps 230 = .ok (.iload 4, 2) := tX9_steps_ok (230, .iload 4, 2) (List.mem_of_getElem? (i := 132) rfl)
theorem dX9_steps_232 : decode cX9_steps 232 = .ok (.iload_n 2, 1) := tX9_steps_ok (232, .iload_n 2, 1) (List.mem_of_getElem? (i := 133) rfl)
theorem dX9_steps_233 : decode cX9_steps 233 = .ok (.if_icmp .ge 55, 3) := tX9_steps_ok (233, .if_icmp .ge 55, 3) (List.mem_of_getElem? (i := 134) rfl)
theorem dX9_steps_236 : decode cX9_steps 236 = .ok (.aload_n 0, 1) := tX9_steps_ok (236, .aload_n 0, 1) (List.mem_of_getElem? (i := 135) rfl)
theorem dX9_steps_237 : decode cX9_steps 237 = .ok (.getfield 29, 3) := tX9_steps_ok (237, .getfield 29, 3) (List.mem_of_getElem? (i := 136) rfl)
theorem dX9_steps_240 : decode cX9_steps 240 = .ok (.iload 4, 2) := tX9_steps_ok (240, .iload 4, 2) (List.mem_of_getElem? (i := 137) rfl)
theorem dX9_steps_242 : decode cX9_steps 242 = .ok (.aload_n 0, 1) := tX9_steps_ok (242, .aload_n 0, 1) (List.mem_of_getElem? (i := 138) rfl)
theorem dX9_steps_243 : decode cX9_steps 243 = .ok (.getfield 16, 3) := tX9_steps_ok (243, .getfield 16, 3) (List.mem_of_getElem? (i := 139) rfl)
theorem dX9_steps_246 : decode cX9_steps 246 = .ok (.iload_n 3, 1) := tX9_steps_ok (246, .iload_n 3, 1) (List.mem_of_getElem? (i := 140) rfl)
theorem dX9_steps_247 : decode cX9_steps 247 = .ok (.iconst 2, 1) := tX9_steps_ok (247, .iconst 2, 1) (List.mem_of_getElem? (i := 141) rfl)
theorem dX9_steps_248 : decode cX9_steps 248 = .ok (.iload 4, 2) := tX9_steps_ok (248, .iload 4, 2) (List.mem_of_getElem? (i := 142) rfl)
theorem dX9_steps_250 : decode cX9_steps 250 = .ok (.imul, 1) := tX9_steps_ok (250, .imul, 1) (List.mem_of_getElem? (i := 143) rfl)
theorem dX9_steps_251 : decode cX9_steps 251 = .ok (.iadd, 1) := tX9_steps_ok (251, .iadd, 1) (List.mem_of_getElem? (i := 144) rfl)
theorem dX9_steps_252 : decode cX9_steps 252 = .ok (.iaload, 1) := tX9_steps_ok (252, .iaload, 1) (List.mem_of_getElem? (i := 145) rfl)
theorem dX9_steps_253 : decode cX9_steps 253 = .ok (.iastore, 1) := tX9_steps_ok (253, .iastore, 1) (List.mem_of_getElem? (i := 146) rfl)
theorem dX9_steps_254 : decode cX9_steps 254 = .ok (.aload_n 0, 1) := tX9_steps_ok (254, .aload_n 0, 1) (List.mem_of_getElem? (i := 147) rfl)
theorem dX9_steps_255 : decode cX9_steps 255 = .ok (.getfield 32, 3) := tX9_steps_ok (255, .getfield 32, 3) (List.mem_of_getElem? (i := 148) rfl)
theorem dX9_steps_258 : decode cX9_steps 258 = .ok (.iload 4, 2) := tX9_steps_ok (258, .iload 4, 2) (List.mem_of_getElem? (i := 149) rfl)
theorem dX9_steps_260 : decode cX9_steps 260 = .ok (.aload_n 0, 1) := tX9_steps_ok (260, .aload_n 0, 1) (List.mem_of_getElem? (i := 150) rfl)
theorem dX9_steps_261 : decode cX9_steps 261 = .ok (.getfield 16, 3) := tX9_steps_ok (261, .getfield 16, 3) (List.mem_of_getElem? (i := 151) rfl)
theorem dX9_steps_264 : decode cX9_steps 264 = .ok (.iload_n 3, 1) := tX9_steps_ok (264, .iload_n 3, 1) (List.mem_of_getElem? (i := 152) rfl)
theorem dX9_steps_265 : decode cX9_steps 265 = .ok (.iconst 2, 1) := tX9_steps_ok (265, .iconst 2, 1) (List.mem_of_getElem? (i := 153) rfl)
theorem dX9_steps_266 : decode cX9_steps 266 = .ok (.iload 4, 2) := tX9_steps_ok (266, .iload 4, 2) (List.mem_of_getElem? (i := 154) rfl)
theorem dX9_steps_268 : decode cX9_steps 268 = .ok (.imul, 1) := tX9_steps_ok (268, .imul, 1) (List.mem_of_getElem? (i := 155) rfl)
theorem dX9_steps_269 : decode cX9_steps 269 = .ok (.iadd, 1) := tX9_steps_ok (269, .iadd, 1) (List.mem_of_getElem? (i := 156) rfl)
theorem dX9_steps_270 : decode cX9_steps 270 = .ok (.iconst 1, 1) := tX9_steps_ok (270, .iconst 1, 1) (List.mem_of_getElem? (i := 157) rfl)
theorem dX9_steps_271 : decode cX9_steps 271 = .ok (.iadd, 1) := tX9_steps_ok (271, .iadd, 1) (List.mem_of_getElem? (i := 158) rfl)
theorem dX9_steps_272 : decode cX9_steps 272 = .ok (.iaload, 1) := tX9_steps_ok (272, .iaload, 1) (List.mem_of_getElem? (i := 159) rfl)
theorem dX9_steps_273 : decode cX9_steps 273 = .ok (.iastore, 1) := tX9_steps_ok (273, .iastore, 1) (List.mem_of_getElem? (i := 160) rfl)
theorem dX9_steps_274 : decode cX9_steps 274 = .ok (.aload_n 0, 1) := tX9_steps_ok (274, .aload_n 0, 1) (List.mem_of_getElem? (i := 161) rfl)
theorem dX9_steps_275 : decode cX9_steps 275 = .ok (.getfield 35, 3) := tX9_steps_ok (275, .getfield 35, 3) (List.mem_of_getElem? (i := 162) rfl)
theorem dX9_steps_278 : decode cX9_steps 278 = .ok (.iload 4, 2) := tX9_steps_ok (278, .iload 4, 2) (List.mem_of_getElem? (i := 163) rfl)
theorem dX9_steps_280 : decode cX9_steps 280 = .ok (.iconst 1, 1) := tX9_steps_ok (280, .iconst 1, 1) (List.mem_of_getElem? (i := 164) rfl)
theorem dX9_steps_281 : decode cX9_steps 281 = .ok (.iastore, 1) := tX9_steps_ok (281, .iastore, 1) (List.mem_of_getElem? (i := 165) rfl)
theorem dX9_steps_282 : decode cX9_steps 282 = .ok (.iinc 4 1, 3) := tX9_steps_ok (282, .iinc 4 1, 3) (List.mem_of_getElem? (i := 166) rfl)
theorem dX9_steps_285 : decode cX9_steps 285 = .ok (.goto (-55), 3) := tX9_steps_ok (285, .goto (-55), 3) (List.mem_of_getElem? (i := 167) rfl)
theorem dX9_steps_288 : decode cX9_steps 288 = .ok (.iconst 1, 1) := tX9_steps_ok (288, .iconst 1, 1) (List.mem_of_getElem? (i := 168) rfl)
theorem dX9_steps_289 : decode cX9_steps 289 = .ok (.ireturn, 1) := tX9_steps_ok (289, .ireturn, 1) (List.mem_of_getElem? (i := 169) rfl)

def tX9_step : List (Nat × Instr × Nat) := [
  (0, .aload_n 0, 1),
  (1, .iconst 0, 1),
  (2, .putfield 112, 3),
  (5, .aload_n 0, 1),
  (6, .iconst 0, 1),
  (7, .putfield 115, 3),
  (10, .iload_n 2, 1),
  (11, .ifCond .lt 8, 3),
  (14, .iload_n 2, 1),
  (15, .iconst 2, 1),
  (16, .if_icmp .le 9, 3),
  (19, .aload_n 0, 1),
  (20, .iconst 2, 1),
  (21, .invokevirtual 156, 3),
  (24, .ireturn, 1),
  (25, .iload_n 1, 1),
  (26, .ifCond .lt 11, 3),
  (29, .iload_n 1, 1),
  (30, .aload_n 0, 1),
  (31, .getfield 19, 3),
  (34, .if_icmp .lt 10, 3),
  (37, .aload_n 0, 1),
  (38, .bipush 8, 2),
  (40, .invokevirtual 156, 3),
  (43, .ireturn, 1),
  (44, .iload_n 2, 1),
  (45, .ifCond .ne 12, 3),
  (48, .aload_n 0, 1),
  (49, .getfield 29, 3),
  (52, .iload_n 1, 1),
  (53, .iaload, 1),
  (54, .goto 23, 3),
  (57, .iload_n 2, 1),
  (58, .iconst 1, 1),
  (59, .if_icmp .ne 12, 3),
  (62, .aload_n 0, 1),
  (63, .getfield 32, 3),
  (66, .iload_n 1, 1),
  (67, .iaload, 1),
  (68, .goto 9, 3),
  (71, .aload_n 0, 1),
  (72, .getfield 35, 3),
  (75, .iload_n 1, 1),
  (76, .iaload, 1),
  (77, .ireturn, 1)]
set_option maxRecDepth 100000 in
theorem tX9_step_ok : ∀ q ∈ tX9_step, decode cX9_step q.1 = .ok q.2 := by decide +kernel
theorem dX9_step_0 : decode cX9_step 0 = .ok (.aload_n 0, 1) := tX9_step_ok (0, .aload_n 0, 1) (List.mem_of_getElem? (i := 0) rfl)
theorem dX9_step_1 : decode cX9_step 1 = .ok (.iconst 0, 1) := tX9_step_ok (1, .iconst 0, 1) (List.mem_of_getElem? (i := 1) rfl)
theorem dX9_step_2 : decode cX9_step 2 = .ok (.putfield 112, 3) := tX9_step_ok (2, .putfield 112, 3) (List.mem_of_getElem? (i := 2) rfl)
theorem dX9_step_5 : decode cX9_step 5 = .ok (.aload_n 0, 1) := tX9_step_ok (5, .aload_n 0, 1) (List.mem_of_getElem? (i := 3) rfl)
theorem dX9_step_6 : decode cX9_step 6 = .ok (.iconst 0, 1) := tX9_step_ok (6, .iconst 0, 1) (List.mem_of_getElem? (i := 4) rfl)
theorem dX9_step_7 : decode cX9_step 7 = .ok (.putfield 115, 3) := tX9_step_ok (7, .putfield 115, 3) (List.mem_of_getElem? (i := 5) rfl)
theorem dX9_step_10 : decode cX9_step 10 = .ok (.iload_n 2, 1) := tX9_step_ok (10, .iload_n 2, 1) (List.mem_of_getElem? (i := 6) rfl)
theorem dX9_step_11 : decode cX9_step 11 = .ok (.ifCond .lt 8, 3) := tX9_step_ok (11, .ifCond .lt 8, 3) (List.mem_of_getElem? (i := 7) rfl)
theorem dX9_step_14 : decode cX9_step 14 = .ok (.iload_n 2, 1) := tX9_step_ok (14, .iload_n 2, 1) (List.mem_of_getElem? (i := 8) rfl)
theorem dX9_step_15 : decode cX9_step 15 = .ok (.iconst 2, 1) := tX9_step_ok (15, .iconst 2, 1) (List.mem_of_getElem? (i := 9) rfl)
theorem dX9_step_16 : decode cX9_step 16 = .ok (.if_icmp .le 9, 3) := tX9_step_ok (16, .if_icmp .le 9, 3) (List.mem_of_getElem? (i := 10) rfl)
theorem dX9_step_19 : decode cX9_step 19 = .ok (.aload_n 0, 1) := tX9_step_ok (19, .aload_n 0, 1) (List.mem_of_getElem? (i := 11) rfl)
theorem dX9_step_20 : decode cX9_step 20 = .ok (.iconst 2, 1) := tX9_step_ok (20, .iconst 2, 1) (List.mem_of_getElem? (i := 12) rfl)
theorem dX9_step_21 : decode cX9_step 21 = .ok (.invokevirtual 156, 3) := tX9_step_ok (21, .invokevirtual 156, 3) (List.mem_of_getElem? (i := 13) rfl)
theorem dX9_step_24 : decode cX9_step 24 = .ok (.ireturn, 1) := tX9_step_ok (24, .ireturn, 1) (List.mem_of_getElem? (i := 14) rfl)
theorem dX9_step_25 : decode cX9_step 25 = .ok (.iload_n 1, 1) := tX9_step_ok (25, .iload_n 1, 1) (List.mem_of_getElem? (i := 15) rfl)
theorem dX9_step_26 : decode cX9_step 26 = .ok (.ifCond .lt 11, 3) := tX9_step_ok (26, .ifCond .lt 11, 3) (List.mem_of_getElem? (i := 16) rfl)
theorem dX9_step_29 : decode cX9_step 29 = .ok (.iload_n 1, 1) := tX9_step_ok (29, .iload_n 1, 1) (List.mem_of_getElem? (i := 17) rfl)
theorem dX9_step_30 : decode cX9_step 30 = .ok (.aload_n 0, 1) := tX9_step_ok (30, .aload_n 0, 1) (List.mem_of_getElem? (i := 18) rfl)
theorem dX9_step_31 : decode cX9_step 31 = .ok (.getfield 19, 3) := tX9_step_ok (31, .getfield 19, 3) (List.mem_of_getElem? (i := 19) rfl)
theorem dX9_step_34 : decode cX9_step 34 = .ok (.if_icmp .lt 10, 3) := tX9_step_ok (34, .if_icmp .lt 10, 3) (List.mem_of_getElem? (i := 20) rfl)
theorem dX9_step_37 : decode cX9_step 37 = .ok (.aload_n 0, 1) := tX9_step_ok (37, .aload_n 0, 1) (List.mem_of_getElem? (i := 21) rfl)
theorem dX9_step_38 : decode cX9_step 38 = .ok (.bipush 8, 2) := tX9_step_ok (38, .bipush 8, 2) (List.mem_of_getElem? (i := 22) rfl)
theorem dX9_step_40 : decode cX9_step 40 = .ok (.invokevirtual 156, 3) := tX9_step_ok (40, .invokevirtual 156, 3) (List.mem_of_getElem? (i := 23) rfl)
theorem dX9_step_43 : decode cX9_step 43 = .ok (.ireturn, 1) := tX9_step_ok (43, .ireturn, 1) (List.mem_of_getElem? (i := 24) rfl)
theorem dX9_step_44 : decode cX9_step 44 = .ok (.iload_n 2, 1) := tX9_step_ok (44, .iload_n 2, 1) (List.mem_of_getElem? (i := 25) rfl)
theorem dX9_step_45 : decode cX9_step 45 = .ok (.ifCond .ne 12, 3) := tX9_step_ok (45, .ifCond .ne 12, 3) (List.mem_of_getElem? (i := 26) rfl)
theorem dX9_step_48 : decode cX9_step 48 = .ok (.aload_n 0, 1) := tX9_step_ok (48, .aload_n 0, 1) (List.mem_of_getElem? (i := 27) rfl)
theorem dX9_step_49 : decode cX9_step 49 = .ok (.getfield 29, 3) := tX9_step_ok (49, .getfield 29, 3) (List.mem_of_getElem? (i := 28) rfl)
theorem dX9_step_52 : decode cX9_step 52 = .ok (.iload_n 1, 1) := tX9_step_ok (52, .iload_n 1, 1) (List.mem_of_getElem? (i := 29) rfl)
theorem dX9_step_53 : decode cX9_step 53 = .ok (.iaload, 1) := tX9_step_ok (53, .iaload, 1) (List.mem_of_getElem? (i := 30) rfl)
theorem dX9_step_54 : decode cX9_step 54 = .ok (.goto 23, 3) := tX9_step_ok (54, .goto 23, 3) (List.mem_of_getElem? (i := 31) rfl)
theorem dX9_step_57 : decode cX9_step 57 = .ok (.iload_n 2, 1) := tX9_step_ok (57, .iload_n 2, 1) (List.mem_of_getElem? (i := 32) rfl)
theorem dX9_step_58 : decode cX9_step 58 = .ok (.iconst 1, 1) := tX9_step_ok (58, .iconst 1, 1) (List.mem_of_getElem? (i := 33) rfl)
theorem dX9_step_59 : decode cX9_step 59 = .ok (.if_icmp .ne 12, 3) := tX9_step_ok (59, .if_icmp .ne 12, 3) (List.mem_of_getElem? (i := 34) rfl)
theorem dX9_step_62 : decode cX9_step 62 = .ok (.aload_n 0, 1) := tX9_step_ok (62, .aload_n 0, 1) (List.mem_of_getElem? (i := 35) rfl)
theorem dX9_step_63 : decode cX9_step 63 = .ok (.getfield 32, 3) := tX9_step_ok (63, .getfield 32, 3) (List.mem_of_getElem? (i := 36) rfl)
theorem dX9_step_66 : decode cX9_step 66 = .ok (.iload_n 1, 1) := tX9_step_ok (66, .iload_n 1, 1) (List.mem_of_getElem? (i := 37) rfl)
theorem dX9_step_67 : decode cX9_step 67 = .ok (.iaload, 1) := tX9_step_ok (67, .iaload, 1) (List.mem_of_getElem? (i := 38) rfl)
theorem dX9_step_68 : decode cX9_step 68 = .ok (.goto 9, 3) := tX9_step_ok (68, .goto 9, 3) (List.mem_of_getElem? (i := 39) rfl)
theorem dX9_step_71 : decode cX9_step 71 = .ok (.aload_n 0, 1) := tX9_step_ok (71, .aload_n 0, 1) (List.mem_of_getElem? (i := 40) rfl)
theorem dX9_step_72 : decode cX9_step 72 = .ok (.getfield 35, 3) := tX9_step_ok (72, .getfield 35, 3) (List.mem_of_getElem? (i := 41) rfl)
theorem dX9_step_75 : decode cX9_step 75 = .ok (.iload_n 1, 1) := tX9_step_ok (75, .iload_n 1, 1) (List.mem_of_getElem? (i := 42) rfl)
theorem dX9_step_76 : decode cX9_step 76 = .ok (.iaload, 1) := tX9_step_ok (76, .iaload, 1) (List.mem_of_getElem? (i := 43) rfl)
theorem dX9_step_77 : decode cX9_step 77 = .ok (.ireturn, 1) := tX9_step_ok (77, .ireturn, 1) (List.mem_of_getElem? (i := 44) rfl)

def tX9_told : List (Nat × Instr × Nat) := [
  (0, .aload_n 0, 1),
  (1, .iconst 0, 1),
  (2, .putfield 112, 3),
  (5, .aload_n 0, 1),
  (6, .iconst 0, 1),
  (7, .putfield 115, 3),
  (10, .iload_n 1, 1),
  (11, .ifCond .lt 11, 3),
  (14, .iload_n 1, 1),
  (15, .aload_n 0, 1),
  (16, .getfield 19, 3),
  (19, .if_icmp .lt 10, 3),
  (22, .aload_n 0, 1),
  (23, .bipush 8, 2),
  (25, .invokevirtual 118, 3),
  (28, .ireturn, 1),
  (29, .iload_n 2, 1),
  (30, .ifCond .lt 9, 3),
  (33, .iload_n 2, 1),
  (34, .bipush 9, 2),
  (36, .if_icmp .le 9, 3),
  (39, .aload_n 0, 1),
  (40, .iconst 2, 1),
  (41, .invokevirtual 118, 3),
  (44, .ireturn, 1),
  (45, .aload_n 0, 1),
  (46, .getfield 35, 3),
  (49, .iload_n 1, 1),
  (50, .iload_n 2, 1),
  (51, .iastore, 1),
  (52, .iconst 1, 1),
  (53, .ireturn, 1)]
set_option maxRecDepth 100000 in
theorem tX9_told_ok : ∀ q ∈ tX9_told, decode cX9_told q.1 = .ok q.2 := by decide +kernel
theorem dX9_told_0 : decode cX9_told 0 = .ok (.aload_n 0, 1) := tX9_told_ok (0, .aload_n 0, 1) (List.mem_of_getElem? (i := 0) rfl)
theorem dX9_told_1 : decode cX9_told 1 = .ok (.iconst 0, 1) := tX9_told_ok (1, .iconst 0, 1) (List.mem_of_getElem? (i := 1) rfl)
theorem dX9_told_2 : decode cX9_told 2 = .ok (.putfield 112, 3) := tX9_told_ok (2, .putfield 112, 3) (List.mem_of_getElem? (i := 2) rfl)
theorem dX9_told_5 : decode cX9_told 5 = .ok (.aload_n 0, 1) := tX9_told_ok (5, .aload_n 0, 1) (List.mem_of_getElem? (i := 3) rfl)
theorem dX9_told_6 : decode cX9_told 6 = .ok (.iconst 0, 1) := tX9_told_ok (6, .iconst 0, 1) (List.mem_of_getElem? (i := 4) rfl)
theorem dX9_told_7 : decode cX9_told 7 = .ok (.putfield 115, 3) := tX9_told_ok (7, .putfield 115, 3) (List.mem_of_getElem? (i := 5) rfl)
theorem dX9_told_10 : decode cX9_told 10 = .ok (.iload_n 1, 1) := tX9_told_ok (10, .iload_n 1, 1) (List.mem_of_getElem? (i := 6) rfl)
theorem dX9_told_11 : decode cX9_told 11 = .ok (.ifCond .lt 11, 3) := tX9_told_ok (11, .ifCond .lt 11, 3) (List.mem_of_getElem? (i := 7) rfl)
theorem dX9_told_14 : decode cX9_told 14 = .ok (.iload_n 1, 1) := tX9_told_ok (14, .iload_n 1, 1) (List.mem_of_getElem? (i := 8) rfl)
theorem dX9_told_15 : decode cX9_told 15 = .ok (.aload_n 0, 1) := tX9_told_ok (15, .aload_n 0, 1) (List.mem_of_getElem? (i := 9) rfl)
theorem dX9_told_16 : decode cX9_told 16 = .ok (.getfield 19, 3) := tX9_told_ok (16, .getfield 19, 3) (List.mem_of_getElem? (i := 10) rfl)
theorem dX9_told_19 : decode cX9_told 19 = .ok (.if_icmp .lt 10, 3) := tX9_told_ok (19, .if_icmp .lt 10, 3) (List.mem_of_getElem? (i := 11) rfl)
theorem dX9_told_22 : decode cX9_told 22 = .ok (.aload_n 0, 1) := tX9_told_ok (22, .aload_n 0, 1) (List.mem_of_getElem? (i := 12) rfl)
theorem dX9_told_23 : decode cX9_told 23 = .ok (.bipush 8, 2) := tX9_told_ok (23, .bipush 8, 2) (List.mem_of_getElem? (i := 13) rfl)
theorem dX9_told_25 : decode cX9_told 25 = .ok (.invokevirtual 118, 3) := tX9_told_ok (25, .invokevirtual 118, 3) (List.mem_of_getElem? (i := 14) rfl)
theorem dX9_told_28 : decode cX9_told 28 = .ok (.ireturn, 1) := tX9_told_ok (28, .ireturn, 1) (List.mem_of_getElem? (i := 15) rfl)
theorem dX9_told_29 : decode cX9_told 29 = .ok (.iload_n 2, 1) := tX9_told_ok (29, .iload_n 2, 1) (List.mem_of_getElem? (i := 16) rfl)
theorem dX9_told_30 : decode cX9_told 30 = .ok (.ifCond .lt 9, 3) := tX9_told_ok (30, .ifCond .lt 9, 3) (List.mem_of_getElem? (i := 17) rfl)
theorem dX9_told_33 : decode cX9_told 33 = .ok (.iload_n 2, 1) := tX9_told_ok (33, .iload_n 2, 1) (List.mem_of_getElem? (i := 18) rfl)
theorem dX9_told_34 : decode cX9_told 34 = .ok (.bipush 9, 2) := tX9_told_ok (34, .bipush 9, 2) (List.mem_of_getElem? (i := 19) rfl)
theorem dX9_told_36 : decode cX9_told 36 = .ok (.if_icmp .le 9, 3) := tX9_told_ok (36, .if_icmp .le 9, 3) (List.mem_of_getElem? (i := 20) rfl)
theorem dX9_told_39 : decode cX9_told 39 = .ok (.aload_n 0, 1) := tX9_told_ok (39, .aload_n 0, 1) (List.mem_of_getElem? (i := 21) rfl)
theorem dX9_told_40 : decode cX9_told 40 = .ok (.iconst 2, 1) := tX9_told_ok (40, .iconst 2, 1) (List.mem_of_getElem? (i := 22) rfl)
theorem dX9_told_41 : decode cX9_told 41 = .ok (.invokevirtual 118, 3) := tX9_told_ok (41, .invokevirtual 118, 3) (List.mem_of_getElem? (i := 23) rfl)
theorem dX9_told_44 : decode cX9_told 44 = .ok (.ireturn, 1) := tX9_told_ok (44, .ireturn, 1) (List.mem_of_getElem? (i := 24) rfl)
theorem dX9_told_45 : decode cX9_told 45 = .ok (.aload_n 0, 1) := tX9_told_ok (45, .aload_n 0, 1) (List.mem_of_getElem? (i := 25) rfl)
theorem dX9_told_46 : decode cX9_told 46 = .ok (.getfield 35, 3) := tX9_told_ok (46, .getfield 35, 3) (List.mem_of_getElem? (i := 26) rfl)
theorem dX9_told_49 : decode cX9_told 49 = .ok (.iload_n 1, 1) := tX9_told_ok (49, .iload_n 1, 1) (List.mem_of_getElem? (i := 27) rfl)
theorem dX9_told_50 : decode cX9_told 50 = .ok (.iload_n 2, 1) := tX9_told_ok (50, .iload_n 2, 1) (List.mem_of_getElem? (i := 28) rfl)
theorem dX9_told_51 : decode cX9_told 51 = .ok (.iastore, 1) := tX9_told_ok (51, .iastore, 1) (List.mem_of_getElem? (i := 29) rfl)
theorem dX9_told_52 : decode cX9_told 52 = .ok (.iconst 1, 1) := tX9_told_ok (52, .iconst 1, 1) (List.mem_of_getElem? (i := 30) rfl)
theorem dX9_told_53 : decode cX9_told 53 = .ok (.ireturn, 1) := tX9_told_ok (53, .ireturn, 1) (List.mem_of_getElem? (i := 31) rfl)

def tX9_kind : List (Nat × Instr × Nat) := [
  (0, .aload_n 0, 1),
  (1, .iconst 0, 1),
  (2, .putfield 112, 3),
  (5, .aload_n 0, 1),
  (6, .iconst 0, 1),
  (7, .putfield 115, 3),
  (10, .iload_n 1, 1),
  (11, .iconst 2, 1),
  (12, .if_icmp .ne 21, 3),
  (15, .iload_n 2, 1),
  (16, .ifCond .lt 13, 3),
  (19, .iload_n 2, 1),
  (20, .bipush 30, 2),
  (22, .if_icmp .gt 7, 3),
  (25, .iconst 1, 1),
  (26, .goto 49, 3),
  (29, .iconst 0, 1),
  (30, .goto 45, 3),
  (33, .iload_n 1, 1),
  (34, .iconst 4, 1),
  (35, .if_icmp .ne 22, 3),
  (38, .iload_n 2, 1),
  (39, .iconst 1, 1),
  (40, .if_icmp .lt 13, 3),
  (43, .iload_n 2, 1),
  (44, .bipush 30, 2),
  (46, .if_icmp .gt 7, 3),
  (49, .iconst 1, 1),
  (50, .goto 25, 3),
  (53, .iconst 0, 1),
  (54, .goto 21, 3),
  (57, .iload_n 1, 1),
  (58, .ifCond .lt 16, 3),
  (61, .iload_n 1, 1),
  (62, .iconst 4, 1),
  (63, .if_icmp .ge 11, 3),
  (66, .iload_n 2, 1),
  (67, .ifCond .ne 7, 3),
  (70, .iconst 1, 1),
  (71, .goto 4, 3),
  (74, .iconst 0, 1),
  (75, .istore_n 3, 1),
  (76, .iload_n 3, 1),
  (77, .ifCond .ne 9, 3),
  (80, .aload_n 0, 1),
  (81, .iconst 2, 1),
  (82, .invokevirtual 118, 3),
  (85, .ireturn, 1),
  (86, .aload_n 0, 1),
  (87, .iload_n 1, 1),
  (88, .putfield 137, 3),
  (91, .iload_n 1, 1),
  (92, .iconst 2, 1),
  (93, .if_icmp .ne 8, 3),
  (96, .aload_n 0, 1),
  (97, .iload_n 2, 1),
  (98, .putfield 23, 3),
  (101, .iload_n 1, 1),
  (102, .iconst 4, 1),
  (103, .if_icmp .ne 8, 3),
  (106, .aload_n 0, 1),
  (107, .iload_n 2, 1),
  (108, .putfield 26, 3),
  (111, .iconst 1, 1),
  (112, .ireturn, 1)]
set_option maxRecDepth 100000 in
theorem tX9_kind_ok : ∀ q ∈ tX9_kind, decode cX9_kind q.1 = .ok q.2 := by decide +kernel
theorem dX9_kind_0 : decode cX9_kind 0 = .ok (.aload_n 0, 1) := tX9_kind_ok (0, .aload_n 0, 1) (List.mem_of_getElem? (i := 0) rfl)
theorem dX9_kind_1 : decode cX9_kind 1 = .ok (.iconst 0, 1) := tX9_kind_ok (1, .iconst 0, 1) (List.mem_of_getElem? (i := 1) rfl)
theorem dX9_kind_2 : decode cX9_kind 2 = .ok (.putfield 112, 3) := tX9_kind_ok (2, .putfield 112, 3) (List.mem_of_getElem? (i := 2) rfl)
theorem dX9_kind_5 : decode cX9_kind 5 = .ok (.aload_n 0, 1) := tX9_kind_ok (5, .aload_n 0, 1) (List.mem_of_getElem? (i := 3) rfl)
theorem dX9_kind_6 : decode cX9_kind 6 = .ok (.iconst 0, 1) := tX9_kind_ok (6, .iconst 0, 1) (List.mem_of_getElem? (i := 4) rfl)
theorem dX9_kind_7 : decode cX9_kind 7 = .ok (.putfield 115, 3) := tX9_kind_ok (7, .putfield 115, 3) (List.mem_of_getElem? (i := 5) rfl)
theorem dX9_kind_10 : decode cX9_kind 10 = .ok (.iload_n 1, 1) := tX9_kind_ok (10, .iload_n 1, 1) (List.mem_of_getElem? (i := 6) rfl)
theorem dX9_kind_11 : decode cX9_kind 11 = .ok (.iconst 2, 1) := tX9_kind_ok (11, .iconst 2, 1) (List.mem_of_getElem? (i := 7) rfl)
theorem dX9_kind_12 : decode cX9_kind 12 = .ok (.if_icmp .ne 21, 3) := tX9_kind_ok (12, .if_icmp .ne 21, 3) (List.mem_of_getElem? (i := 8) rfl)
theorem dX9_kind_15 : decode cX9_kind 15 = .ok (.iload_n 2, 1) := tX9_kind_ok (15, .iload_n 2, 1) (List.mem_of_getElem? (i := 9) rfl)
theorem dX9_kind_16 : decode cX9_kind 16 = .ok (.ifCond .lt 13, 3) := tX9_kind_ok (16, .ifCond .lt 13, 3) (List.mem_of_getElem? (i := 10) rfl)
theorem dX9_kind_19 : decode cX9_kind 19 = .ok (.iload_n 2, 1) := tX9_kind_ok (19, .iload_n 2, 1) (List.mem_of_getElem? (i := 11) rfl)
theorem dX9_kind_20 : decode cX9_kind 20 = .ok (.bipush 30, 2) := tX9_kind_ok (20, .bipush 30, 2) (List.mem_of_getElem? (i := 12) rfl)
theorem dX9_kind_22 : decode cX9_kind 22 = .ok (.if_icmp .gt 7, 3) := tX9_kind_ok (22, .if_icmp .gt 7, 3) (List.mem_of_getElem? (i := 13) rfl)
theorem dX9_kind_25 : decode cX9_kind 25 = .ok (.iconst 1, 1) := tX9_kind_ok (25, .iconst 1, 1) (List.mem_of_getElem? (i := 14) rfl)
theorem dX9_kind_26 : decode cX9_kind 26 = .ok (.goto 49, 3) := tX9_kind_ok (26, .goto 49, 3) (List.mem_of_getElem? (i := 15) rfl)
theorem dX9_kind_29 : decode cX9_kind 29 = .ok (.iconst 0, 1) := tX9_kind_ok (29, .iconst 0, 1) (List.mem_of_getElem? (i := 16) rfl)
theorem dX9_kind_30 : decode cX9_kind 30 = .ok (.goto 45, 3) := tX9_kind_ok (30, .goto 45, 3) (List.mem_of_getElem? (i := 17) rfl)
theorem dX9_kind_33 : decode cX9_kind 33 = .ok (.iload_n 1, 1) := tX9_kind_ok (33, .iload_n 1, 1) (List.mem_of_getElem? (i := 18) rfl)
theorem dX9_kind_34 : decode cX9_kind 34 = .ok (.iconst 4, 1) := tX9_kind_ok (34, .iconst 4, 1) (List.mem_of_getElem? (i := 19) rfl)
theorem dX9_kind_35 : decode cX9_kind 35 = .ok (.if_icmp .ne 22, 3) := tX9_kind_ok (35, .if_icmp .ne 22, 3) (List.mem_of_getElem? (i := 20) rfl)
theorem dX9_kind_38 : decode cX9_kind 38 = .ok (.iload_n 2, 1) := tX9_kind_ok (38, .iload_n 2, 1) (List.mem_of_getElem? (i := 21) rfl)
theorem dX9_kind_39 : decode cX9_kind 39 = .ok (.iconst 1, 1) := tX9_kind_ok (39, .iconst 1, 1) (List.mem_of_getElem? (i := 22) rfl)
theorem dX9_kind_40 : decode cX9_kind 40 = .ok (.if_icmp .lt 13, 3) := tX9_kind_ok (40, .if_icmp .lt 13, 3) (List.mem_of_getElem? (i := 23) rfl)
theorem dX9_kind_43 : decode cX9_kind 43 = .ok (.iload_n 2, 1) := tX9_kind_ok (43, .iload_n 2, 1) (List.mem_of_getElem? (i := 24) rfl)
theorem dX9_kind_44 : decode cX9_kind 44 = .ok (.bipush 30, 2) := tX9_kind_ok (44, .bipush 30, 2) (List.mem_of_getElem? (i := 25) rfl)
theorem dX9_kind_46 : decode cX9_kind 46 = .ok (.if_icmp .gt 7, 3) := tX9_kind_ok (46, .if_icmp .gt 7, 3) (List.mem_of_getElem? (i := 26) rfl)
theorem dX9_kind_49 : decode cX9_kind 49 = .ok (.iconst 1, 1) := tX9_kind_ok (49, .iconst 1, 1) (List.mem_of_getElem? (i := 27) rfl)
theorem dX9_kind_50 : decode cX9_kind 50 = .ok (.goto 25, 3) := tX9_kind_ok (50, .goto 25, 3) (List.mem_of_getElem? (i := 28) rfl)
theorem dX9_kind_53 : decode cX9_kind 53 = .ok (.iconst 0, 1) := tX9_kind_ok (53, .iconst 0, 1) (List.mem_of_getElem? (i := 29) rfl)
theorem dX9_kind_54 : decode cX9_kind 54 = .ok (.goto 21, 3) := tX9_kind_ok (54, .goto 21, 3) (List.mem_of_getElem? (i := 30) rfl)
theorem dX9_kind_57 : decode cX9_kind 57 = .ok (.iload_n 1, 1) := tX9_kind_ok (57, .iload_n 1, 1) (List.mem_of_getElem? (i := 31) rfl)
theorem dX9_kind_58 : decode cX9_kind 58 = .ok (.ifCond .lt 16, 3) := tX9_kind_ok (58, .ifCond .lt 16, 3) (List.mem_of_getElem? (i := 32) rfl)
theorem dX9_kind_61 : decode cX9_kind 61 = .ok (.iload_n 1, 1) := tX9_kind_ok (61, .iload_n 1, 1) (List.mem_of_getElem? (i := 33) rfl)
theorem dX9_kind_62 : decode cX9_kind 62 = .ok (.iconst 4, 1) := tX9_kind_ok (62, .iconst 4, 1) (List.mem_of_getElem? (i := 34) rfl)
theorem dX9_kind_63 : decode cX9_kind 63 = .ok (.if_icmp .ge 11, 3) := tX9_kind_ok (63, .if_icmp .ge 11, 3) (List.mem_of_getElem? (i := 35) rfl)
theorem dX9_kind_66 : decode cX9_kind 66 = .ok (.iload_n 2, 1) := tX9_kind_ok (66, .iload_n 2, 1) (List.mem_of_getElem? (i := 36) rfl)
theorem dX9_kind_67 : decode cX9_kind 67 = .ok (.ifCond .ne 7, 3) := tX9_kind_ok (67, .ifCond .ne 7, 3) (List.mem_of_getElem? (i := 37) rfl)
theorem dX9_kind_70 : decode cX9_kind 70 = .ok (.iconst 1, 1) := tX9_kind_ok (70, .iconst 1, 1) (List.mem_of_getElem? (i := 38) rfl)
theorem dX9_kind_71 : decode cX9_kind 71 = .ok (.goto 4, 3) := tX9_kind_ok (71, .goto 4, 3) (List.mem_of_getElem? (i := 39) rfl)
theorem dX9_kind_74 : decode cX9_kind 74 = .ok (.iconst 0, 1) := tX9_kind_ok (74, .iconst 0, 1) (List.mem_of_getElem? (i := 40) rfl)
theorem dX9_kind_75 : decode cX9_kind 75 = .ok (.istore_n 3, 1) := tX9_kind_ok (75, .istore_n 3, 1) (List.mem_of_getElem? (i := 41) rfl)
theorem dX9_kind_76 : decode cX9_kind 76 = .ok (.iload_n 3, 1) := tX9_kind_ok (76, .iload_n 3, 1) (List.mem_of_getElem? (i := 42) rfl)
theorem dX9_kind_77 : decode cX9_kind 77 = .ok (.ifCond .ne 9, 3) := tX9_kind_ok (77, .ifCond .ne 9, 3) (List.mem_of_getElem? (i := 43) rfl)
theorem dX9_kind_80 : decode cX9_kind 80 = .ok (.aload_n 0, 1) := tX9_kind_ok (80, .aload_n 0, 1) (List.mem_of_getElem? (i := 44) rfl)
theorem dX9_kind_81 : decode cX9_kind 81 = .ok (.iconst 2, 1) := tX9_kind_ok (81, .iconst 2, 1) (List.mem_of_getElem? (i := 45) rfl)
theorem dX9_kind_82 : decode cX9_kind 82 = .ok (.invokevirtual 118, 3) := tX9_kind_ok (82, .invokevirtual 118, 3) (List.mem_of_getElem? (i := 46) rfl)
theorem dX9_kind_85 : decode cX9_kind 85 = .ok (.ireturn, 1) := tX9_kind_ok (85, .ireturn, 1) (List.mem_of_getElem? (i := 47) rfl)
theorem dX9_kind_86 : decode cX9_kind 86 = .ok (.aload_n 0, 1) := tX9_kind_ok (86, .aload_n 0, 1) (List.mem_of_getElem? (i := 48) rfl)
theorem dX9_kind_87 : decode cX9_kind 87 = .ok (.iload_n 1, 1) := tX9_kind_ok (87, .iload_n 1, 1) (List.mem_of_getElem? (i := 49) rfl)
theorem dX9_kind_88 : decode cX9_kind 88 = .ok (.putfield 137, 3) := tX9_kind_ok (88, .putfield 137, 3) (List.mem_of_getElem? (i := 50) rfl)
theorem dX9_kind_91 : decode cX9_kind 91 = .ok (.iload_n 1, 1) := tX9_kind_ok (91, .iload_n 1, 1) (List.mem_of_getElem? (i := 51) rfl)
theorem dX9_kind_92 : decode cX9_kind 92 = .ok (.iconst 2, 1) := tX9_kind_ok (92, .iconst 2, 1) (List.mem_of_getElem? (i := 52) rfl)
theorem dX9_kind_93 : decode cX9_kind 93 = .ok (.if_icmp .ne 8, 3) := tX9_kind_ok (93, .if_icmp .ne 8, 3) (List.mem_of_getElem? (i := 53) rfl)
theorem dX9_kind_96 : decode cX9_kind 96 = .ok (.aload_n 0, 1) := tX9_kind_ok (96, .aload_n 0, 1) (List.mem_of_getElem? (i := 54) rfl)
theorem dX9_kind_97 : decode cX9_kind 97 = .ok (.iload_n 2, 1) := tX9_kind_ok (97, .iload_n 2, 1) (List.mem_of_getElem? (i := 55) rfl)
theorem dX9_kind_98 : decode cX9_kind 98 = .ok (.putfield 23, 3) := tX9_kind_ok (98, .putfield 23, 3) (List.mem_of_getElem? (i := 56) rfl)
theorem dX9_kind_101 : decode cX9_kind 101 = .ok (.iload_n 1, 1) := tX9_kind_ok (101, .iload_n 1, 1) (List.mem_of_getElem? (i := 57) rfl)
theorem dX9_kind_102 : decode cX9_kind 102 = .ok (.iconst 4, 1) := tX9_kind_ok (102, .iconst 4, 1) (List.mem_of_getElem? (i := 58) rfl)
theorem dX9_kind_103 : decode cX9_kind 103 = .ok (.if_icmp .ne 8, 3) := tX9_kind_ok (103, .if_icmp .ne 8, 3) (List.mem_of_getElem? (i := 59) rfl)
theorem dX9_kind_106 : decode cX9_kind 106 = .ok (.aload_n 0, 1) := tX9_kind_ok (106, .aload_n 0, 1) (List.mem_of_getElem? (i := 60) rfl)
theorem dX9_kind_107 : decode cX9_kind 107 = .ok (.iload_n 2, 1) := tX9_kind_ok (107, .iload_n 2, 1) (List.mem_of_getElem? (i := 61) rfl)
theorem dX9_kind_108 : decode cX9_kind 108 = .ok (.putfield 26, 3) := tX9_kind_ok (108, .putfield 26, 3) (List.mem_of_getElem? (i := 62) rfl)
theorem dX9_kind_111 : decode cX9_kind 111 = .ok (.iconst 1, 1) := tX9_kind_ok (111, .iconst 1, 1) (List.mem_of_getElem? (i := 63) rfl)
theorem dX9_kind_112 : decode cX9_kind 112 = .ok (.ireturn, 1) := tX9_kind_ok (112, .ireturn, 1) (List.mem_of_getElem? (i := 64) rfl)

def tX9_bar : List (Nat × Instr × Nat) := [
  (0, .aload_n 0, 1),
  (1, .iconst 0, 1),
  (2, .putfield 112, 3),
  (5, .aload_n 0, 1),
  (6, .iconst 0, 1),
  (7, .putfield 115, 3),
  (10, .iload_n 1, 1),
  (11, .iload_n 2, 1),
  (12, .invokestatic 133, 3),
  (15, .ifCond .ne 9, 3),
  (18, .aload_n 0, 1),
  (19, .iconst 2, 1),
  (20, .invokevirtual 118, 3),
  (23, .ireturn, 1),
  (24, .aload_n 0, 1),
  (25, .getfield 38, 3),
  (28, .iload_n 1, 1),
  (29, .iload_n 2, 1),
  (30, .invokestatic 144, 3),
  (33, .iload_n 3, 1),
  (34, .bastore, 1),
  (35, .iconst 1, 1),
  (36, .ireturn, 1)]
set_option maxRecDepth 100000 in
theorem tX9_bar_ok : ∀ q ∈ tX9_bar, decode cX9_bar q.1 = .ok q.2 := by decide +kernel
theorem dX9_bar_0 : decode cX9_bar 0 = .ok (.aload_n 0, 1) := tX9_bar_ok (0, .aload_n 0, 1) (List.mem_of_getElem? (i := 0) rfl)
theorem dX9_bar_1 : decode cX9_bar 1 = .ok (.iconst 0, 1) := tX9_bar_ok (1, .iconst 0, 1) (List.mem_of_getElem? (i := 1) rfl)
theorem dX9_bar_2 : decode cX9_bar 2 = .ok (.putfield 112, 3) := tX9_bar_ok (2, .putfield 112, 3) (List.mem_of_getElem? (i := 2) rfl)
theorem dX9_bar_5 : decode cX9_bar 5 = .ok (.aload_n 0, 1) := tX9_bar_ok (5, .aload_n 0, 1) (List.mem_of_getElem? (i := 3) rfl)
theorem dX9_bar_6 : decode cX9_bar 6 = .ok (.iconst 0, 1) := tX9_bar_ok (6, .iconst 0, 1) (List.mem_of_getElem? (i := 4) rfl)
theorem dX9_bar_7 : decode cX9_bar 7 = .ok (.putfield 115, 3) := tX9_bar_ok (7, .putfield 115, 3) (List.mem_of_getElem? (i := 5) rfl)
theorem dX9_bar_10 : decode cX9_bar 10 = .ok (.iload_n 1, 1) := tX9_bar_ok (10, .iload_n 1, 1) (List.mem_of_getElem? (i := 6) rfl)
theorem dX9_bar_11 : decode cX9_bar 11 = .ok (.iload_n 2, 1) := tX9_bar_ok (11, .iload_n 2, 1) (List.mem_of_getElem? (i := 7) rfl)
theorem dX9_bar_12 : decode cX9_bar 12 = .ok (.invokestatic 133, 3) := tX9_bar_ok (12, .invokestatic 133, 3) (List.mem_of_getElem? (i := 8) rfl)
theorem dX9_bar_15 : decode cX9_bar 15 = .ok (.ifCond .ne 9, 3) := tX9_bar_ok (15, .ifCond .ne 9, 3) (List.mem_of_getElem? (i := 9) rfl)
theorem dX9_bar_18 : decode cX9_bar 18 = .ok (.aload_n 0, 1) := tX9_bar_ok (18, .aload_n 0, 1) (List.mem_of_getElem? (i := 10) rfl)
theorem dX9_bar_19 : decode cX9_bar 19 = .ok (.iconst 2, 1) := tX9_bar_ok (19, .iconst 2, 1) (List.mem_of_getElem? (i := 11) rfl)
theorem dX9_bar_20 : decode cX9_bar 20 = .ok (.invokevirtual 118, 3) := tX9_bar_ok (20, .invokevirtual 118, 3) (List.mem_of_getElem? (i := 12) rfl)
theorem dX9_bar_23 : decode cX9_bar 23 = .ok (.ireturn, 1) := tX9_bar_ok (23, .ireturn, 1) (List.mem_of_getElem? (i := 13) rfl)
theorem dX9_bar_24 : decode cX9_bar 24 = .ok (.aload_n 0, 1) := tX9_bar_ok (24, .aload_n 0, 1) (List.mem_of_getElem? (i := 14) rfl)
theorem dX9_bar_25 : decode cX9_bar 25 = .ok (.getfield 38, 3) := tX9_bar_ok (25, .getfield 38, 3) (List.mem_of_getElem? (i := 15) rfl)
theorem dX9_bar_28 : decode cX9_bar 28 = .ok (.iload_n 1, 1) := tX9_bar_ok (28, .iload_n 1, 1) (List.mem_of_getElem? (i := 16) rfl)
theorem dX9_bar_29 : decode cX9_bar 29 = .ok (.iload_n 2, 1) := tX9_bar_ok (29, .iload_n 2, 1) (List.mem_of_getElem? (i := 17) rfl)
theorem dX9_bar_30 : decode cX9_bar 30 = .ok (.invokestatic 144, 3) := tX9_bar_ok (30, .invokestatic 144, 3) (List.mem_of_getElem? (i := 18) rfl)
theorem dX9_bar_33 : decode cX9_bar 33 = .ok (.iload_n 3, 1) := tX9_bar_ok (33, .iload_n 3, 1) (List.mem_of_getElem? (i := 19) rfl)
theorem dX9_bar_34 : decode cX9_bar 34 = .ok (.bastore, 1) := tX9_bar_ok (34, .bastore, 1) (List.mem_of_getElem? (i := 20) rfl)
theorem dX9_bar_35 : decode cX9_bar 35 = .ok (.iconst 1, 1) := tX9_bar_ok (35, .iconst 1, 1) (List.mem_of_getElem? (i := 21) rfl)
theorem dX9_bar_36 : decode cX9_bar 36 = .ok (.ireturn, 1) := tX9_bar_ok (36, .ireturn, 1) (List.mem_of_getElem? (i := 22) rfl)

def tX9_wall : List (Nat × Instr × Nat) := [
  (0, .aload_n 0, 1),
  (1, .iconst 0, 1),
  (2, .putfield 112, 3),
  (5, .aload_n 0, 1),
  (6, .aload_n 0, 1),
  (7, .iload_n 1, 1),
  (8, .invokevirtual 122, 3),
  (11, .putfield 115, 3),
  (14, .aload_n 0, 1),
  (15, .getfield 115, 3),
  (18, .ifCond .le 5, 3),
  (21, .iconst (-1), 1),
  (22, .ireturn, 1),
  (23, .iload_n 2, 1),
  (24, .ifCond .ge 9, 3),
  (27, .aload_n 0, 1),
  (28, .iconst 2, 1),
  (29, .invokevirtual 156, 3),
  (32, .ireturn, 1),
  (33, .ldc2_w 159, 3),
  (36, .iload_n 2, 1),
  (37, .i2l, 1),
  (38, .lmul, 1),
  (39, .aload_n 0, 1),
  (40, .getfield 13, 3),
  (43, .iload_n 1, 1),
  (44, .iaload, 1),
  (45, .i2l, 1),
  (46, .lcmp, 1),
  (47, .ifCond .le 9, 3),
  (50, .aload_n 0, 1),
  (51, .iconst 4, 1),
  (52, .invokevirtual 156, 3),
  (55, .ireturn, 1),
  (56, .bipush 64, 2),
  (58, .iload_n 1, 1),
  (59, .imul, 1),
  (60, .istore_n 3, 1),
  (61, .iconst 0, 1),
  (62, .istore 4, 2),
  (64, .iload 4, 2),
  (66, .iload_n 2, 1),
  (67, .if_icmp .ge 45, 3),
  (70, .aload_n 0, 1),
  (71, .getfield 16, 3),
  (74, .iload_n 3, 1),
  (75, .iconst 2, 1),
  (76, .iload 4, 2),
  (78, .imul, 1),
  (79, .iadd, 1),
  (80, .iaload, 1),
  (81, .aload_n 0, 1),
  (82, .getfield 16, 3),
  (85, .iload_n 3, 1),
  (86, .iconst 2, 1),
  (87, .iload 4, 2),
  (89, .imul, 1),
  (90, .iadd, 1),
  (91, .iconst 1, 1),
  (92, .iadd, 1),
  (93, .iaload, 1),
  (94, .invokestatic 133, 3),
  (97, .ifCond .ne 9, 3),
  (100, .aload_n 0, 1),
  (101, .iconst 2, 1),
  (102, .invokevirtual 156, 3),
  (105, .ireturn, 1),
  (106, .iinc 4 1, 3),
  (109, .goto (-45), 3),
  (112, .iconst 0, 1),
  (113, .istore 4, 2),
  (115, .iconst 0, 1),
  (116, .istore 5, 2),
  (118, .iload 5, 2),
  (120, .iload_n 2, 1),
  (121, .if_icmp .ge 66, 3),
  (124, .aload_n 0, 1),
  (125, .getfield 16, 3),
  (128, .iload_n 3, 1),
  (129, .iconst 2, 1),
  (130, .iload 5, 2),
  (132, .imul, 1),
  (133, .iadd, 1),
  (134, .iaload, 1),
  (135, .aload_n 0, 1),
  (136, .getfield 16, 3),
  (139, .iload_n 3, 1),
  (140, .iconst 2, 1),
  (141, .iload 5, 2),
  (143, .imul, 1),
  (144, .iadd, 1),
  (145, .iconst 1, 1),
  (146, .iadd, 1),
  (147, .iaload, 1),
  (148, .invokestatic 144, 3),
  (151, .istore 6, 2),
  (153, .iload 4, 2),
  (155, .aload_n 0, 1),
  (156, .getfield 38, 3),
  (159, .iload 6, 2),
  (161, .baload, 1),
  (162, .ifCond .eq 7, 3),
  (165, .iconst 0, 1),
  (166, .goto 4, 3),
  (169, .iconst 1, 1),
  (170, .iadd, 1),
  (171, .istore 4, 2),
  (173, .aload_n 0, 1),
  (174, .getfield 38, 3),
  (177, .iload 6, 2),
  (179, .iconst 1, 1),
  (180, .bastore, 1),
  (181, .iinc 5 1, 3),
  (184, .goto (-66), 3),
  (187, .iload 4, 2),
  (189, .ireturn, 1)]
set_option maxRecDepth 100000 in
theorem tX9_wall_ok : ∀ q ∈ tX9_wall, decode cX9_wall q.1 = .ok q.2 := by decide +kernel
theorem dX9_wall_0 : decode cX9_wall 0 = .ok (.aload_n 0, 1) := tX9_wall_ok (0, .aload_n 0, 1) (List.mem_of_getElem? (i := 0) rfl)
theorem dX9_wall_1 : decode cX9_wall 1 = .ok (.iconst 0, 1) := tX9_wall_ok (1, .iconst 0, 1) (List.mem_of_getElem? (i := 1) rfl)
theorem dX9_wall_2 : decode cX9_wall 2 = .ok (.putfield 112, 3) := tX9_wall_ok (2, .putfield 112, 3) (List.mem_of_getElem? (i := 2) rfl)
theorem dX9_wall_5 : decode cX9_wall 5 = .ok (.aload_n 0, 1) := tX9_wall_ok (5, .aload_n 0, 1) (List.mem_of_getElem? (i := 3) rfl)
theorem dX9_wall_6 : decode cX9_wall 6 = .ok (.aload_n 0, 1) := tX9_wall_ok (6, .aload_n 0, 1) (List.mem_of_getElem? (i := 4) rfl)
theorem dX9_wall_7 : decode cX9_wall 7 = .ok (.iload_n 1, 1) := tX9_wall_ok (7, .iload_n 1, 1) (List.mem_of_getElem? (i := 5) rfl)
theorem dX9_wall_8 : decode cX9_wall 8 = .ok (.invokevirtual 122, 3) := tX9_wall_ok (8, .invokevirtual 122, 3) (List.mem_of_getElem? (i := 6) rfl)
theorem dX9_wall_11 : decode cX9_wall 11 = .ok (.putfield 115, 3) := tX9_wall_ok (11, .putfield 115, 3) (List.mem_of_getElem? (i := 7) rfl)
theorem dX9_wall_14 : decode cX9_wall 14 = .ok (.aload_n 0, 1) := tX9_wall_ok (14, .aload_n 0, 1) (List.mem_of_getElem? (i := 8) rfl)
theorem dX9_wall_15 : decode cX9_wall 15 = .ok (.getfield 115, 3) := tX9_wall_ok (15, .getfield 115, 3) (List.mem_of_getElem? (i := 9) rfl)
theorem dX9_wall_18 : decode cX9_wall 18 = .ok (.ifCond .le 5, 3) := tX9_wall_ok (18, .ifCond .le 5, 3) (List.mem_of_getElem? (i := 10) rfl)
theorem dX9_wall_21 : decode cX9_wall 21 = .ok (.iconst (-1), 1) := tX9_wall_ok (21, .iconst (-1), 1) (List.mem_of_getElem? (i := 11) rfl)
theorem dX9_wall_22 : decode cX9_wall 22 = .ok (.ireturn, 1) := tX9_wall_ok (22, .ireturn, 1) (List.mem_of_getElem? (i := 12) rfl)
theorem dX9_wall_23 : decode cX9_wall 23 = .ok (.iload_n 2, 1) := tX9_wall_ok (23, .iload_n 2, 1) (List.mem_of_getElem? (i := 13) rfl)
theorem dX9_wall_24 : decode cX9_wall 24 = .ok (.ifCond .ge 9, 3) := tX9_wall_ok (24, .ifCond .ge 9, 3) (List.mem_of_getElem? (i := 14) rfl)
theorem dX9_wall_27 : decode cX9_wall 27 = .ok (.aload_n 0, 1) := tX9_wall_ok (27, .aload_n 0, 1) (List.mem_of_getElem? (i := 15) rfl)
theorem dX9_wall_28 : decode cX9_wall 28 = .ok (.iconst 2, 1) := tX9_wall_ok (28, .iconst 2, 1) (List.mem_of_getElem? (i := 16) rfl)
theorem dX9_wall_29 : decode cX9_wall 29 = .ok (.invokevirtual 156, 3) := tX9_wall_ok (29, .invokevirtual 156, 3) (List.mem_of_getElem? (i := 17) rfl)
theorem dX9_wall_32 : decode cX9_wall 32 = .ok (.ireturn, 1) := tX9_wall_ok (32, .ireturn, 1) (List.mem_of_getElem? (i := 18) rfl)
theorem dX9_wall_33 : decode cX9_wall 33 = .ok (.ldc2_w 159, 3) := tX9_wall_ok (33, .ldc2_w 159, 3) (List.mem_of_getElem? (i := 19) rfl)
theorem dX9_wall_36 : decode cX9_wall 36 = .ok (.iload_n 2, 1) := tX9_wall_ok (36, .iload_n 2, 1) (List.mem_of_getElem? (i := 20) rfl)
theorem dX9_wall_37 : decode cX9_wall 37 = .ok (.i2l, 1) := tX9_wall_ok (37, .i2l, 1) (List.mem_of_getElem? (i := 21) rfl)
theorem dX9_wall_38 : decode cX9_wall 38 = .ok (.lmul, 1) := tX9_wall_ok (38, .lmul, 1) (List.mem_of_getElem? (i := 22) rfl)
theorem dX9_wall_39 : decode cX9_wall 39 = .ok (.aload_n 0, 1) := tX9_wall_ok (39, .aload_n 0, 1) (List.mem_of_getElem? (i := 23) rfl)
theorem dX9_wall_40 : decode cX9_wall 40 = .ok (.getfield 13, 3) := tX9_wall_ok (40, .getfield 13, 3) (List.mem_of_getElem? (i := 24) rfl)
theorem dX9_wall_43 : decode cX9_wall 43 = .ok (.iload_n 1, 1) := tX9_wall_ok (43, .iload_n 1, 1) (List.mem_of_getElem? (i := 25) rfl)
theorem dX9_wall_44 : decode cX9_wall 44 = .ok (.iaload, 1) := tX9_wall_ok (44, .iaload, 1) (List.mem_of_getElem? (i := 26) rfl)
theorem dX9_wall_45 : decode cX9_wall 45 = .ok (.i2l, 1) := tX9_wall_ok (45, .i2l, 1) (List.mem_of_getElem? (i := 27) rfl)
theorem dX9_wall_46 : decode cX9_wall 46 = .ok (.lcmp, 1) := tX9_wall_ok (46, .lcmp, 1) (List.mem_of_getElem? (i := 28) rfl)
theorem dX9_wall_47 : decode cX9_wall 47 = .ok (.ifCond .le 9, 3) := tX9_wall_ok (47, .ifCond .le 9, 3) (List.mem_of_getElem? (i := 29) rfl)
theorem dX9_wall_50 : decode cX9_wall 50 = .ok (.aload_n 0, 1) := tX9_wall_ok (50, .aload_n 0, 1) (List.mem_of_getElem? (i := 30) rfl)
theorem dX9_wall_51 : decode cX9_wall 51 = .ok (.iconst 4, 1) := tX9_wall_ok (51, .iconst 4, 1) (List.mem_of_getElem? (i := 31) rfl)
theorem dX9_wall_52 : decode cX9_wall 52 = .ok (.invokevirtual 156, 3) := tX9_wall_ok (52, .invokevirtual 156, 3) (List.mem_of_getElem? (i := 32) rfl)
theorem dX9_wall_55 : decode cX9_wall 55 = .ok (.ireturn, 1) := tX9_wall_ok (55, .ireturn, 1) (List.mem_of_getElem? (i := 33) rfl)
theorem dX9_wall_56 : decode cX9_wall 56 = .ok (.bipush 64, 2) := tX9_wall_ok (56, .bipush 64, 2) (List.mem_of_getElem? (i := 34) rfl)
theorem dX9_wall_58 : decode cX9_wall 58 = .ok (.iload_n 1, 1) := tX9_wall_ok (58, .iload_n 1, 1) (List.mem_of_getElem? (i := 35) rfl)
theorem dX9_wall_59 : decode cX9_wall 59 = .ok (.imul, 1) := tX9_wall_ok (59, .imul, 1) (List.mem_of_getElem? (i := 36) rfl)
theorem dX9_wall_60 : decode cX9_wall 60 = .ok (.istore_n 3, 1) := tX9_wall_ok (60, .istore_n 3, 1) (List.mem_of_getElem? (i := 37) rfl)
theorem dX9_wall_61 : decode cX9_wall 61 = .ok (.iconst 0, 1) := tX9_wall_ok (61, .iconst 0, 1) (List.mem_of_getElem? (i := 38) rfl)
theorem dX9_wall_62 : decode cX9_wall 62 = .ok (.istore 4, 2) := tX9_wall_ok (62, .istore 4, 2) (List.mem_of_getElem? (i := 39) rfl)
theorem dX9_wall_64 : decode cX9_wall 64 = .ok (.iload 4, 2) := tX9_wall_ok (64, .iload 4, 2) (List.mem_of_getElem? (i := 40) rfl)
theorem dX9_wall_66 : decode cX9_wall 66 = .ok (.iload_n 2, 1) := tX9_wall_ok (66, .iload_n 2, 1) (List.mem_of_getElem? (i := 41) rfl)
theorem dX9_wall_67 : decode cX9_wall 67 = .ok (.if_icmp .ge 45, 3) := tX9_wall_ok (67, .if_icmp .ge 45, 3) (List.mem_of_getElem? (i := 42) rfl)
theorem dX9_wall_70 : decode cX9_wall 70 = .ok (.aload_n 0, 1) := tX9_wall_ok (70, .aload_n 0, 1) (List.mem_of_getElem? (i := 43) rfl)
theorem dX9_wall_71 : decode cX9_wall 71 = .ok (.getfield 16, 3) := tX9_wall_ok (71, .getfield 16, 3) (List.mem_of_getElem? (i := 44) rfl)
theorem dX9_wall_74 : decode cX9_wall 74 = .ok (.iload_n 3, 1) := tX9_wall_ok (74, .iload_n 3, 1) (List.mem_of_getElem? (i := 45) rfl)
theorem dX9_wall_75 : decode cX9_wall 75 = .ok (.iconst 2, 1) := tX9_wall_ok (75, .iconst 2, 1) (List.mem_of_getElem? (i := 46) rfl)
theorem dX9_wall_76 : decode cX9_wall 76 = .ok (.iload 4, 2) := tX9_wall_ok (76, .iload 4, 2) (List.mem_of_getElem? (i := 47) rfl)
theorem dX9_wall_78 : decode cX9_wall 78 = .ok (.imul, 1) := tX9_wall_ok (78, .imul, 1) (List.mem_of_getElem? (i := 48) rfl)
theorem dX9_wall_79 : decode cX9_wall 79 = .ok (.iadd, 1) := tX9_wall_ok (79, .iadd, 1) (List.mem_of_getElem? (i := 49) rfl)
theorem dX9_wall_80 : decode cX9_wall 80 = .ok (.iaload, 1) := tX9_wall_ok (80, .iaload, 1) (List.mem_of_getElem? (i := 50) rfl)
theorem dX9_wall_81 : decode cX9_wall 81 = .ok (.aload_n 0, 1) := tX9_wall_ok (81, .aload_n 0, 1) (List.mem_of_getElem? (i := 51) rfl)
theorem dX9_wall_82 : decode cX9_wall 82 = .ok (.getfield 16, 3) := tX9_wall_ok (82, .getfield 16, 3) (List.mem_of_getElem? (i := 52) rfl)
theorem dX9_wall_85 : decode cX9_wall 85 = .ok (.iload_n 3, 1) := tX9_wall_ok (85, .iload_n 3, 1) (List.mem_of_getElem? (i := 53) rfl)
theorem dX9_wall_86 : decode cX9_wall 86 = .ok (.iconst 2, 1) := tX9_wall_ok (86, .iconst 2, 1) (List.mem_of_getElem? (i := 54) rfl)
theorem dX9_wall_87 : decode cX9_wall 87 = .ok (.iload 4, 2) := tX9_wall_ok (87, .iload 4, 2) (List.mem_of_getElem? (i := 55) rfl)
theorem dX9_wall_89 : decode cX9_wall 89 = .ok (.imul, 1) := tX9_wall_ok (89, .imul, 1) (List.mem_of_getElem? (i := 56) rfl)
theorem dX9_wall_90 : decode cX9_wall 90 = .ok (.iadd, 1) := tX9_wall_ok (90, .iadd, 1) (List.mem_of_getElem? (i := 57) rfl)
theorem dX9_wall_91 : decode cX9_wall 91 = .ok (.iconst 1, 1) := tX9_wall_ok (91, .iconst 1, 1) (List.mem_of_getElem? (i := 58) rfl)
theorem dX9_wall_92 : decode cX9_wall 92 = .ok (.iadd, 1) := tX9_wall_ok (92, .iadd, 1) (List.mem_of_getElem? (i := 59) rfl)
theorem dX9_wall_93 : decode cX9_wall 93 = .ok (.iaload, 1) := tX9_wall_ok (93, .iaload, 1) (List.mem_of_getElem? (i := 60) rfl)
theorem dX9_wall_94 : decode cX9_wall 94 = .ok (.invokestatic 133, 3) := tX9_wall_ok (94, .invokestatic 133, 3) (List.mem_of_getElem? (i := 61) rfl)
theorem dX9_wall_97 : decode cX9_wall 97 = .ok (.ifCond .ne 9, 3) := tX9_wall_ok (97, .ifCond .ne 9, 3) (List.mem_of_getElem? (i := 62) rfl)
theorem dX9_wall_100 : decode cX9_wall 100 = .ok (.aload_n 0, 1) := tX9_wall_ok (100, .aload_n 0, 1) (List.mem_of_getElem? (i := 63) rfl)
theorem dX9_wall_101 : decode cX9_wall 101 = .ok (.iconst 2, 1) := tX9_wall_ok (101, .iconst 2, 1) (List.mem_of_getElem? (i := 64) rfl)
theorem dX9_wall_102 : decode cX9_wall 102 = .ok (.invokevirtual 156, 3) := tX9_wall_ok (102, .invokevirtual 156, 3) (List.mem_of_getElem? (i := 65) rfl)
theorem dX9_wall_105 : decode cX9_wall 105 = .ok (.ireturn, 1) := tX9_wall_ok (105, .ireturn, 1) (List.mem_of_getElem? (i := 66) rfl)
theorem dX9_wall_106 : decode cX9_wall 106 = .ok (.iinc 4 1, 3) := tX9_wall_ok (106, .iinc 4 1, 3) (List.mem_of_getElem? (i := 67) rfl)
theorem dX9_wall_109 : decode cX9_wall 109 = .ok (.goto (-45), 3) := tX9_wall_ok (109, .goto (-45), 3) (List.mem_of_getElem? (i := 68) rfl)
theorem dX9_wall_112 : decode cX9_wall 112 = .ok (.iconst 0, 1) := tX9_wall_ok (112, .iconst 0, 1) (List.mem_of_getElem? (i := 69) rfl)
theorem dX9_wall_113 : decode cX9_wall 113 = .ok (.istore 4, 2) := tX9_wall_ok (113, .istore 4, 2) (List.mem_of_getElem? (i := 70) rfl)
theorem dX9_wall_115 : decode cX9_wall 115 = .ok (.iconst 0, 1) := tX9_wall_ok (115, .iconst 0, 1) (List.mem_of_getElem? (i := 71) rfl)
theorem dX9_wall_116 : decode cX9_wall 116 = .ok (.istore 5, 2) := tX9_wall_ok (116, .istore 5, 2) (List.mem_of_getElem? (i := 72) rfl)
theorem dX9_wall_118 : decode cX9_wall 118 = .ok (.iload 5, 2) := tX9_wall_ok (118, .iload 5, 2) (List.mem_of_getElem? (i := 73) rfl)
theorem dX9_wall_120 : decode cX9_wall 120 = .ok (.iload_n 2, 1) := tX9_wall_ok (120, .iload_n 2, 1) (List.mem_of_getElem? (i := 74) rfl)
theorem dX9_wall_121 : decode cX9_wall 121 = .ok (.if_icmp .ge 66, 3) := tX9_wall_ok (121, .if_icmp .ge 66, 3) (List.mem_of_getElem? (i := 75) rfl)
theorem dX9_wall_124 : decode cX9_wall 124 = .ok (.aload_n 0, 1) := tX9_wall_ok (124, .aload_n 0, 1) (List.mem_of_getElem? (i := 76) rfl)
theorem dX9_wall_125 : decode cX9_wall 125 = .ok (.getfield 16, 3) := tX9_wall_ok (125, .getfield 16, 3) (List.mem_of_getElem? (i := 77) rfl)
theorem dX9_wall_128 : decode cX9_wall 128 = .ok (.iload_n 3, 1) := tX9_wall_ok (128, .iload_n 3, 1) (List.mem_of_getElem? (i := 78) rfl)
theorem dX9_wall_129 : decode cX9_wall 129 = .ok (.iconst 2, 1) := tX9_wall_ok (129, .iconst 2, 1) (List.mem_of_getElem? (i := 79) rfl)
theorem dX9_wall_130 : decode cX9_wall 130 = .ok (.iload 5, 2) := tX9_wall_ok (130, .iload 5, 2) (List.mem_of_getElem? (i := 80) rfl)
theorem dX9_wall_132 : decode cX9_wall 132 = .ok (.imul, 1) := tX9_wall_ok (132, .imul, 1) (List.mem_of_getElem? (i := 81) rfl)
theorem dX9_wall_133 : decode cX9_wall 133 = .ok (.iadd, 1) := tX9_wall_ok (133, .iadd, 1) (List.mem_of_getElem? (i := 82) rfl)
theorem dX9_wall_134 : decode cX9_wall 134 = .ok (.iaload, 1) := tX9_wall_ok (134, .iaload, 1) (List.mem_of_getElem? (i := 83) rfl)
theorem dX9_wall_135 : decode cX9_wall 135 = .ok (.aload_n 0, 1) := tX9_wall_ok (135, .aload_n 0, 1) (List.mem_of_getElem? (i := 84) rfl)
theorem dX9_wall_136 : decode cX9_wall 136 = .ok (.getfield 16, 3) := tX9_wall_ok (136, .getfield 16, 3) (List.mem_of_getElem? (i := 85) rfl)
theorem dX9_wall_139 : decode cX9_wall 139 = .ok (.iload_n 3, 1) := tX9_wall_ok (139, .iload_n 3, 1) (List.mem_of_getElem? (i := 86) rfl)
theorem dX9_wall_140 : decode cX9_wall 140 = .ok (.iconst 2, 1) := tX9_wall_ok (140, .iconst 2, 1) (List.mem_of_getElem? (i := 87) rfl)
theorem dX9_wall_141 : decode cX9_wall 141 = .ok (.iload 5, 2) := tX9_wall_ok (141, .iload 5, 2) (List.mem_of_getElem? (i := 88) rfl)
theorem dX9_wall_143 : decode cX9_wall 143 = .ok (.imul, 1) := tX9_wall_ok (143, .imul, 1) (List.mem_of_getElem? (i := 89) rfl)
theorem dX9_wall_144 : decode cX9_wall 144 = .ok (.iadd, 1) := tX9_wall_ok (144, .iadd, 1) (List.mem_of_getElem? (i := 90) rfl)
theorem dX9_wall_145 : decode cX9_wall 145 = .ok (.iconst 1, 1) := tX9_wall_ok (145, .iconst 1, 1) (List.mem_of_getElem? (i := 91) rfl)
theorem dX9_wall_146 : decode cX9_wall 146 = .ok (.iadd, 1) := tX9_wall_ok (146, .iadd, 1) (List.mem_of_getElem? (i := 92) rfl)
theorem dX9_wall_147 : decode cX9_wall 147 = .ok (.iaload, 1) := tX9_wall_ok (147, .iaload, 1) (List.mem_of_getElem? (i := 93) rfl)
theorem dX9_wall_148 : decode cX9_wall 148 = .ok (.invokestatic 144, 3) := tX9_wall_ok (148, .invokestatic 144, 3) (List.mem_of_getElem? (i := 94) rfl)
theorem dX9_wall_151 : decode cX9_wall 151 = .ok (.istore 6, 2) := tX9_wall_ok (151, .istore 6, 2) (List.mem_of_getElem? (i := 95) rfl)
theorem dX9_wall_153 : decode cX9_wall 153 = .ok (.iload 4, 2) := tX9_wall_ok (153, .iload 4, 2) (List.mem_of_getElem? (i := 96) rfl)
theorem dX9_wall_155 : decode cX9_wall 155 = .ok (.aload_n 0, 1) := tX9_wall_ok (155, .aload_n 0, 1) (List.mem_of_getElem? (i := 97) rfl)
theorem dX9_wall_156 : decode cX9_wall 156 = .ok (.getfield 38, 3) := tX9_wall_ok (156, .getfield 38, 3) (List.mem_of_getElem? (i := 98) rfl)
theorem dX9_wall_159 : decode cX9_wall 159 = .ok (.iload 6, 2) := tX9_wall_ok (159, .iload 6, 2) (List.mem_of_getElem? (i := 99) rfl)
theorem dX9_wall_161 : decode cX9_wall 161 = .ok (.baload, 1) := tX9_wall_ok (161, .baload, 1) (List.mem_of_getElem? (i := 100) rfl)
theorem dX9_wall_162 : decode cX9_wall 162 = .ok (.ifCond .eq 7, 3) := tX9_wall_ok (162, .ifCond .eq 7, 3) (List.mem_of_getElem? (i := 101) rfl)
theorem dX9_wall_165 : decode cX9_wall 165 = .ok (.iconst 0, 1) := tX9_wall_ok (165, .iconst 0, 1) (List.mem_of_getElem? (i := 102) rfl)
theorem dX9_wall_166 : decode cX9_wall 166 = .ok (.goto 4, 3) := tX9_wall_ok (166, .goto 4, 3) (List.mem_of_getElem? (i := 103) rfl)
theorem dX9_wall_169 : decode cX9_wall 169 = .ok (.iconst 1, 1) := tX9_wall_ok (169, .iconst 1, 1) (List.mem_of_getElem? (i := 104) rfl)
theorem dX9_wall_170 : decode cX9_wall 170 = .ok (.iadd, 1) := tX9_wall_ok (170, .iadd, 1) (List.mem_of_getElem? (i := 105) rfl)
theorem dX9_wall_171 : decode cX9_wall 171 = .ok (.istore 4, 2) := tX9_wall_ok (171, .istore 4, 2) (List.mem_of_getElem? (i := 106) rfl)
theorem dX9_wall_173 : decode cX9_wall 173 = .ok (.aload_n 0, 1) := tX9_wall_ok (173, .aload_n 0, 1) (List.mem_of_getElem? (i := 107) rfl)
theorem dX9_wall_174 : decode cX9_wall 174 = .ok (.getfield 38, 3) := tX9_wall_ok (174, .getfield 38, 3) (List.mem_of_getElem? (i := 108) rfl)
theorem dX9_wall_177 : decode cX9_wall 177 = .ok (.iload 6, 2) := tX9_wall_ok (177, .iload 6, 2) (List.mem_of_getElem? (i := 109) rfl)
theorem dX9_wall_179 : decode cX9_wall 179 = .ok (.iconst 1, 1) := tX9_wall_ok (179, .iconst 1, 1) (List.mem_of_getElem? (i := 110) rfl)
theorem dX9_wall_180 : decode cX9_wall 180 = .ok (.bastore, 1) := tX9_wall_ok (180, .bastore, 1) (List.mem_of_getElem? (i := 111) rfl)
theorem dX9_wall_181 : decode cX9_wall 181 = .ok (.iinc 5 1, 3) := tX9_wall_ok (181, .iinc 5 1, 3) (List.mem_of_getElem? (i := 112) rfl)
theorem dX9_wall_184 : decode cX9_wall 184 = .ok (.goto (-66), 3) := tX9_wall_ok (184, .goto (-66), 3) (List.mem_of_getElem? (i := 113) rfl)
theorem dX9_wall_187 : decode cX9_wall 187 = .ok (.iload 4, 2) := tX9_wall_ok (187, .iload 4, 2) (List.mem_of_getElem? (i := 114) rfl)
theorem dX9_wall_189 : decode cX9_wall 189 = .ok (.ireturn, 1) := tX9_wall_ok (189, .ireturn, 1) (List.mem_of_getElem? (i := 115) rfl)

def tX9_from : List (Nat × Instr × Nat) := [
  (0, .aload_n 0, 1),
  (1, .iconst 0, 1),
  (2, .putfield 112, 3),
  (5, .aload_n 0, 1),
  (6, .iconst 0, 1),
  (7, .putfield 115, 3),
  (10, .iload_n 1, 1),
  (11, .iload_n 2, 1),
  (12, .invokestatic 133, 3),
  (15, .ifCond .ne 9, 3),
  (18, .aload_n 0, 1),
  (19, .iconst 2, 1),
  (20, .invokevirtual 118, 3),
  (23, .ireturn, 1),
  (24, .aload_n 0, 1),
  (25, .iload_n 1, 1),
  (26, .putfield 161, 3),
  (29, .aload_n 0, 1),
  (30, .iload_n 2, 1),
  (31, .putfield 164, 3),
  (34, .iconst 1, 1),
  (35, .ireturn, 1)]
set_option maxRecDepth 100000 in
theorem tX9_from_ok : ∀ q ∈ tX9_from, decode cX9_from q.1 = .ok q.2 := by decide +kernel
theorem dX9_from_0 : decode cX9_from 0 = .ok (.aload_n 0, 1) := tX9_from_ok (0, .aload_n 0, 1) (List.mem_of_getElem? (i := 0) rfl)
theorem dX9_from_1 : decode cX9_from 1 = .ok (.iconst 0, 1) := tX9_from_ok (1, .iconst 0, 1) (List.mem_of_getElem? (i := 1) rfl)
theorem dX9_from_2 : decode cX9_from 2 = .ok (.putfield 112, 3) := tX9_from_ok (2, .putfield 112, 3) (List.mem_of_getElem? (i := 2) rfl)
theorem dX9_from_5 : decode cX9_from 5 = .ok (.aload_n 0, 1) := tX9_from_ok (5, .aload_n 0, 1) (List.mem_of_getElem? (i := 3) rfl)
theorem dX9_from_6 : decode cX9_from 6 = .ok (.iconst 0, 1) := tX9_from_ok (6, .iconst 0, 1) (List.mem_of_getElem? (i := 4) rfl)
theorem dX9_from_7 : decode cX9_from 7 = .ok (.putfield 115, 3) := tX9_from_ok (7, .putfield 115, 3) (List.mem_of_getElem? (i := 5) rfl)
theorem dX9_from_10 : decode cX9_from 10 = .ok (.iload_n 1, 1) := tX9_from_ok (10, .iload_n 1, 1) (List.mem_of_getElem? (i := 6) rfl)
theorem dX9_from_11 : decode cX9_from 11 = .ok (.iload_n 2, 1) := tX9_from_ok (11, .iload_n 2, 1) (List.mem_of_getElem? (i := 7) rfl)
theorem dX9_from_12 : decode cX9_from 12 = .ok (.invokestatic 133, 3) := tX9_from_ok (12, .invokestatic 133, 3) (List.mem_of_getElem? (i := 8) rfl)
theorem dX9_from_15 : decode cX9_from 15 = .ok (.ifCond .ne 9, 3) := tX9_from_ok (15, .ifCond .ne 9, 3) (List.mem_of_getElem? (i := 9) rfl)
theorem dX9_from_18 : decode cX9_from 18 = .ok (.aload_n 0, 1) := tX9_from_ok (18, .aload_n 0, 1) (List.mem_of_getElem? (i := 10) rfl)
theorem dX9_from_19 : decode cX9_from 19 = .ok (.iconst 2, 1) := tX9_from_ok (19, .iconst 2, 1) (List.mem_of_getElem? (i := 11) rfl)
theorem dX9_from_20 : decode cX9_from 20 = .ok (.invokevirtual 118, 3) := tX9_from_ok (20, .invokevirtual 118, 3) (List.mem_of_getElem? (i := 12) rfl)
theorem dX9_from_23 : decode cX9_from 23 = .ok (.ireturn, 1) := tX9_from_ok (23, .ireturn, 1) (List.mem_of_getElem? (i := 13) rfl)
theorem dX9_from_24 : decode cX9_from 24 = .ok (.aload_n 0, 1) := tX9_from_ok (24, .aload_n 0, 1) (List.mem_of_getElem? (i := 14) rfl)
theorem dX9_from_25 : decode cX9_from 25 = .ok (.iload_n 1, 1) := tX9_from_ok (25, .iload_n 1, 1) (List.mem_of_getElem? (i := 15) rfl)
theorem dX9_from_26 : decode cX9_from 26 = .ok (.putfield 161, 3) := tX9_from_ok (26, .putfield 161, 3) (List.mem_of_getElem? (i := 16) rfl)
theorem dX9_from_29 : decode cX9_from 29 = .ok (.aload_n 0, 1) := tX9_from_ok (29, .aload_n 0, 1) (List.mem_of_getElem? (i := 17) rfl)
theorem dX9_from_30 : decode cX9_from 30 = .ok (.iload_n 2, 1) := tX9_from_ok (30, .iload_n 2, 1) (List.mem_of_getElem? (i := 18) rfl)
theorem dX9_from_31 : decode cX9_from 31 = .ok (.putfield 164, 3) := tX9_from_ok (31, .putfield 164, 3) (List.mem_of_getElem? (i := 19) rfl)
theorem dX9_from_34 : decode cX9_from 34 = .ok (.iconst 1, 1) := tX9_from_ok (34, .iconst 1, 1) (List.mem_of_getElem? (i := 20) rfl)
theorem dX9_from_35 : decode cX9_from 35 = .ok (.ireturn, 1) := tX9_from_ok (35, .ireturn, 1) (List.mem_of_getElem? (i := 21) rfl)

def tX9_to : List (Nat × Instr × Nat) := [
  (0, .aload_n 0, 1),
  (1, .iconst 0, 1),
  (2, .putfield 112, 3),
  (5, .aload_n 0, 1),
  (6, .iconst 0, 1),
  (7, .putfield 115, 3),
  (10, .iload_n 1, 1),
  (11, .iload_n 2, 1),
  (12, .invokestatic 133, 3),
  (15, .ifCond .ne 9, 3),
  (18, .aload_n 0, 1),
  (19, .iconst 2, 1),
  (20, .invokevirtual 118, 3),
  (23, .ireturn, 1),
  (24, .aload_n 0, 1),
  (25, .iload_n 1, 1),
  (26, .putfield 167, 3),
  (29, .aload_n 0, 1),
  (30, .iload_n 2, 1),
  (31, .putfield 170, 3),
  (34, .iconst 1, 1),
  (35, .ireturn, 1)]
set_option maxRecDepth 100000 in
theorem tX9_to_ok : ∀ q ∈ tX9_to, decode cX9_to q.1 = .ok q.2 := by decide +kernel
theorem dX9_to_0 : decode cX9_to 0 = .ok (.aload_n 0, 1) := tX9_to_ok (0, .aload_n 0, 1) (List.mem_of_getElem? (i := 0) rfl)
theorem dX9_to_1 : decode cX9_to 1 = .ok (.iconst 0, 1) := tX9_to_ok (1, .iconst 0, 1) (List.mem_of_getElem? (i := 1) rfl)
theorem dX9_to_2 : decode cX9_to 2 = .ok (.putfield 112, 3) := tX9_to_ok (2, .putfield 112, 3) (List.mem_of_getElem? (i := 2) rfl)
theorem dX9_to_5 : decode cX9_to 5 = .ok (.aload_n 0, 1) := tX9_to_ok (5, .aload_n 0, 1) (List.mem_of_getElem? (i := 3) rfl)
theorem dX9_to_6 : decode cX9_to 6 = .ok (.iconst 0, 1) := tX9_to_ok (6, .iconst 0, 1) (List.mem_of_getElem? (i := 4) rfl)
theorem dX9_to_7 : decode cX9_to 7 = .ok (.putfield 115, 3) := tX9_to_ok (7, .putfield 115, 3) (List.mem_of_getElem? (i := 5) rfl)
theorem dX9_to_10 : decode cX9_to 10 = .ok (.iload_n 1, 1) := tX9_to_ok (10, .iload_n 1, 1) (List.mem_of_getElem? (i := 6) rfl)
theorem dX9_to_11 : decode cX9_to 11 = .ok (.iload_n 2, 1) := tX9_to_ok (11, .iload_n 2, 1) (List.mem_of_getElem? (i := 7) rfl)
theorem dX9_to_12 : decode cX9_to 12 = .ok (.invokestatic 133, 3) := tX9_to_ok (12, .invokestatic 133, 3) (List.mem_of_getElem? (i := 8) rfl)
theorem dX9_to_15 : decode cX9_to 15 = .ok (.ifCond .ne 9, 3) := tX9_to_ok (15, .ifCond .ne 9, 3) (List.mem_of_getElem? (i := 9) rfl)
theorem dX9_to_18 : decode cX9_to 18 = .ok (.aload_n 0, 1) := tX9_to_ok (18, .aload_n 0, 1) (List.mem_of_getElem? (i := 10) rfl)
theorem dX9_to_19 : decode cX9_to 19 = .ok (.iconst 2, 1) := tX9_to_ok (19, .iconst 2, 1) (List.mem_of_getElem? (i := 11) rfl)
theorem dX9_to_20 : decode cX9_to 20 = .ok (.invokevirtual 118, 3) := tX9_to_ok (20, .invokevirtual 118, 3) (List.mem_of_getElem? (i := 12) rfl)
theorem dX9_to_23 : decode cX9_to 23 = .ok (.ireturn, 1) := tX9_to_ok (23, .ireturn, 1) (List.mem_of_getElem? (i := 13) rfl)
theorem dX9_to_24 : decode cX9_to 24 = .ok (.aload_n 0, 1) := tX9_to_ok (24, .aload_n 0, 1) (List.mem_of_getElem? (i := 14) rfl)
theorem dX9_to_25 : decode cX9_to 25 = .ok (.iload_n 1, 1) := tX9_to_ok (25, .iload_n 1, 1) (List.mem_of_getElem? (i := 15) rfl)
theorem dX9_to_26 : decode cX9_to 26 = .ok (.putfield 167, 3) := tX9_to_ok (26, .putfield 167, 3) (List.mem_of_getElem? (i := 16) rfl)
theorem dX9_to_29 : decode cX9_to 29 = .ok (.aload_n 0, 1) := tX9_to_ok (29, .aload_n 0, 1) (List.mem_of_getElem? (i := 17) rfl)
theorem dX9_to_30 : decode cX9_to 30 = .ok (.iload_n 2, 1) := tX9_to_ok (30, .iload_n 2, 1) (List.mem_of_getElem? (i := 18) rfl)
theorem dX9_to_31 : decode cX9_to 31 = .ok (.putfield 170, 3) := tX9_to_ok (31, .putfield 170, 3) (List.mem_of_getElem? (i := 19) rfl)
theorem dX9_to_34 : decode cX9_to 34 = .ok (.iconst 1, 1) := tX9_to_ok (34, .iconst 1, 1) (List.mem_of_getElem? (i := 20) rfl)
theorem dX9_to_35 : decode cX9_to 35 = .ok (.ireturn, 1) := tX9_to_ok (35, .ireturn, 1) (List.mem_of_getElem? (i := 21) rfl)

def tX9_open : List (Nat × Instr × Nat) := [
  (0, .aload_n 0, 1),
  (1, .iconst 0, 1),
  (2, .putfield 112, 3),
  (5, .aload_n 0, 1),
  (6, .iconst 0, 1),
  (7, .putfield 115, 3),
  (10, .iload_n 1, 1),
  (11, .iload_n 2, 1),
  (12, .invokestatic 133, 3),
  (15, .ifCond .ne 9, 3),
  (18, .aload_n 0, 1),
  (19, .iconst 2, 1),
  (20, .invokevirtual 156, 3),
  (23, .ireturn, 1),
  (24, .aload_n 0, 1),
  (25, .iload_n 1, 1),
  (26, .iload_n 2, 1),
  (27, .invokevirtual 153, 3),
  (30, .ifCond .eq 7, 3),
  (33, .iconst 1, 1),
  (34, .goto 4, 3),
  (37, .iconst 0, 1),
  (38, .ireturn, 1)]
set_option maxRecDepth 100000 in
theorem tX9_open_ok : ∀ q ∈ tX9_open, decode cX9_open q.1 = .ok q.2 := by decide +kernel
theorem dX9_open_0 : decode cX9_open 0 = .ok (.aload_n 0, 1) := tX9_open_ok (0, .aload_n 0, 1) (List.mem_of_getElem? (i := 0) rfl)
theorem dX9_open_1 : decode cX9_open 1 = .ok (.iconst 0, 1) := tX9_open_ok (1, .iconst 0, 1) (List.mem_of_getElem? (i := 1) rfl)
theorem dX9_open_2 : decode cX9_open 2 = .ok (.putfield 112, 3) := tX9_open_ok (2, .putfield 112, 3) (List.mem_of_getElem? (i := 2) rfl)
theorem dX9_open_5 : decode cX9_open 5 = .ok (.aload_n 0, 1) := tX9_open_ok (5, .aload_n 0, 1) (List.mem_of_getElem? (i := 3) rfl)
theorem dX9_open_6 : decode cX9_open 6 = .ok (.iconst 0, 1) := tX9_open_ok (6, .iconst 0, 1) (List.mem_of_getElem? (i := 4) rfl)
theorem dX9_open_7 : decode cX9_open 7 = .ok (.putfield 115, 3) := tX9_open_ok (7, .putfield 115, 3) (List.mem_of_getElem? (i := 5) rfl)
theorem dX9_open_10 : decode cX9_open 10 = .ok (.iload_n 1, 1) := tX9_open_ok (10, .iload_n 1, 1) (List.mem_of_getElem? (i := 6) rfl)
theorem dX9_open_11 : decode cX9_open 11 = .ok (.iload_n 2, 1) := tX9_open_ok (11, .iload_n 2, 1) (List.mem_of_getElem? (i := 7) rfl)
theorem dX9_open_12 : decode cX9_open 12 = .ok (.invokestatic 133, 3) := tX9_open_ok (12, .invokestatic 133, 3) (List.mem_of_getElem? (i := 8) rfl)
theorem dX9_open_15 : decode cX9_open 15 = .ok (.ifCond .ne 9, 3) := tX9_open_ok (15, .ifCond .ne 9, 3) (List.mem_of_getElem? (i := 9) rfl)
theorem dX9_open_18 : decode cX9_open 18 = .ok (.aload_n 0, 1) := tX9_open_ok (18, .aload_n 0, 1) (List.mem_of_getElem? (i := 10) rfl)
theorem dX9_open_19 : decode cX9_open 19 = .ok (.iconst 2, 1) := tX9_open_ok (19, .iconst 2, 1) (List.mem_of_getElem? (i := 11) rfl)
theorem dX9_open_20 : decode cX9_open 20 = .ok (.invokevirtual 156, 3) := tX9_open_ok (20, .invokevirtual 156, 3) (List.mem_of_getElem? (i := 12) rfl)
theorem dX9_open_23 : decode cX9_open 23 = .ok (.ireturn, 1) := tX9_open_ok (23, .ireturn, 1) (List.mem_of_getElem? (i := 13) rfl)
theorem dX9_open_24 : decode cX9_open 24 = .ok (.aload_n 0, 1) := tX9_open_ok (24, .aload_n 0, 1) (List.mem_of_getElem? (i := 14) rfl)
theorem dX9_open_25 : decode cX9_open 25 = .ok (.iload_n 1, 1) := tX9_open_ok (25, .iload_n 1, 1) (List.mem_of_getElem? (i := 15) rfl)
theorem dX9_open_26 : decode cX9_open 26 = .ok (.iload_n 2, 1) := tX9_open_ok (26, .iload_n 2, 1) (List.mem_of_getElem? (i := 16) rfl)
theorem dX9_open_27 : decode cX9_open 27 = .ok (.invokevirtual 153, 3) := tX9_open_ok (27, .invokevirtual 153, 3) (List.mem_of_getElem? (i := 17) rfl)
theorem dX9_open_30 : decode cX9_open 30 = .ok (.ifCond .eq 7, 3) := tX9_open_ok (30, .ifCond .eq 7, 3) (List.mem_of_getElem? (i := 18) rfl)
theorem dX9_open_33 : decode cX9_open 33 = .ok (.iconst 1, 1) := tX9_open_ok (33, .iconst 1, 1) (List.mem_of_getElem? (i := 19) rfl)
theorem dX9_open_34 : decode cX9_open 34 = .ok (.goto 4, 3) := tX9_open_ok (34, .goto 4, 3) (List.mem_of_getElem? (i := 20) rfl)
theorem dX9_open_37 : decode cX9_open 37 = .ok (.iconst 0, 1) := tX9_open_ok (37, .iconst 0, 1) (List.mem_of_getElem? (i := 21) rfl)
theorem dX9_open_38 : decode cX9_open 38 = .ok (.ireturn, 1) := tX9_open_ok (38, .ireturn, 1) (List.mem_of_getElem? (i := 22) rfl)

def tX9_plus : List (Nat × Instr × Nat) := [
  (0, .lload_n 0, 1),
  (1, .lload_n 2, 1),
  (2, .ladd, 1),
  (3, .ldc2_w 173, 3),
  (6, .lcmp, 1),
  (7, .ifCond .ge 11, 3),
  (10, .lload_n 0, 1),
  (11, .lload_n 2, 1),
  (12, .ladd, 1),
  (13, .lconst 0, 1),
  (14, .lcmp, 1),
  (15, .ifCond .ge 9, 3),
  (18, .ldc2_w 173, 3),
  (21, .goto 6, 3),
  (24, .lload_n 0, 1),
  (25, .lload_n 2, 1),
  (26, .ladd, 1),
  (27, .lreturn, 1)]
set_option maxRecDepth 100000 in
theorem tX9_plus_ok : ∀ q ∈ tX9_plus, decode cX9_plus q.1 = .ok q.2 := by decide +kernel
theorem dX9_plus_0 : decode cX9_plus 0 = .ok (.lload_n 0, 1) := tX9_plus_ok (0, .lload_n 0, 1) (List.mem_of_getElem? (i := 0) rfl)
theorem dX9_plus_1 : decode cX9_plus 1 = .ok (.lload_n 2, 1) := tX9_plus_ok (1, .lload_n 2, 1) (List.mem_of_getElem? (i := 1) rfl)
theorem dX9_plus_2 : decode cX9_plus 2 = .ok (.ladd, 1) := tX9_plus_ok (2, .ladd, 1) (List.mem_of_getElem? (i := 2) rfl)
theorem dX9_plus_3 : decode cX9_plus 3 = .ok (.ldc2_w 173, 3) := tX9_plus_ok (3, .ldc2_w 173, 3) (List.mem_of_getElem? (i := 3) rfl)
theorem dX9_plus_6 : decode cX9_plus 6 = .ok (.lcmp, 1) := tX9_plus_ok (6, .lcmp, 1) (List.mem_of_getElem? (i := 4) rfl)
theorem dX9_plus_7 : decode cX9_plus 7 = .ok (.ifCond .ge 11, 3) := tX9_plus_ok (7, .ifCond .ge 11, 3) (List.mem_of_getElem? (i := 5) rfl)
theorem dX9_plus_10 : decode cX9_plus 10 = .ok (.lload_n 0, 1) := tX9_plus_ok (10, .lload_n 0, 1) (List.mem_of_getElem? (i := 6) rfl)
theorem dX9_plus_11 : decode cX9_plus 11 = .ok (.lload_n 2, 1) := tX9_plus_ok (11, .lload_n 2, 1) (List.mem_of_getElem? (i := 7) rfl)
theorem dX9_plus_12 : decode cX9_plus 12 = .ok (.ladd, 1) := tX9_plus_ok (12, .ladd, 1) (List.mem_of_getElem? (i := 8) rfl)
theorem dX9_plus_13 : decode cX9_plus 13 = .ok (.lconst 0, 1) := tX9_plus_ok (13, .lconst 0, 1) (List.mem_of_getElem? (i := 9) rfl)
theorem dX9_plus_14 : decode cX9_plus 14 = .ok (.lcmp, 1) := tX9_plus_ok (14, .lcmp, 1) (List.mem_of_getElem? (i := 10) rfl)
theorem dX9_plus_15 : decode cX9_plus 15 = .ok (.ifCond .ge 9, 3) := tX9_plus_ok (15, .ifCond .ge 9, 3) (List.mem_of_getElem? (i := 11) rfl)
theorem dX9_plus_18 : decode cX9_plus 18 = .ok (.ldc2_w 173, 3) := tX9_plus_ok (18, .ldc2_w 173, 3) (List.mem_of_getElem? (i := 12) rfl)
theorem dX9_plus_21 : decode cX9_plus 21 = .ok (.goto 6, 3) := tX9_plus_ok (21, .goto 6, 3) (List.mem_of_getElem? (i := 13) rfl)
theorem dX9_plus_24 : decode cX9_plus 24 = .ok (.lload_n 0, 1) := tX9_plus_ok (24, .lload_n 0, 1) (List.mem_of_getElem? (i := 14) rfl)
theorem dX9_plus_25 : decode cX9_plus 25 = .ok (.lload_n 2, 1) := tX9_plus_ok (25, .lload_n 2, 1) (List.mem_of_getElem? (i := 15) rfl)
theorem dX9_plus_26 : decode cX9_plus 26 = .ok (.ladd, 1) := tX9_plus_ok (26, .ladd, 1) (List.mem_of_getElem? (i := 16) rfl)
theorem dX9_plus_27 : decode cX9_plus 27 = .ok (.lreturn, 1) := tX9_plus_ok (27, .lreturn, 1) (List.mem_of_getElem? (i := 17) rfl)

def tX9_fill : List (Nat × Instr × Nat) := [
  (0, .iconst 0, 1),
  (1, .istore_n 3, 1),
  (2, .iload_n 3, 1),
  (3, .sipush 3721, 3),
  (6, .if_icmp .ge 54, 3),
  (9, .aload_n 0, 1),
  (10, .getfield 43, 3),
  (13, .iload_n 3, 1),
  (14, .aload_n 0, 1),
  (15, .iload_n 3, 1),
  (16, .invokestatic 147, 3),
  (19, .iload_n 3, 1),
  (20, .invokestatic 150, 3),
  (23, .invokevirtual 153, 3),
  (26, .ifCond .eq 26, 3),
  (29, .iload_n 2, 1),
  (30, .ifCond .ne 18, 3),
  (33, .iload_n 3, 1),
  (34, .aload_n 0, 1),
  (35, .getfield 167, 3),
  (38, .aload_n 0, 1),
  (39, .getfield 170, 3),
  (42, .invokestatic 144, 3),
  (45, .if_icmp .ne 7, 3),
  (48, .lconst 1, 1),
  (49, .goto 4, 3),
  (52, .lconst 0, 1),
  (53, .lastore, 1),
  (54, .iinc 3 1, 3),
  (57, .goto (-55), 3),
  (60, .iconst 1, 1),
  (61, .istore_n 3, 1),
  (62, .iload_n 3, 1),
  (63, .iload_n 1, 1),
  (64, .if_icmp .gt 116, 3),
  (67, .iconst 0, 1),
  (68, .istore 4, 2),
  (70, .iload 4, 2),
  (72, .sipush 3721, 3),
  (75, .if_icmp .ge 99, 3),
  (78, .lconst 0, 1),
  (79, .lstore 5, 2),
  (81, .aload_n 0, 1),
  (82, .iload 4, 2),
  (84, .invokestatic 147, 3),
  (87, .iload 4, 2),
  (89, .invokestatic 150, 3),
  (92, .invokevirtual 153, 3),
  (95, .ifCond .eq 58, 3),
  (98, .iconst 0, 1),
  (99, .istore 7, 2),
  (101, .iload 7, 2),
  (103, .aload_n 0, 1),
  (104, .getfield 19, 3),
  (107, .if_icmp .ge 46, 3),
  (110, .aload_n 0, 1),
  (111, .iload 4, 2),
  (113, .iload 7, 2),
  (115, .invokevirtual 175, 3),
  (118, .istore 8, 2),
  (120, .iload 8, 2),
  (122, .ifCond .lt 25, 3),
  (125, .lload 5, 2),
  (127, .aload_n 0, 1),
  (128, .getfield 43, 3),
  (131, .sipush 3721, 3),
  (134, .iload_n 3, 1),
  (135, .iconst 1, 1),
  (136, .isub, 1),
  (137, .imul, 1),
  (138, .iload 8, 2),
  (140, .iadd, 1),
  (141, .laload, 1),
  (142, .invokestatic 178, 3),
  (145, .lstore 5, 2),
  (147, .iinc 7 1, 3),
  (150, .goto (-49), 3),
  (153, .aload_n 0, 1),
  (154, .getfield 43, 3),
  (157, .sipush 3721, 3),
  (160, .iload_n 3, 1),
  (161, .imul, 1),
  (162, .iload 4, 2),
  (164, .iadd, 1),
  (165, .lload 5, 2),
  (167, .lastore, 1),
  (168, .iinc 4 1, 3),
  (171, .goto (-101), 3),
  (174, .iinc 3 1, 3),
  (177, .goto (-115), 3),
  (180, .return_, 1)]
set_option maxRecDepth 100000 in
theorem tX9_fill_ok : ∀ q ∈ tX9_fill, decode cX9_fill q.1 = .ok q.2 := by decide +kernel
theorem dX9_fill_0 : decode cX9_fill 0 = .ok (.iconst 0, 1) := tX9_fill_ok (0, .iconst 0, 1) (List.mem_of_getElem? (i := 0) rfl)
theorem dX9_fill_1 : decode cX9_fill 1 = .ok (.istore_n 3, 1) := tX9_fill_ok (1, .istore_n 3, 1) (List.mem_of_getElem? (i := 1) rfl)
theorem dX9_fill_2 : decode cX9_fill 2 = .ok (.iload_n 3, 1) := tX9_fill_ok (2, .iload_n 3, 1) (List.mem_of_getElem? (i := 2) rfl)
theorem dX9_fill_3 : decode cX9_fill 3 = .ok (.sipush 3721, 3) := tX9_fill_ok (3, .sipush 3721, 3) (List.mem_of_getElem? (i := 3) rfl)
theorem dX9_fill_6 : decode cX9_fill 6 = .ok (.if_icmp .ge 54, 3) := tX9_fill_ok (6, .if_icmp .ge 54, 3) (List.mem_of_getElem? (i := 4) rfl)
theorem dX9_fill_9 : decode cX9_fill 9 = .ok (.aload_n 0, 1) := tX9_fill_ok (9, .aload_n 0, 1) (List.mem_of_getElem? (i := 5) rfl)
theorem dX9_fill_10 : decode cX9_fill 10 = .ok (.getfield 43, 3) := tX9_fill_ok (10, .getfield 43, 3) (List.mem_of_getElem? (i := 6) rfl)
theorem dX9_fill_13 : decode cX9_fill 13 = .ok (.iload_n 3, 1) := tX9_fill_ok (13, .iload_n 3, 1) (List.mem_of_getElem? (i := 7) rfl)
theorem dX9_fill_14 : decode cX9_fill 14 = .ok (.aload_n 0, 1) := tX9_fill_ok (14, .aload_n 0, 1) (List.mem_of_getElem? (i := 8) rfl)
theorem dX9_fill_15 : decode cX9_fill 15 = .ok (.iload_n 3, 1) := tX9_fill_ok (15, .iload_n 3, 1) (List.mem_of_getElem? (i := 9) rfl)
theorem dX9_fill_16 : decode cX9_fill 16 = .ok (.invokestatic 147, 3) := tX9_fill_ok (16, .invokestatic 147, 3) (List.mem_of_getElem? (i := 10) rfl)
theorem dX9_fill_19 : decode cX9_fill 19 = .ok (.iload_n 3, 1) := tX9_fill_ok (19, .iload_n 3, 1) (List.mem_of_getElem? (i := 11) rfl)
theorem dX9_fill_20 : decode cX9_fill 20 = .ok (.invokestatic 150, 3) := tX9_fill_ok (20, .invokestatic 150, 3) (List.mem_of_getElem? (i := 12) rfl)
theorem dX9_fill_23 : decode cX9_fill 23 = .ok (.invokevirtual 153, 3) := tX9_fill_ok (23, .invokevirtual 153, 3) (List.mem_of_getElem? (i := 13) rfl)
theorem dX9_fill_26 : decode cX9_fill 26 = .ok (.ifCond .eq 26, 3) := tX9_fill_ok (26, .ifCond .eq 26, 3) (List.mem_of_getElem? (i := 14) rfl)
theorem dX9_fill_29 : decode cX9_fill 29 = .ok (.iload_n 2, 1) := tX9_fill_ok (29, .iload_n 2, 1) (List.mem_of_getElem? (i := 15) rfl)
theorem dX9_fill_30 : decode cX9_fill 30 = .ok (.ifCond .ne 18, 3) := tX9_fill_ok (30, .ifCond .ne 18, 3) (List.mem_of_getElem? (i := 16) rfl)
theorem dX9_fill_33 : decode cX9_fill 33 = .ok (.iload_n 3, 1) := tX9_fill_ok (33, .iload_n 3, 1) (List.mem_of_getElem? (i := 17) rfl)
theorem dX9_fill_34 : decode cX9_fill 34 = .ok (.aload_n 0, 1) := tX9_fill_ok (34, .aload_n 0, 1) (List.mem_of_getElem? (i := 18) rfl)
theorem dX9_fill_35 : decode cX9_fill 35 = .ok (.getfield 167, 3) := tX9_fill_ok (35, .getfield 167, 3) (List.mem_of_getElem? (i := 19) rfl)
theorem dX9_fill_38 : decode cX9_fill 38 = .ok (.aload_n 0, 1) := tX9_fill_ok (38, .aload_n 0, 1) (List.mem_of_getElem? (i := 20) rfl)
theorem dX9_fill_39 : decode cX9_fill 39 = .ok (.getfield 170, 3) := tX9_fill_ok (39, .getfield 170, 3) (List.mem_of_getElem? (i := 21) rfl)
theorem dX9_fill_42 : decode cX9_fill 42 = .ok (.invokestatic 144, 3) := tX9_fill_ok (42, .invokestatic 144, 3) (List.mem_of_getElem? (i := 22) rfl)
theorem dX9_fill_45 : decode cX9_fill 45 = .ok (.if_icmp .ne 7, 3) := tX9_fill_ok (45, .if_icmp .ne 7, 3) (List.mem_of_getElem? (i := 23) rfl)
theorem dX9_fill_48 : decode cX9_fill 48 = .ok (.lconst 1, 1) := tX9_fill_ok (48, .lconst 1, 1) (List.mem_of_getElem? (i := 24) rfl)
theorem dX9_fill_49 : decode cX9_fill 49 = .ok (.goto 4, 3) := tX9_fill_ok (49, .goto 4, 3) (List.mem_of_getElem? (i := 25) rfl)
theorem dX9_fill_52 : decode cX9_fill 52 = .ok (.lconst 0, 1) := tX9_fill_ok (52, .lconst 0, 1) (List.mem_of_getElem? (i := 26) rfl)
theorem dX9_fill_53 : decode cX9_fill 53 = .ok (.lastore, 1) := tX9_fill_ok (53, .lastore, 1) (List.mem_of_getElem? (i := 27) rfl)
theorem dX9_fill_54 : decode cX9_fill 54 = .ok (.iinc 3 1, 3) := tX9_fill_ok (54, .iinc 3 1, 3) (List.mem_of_getElem? (i := 28) rfl)
theorem dX9_fill_57 : decode cX9_fill 57 = .ok (.goto (-55), 3) := tX9_fill_ok (57, .goto (-55), 3) (List.mem_of_getElem? (i := 29) rfl)
theorem dX9_fill_60 : decode cX9_fill 60 = .ok (.iconst 1, 1) := tX9_fill_ok (60, .iconst 1, 1) (List.mem_of_getElem? (i := 30) rfl)
theorem dX9_fill_61 : decode cX9_fill 61 = .ok (.istore_n 3, 1) := tX9_fill_ok (61, .istore_n 3, 1) (List.mem_of_getElem? (i := 31) rfl)
theorem dX9_fill_62 : decode cX9_fill 62 = .ok (.iload_n 3, 1) := tX9_fill_ok (62, .iload_n 3, 1) (List.mem_of_getElem? (i := 32) rfl)
theorem dX9_fill_63 : decode cX9_fill 63 = .ok (.iload_n 1, 1) := tX9_fill_ok (63, .iload_n 1, 1) (List.mem_of_getElem? (i := 33) rfl)
theorem dX9_fill_64 : decode cX9_fill 64 = .ok (.if_icmp .gt 116, 3) := tX9_fill_ok (64, .if_icmp .gt 116, 3) (List.mem_of_getElem? (i := 34) rfl)
theorem dX9_fill_67 : decode cX9_fill 67 = .ok (.iconst 0, 1) := tX9_fill_ok (67, .iconst 0, 1) (List.mem_of_getElem? (i := 35) rfl)
theorem dX9_fill_68 : decode cX9_fill 68 = .ok (.istore 4, 2) := tX9_fill_ok (68, .istore 4, 2) (List.mem_of_getElem? (i := 36) rfl)
theorem dX9_fill_70 : decode cX9_fill 70 = .ok (.iload 4, 2) := tX9_fill_ok (70, .iload 4, 2) (List.mem_of_getElem? (i := 37) rfl)
theorem dX9_fill_72 : decode cX9_fill 72 = .ok (.sipush 3721, 3) := tX9_fill_ok (72, .sipush 3721, 3) (List.mem_of_getElem? (i := 38) rfl)
theorem dX9_fill_75 : decode cX9_fill 75 = .ok (.if_icmp .ge 99, 3) := tX9_fill_ok (75, .if_icmp .ge 99, 3) (List.mem_of_getElem? (i := 39) rfl)
theorem dX9_fill_78 : decode cX9_fill 78 = .ok (.lconst 0, 1) := tX9_fill_ok (78, .lconst 0, 1) (List.mem_of_getElem? (i := 40) rfl)
theorem dX9_fill_79 : decode cX9_fill 79 = .ok (.lstore 5, 2) := tX9_fill_ok (79, .lstore 5, 2) (List.mem_of_getElem? (i := 41) rfl)
theorem dX9_fill_81 : decode cX9_fill 81 = .ok (.aload_n 0, 1) := tX9_fill_ok (81, .aload_n 0, 1) (List.mem_of_getElem? (i := 42) rfl)
theorem dX9_fill_82 : decode cX9_fill 82 = .ok (.iload 4, 2) := tX9_fill_ok (82, .iload 4, 2) (List.mem_of_getElem? (i := 43) rfl)
theorem dX9_fill_84 : decode cX9_fill 84 = .ok (.invokestatic 147, 3) := tX9_fill_ok (84, .invokestatic 147, 3) (List.mem_of_getElem? (i := 44) rfl)
theorem dX9_fill_87 : decode cX9_fill 87 = .ok (.iload 4, 2) := tX9_fill_ok (87, .iload 4, 2) (List.mem_of_getElem? (i := 45) rfl)
theorem dX9_fill_89 : decode cX9_fill 89 = .ok (.invokestatic 150, 3) := tX9_fill_ok (89, .invokestatic 150, 3) (List.mem_of_getElem? (i := 46) rfl)
theorem dX9_fill_92 : decode cX9_fill 92 = .ok (.invokevirtual 153, 3) := tX9_fill_ok (92, .invokevirtual 153, 3) (List.mem_of_getElem? (i := 47) rfl)
theorem dX9_fill_95 : decode cX9_fill 95 = .ok (.ifCond .eq 58, 3) := tX9_fill_ok (95, .ifCond .eq 58, 3) (List.mem_of_getElem? (i := 48) rfl)
theorem dX9_fill_98 : decode cX9_fill 98 = .ok (.iconst 0, 1) := tX9_fill_ok (98, .iconst 0, 1) (List.mem_of_getElem? (i := 49) rfl)
theorem dX9_fill_99 : decode cX9_fill 99 = .ok (.istore 7, 2) := tX9_fill_ok (99, .istore 7, 2) (List.mem_of_getElem? (i := 50) rfl)
theorem dX9_fill_101 : decode cX9_fill 101 = .ok (.iload 7, 2) := tX9_fill_ok (101, .iload 7, 2) (List.mem_of_getElem? (i := 51) rfl)
theorem dX9_fill_103 : decode cX9_fill 103 = .ok (.aload_n 0, 1) := tX9_fill_ok (103, .aload_n 0, 1) (List.mem_of_getElem? (i := 52) rfl)
theorem dX9_fill_104 : decode cX9_fill 104 = .ok (.getfield 19, 3) := tX9_fill_ok (104, .getfield 19, 3) (List.mem_of_getElem? (i := 53) rfl)
theorem dX9_fill_107 : decode cX9_fill 107 = .ok (.if_icmp .ge 46, 3) := tX9_fill_ok (107, .if_icmp .ge 46, 3) (List.mem_of_getElem? (i := 54) rfl)
theorem dX9_fill_110 : decode cX9_fill 110 = .ok (.aload_n 0, 1) := tX9_fill_ok (110, .aload_n 0, 1) (List.mem_of_getElem? (i := 55) rfl)
theorem dX9_fill_111 : decode cX9_fill 111 = .ok (.iload 4, 2) := tX9_fill_ok (111, .iload 4, 2) (List.mem_of_getElem? (i := 56) rfl)
theorem dX9_fill_113 : decode cX9_fill 113 = .ok (.iload 7, 2) := tX9_fill_ok (113, .iload 7, 2) (List.mem_of_getElem? (i := 57) rfl)
theorem dX9_fill_115 : decode cX9_fill 115 = .ok (.invokevirtual 175, 3) := tX9_fill_ok (115, .invokevirtual 175, 3) (List.mem_of_getElem? (i := 58) rfl)
theorem dX9_fill_118 : decode cX9_fill 118 = .ok (.istore 8, 2) := tX9_fill_ok (118, .istore 8, 2) (List.mem_of_getElem? (i := 59) rfl)
theorem dX9_fill_120 : decode cX9_fill 120 = .ok (.iload 8, 2) := tX9_fill_ok (120, .iload 8, 2) (List.mem_of_getElem? (i := 60) rfl)
theorem dX9_fill_122 : decode cX9_fill 122 = .ok (.ifCond .lt 25, 3) := tX9_fill_ok (122, .ifCond .lt 25, 3) (List.mem_of_getElem? (i := 61) rfl)
theorem dX9_fill_125 : decode cX9_fill 125 = .ok (.lload 5, 2) := tX9_fill_ok (125, .lload 5, 2) (List.mem_of_getElem? (i := 62) rfl)
theorem dX9_fill_127 : decode cX9_fill 127 = .ok (.aload_n 0, 1) := tX9_fill_ok (127, .aload_n 0, 1) (List.mem_of_getElem? (i := 63) rfl)
theorem dX9_fill_128 : decode cX9_fill 128 = .ok (.getfield 43, 3) := tX9_fill_ok (128, .getfield 43, 3) (List.mem_of_getElem? (i := 64) rfl)
theorem dX9_fill_131 : decode cX9_fill 131 = .ok (.sipush 3721, 3) := tX9_fill_ok (131, .sipush 3721, 3) (List.mem_of_getElem? (i := 65) rfl)
theorem dX9_fill_134 : decode cX9_fill 134 = .ok (.iload_n 3, 1) := tX9_fill_ok (134, .iload_n 3, 1) (List.mem_of_getElem? (i := 66) rfl)
theorem dX9_fill_135 : decode cX9_fill 135 = .ok (.iconst 1, 1) := tX9_fill_ok (135, .iconst 1, 1) (List.mem_of_getElem? (i := 67) rfl)
theorem dX9_fill_136 : decode cX9_fill 136 = .ok (.isub, 1) := tX9_fill_ok (136, .isub, 1) (List.mem_of_getElem? (i := 68) rfl)
theorem dX9_fill_137 : decode cX9_fill 137 = .ok (.imul, 1) := tX9_fill_ok (137, .imul, 1) (List.mem_of_getElem? (i := 69) rfl)
theorem dX9_fill_138 : decode cX9_fill 138 = .ok (.iload 8, 2) := tX9_fill_ok (138, .iload 8, 2) (List.mem_of_getElem? (i := 70) rfl)
theorem dX9_fill_140 : decode cX9_fill 140 = .ok (.iadd, 1) := tX9_fill_ok (140, .iadd, 1) (List.mem_of_getElem? (i := 71) rfl)
theorem dX9_fill_141 : decode cX9_fill 141 = .ok (.laload, 1) := tX9_fill_ok (141, .laload, 1) (List.mem_of_getElem? (i := 72) rfl)
theorem dX9_fill_142 : decode cX9_fill 142 = .ok (.invokestatic 178, 3) := tX9_fill_ok (142, .invokestatic 178, 3) (List.mem_of_getElem? (i := 73) rfl)
theorem dX9_fill_145 : decode cX9_fill 145 = .ok (.lstore 5, 2) := tX9_fill_ok (145, .lstore 5, 2) (List.mem_of_getElem? (i := 74) rfl)
theorem dX9_fill_147 : decode cX9_fill 147 = .ok (.iinc 7 1, 3) := tX9_fill_ok (147, .iinc 7 1, 3) (List.mem_of_getElem? (i := 75) rfl)
theorem dX9_fill_150 : decode cX9_fill 150 = .ok (.goto (-49), 3) := tX9_fill_ok (150, .goto (-49), 3) (List.mem_of_getElem? (i := 76) rfl)
theorem dX9_fill_153 : decode cX9_fill 153 = .ok (.aload_n 0, 1) := tX9_fill_ok (153, .aload_n 0, 1) (List.mem_of_getElem? (i := 77) rfl)
theorem dX9_fill_154 : decode cX9_fill 154 = .ok (.getfield 43, 3) := tX9_fill_ok (154, .getfield 43, 3) (List.mem_of_getElem? (i := 78) rfl)
theorem dX9_fill_157 : decode cX9_fill 157 = .ok (.sipush 3721, 3) := tX9_fill_ok (157, .sipush 3721, 3) (List.mem_of_getElem? (i := 79) rfl)
theorem dX9_fill_160 : decode cX9_fill 160 = .ok (.iload_n 3, 1) := tX9_fill_ok (160, .iload_n 3, 1) (List.mem_of_getElem? (i := 80) rfl)
theorem dX9_fill_161 : decode cX9_fill 161 = .ok (.imul, 1) := tX9_fill_ok (161, .imul, 1) (List.mem_of_getElem? (i := 81) rfl)
theorem dX9_fill_162 : decode cX9_fill 162 = .ok (.iload 4, 2) := tX9_fill_ok (162, .iload 4, 2) (List.mem_of_getElem? (i := 82) rfl)
theorem dX9_fill_164 : decode cX9_fill 164 = .ok (.iadd, 1) := tX9_fill_ok (164, .iadd, 1) (List.mem_of_getElem? (i := 83) rfl)
theorem dX9_fill_165 : decode cX9_fill 165 = .ok (.lload 5, 2) := tX9_fill_ok (165, .lload 5, 2) (List.mem_of_getElem? (i := 84) rfl)
theorem dX9_fill_167 : decode cX9_fill 167 = .ok (.lastore, 1) := tX9_fill_ok (167, .lastore, 1) (List.mem_of_getElem? (i := 85) rfl)
theorem dX9_fill_168 : decode cX9_fill 168 = .ok (.iinc 4 1, 3) := tX9_fill_ok (168, .iinc 4 1, 3) (List.mem_of_getElem? (i := 86) rfl)
theorem dX9_fill_171 : decode cX9_fill 171 = .ok (.goto (-101), 3) := tX9_fill_ok (171, .goto (-101), 3) (List.mem_of_getElem? (i := 87) rfl)
theorem dX9_fill_174 : decode cX9_fill 174 = .ok (.iinc 3 1, 3) := tX9_fill_ok (174, .iinc 3 1, 3) (List.mem_of_getElem? (i := 88) rfl)
theorem dX9_fill_177 : decode cX9_fill 177 = .ok (.goto (-115), 3) := tX9_fill_ok (177, .goto (-115), 3) (List.mem_of_getElem? (i := 89) rfl)
theorem dX9_fill_180 : decode cX9_fill 180 = .ok (.return_, 1) := tX9_fill_ok (180, .return_, 1) (List.mem_of_getElem? (i := 90) rfl)
