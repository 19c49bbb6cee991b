def tX8_write : List (Nat × Instr × Nat) := [
  (0, .aload_n 0, 1),
  (1, .iload_n 1, 1),
  (2, .iload_n 2, 1),
  (3, .invokevirtual 81, 3),
  (6, .istore 4, 2),
  (8, .iload 4, 2),
  (10, .ifCond .eq 10, 3),
  (13, .aload_n 0, 1),
  (14, .iload 4, 2),
  (16, .invokevirtual 70, 3),
  (19, .ireturn, 1),
  (20, .aload_n 0, 1),
  (21, .getfield 12, 3),
  (24, .iload_n 1, 1),
  (25, .iload_n 2, 1),
  (26, .iload_n 3, 1),
  (27, .invokevirtual 85, 3),
  (30, .aload_n 0, 1),
  (31, .invokevirtual 77, 3),
  (34, .ireturn, 1)]
set_option maxRecDepth 100000 in
theorem tX8_write_ok : ∀ q ∈ tX8_write, decode cX8_write q.1 = .ok q.2 := by decide +kernel
theorem dX8_write_0 : decode cX8_write 0 = .ok (.aload_n 0, 1) := tX8_write_ok (0, .aload_n 0, 1) (List.mem_of_getElem? (i := 0) rfl)
theorem dX8_write_1 : decode cX8_write 1 = .ok (.iload_n 1, 1) := tX8_write_ok (1, .iload_n 1, 1) (List.mem_of_getElem? (i := 1) rfl)
theorem dX8_write_2 : decode cX8_write 2 = .ok (.iload_n 2, 1) := tX8_write_ok (2, .iload_n 2, 1) (List.mem_of_getElem? (i := 2) rfl)
theorem dX8_write_3 : decode cX8_write 3 = .ok (.invokevirtual 81, 3) := tX8_write_ok (3, .invokevirtual 81, 3) (List.mem_of_getElem? (i := 3) rfl)
theorem dX8_write_6 : decode cX8_write 6 = .ok (.istore 4, 2) := tX8_write_ok (6, .istore 4, 2) (List.mem_of_getElem? (i := 4) rfl)
theorem dX8_write_8 : decode cX8_write 8 = .ok (.iload 4, 2) := tX8_write_ok (8, .iload 4, 2) (List.mem_of_getElem? (i := 5) rfl)
theorem dX8_write_10 : decode cX8_write 10 = .ok (.ifCond .eq 10, 3) := tX8_write_ok (10, .ifCond .eq 10, 3) (List.mem_of_getElem? (i := 6) rfl)
theorem dX8_write_13 : decode cX8_write 13 = .ok (.aload_n 0, 1) := tX8_write_ok (13, .aload_n 0, 1) (List.mem_of_getElem? (i := 7) rfl)
theorem dX8_write_14 : decode cX8_write 14 = .ok (.iload 4, 2) := tX8_write_ok (14, .iload 4, 2) (List.mem_of_getElem? (i := 8) rfl)
theorem dX8_write_16 : decode cX8_write 16 = .ok (.invokevirtual 70, 3) := tX8_write_ok (16, .invokevirtual 70, 3) (List.mem_of_getElem? (i := 9) rfl)
theorem dX8_write_19 : decode cX8_write 19 = .ok (.ireturn, 1) := tX8_write_ok (19, .ireturn, 1) (List.mem_of_getElem? (i := 10) rfl)
theorem dX8_write_20 : decode cX8_write 20 = .ok (.aload_n 0, 1) := tX8_write_ok (20, .aload_n 0, 1) (List.mem_of_getElem? (i := 11) rfl)
theorem dX8_write_21 : decode cX8_write 21 = .ok (.getfield 12, 3) := tX8_write_ok (21, .getfield 12, 3) (List.mem_of_getElem? (i := 12) rfl)
theorem dX8_write_24 : decode cX8_write 24 = .ok (.iload_n 1, 1) := tX8_write_ok (24, .iload_n 1, 1) (List.mem_of_getElem? (i := 13) rfl)
theorem dX8_write_25 : decode cX8_write 25 = .ok (.iload_n 2, 1) := tX8_write_ok (25, .iload_n 2, 1) (List.mem_of_getElem? (i := 14) rfl)
theorem dX8_write_26 : decode cX8_write 26 = .ok (.iload_n 3, 1) := tX8_write_ok (26, .iload_n 3, 1) (List.mem_of_getElem? (i := 15) rfl)
theorem dX8_write_27 : decode cX8_write 27 = .ok (.invokevirtual 85, 3) := tX8_write_ok (27, .invokevirtual 85, 3) (List.mem_of_getElem? (i := 16) rfl)
theorem dX8_write_30 : decode cX8_write 30 = .ok (.aload_n 0, 1) := tX8_write_ok (30, .aload_n 0, 1) (List.mem_of_getElem? (i := 17) rfl)
theorem dX8_write_31 : decode cX8_write 31 = .ok (.invokevirtual 77, 3) := tX8_write_ok (31, .invokevirtual 77, 3) (List.mem_of_getElem? (i := 18) rfl)
theorem dX8_write_34 : decode cX8_write 34 = .ok (.ireturn, 1) := tX8_write_ok (34, .ireturn, 1) (List.mem_of_getElem? (i := 19) rfl)

def tX8_read : List (Nat × Instr × Nat) := [
  (0, .aload_n 0, 1),
  (1, .iload_n 1, 1),
  (2, .iload_n 2, 1),
  (3, .invokevirtual 81, 3),
  (6, .istore_n 3, 1),
  (7, .iload_n 3, 1),
  (8, .ifCond .eq 9, 3),
  (11, .aload_n 0, 1),
  (12, .iload_n 3, 1),
  (13, .invokevirtual 88, 3),
  (16, .ireturn, 1),
  (17, .aload_n 0, 1),
  (18, .aload_n 0, 1),
  (19, .getfield 12, 3),
  (22, .iload_n 1, 1),
  (23, .iload_n 2, 1),
  (24, .invokevirtual 92, 3),
  (27, .invokevirtual 95, 3),
  (30, .ireturn, 1)]
set_option maxRecDepth 100000 in
theorem tX8_read_ok : ∀ q ∈ tX8_read, decode cX8_read q.1 = .ok q.2 := by decide +kernel
theorem dX8_read_0 : decode cX8_read 0 = .ok (.aload_n 0, 1) := tX8_read_ok (0, .aload_n 0, 1) (List.mem_of_getElem? (i := 0) rfl)
theorem dX8_read_1 : decode cX8_read 1 = .ok (.iload_n 1, 1) := tX8_read_ok (1, .iload_n 1, 1) (List.mem_of_getElem? (i := 1) rfl)
theorem dX8_read_2 : decode cX8_read 2 = .ok (.iload_n 2, 1) := tX8_read_ok (2, .iload_n 2, 1) (List.mem_of_getElem? (i := 2) rfl)
theorem dX8_read_3 : decode cX8_read 3 = .ok (.invokevirtual 81, 3) := tX8_read_ok (3, .invokevirtual 81, 3) (List.mem_of_getElem? (i := 3) rfl)
theorem dX8_read_6 : decode cX8_read 6 = .ok (.istore_n 3, 1) := tX8_read_ok (6, .istore_n 3, 1) (List.mem_of_getElem? (i := 4) rfl)
theorem dX8_read_7 : decode cX8_read 7 = .ok (.iload_n 3, 1) := tX8_read_ok (7, .iload_n 3, 1) (List.mem_of_getElem? (i := 5) rfl)
theorem dX8_read_8 : decode cX8_read 8 = .ok (.ifCond .eq 9, 3) := tX8_read_ok (8, .ifCond .eq 9, 3) (List.mem_of_getElem? (i := 6) rfl)
theorem dX8_read_11 : decode cX8_read 11 = .ok (.aload_n 0, 1) := tX8_read_ok (11, .aload_n 0, 1) (List.mem_of_getElem? (i := 7) rfl)
theorem dX8_read_12 : decode cX8_read 12 = .ok (.iload_n 3, 1) := tX8_read_ok (12, .iload_n 3, 1) (List.mem_of_getElem? (i := 8) rfl)
theorem dX8_read_13 : decode cX8_read 13 = .ok (.invokevirtual 88, 3) := tX8_read_ok (13, .invokevirtual 88, 3) (List.mem_of_getElem? (i := 9) rfl)
theorem dX8_read_16 : decode cX8_read 16 = .ok (.ireturn, 1) := tX8_read_ok (16, .ireturn, 1) (List.mem_of_getElem? (i := 10) rfl)
theorem dX8_read_17 : decode cX8_read 17 = .ok (.aload_n 0, 1) := tX8_read_ok (17, .aload_n 0, 1) (List.mem_of_getElem? (i := 11) rfl)
theorem dX8_read_18 : decode cX8_read 18 = .ok (.aload_n 0, 1) := tX8_read_ok (18, .aload_n 0, 1) (List.mem_of_getElem? (i := 12) rfl)
theorem dX8_read_19 : decode cX8_read 19 = .ok (.getfield 12, 3) := tX8_read_ok (19, .getfield 12, 3) (List.mem_of_getElem? (i := 13) rfl)
theorem dX8_read_22 : decode cX8_read 22 = .ok (.iload_n 1, 1) := tX8_read_ok (22, .iload_n 1, 1) (List.mem_of_getElem? (i := 14) rfl)
theorem dX8_read_23 : decode cX8_read 23 = .ok (.iload_n 2, 1) := tX8_read_ok (23, .iload_n 2, 1) (List.mem_of_getElem? (i := 15) rfl)
theorem dX8_read_24 : decode cX8_read 24 = .ok (.invokevirtual 92, 3) := tX8_read_ok (24, .invokevirtual 92, 3) (List.mem_of_getElem? (i := 16) rfl)
theorem dX8_read_27 : decode cX8_read 27 = .ok (.invokevirtual 95, 3) := tX8_read_ok (27, .invokevirtual 95, 3) (List.mem_of_getElem? (i := 17) rfl)
theorem dX8_read_30 : decode cX8_read 30 = .ok (.ireturn, 1) := tX8_read_ok (30, .ireturn, 1) (List.mem_of_getElem? (i := 18) rfl)

def tX8_pour : List (Nat × Instr × Nat) := [
  (0, .iload_n 1, 1),
  (1, .invokestatic 62, 3),
  (4, .ifCond .eq 10, 3),
  (7, .iload_n 3, 1),
  (8, .invokestatic 62, 3),
  (11, .ifCond .ne 9, 3),
  (14, .aload_n 0, 1),
  (15, .iconst 1, 1),
  (16, .invokevirtual 70, 3),
  (19, .ireturn, 1),
  (20, .aload_n 0, 1),
  (21, .getfield 12, 3),
  (24, .iload_n 1, 1),
  (25, .invokevirtual 98, 3),
  (28, .ifCond .ne 14, 3),
  (31, .aload_n 0, 1),
  (32, .getfield 12, 3),
  (35, .iload_n 3, 1),
  (36, .invokevirtual 98, 3),
  (39, .ifCond .eq 9, 3),
  (42, .aload_n 0, 1),
  (43, .iconst 3, 1),
  (44, .invokevirtual 70, 3),
  (47, .ireturn, 1),
  (48, .aload_n 0, 1),
  (49, .getfield 12, 3),
  (52, .iload_n 1, 1),
  (53, .invokevirtual 101, 3),
  (56, .aload_n 0, 1),
  (57, .getfield 12, 3),
  (60, .iload_n 3, 1),
  (61, .invokevirtual 101, 3),
  (64, .if_icmp .eq 10, 3),
  (67, .aload_n 0, 1),
  (68, .bipush 11, 2),
  (70, .invokevirtual 70, 3),
  (73, .ireturn, 1),
  (74, .iload 5, 2),
  (76, .ifCond .ge 10, 3),
  (79, .aload_n 0, 1),
  (80, .bipush 6, 2),
  (82, .invokevirtual 70, 3),
  (85, .ireturn, 1),
  (86, .aload_n 0, 1),
  (87, .getfield 12, 3),
  (90, .iload_n 1, 1),
  (91, .iload_n 2, 1),
  (92, .iload 5, 2),
  (94, .invokevirtual 104, 3),
  (97, .ifCond .eq 18, 3),
  (100, .aload_n 0, 1),
  (101, .getfield 12, 3),
  (104, .iload_n 3, 1),
  (105, .iload 4, 2),
  (107, .iload 5, 2),
  (109, .invokevirtual 104, 3),
  (112, .ifCond .ne 9, 3),
  (115, .aload_n 0, 1),
  (116, .iconst 4, 1),
  (117, .invokevirtual 70, 3),
  (120, .ireturn, 1),
  (121, .aload_n 0, 1),
  (122, .getfield 12, 3),
  (125, .iload_n 1, 1),
  (126, .iload_n 2, 1),
  (127, .iload_n 3, 1),
  (128, .iload 4, 2),
  (130, .iload 5, 2),
  (132, .invokevirtual 107, 3),
  (135, .aload_n 0, 1),
  (136, .invokevirtual 77, 3),
  (139, .ireturn, 1)]
set_option maxRecDepth 100000 in
theorem tX8_pour_ok : ∀ q ∈ tX8_pour, decode cX8_pour q.1 = .ok q.2 := by decide +kernel
theorem dX8_pour_0 : decode cX8_pour 0 = .ok (.iload_n 1, 1) := tX8_pour_ok (0, .iload_n 1, 1) (List.mem_of_getElem? (i := 0) rfl)
theorem dX8_pour_1 : decode cX8_pour 1 = .ok (.invokestatic 62, 3) := tX8_pour_ok (1, .invokestatic 62, 3) (List.mem_of_getElem? (i := 1) rfl)
theorem dX8_pour_4 : decode cX8_pour 4 = .ok (.ifCond .eq 10, 3) := tX8_pour_ok (4, .ifCond .eq 10, 3) (List.mem_of_getElem? (i := 2) rfl)
theorem dX8_pour_7 : decode cX8_pour 7 = .ok (.iload_n 3, 1) := tX8_pour_ok (7, .iload_n 3, 1) (List.mem_of_getElem? (i := 3) rfl)
theorem dX8_pour_8 : decode cX8_pour 8 = .ok (.invokestatic 62, 3) := tX8_pour_ok (8, .invokestatic 62, 3) (List.mem_of_getElem? (i := 4) rfl)
theorem dX8_pour_11 : decode cX8_pour 11 = .ok (.ifCond .ne 9, 3) := tX8_pour_ok (11, .ifCond .ne 9, 3) (List.mem_of_getElem? (i := 5) rfl)
theorem dX8_pour_14 : decode cX8_pour 14 = .ok (.aload_n 0, 1) := tX8_pour_ok (14, .aload_n 0, 1) (List.mem_of_getElem? (i := 6) rfl)
theorem dX8_pour_15 : decode cX8_pour 15 = .ok (.iconst 1, 1) := tX8_pour_ok (15, .iconst 1, 1) (List.mem_of_getElem? (i := 7) rfl)
theorem dX8_pour_16 : decode cX8_pour 16 = .ok (.invokevirtual 70, 3) := tX8_pour_ok (16, .invokevirtual 70, 3) (List.mem_of_getElem? (i := 8) rfl)
theorem dX8_pour_19 : decode cX8_pour 19 = .ok (.ireturn, 1) := tX8_pour_ok (19, .ireturn, 1) (List.mem_of_getElem? (i := 9) rfl)
theorem dX8_pour_20 : decode cX8_pour 20 = .ok (.aload_n 0, 1) := tX8_pour_ok (20, .aload_n 0, 1) (List.mem_of_getElem? (i := 10) rfl)
theorem dX8_pour_21 : decode cX8_pour 21 = .ok (.getfield 12, 3) := tX8_pour_ok (21, .getfield 12, 3) (List.mem_of_getElem? (i := 11) rfl)
theorem dX8_pour_24 : decode cX8_pour 24 = .ok (.iload_n 1, 1) := tX8_pour_ok (24, .iload_n 1, 1) (List.mem_of_getElem? (i := 12) rfl)
theorem dX8_pour_25 : decode cX8_pour 25 = .ok (.invokevirtual 98, 3) := tX8_pour_ok (25, .invokevirtual 98, 3) (List.mem_of_getElem? (i := 13) rfl)
theorem dX8_pour_28 : decode cX8_pour 28 = .ok (.ifCond .ne 14, 3) := tX8_pour_ok (28, .ifCond .ne 14, 3) (List.mem_of_getElem? (i := 14) rfl)
theorem dX8_pour_31 : decode cX8_pour 31 = .ok (.aload_n 0, 1) := tX8_pour_ok (31, .aload_n 0, 1) (List.mem_of_getElem? (i := 15) rfl)
theorem dX8_pour_32 : decode cX8_pour 32 = .ok (.getfield 12, 3) := tX8_pour_ok (32, .getfield 12, 3) (List.mem_of_getElem? (i := 16) rfl)
theorem dX8_pour_35 : decode cX8_pour 35 = .ok (.iload_n 3, 1) := tX8_pour_ok (35, .iload_n 3, 1) (List.mem_of_getElem? (i := 17) rfl)
theorem dX8_pour_36 : decode cX8_pour 36 = .ok (.invokevirtual 98, 3) := tX8_pour_ok (36, .invokevirtual 98, 3) (List.mem_of_getElem? (i := 18) rfl)
theorem dX8_pour_39 : decode cX8_pour 39 = .ok (.ifCond .eq 9, 3) := tX8_pour_ok (39, .ifCond .eq 9, 3) (List.mem_of_getElem? (i := 19) rfl)
theorem dX8_pour_42 : decode cX8_pour 42 = .ok (.aload_n 0, 1) := tX8_pour_ok (42, .aload_n 0, 1) (List.mem_of_getElem? (i := 20) rfl)
theorem dX8_pour_43 : decode cX8_pour 43 = .ok (.iconst 3, 1) := tX8_pour_ok (43, .iconst 3, 1) (List.mem_of_getElem? (i := 21) rfl)
theorem dX8_pour_44 : decode cX8_pour 44 = .ok (.invokevirtual 70, 3) := tX8_pour_ok (44, .invokevirtual 70, 3) (List.mem_of_getElem? (i := 22) rfl)
theorem dX8_pour_47 : decode cX8_pour 47 = .ok (.ireturn, 1) := tX8_pour_ok (47, .ireturn, 1) (List.mem_of_getElem? (i := 23) rfl)
theorem dX8_pour_48 : decode cX8_pour 48 = .ok (.aload_n 0, 1) := tX8_pour_ok (48, .aload_n 0, 1) (List.mem_of_getElem? (i := 24) rfl)
theorem dX8_pour_49 : decode cX8_pour 49 = .ok (.getfield 12, 3) := tX8_pour_ok (49, .getfield 12, 3) (List.mem_of_getElem? (i := 25) rfl)
theorem dX8_pour_52 : decode cX8_pour 52 = .ok (.iload_n 1, 1) := tX8_pour_ok (52, .iload_n 1, 1) (List.mem_of_getElem? (i := 26) rfl)
theorem dX8_pour_53 : decode cX8_pour 53 = .ok (.invokevirtual 101, 3) := tX8_pour_ok (53, .invokevirtual 101, 3) (List.mem_of_getElem? (i := 27) rfl)
theorem dX8_pour_56 : decode cX8_pour 56 = .ok (.aload_n 0, 1) := tX8_pour_ok (56, .aload_n 0, 1) (List.mem_of_getElem? (i := 28) rfl)
theorem dX8_pour_57 : decode cX8_pour 57 = .ok (.getfield 12, 3) := tX8_pour_ok (57, .getfield 12, 3) (List.mem_of_getElem? (i := 29) rfl)
theorem dX8_pour_60 : decode cX8_pour 60 = .ok (.iload_n 3, 1) := tX8_pour_ok (60, .iload_n 3, 1) (List.mem_of_getElem? (i := 30) rfl)
theorem dX8_pour_61 : decode cX8_pour 61 = .ok (.invokevirtual 101, 3) := tX8_pour_ok (61, .invokevirtual 101, 3) (List.mem_of_getElem? (i := 31) rfl)
theorem dX8_pour_64 : decode cX8_pour 64 = .ok (.if_icmp .eq 10, 3) := tX8_pour_ok (64, .if_icmp .eq 10, 3) (List.mem_of_getElem? (i := 32) rfl)
theorem dX8_pour_67 : decode cX8_pour 67 = .ok (.aload_n 0, 1) := tX8_pour_ok (67, .aload_n 0, 1) (List.mem_of_getElem? (i := 33) rfl)
theorem dX8_pour_68 : decode cX8_pour 68 = .ok (.bipush 11, 2) := tX8_pour_ok (68, .bipush 11, 2) (List.mem_of_getElem? (i := 34) rfl)
theorem dX8_pour_70 : decode cX8_pour 70 = .ok (.invokevirtual 70, 3) := tX8_pour_ok (70, .invokevirtual 70, 3) (List.mem_of_getElem? (i := 35) rfl)
theorem dX8_pour_73 : decode cX8_pour 73 = .ok (.ireturn, 1) := tX8_pour_ok (73, .ireturn, 1) (List.mem_of_getElem? (i := 36) rfl)
theorem dX8_pour_74 : decode cX8_pour 74 = .ok (.iload 5, 2) := tX8_pour_ok (74, .iload 5, 2) (List.mem_of_getElem? (i := 37) rfl)
theorem dX8_pour_76 : decode cX8_pour 76 = .ok (.ifCond .ge 10, 3) := tX8_pour_ok (76, .ifCond .ge 10, 3) (List.mem_of_getElem? (i := 38) rfl)
theorem dX8_pour_79 : decode cX8_pour 79 = .ok (.aload_n 0, 1) := tX8_pour_ok (79, .aload_n 0, 1) (List.mem_of_getElem? (i := 39) rfl)
theorem dX8_pour_80 : decode cX8_pour 80 = .ok (.bipush 6, 2) := tX8_pour_ok (80, .bipush 6, 2) (List.mem_of_getElem? (i := 40) rfl)
theorem dX8_pour_82 : decode cX8_pour 82 = .ok (.invokevirtual 70, 3) := tX8_pour_ok (82, .invokevirtual 70, 3) (List.mem_of_getElem? (i := 41) rfl)
theorem dX8_pour_85 : decode cX8_pour 85 = .ok (.ireturn, 1) := tX8_pour_ok (85, .ireturn, 1) (List.mem_of_getElem? (i := 42) rfl)
theorem dX8_pour_86 : decode cX8_pour 86 = .ok (.aload_n 0, 1) := tX8_pour_ok (86, .aload_n 0, 1) (List.mem_of_getElem? (i := 43) rfl)
theorem dX8_pour_87 : decode cX8_pour 87 = .ok (.getfield 12, 3) := tX8_pour_ok (87, .getfield 12, 3) (List.mem_of_getElem? (i := 44) rfl)
theorem dX8_pour_90 : decode cX8_pour 90 = .ok (.iload_n 1, 1) := tX8_pour_ok (90, .iload_n 1, 1) (List.mem_of_getElem? (i := 45) rfl)
theorem dX8_pour_91 : decode cX8_pour 91 = .ok (.iload_n 2, 1) := tX8_pour_ok (91, .iload_n 2, 1) (List.mem_of_getElem? (i := 46) rfl)
theorem dX8_pour_92 : decode cX8_pour 92 = .ok (.iload 5, 2) := tX8_pour_ok (92, .iload 5, 2) (List.mem_of_getElem? (i := 47) rfl)
theorem dX8_pour_94 : decode cX8_pour 94 = .ok (.invokevirtual 104, 3) := tX8_pour_ok (94, .invokevirtual 104, 3) (List.mem_of_getElem? (i := 48) rfl)
theorem dX8_pour_97 : decode cX8_pour 97 = .ok (.ifCond .eq 18, 3) := tX8_pour_ok (97, .ifCond .eq 18, 3) (List.mem_of_getElem? (i := 49) rfl)
theorem dX8_pour_100 : decode cX8_pour 100 = .ok (.aload_n 0, 1) := tX8_pour_ok (100, .aload_n 0, 1) (List.mem_of_getElem? (i := 50) rfl)
theorem dX8_pour_101 : decode cX8_pour 101 = .ok (.getfield 12, 3) := tX8_pour_ok (101, .getfield 12, 3) (List.mem_of_getElem? (i := 51) rfl)
theorem dX8_pour_104 : decode cX8_pour 104 = .ok (.iload_n 3, 1) := tX8_pour_ok (104, .iload_n 3, 1) (List.mem_of_getElem? (i := 52) rfl)
theorem dX8_pour_105 : decode cX8_pour 105 = .ok (.iload 4, 2) := tX8_pour_ok (105, .iload 4, 2) (List.mem_of_getElem? (i := 53) rfl)
theorem dX8_pour_107 : decode cX8_pour 107 = .ok (.iload 5, 2) := tX8_pour_ok (107, .iload 5, 2) (List.mem_of_getElem? (i := 54) rfl)
theorem dX8_pour_109 : decode cX8_pour 109 = .ok (.invokevirtual 104, 3) := tX8_pour_ok (109, .invokevirtual 104, 3) (List.mem_of_getElem? (i := 55) rfl)
theorem dX8_pour_112 : decode cX8_pour 112 = .ok (.ifCond .ne 9, 3) := tX8_pour_ok (112, .ifCond .ne 9, 3) (List.mem_of_getElem? (i := 56) rfl)
theorem dX8_pour_115 : decode cX8_pour 115 = .ok (.aload_n 0, 1) := tX8_pour_ok (115, .aload_n 0, 1) (List.mem_of_getElem? (i := 57) rfl)
theorem dX8_pour_116 : decode cX8_pour 116 = .ok (.iconst 4, 1) := tX8_pour_ok (116, .iconst 4, 1) (List.mem_of_getElem? (i := 58) rfl)
theorem dX8_pour_117 : decode cX8_pour 117 = .ok (.invokevirtual 70, 3) := tX8_pour_ok (117, .invokevirtual 70, 3) (List.mem_of_getElem? (i := 59) rfl)
theorem dX8_pour_120 : decode cX8_pour 120 = .ok (.ireturn, 1) := tX8_pour_ok (120, .ireturn, 1) (List.mem_of_getElem? (i := 60) rfl)
theorem dX8_pour_121 : decode cX8_pour 121 = .ok (.aload_n 0, 1) := tX8_pour_ok (121, .aload_n 0, 1) (List.mem_of_getElem? (i := 61) rfl)
theorem dX8_pour_122 : decode cX8_pour 122 = .ok (.getfield 12, 3) := tX8_pour_ok (122, .getfield 12, 3) (List.mem_of_getElem? (i := 62) rfl)
theorem dX8_pour_125 : decode cX8_pour 125 = .ok (.iload_n 1, 1) := tX8_pour_ok (125, .iload_n 1, 1) (List.mem_of_getElem? (i := 63) rfl)
theorem dX8_pour_126 : decode cX8_pour 126 = .ok (.iload_n 2, 1) := tX8_pour_ok (126, .iload_n 2, 1) (List.mem_of_getElem? (i := 64) rfl)
theorem dX8_pour_127 : decode cX8_pour 127 = .ok (.iload_n 3, 1) := tX8_pour_ok (127, .iload_n 3, 1) (List.mem_of_getElem? (i := 65) rfl)
theorem dX8_pour_128 : decode cX8_pour 128 = .ok (.iload 4, 2) := tX8_pour_ok (128, .iload 4, 2) (List.mem_of_getElem? (i := 66) rfl)
theorem dX8_pour_130 : decode cX8_pour 130 = .ok (.iload 5, 2) := tX8_pour_ok (130, .iload 5, 2) (List.mem_of_getElem? (i := 67) rfl)
theorem dX8_pour_132 : decode cX8_pour 132 = .ok (.invokevirtual 107, 3) := tX8_pour_ok (132, .invokevirtual 107, 3) (List.mem_of_getElem? (i := 68) rfl)
theorem dX8_pour_135 : decode cX8_pour 135 = .ok (.aload_n 0, 1) := tX8_pour_ok (135, .aload_n 0, 1) (List.mem_of_getElem? (i := 69) rfl)
theorem dX8_pour_136 : decode cX8_pour 136 = .ok (.invokevirtual 77, 3) := tX8_pour_ok (136, .invokevirtual 77, 3) (List.mem_of_getElem? (i := 70) rfl)
theorem dX8_pour_139 : decode cX8_pour 139 = .ok (.ireturn, 1) := tX8_pour_ok (139, .ireturn, 1) (List.mem_of_getElem? (i := 71) rfl)

def tX8_steps : List (Nat × Instr × Nat) := [
  (0, .aload_n 0, 1),
  (1, .iload_n 1, 1),
  (2, .invokevirtual 111, 3),
  (5, .istore_n 3, 1),
  (6, .iload_n 3, 1),
  (7, .ifCond .eq 9, 3),
  (10, .aload_n 0, 1),
  (11, .iload_n 3, 1),
  (12, .invokevirtual 70, 3),
  (15, .ireturn, 1),
  (16, .iload_n 2, 1),
  (17, .iconst 1, 1),
  (18, .bipush 8, 2),
  (20, .invokestatic 66, 3),
  (23, .ifCond .ne 9, 3),
  (26, .aload_n 0, 1),
  (27, .iconst 2, 1),
  (28, .invokevirtual 70, 3),
  (31, .ireturn, 1),
  (32, .aload_n 0, 1),
  (33, .getfield 12, 3),
  (36, .iload_n 1, 1),
  (37, .iconst 0, 1),
  (38, .iconst 2, 1),
  (39, .iload_n 2, 1),
  (40, .imul, 1),
  (41, .invokevirtual 104, 3),
  (44, .ifCond .ne 9, 3),
  (47, .aload_n 0, 1),
  (48, .iconst 4, 1),
  (49, .invokevirtual 70, 3),
  (52, .ireturn, 1),
  (53, .aload_n 0, 1),
  (54, .iload_n 1, 1),
  (55, .iload_n 2, 1),
  (56, .invokevirtual 114, 3),
  (59, .ifCond .ne 9, 3),
  (62, .aload_n 0, 1),
  (63, .iconst 2, 1),
  (64, .invokevirtual 70, 3),
  (67, .ireturn, 1),
  (68, .iconst 0, 1),
  (69, .istore 4, 2),
  (71, .iload 4, 2),
  (73, .iload_n 2, 1),
  (74, .if_icmp .ge 44, 3),
  (77, .aload_n 0, 1),
  (78, .getfield 19, 3),
  (81, .iload 4, 2),
  (83, .aload_n 0, 1),
  (84, .getfield 12, 3),
  (87, .iload_n 1, 1),
  (88, .iconst 2, 1),
  (89, .iload 4, 2),
  (91, .imul, 1),
  (92, .invokevirtual 92, 3),
  (95, .aload_n 0, 1),
  (96, .getfield 12, 3),
  (99, .iload_n 1, 1),
  (100, .iconst 2, 1),
  (101, .iload 4, 2),
  (103, .imul, 1),
  (104, .iconst 1, 1),
  (105, .iadd, 1),
  (106, .invokevirtual 92, 3),
  (109, .invokevirtual 118, 3),
  (112, .iinc 4 1, 3),
  (115, .goto (-44), 3),
  (118, .aload_n 0, 1),
  (119, .getfield 19, 3),
  (122, .iload_n 2, 1),
  (123, .invokevirtual 121, 3),
  (126, .aload_n 0, 1),
  (127, .invokevirtual 125, 3),
  (130, .aload_n 0, 1),
  (131, .invokevirtual 77, 3),
  (134, .ireturn, 1)]
set_option maxRecDepth 100000 in
theorem tX8_steps_ok : ∀ q ∈ tX8_steps, decode cX8_steps q.1 = .ok q.2 := by decide +kernel
theorem dX8_steps_0 : decode cX8_steps 0 = .ok (.aload_n 0, 1) := tX8_steps_ok (0, .aload_n 0, 1) (List.mem_of_getElem? (i := 0) rfl)
theorem dX8_steps_1 : decode cX8_steps 1 = .ok (.iload_n 1, 1) := tX8_steps_ok (1, .iload_n 1, 1) (List.mem_of_getElem? (i := 1) rfl)
theorem dX8_steps_2 : decode cX8_steps 2 = .ok (.invokevirtual 111, 3) := tX8_steps_ok (2, .invokevirtual 111, 3) (List.mem_of_getElem? (i := 2) rfl)
theorem dX8_steps_5 : decode cX8_steps 5 = .ok (.istore_n 3, 1) := tX8_steps_ok (5, .istore_n 3, 1) (List.mem_of_getElem? (i := 3) rfl)
theorem dX8_steps_6 : decode cX8_steps 6 = .ok (.iload_n 3, 1) := tX8_steps_ok (6, .iload_n 3, 1) (List.mem_of_getElem? (i := 4) rfl)
theorem dX8_steps_7 : decode cX8_steps 7 = .ok (.ifCond .eq 9, 3) := tX8_steps_ok (7, .ifCond .eq 9, 3) (List.mem_of_getElem? (i := 5) rfl)
theorem dX8_steps_10 : decode cX8_steps 10 = .ok (.aload_n 0, 1) := tX8_steps_ok (10, .aload_n 0, 1) (List.mem_of_getElem? (i := 6) rfl)
theorem dX8_steps_11 : decode cX8_steps 11 = .ok (.iload_n 3, 1) := tX8_steps_ok (11, .iload_n 3, 1) (List.mem_of_getElem? (i := 7) rfl)
theorem dX8_steps_12 : decode cX8_steps 12 = .ok (.invokevirtual 70, 3) := tX8_steps_ok (12, .invokevirtual 70, 3) (List.mem_of_getElem? (i := 8) rfl)
theorem dX8_steps_15 : decode cX8_steps 15 = .ok (.ireturn, 1) := tX8_steps_ok (15, .ireturn, 1) (List.mem_of_getElem? (i := 9) rfl)
theorem dX8_steps_16 : decode cX8_steps 16 = .ok (.iload_n 2, 1) := tX8_steps_ok (16, .iload_n 2, 1) (List.mem_of_getElem? (i := 10) rfl)
theorem dX8_steps_17 : decode cX8_steps 17 = .ok (.iconst 1, 1) := tX8_steps_ok (17, .iconst 1, 1) (List.mem_of_getElem? (i := 11) rfl)
theorem dX8_steps_18 : decode cX8_steps 18 = .ok (.bipush 8, 2) := tX8_steps_ok (18, .bipush 8, 2) (List.mem_of_getElem? (i := 12) rfl)
theorem dX8_steps_20 : decode cX8_steps 20 = .ok (.invokestatic 66, 3) := tX8_steps_ok (20, .invokestatic 66, 3) (List.mem_of_getElem? (i := 13) rfl)
theorem dX8_steps_23 : decode cX8_steps 23 = .ok (.ifCond .ne 9, 3) := tX8_steps_ok (23, .ifCond .ne 9, 3) (List.mem_of_getElem? (i := 14) rfl)
theorem dX8_steps_26 : decode cX8_steps 26 = .ok (.aload_n 0, 1) := tX8_steps_ok (26, .aload_n 0, 1) (List.mem_of_getElem? (i := 15) rfl)
theorem dX8_steps_27 : decode cX8_steps 27 = .ok (.iconst 2, 1) := tX8_steps_ok (27, .iconst 2, 1) (List.mem_of_getElem? (i := 16) rfl)
theorem dX8_steps_28 : decode cX8_steps 28 = .ok (.invokevirtual 70, 3) := tX8_steps_ok (28, .invokevirtual 70, 3) (List.mem_of_getElem? (i := 17) rfl)
theorem dX8_steps_31 : decode cX8_steps 31 = .ok (.ireturn, 1) := tX8_steps_ok (31, .ireturn, 1) (List.mem_of_getElem? (i := 18) rfl)
theorem dX8_steps_32 : decode cX8_steps 32 = .ok (.aload_n 0, 1) := tX8_steps_ok (32, .aload_n 0, 1) (List.mem_of_getElem? (i := 19) rfl)
theorem dX8_steps_33 : decode cX8_steps 33 = .ok (.getfield 12, 3) := tX8_steps_ok (33, .getfield 12, 3) (List.mem_of_getElem? (i := 20) rfl)
theorem dX8_steps_36 : decode cX8_steps 36 = .ok (.iload_n 1, 1) := tX8_steps_ok (36, .iload_n 1, 1) (List.mem_of_getElem? (i := 21) rfl)
theorem dX8_steps_37 : decode cX8_steps 37 = .ok (.iconst 0, 1) := tX8_steps_ok (37, .iconst 0, 1) (List.mem_of_getElem? (i := 22) rfl)
theorem dX8_steps_38 : decode cX8_steps 38 = .ok (.iconst 2, 1) := tX8_steps_ok (38, .iconst 2, 1) (List.mem_of_getElem? (i := 23) rfl)
theorem dX8_steps_39 : decode cX8_steps 39 = .ok (.iload_n 2, 1) := tX8_steps_ok (39, .iload_n 2, 1) (List.mem_of_getElem? (i := 24) rfl)
theorem dX8_steps_40 : decode cX8_steps 40 = .ok (.imul, 1) := tX8_steps_ok (40, .imul, 1) (List.mem_of_getElem? (i := 25) rfl)
theorem dX8_steps_41 : decode cX8_steps 41 = .ok (.invokevirtual 104, 3) := tX8_steps_ok (41, .invokevirtual 104, 3) (List.mem_of_getElem? (i := 26) rfl)
theorem dX8_steps_44 : decode cX8_steps 44 = .ok (.ifCond .ne 9, 3) := tX8_steps_ok (44, .ifCond .ne 9, 3) (List.mem_of_getElem? (i := 27) rfl)
theorem dX8_steps_47 : decode cX8_steps 47 = .ok (.aload_n 0, 1) := tX8_steps_ok (47, .aload_n 0, 1) (List.mem_of_getElem? (i := 28) rfl)
theorem dX8_steps_48 : decode cX8_steps 48 = .ok (.iconst 4, 1) := tX8_steps_ok (48, .iconst 4, 1) (List.mem_of_getElem? (i := 29) rfl)
theorem dX8_steps_49 : decode cX8_steps 49 = .ok (.invokevirtual 70, 3) := tX8_steps_ok (49, .invokevirtual 70, 3) (List.mem_of_getElem? (i := 30) rfl)
theorem dX8_steps_52 : decode cX8_steps 52 = .ok (.ireturn, 1) := tX8_steps_ok (52, .ireturn, 1) (List.mem_of_getElem? (i := 31) rfl)
theorem dX8_steps_53 : decode cX8_steps 53 = .ok (.aload_n 0, 1) := tX8_steps_ok (53, .aload_n 0, 1) (List.mem_of_getElem? (i := 32) rfl)
theorem dX8_steps_54 : decode cX8_steps 54 = .ok (.iload_n 1, 1) := tX8_steps_ok (54, .iload_n 1, 1) (List.mem_of_getElem? (i := 33) rfl)
theorem dX8_steps_55 : decode cX8_steps 55 = .ok (.iload_n 2, 1) := tX8_steps_ok (55, .iload_n 2, 1) (List.mem_of_getElem? (i := 34) rfl)
theorem dX8_steps_56 : decode cX8_steps 56 = .ok (.invokevirtual 114, 3) := tX8_steps_ok (56, .invokevirtual 114, 3) (List.mem_of_getElem? (i := 35) rfl)
theorem dX8_steps_59 : decode cX8_steps 59 = .ok (.ifCond .ne 9, 3) := tX8_steps_ok (59, .ifCond .ne 9, 3) (List.mem_of_getElem? (i := 36) rfl)
theorem dX8_steps_62 : decode cX8_steps 62 = .ok (.aload_n 0, 1) := tX8_steps_ok (62, .aload_n 0, 1) (List.mem_of_getElem? (i := 37) rfl)
theorem dX8_steps_63 : decode cX8_steps 63 = .ok (.iconst 2, 1) := tX8_steps_ok (63, .iconst 2, 1) (List.mem_of_getElem? (i := 38) rfl)
theorem dX8_steps_64 : decode cX8_steps 64 = .ok (.invokevirtual 70, 3) := tX8_steps_ok (64, .invokevirtual 70, 3) (List.mem_of_getElem? (i := 39) rfl)
theorem dX8_steps_67 : decode cX8_steps 67 = .ok (.ireturn, 1) := tX8_steps_ok (67, .ireturn, 1) (List.mem_of_getElem? (i := 40) rfl)
theorem dX8_steps_68 : decode cX8_steps 68 = .ok (.iconst 0, 1) := tX8_steps_ok (68, .iconst 0, 1) (List.mem_of_getElem? (i := 41) rfl)
theorem dX8_steps_69 : decode cX8_steps 69 = .ok (.istore 4, 2) := tX8_steps_ok (69, .istore 4, 2) (List.mem_of_getElem? (i := 42) rfl)
theorem dX8_steps_71 : decode cX8_steps 71 = .ok (.iload 4, 2) := tX8_steps_ok (71, .iload 4, 2) (List.mem_of_getElem? (i := 43) rfl)
theorem dX8_steps_73 : decode cX8_steps 73 = .ok (.iload_n 2, 1) := tX8_steps_ok (73, .iload_n 2, 1) (List.mem_of_getElem? (i := 44) rfl)
theorem dX8_steps_74 : decode cX8_steps 74 = .ok (.if_icmp .ge 44, 3) := tX8_steps_ok (74, .if_icmp .ge 44, 3) (List.mem_of_getElem? (i := 45) rfl)
theorem dX8_steps_77 : decode cX8_steps 77 = .ok (.aload_n 0, 1) := tX8_steps_ok (77, .aload_n 0, 1) (List.mem_of_getElem? (i := 46) rfl)
theorem dX8_steps_78 : decode cX8_steps 78 = .ok (.getfield 19, 3) := tX8_steps_ok (78, .getfield 19, 3) (List.mem_of_getElem? (i := 47) rfl)
theorem dX8_steps_81 : decode cX8_steps 81 = .ok (.iload 4, 2) := tX8_steps_ok (81, .iload 4, 2) (List.mem_of_getElem? (i := 48) rfl)
theorem dX8_steps_83 : decode cX8_steps 83 = .ok (.aload_n 0, 1) := tX8_steps_ok (83, .aload_n 0, 1) (List.mem_of_getElem? (i := 49) rfl)
theorem dX8_steps_84 : decode cX8_steps 84 = .ok (.getfield 12, 3) := tX8_steps_ok (84, .getfield 12, 3) (List.mem_of_getElem? (i := 50) rfl)
theorem dX8_steps_87 : decode cX8_steps 87 = .ok (.iload_n 1, 1) := tX8_steps_ok (87, .iload_n 1, 1) (List.mem_of_getElem? (i := 51) rfl)
theorem dX8_steps_88 : decode cX8_steps 88 = .ok (.iconst 2, 1) := tX8_steps_ok (88, .iconst 2, 1) (List.mem_of_getElem? (i := 52) rfl)
theorem dX8_steps_89 : decode cX8_steps 89 = .ok (.iload 4, 2) := tX8_steps_ok (89, .iload 4, 2) (List.mem_of_getElem? (i := 53) rfl)
theorem dX8_steps_91 : decode cX8_steps 91 = .ok (.imul, 1) := tX8_steps_ok (91, .imul, 1) (List.mem_of_getElem? (i := 54) rfl)
theorem dX8_steps_92 : decode cX8_steps 92 = .ok (.invokevirtual 92, 3) := tX8_steps_ok (92, .invokevirtual 92, 3) (List.mem_of_getElem? (i := 55) rfl)
theorem dX8_steps_95 : decode cX8_steps 95 = .ok (.aload_n 0, 1) := tX8_steps_ok (95, .aload_n 0, 1) (List.mem_of_getElem? (i := 56) rfl)
theorem dX8_steps_96 : decode cX8_steps 96 = .ok (.getfield 12, 3) := tX8_steps_ok (96, .getfield 12, 3) (List.mem_of_getElem? (i := 57) rfl)
theorem dX8_steps_99 : decode cX8_steps 99 = .ok (.iload_n 1, 1) := tX8_steps_ok (99, .iload_n 1, 1) (List.mem_of_getElem? (i := 58) rfl)
theorem dX8_steps_100 : decode cX8_steps 100 = .ok (.iconst 2, 1) := tX8_steps_ok (100, .iconst 2, 1) (List.mem_of_getElem? (i := 59) rfl)
theorem dX8_steps_101 : decode cX8_steps 101 = .ok (.iload 4, 2) := tX8_steps_ok (101, .iload 4, 2) (List.mem_of_getElem? (i := 60) rfl)
theorem dX8_steps_103 : decode cX8_steps 103 = .ok (.imul, 1) := tX8_steps_ok (103, .imul, 1) (List.mem_of_getElem? (i := 61) rfl)
theorem dX8_steps_104 : decode cX8_steps 104 = .ok (.iconst 1, 1) := tX8_steps_ok (104, .iconst 1, 1) (List.mem_of_getElem? (i := 62) rfl)
theorem dX8_steps_105 : decode cX8_steps 105 = .ok (.iadd, 1) := tX8_steps_ok (105, .iadd, 1) (List.mem_of_getElem? (i := 63) rfl)
theorem dX8_steps_106 : decode cX8_steps 106 = .ok (.invokevirtual 92, 3) := tX8_steps_ok (106, .invokevirtual 92, 3) (List.mem_of_getElem? (i := 64) rfl)
theorem dX8_steps_109 : decode cX8_steps 109 = .ok (.invokevirtual 118, 3) := tX8_steps_ok (109, .invokevirtual 118, 3) (List.mem_of_getElem? (i := 65) rfl)
theorem dX8_steps_112 : decode cX8_steps 112 = .ok (.iinc 4 1, 3) := tX8_steps_ok (112, .iinc 4 1, 3) (List.mem_of_getElem? (i := 66) rfl)
theorem dX8_steps_115 : decode cX8_steps 115 = .ok (.goto (-44), 3) := tX8_steps_ok (115, .goto (-44), 3) (List.mem_of_getElem? (i := 67) rfl)
theorem dX8_steps_118 : decode cX8_steps 118 = .ok (.aload_n 0, 1) := tX8_steps_ok (118, .aload_n 0, 1) (List.mem_of_getElem? (i := 68) rfl)
theorem dX8_steps_119 : decode cX8_steps 119 = .ok (.getfield 19, 3) := tX8_steps_ok (119, .getfield 19, 3) (List.mem_of_getElem? (i := 69) rfl)
theorem dX8_steps_122 : decode cX8_steps 122 = .ok (.iload_n 2, 1) := tX8_steps_ok (122, .iload_n 2, 1) (List.mem_of_getElem? (i := 70) rfl)
theorem dX8_steps_123 : decode cX8_steps 123 = .ok (.invokevirtual 121, 3) := tX8_steps_ok (123, .invokevirtual 121, 3) (List.mem_of_getElem? (i := 71) rfl)
theorem dX8_steps_126 : decode cX8_steps 126 = .ok (.aload_n 0, 1) := tX8_steps_ok (126, .aload_n 0, 1) (List.mem_of_getElem? (i := 72) rfl)
theorem dX8_steps_127 : decode cX8_steps 127 = .ok (.invokevirtual 125, 3) := tX8_steps_ok (127, .invokevirtual 125, 3) (List.mem_of_getElem? (i := 73) rfl)
theorem dX8_steps_130 : decode cX8_steps 130 = .ok (.aload_n 0, 1) := tX8_steps_ok (130, .aload_n 0, 1) (List.mem_of_getElem? (i := 74) rfl)
theorem dX8_steps_131 : decode cX8_steps 131 = .ok (.invokevirtual 77, 3) := tX8_steps_ok (131, .invokevirtual 77, 3) (List.mem_of_getElem? (i := 75) rfl)
theorem dX8_steps_134 : decode cX8_steps 134 = .ok (.ireturn, 1) := tX8_steps_ok (134, .ireturn, 1) (List.mem_of_getElem? (i := 76) rfl)

def tX8_step : List (Nat × Instr × Nat) := [
  (0, .iload_n 2, 1),
  (1, .iconst 0, 1),
  (2, .iconst 2, 1),
  (3, .invokestatic 66, 3),
  (6, .ifCond .ne 9, 3),
  (9, .aload_n 0, 1),
  (10, .iconst 2, 1),
  (11, .invokevirtual 88, 3),
  (14, .ireturn, 1),
  (15, .aload_n 0, 1),
  (16, .getfield 19, 3),
  (19, .iload_n 1, 1),
  (20, .invokevirtual 128, 3),
  (23, .ifCond .ne 10, 3),
  (26, .aload_n 0, 1),
  (27, .bipush 8, 2),
  (29, .invokevirtual 88, 3),
  (32, .ireturn, 1),
  (33, .iload_n 2, 1),
  (34, .ifCond .ne 17, 3),
  (37, .aload_n 0, 1),
  (38, .aload_n 0, 1),
  (39, .getfield 19, 3),
  (42, .getfield 131, 3),
  (45, .iload_n 1, 1),
  (46, .iaload, 1),
  (47, .invokevirtual 95, 3),
  (50, .ireturn, 1),
  (51, .aload_n 0, 1),
  (52, .iload_n 2, 1),
  (53, .iconst 1, 1),
  (54, .if_icmp .ne 15, 3),
  (57, .aload_n 0, 1),
  (58, .getfield 19, 3),
  (61, .getfield 134, 3),
  (64, .iload_n 1, 1),
  (65, .iaload, 1),
  (66, .goto 12, 3),
  (69, .aload_n 0, 1),
  (70, .getfield 19, 3),
  (73, .getfield 137, 3),
  (76, .iload_n 1, 1),
  (77, .iaload, 1),
  (78, .invokevirtual 95, 3),
  (81, .ireturn, 1)]
set_option maxRecDepth 100000 in
theorem tX8_step_ok : ∀ q ∈ tX8_step, decode cX8_step q.1 = .ok q.2 := by decide +kernel
theorem dX8_step_0 : decode cX8_step 0 = .ok (.iload_n 2, 1) := tX8_step_ok (0, .iload_n 2, 1) (List.mem_of_getElem? (i := 0) rfl)
theorem dX8_step_1 : decode cX8_step 1 = .ok (.iconst 0, 1) := tX8_step_ok (1, .iconst 0, 1) (List.mem_of_getElem? (i := 1) rfl)
theorem dX8_step_2 : decode cX8_step 2 = .ok (.iconst 2, 1) := tX8_step_ok (2, .iconst 2, 1) (List.mem_of_getElem? (i := 2) rfl)
theorem dX8_step_3 : decode cX8_step 3 = .ok (.invokestatic 66, 3) := tX8_step_ok (3, .invokestatic 66, 3) (List.mem_of_getElem? (i := 3) rfl)
theorem dX8_step_6 : decode cX8_step 6 = .ok (.ifCond .ne 9, 3) := tX8_step_ok (6, .ifCond .ne 9, 3) (List.mem_of_getElem? (i := 4) rfl)
theorem dX8_step_9 : decode cX8_step 9 = .ok (.aload_n 0, 1) := tX8_step_ok (9, .aload_n 0, 1) (List.mem_of_getElem? (i := 5) rfl)
theorem dX8_step_10 : decode cX8_step 10 = .ok (.iconst 2, 1) := tX8_step_ok (10, .iconst 2, 1) (List.mem_of_getElem? (i := 6) rfl)
theorem dX8_step_11 : decode cX8_step 11 = .ok (.invokevirtual 88, 3) := tX8_step_ok (11, .invokevirtual 88, 3) (List.mem_of_getElem? (i := 7) rfl)
theorem dX8_step_14 : decode cX8_step 14 = .ok (.ireturn, 1) := tX8_step_ok (14, .ireturn, 1) (List.mem_of_getElem? (i := 8) rfl)
theorem dX8_step_15 : decode cX8_step 15 = .ok (.aload_n 0, 1) := tX8_step_ok (15, .aload_n 0, 1) (List.mem_of_getElem? (i := 9) rfl)
theorem dX8_step_16 : decode cX8_step 16 = .ok (.getfield 19, 3) := tX8_step_ok (16, .getfield 19, 3) (List.mem_of_getElem? (i := 10) rfl)
theorem dX8_step_19 : decode cX8_step 19 = .ok (.iload_n 1, 1) := tX8_step_ok (19, .iload_n 1, 1) (List.mem_of_getElem? (i := 11) rfl)
theorem dX8_step_20 : decode cX8_step 20 = .ok (.invokevirtual 128, 3) := tX8_step_ok (20, .invokevirtual 128, 3) (List.mem_of_getElem? (i := 12) rfl)
theorem dX8_step_23 : decode cX8_step 23 = .ok (.ifCond .ne 10, 3) := tX8_step_ok (23, .ifCond .ne 10, 3) (List.mem_of_getElem? (i := 13) rfl)
theorem dX8_step_26 : decode cX8_step 26 = .ok (.aload_n 0, 1) := tX8_step_ok (26, .aload_n 0, 1) (List.mem_of_getElem? (i := 14) rfl)
theorem dX8_step_27 : decode cX8_step 27 = .ok (.bipush 8, 2) := tX8_step_ok (27, .bipush 8, 2) (List.mem_of_getElem? (i := 15) rfl)
theorem dX8_step_29 : decode cX8_step 29 = .ok (.invokevirtual 88, 3) := tX8_step_ok (29, .invokevirtual 88, 3) (List.mem_of_getElem? (i := 16) rfl)
theorem dX8_step_32 : decode cX8_step 32 = .ok (.ireturn, 1) := tX8_step_ok (32, .ireturn, 1) (List.mem_of_getElem? (i := 17) rfl)
theorem dX8_step_33 : decode cX8_step 33 = .ok (.iload_n 2, 1) := tX8_step_ok (33, .iload_n 2, 1) (List.mem_of_getElem? (i := 18) rfl)
theorem dX8_step_34 : decode cX8_step 34 = .ok (.ifCond .ne 17, 3) := tX8_step_ok (34, .ifCond .ne 17, 3) (List.mem_of_getElem? (i := 19) rfl)
theorem dX8_step_37 : decode cX8_step 37 = .ok (.aload_n 0, 1) := tX8_step_ok (37, .aload_n 0, 1) (List.mem_of_getElem? (i := 20) rfl)
theorem dX8_step_38 : decode cX8_step 38 = .ok (.aload_n 0, 1) := tX8_step_ok (38, .aload_n 0, 1) (List.mem_of_getElem? (i := 21) rfl)
theorem dX8_step_39 : decode cX8_step 39 = .ok (.getfield 19, 3) := tX8_step_ok (39, .getfield 19, 3) (List.mem_of_getElem? (i := 22) rfl)
theorem dX8_step_42 : decode cX8_step 42 = .ok (.getfield 131, 3) := tX8_step_ok (42, .getfield 131, 3) (List.mem_of_getElem? (i := 23) rfl)
theorem dX8_step_45 : decode cX8_step 45 = .ok (.iload_n 1, 1) := tX8_step_ok (45, .iload_n 1, 1) (List.mem_of_getElem? (i := 24) rfl)
theorem dX8_step_46 : decode cX8_step 46 = .ok (.iaload, 1) := tX8_step_ok (46, .iaload, 1) (List.mem_of_getElem? (i := 25) rfl)
theorem dX8_step_47 : decode cX8_step 47 = .ok (.invokevirtual 95, 3) := tX8_step_ok (47, .invokevirtual 95, 3) (List.mem_of_getElem? (i := 26) rfl)
theorem dX8_step_50 : decode cX8_step 50 = .ok (.ireturn, 1) := tX8_step_ok (50, .ireturn, 1) (List.mem_of_getElem? (i := 27) rfl)
theorem dX8_step_51 : decode cX8_step 51 = .ok (.aload_n 0, 1) := tX8_step_ok (51, .aload_n 0, 1) (List.mem_of_getElem? (i := 28) rfl)
theorem dX8_step_52 : decode cX8_step 52 = .ok (.iload_n 2, 1) := tX8_step_ok (52, .iload_n 2, 1) (List.mem_of_getElem? (i := 29) rfl)
theorem dX8_step_53 : decode cX8_step 53 = .ok (.iconst 1, 1) := tX8_step_ok (53, .iconst 1, 1) (List.mem_of_getElem? (i := 30) rfl)
theorem dX8_step_54 : decode cX8_step 54 = .ok (.if_icmp .ne 15, 3) := tX8_step_ok (54, .if_icmp .ne 15, 3) (List.mem_of_getElem? (i := 31) rfl)
theorem dX8_step_57 : decode cX8_step 57 = .ok (.aload_n 0, 1) := tX8_step_ok (57, .aload_n 0, 1) (List.mem_of_getElem? (i := 32) rfl)
theorem dX8_step_58 : decode cX8_step 58 = .ok (.getfield 19, 3) := tX8_step_ok (58, .getfield 19, 3) (List.mem_of_getElem? (i := 33) rfl)
theorem dX8_step_61 : decode cX8_step 61 = .ok (.getfield 134, 3) := tX8_step_ok (61, .getfield 134, 3) (List.mem_of_getElem? (i := 34) rfl)
theorem dX8_step_64 : decode cX8_step 64 = .ok (.iload_n 1, 1) := tX8_step_ok (64, .iload_n 1, 1) (List.mem_of_getElem? (i := 35) rfl)
theorem dX8_step_65 : decode cX8_step 65 = .ok (.iaload, 1) := tX8_step_ok (65, .iaload, 1) (List.mem_of_getElem? (i := 36) rfl)
theorem dX8_step_66 : decode cX8_step 66 = .ok (.goto 12, 3) := tX8_step_ok (66, .goto 12, 3) (List.mem_of_getElem? (i := 37) rfl)
theorem dX8_step_69 : decode cX8_step 69 = .ok (.aload_n 0, 1) := tX8_step_ok (69, .aload_n 0, 1) (List.mem_of_getElem? (i := 38) rfl)
theorem dX8_step_70 : decode cX8_step 70 = .ok (.getfield 19, 3) := tX8_step_ok (70, .getfield 19, 3) (List.mem_of_getElem? (i := 39) rfl)
theorem dX8_step_73 : decode cX8_step 73 = .ok (.getfield 137, 3) := tX8_step_ok (73, .getfield 137, 3) (List.mem_of_getElem? (i := 40) rfl)
theorem dX8_step_76 : decode cX8_step 76 = .ok (.iload_n 1, 1) := tX8_step_ok (76, .iload_n 1, 1) (List.mem_of_getElem? (i := 41) rfl)
theorem dX8_step_77 : decode cX8_step 77 = .ok (.iaload, 1) := tX8_step_ok (77, .iaload, 1) (List.mem_of_getElem? (i := 42) rfl)
theorem dX8_step_78 : decode cX8_step 78 = .ok (.invokevirtual 95, 3) := tX8_step_ok (78, .invokevirtual 95, 3) (List.mem_of_getElem? (i := 43) rfl)
theorem dX8_step_81 : decode cX8_step 81 = .ok (.ireturn, 1) := tX8_step_ok (81, .ireturn, 1) (List.mem_of_getElem? (i := 44) rfl)

def tX8_told : List (Nat × Instr × Nat) := [
  (0, .aload_n 0, 1),
  (1, .getfield 19, 3),
  (4, .iload_n 1, 1),
  (5, .invokevirtual 128, 3),
  (8, .ifCond .ne 10, 3),
  (11, .aload_n 0, 1),
  (12, .bipush 8, 2),
  (14, .invokevirtual 70, 3),
  (17, .ireturn, 1),
  (18, .iload_n 2, 1),
  (19, .iconst 0, 1),
  (20, .bipush 9, 2),
  (22, .invokestatic 66, 3),
  (25, .ifCond .ne 9, 3),
  (28, .aload_n 0, 1),
  (29, .iconst 2, 1),
  (30, .invokevirtual 70, 3),
  (33, .ireturn, 1),
  (34, .aload_n 0, 1),
  (35, .getfield 19, 3),
  (38, .getfield 137, 3),
  (41, .iload_n 1, 1),
  (42, .iload_n 2, 1),
  (43, .iastore, 1),
  (44, .aload_n 0, 1),
  (45, .invokevirtual 77, 3),
  (48, .ireturn, 1)]
set_option maxRecDepth 100000 in
theorem tX8_told_ok : ∀ q ∈ tX8_told, decode cX8_told q.1 = .ok q.2 := by decide +kernel
theorem dX8_told_0 : decode cX8_told 0 = .ok (.aload_n 0, 1) := tX8_told_ok (0, .aload_n 0, 1) (List.mem_of_getElem? (i := 0) rfl)
theorem dX8_told_1 : decode cX8_told 1 = .ok (.getfield 19, 3) := tX8_told_ok (1, .getfield 19, 3) (List.mem_of_getElem? (i := 1) rfl)
theorem dX8_told_4 : decode cX8_told 4 = .ok (.iload_n 1, 1) := tX8_told_ok (4, .iload_n 1, 1) (List.mem_of_getElem? (i := 2) rfl)
theorem dX8_told_5 : decode cX8_told 5 = .ok (.invokevirtual 128, 3) := tX8_told_ok (5, .invokevirtual 128, 3) (List.mem_of_getElem? (i := 3) rfl)
theorem dX8_told_8 : decode cX8_told 8 = .ok (.ifCond .ne 10, 3) := tX8_told_ok (8, .ifCond .ne 10, 3) (List.mem_of_getElem? (i := 4) rfl)
theorem dX8_told_11 : decode cX8_told 11 = .ok (.aload_n 0, 1) := tX8_told_ok (11, .aload_n 0, 1) (List.mem_of_getElem? (i := 5) rfl)
theorem dX8_told_12 : decode cX8_told 12 = .ok (.bipush 8, 2) := tX8_told_ok (12, .bipush 8, 2) (List.mem_of_getElem? (i := 6) rfl)
theorem dX8_told_14 : decode cX8_told 14 = .ok (.invokevirtual 70, 3) := tX8_told_ok (14, .invokevirtual 70, 3) (List.mem_of_getElem? (i := 7) rfl)
theorem dX8_told_17 : decode cX8_told 17 = .ok (.ireturn, 1) := tX8_told_ok (17, .ireturn, 1) (List.mem_of_getElem? (i := 8) rfl)
theorem dX8_told_18 : decode cX8_told 18 = .ok (.iload_n 2, 1) := tX8_told_ok (18, .iload_n 2, 1) (List.mem_of_getElem? (i := 9) rfl)
theorem dX8_told_19 : decode cX8_told 19 = .ok (.iconst 0, 1) := tX8_told_ok (19, .iconst 0, 1) (List.mem_of_getElem? (i := 10) rfl)
theorem dX8_told_20 : decode cX8_told 20 = .ok (.bipush 9, 2) := tX8_told_ok (20, .bipush 9, 2) (List.mem_of_getElem? (i := 11) rfl)
theorem dX8_told_22 : decode cX8_told 22 = .ok (.invokestatic 66, 3) := tX8_told_ok (22, .invokestatic 66, 3) (List.mem_of_getElem? (i := 12) rfl)
theorem dX8_told_25 : decode cX8_told 25 = .ok (.ifCond .ne 9, 3) := tX8_told_ok (25, .ifCond .ne 9, 3) (List.mem_of_getElem? (i := 13) rfl)
theorem dX8_told_28 : decode cX8_told 28 = .ok (.aload_n 0, 1) := tX8_told_ok (28, .aload_n 0, 1) (List.mem_of_getElem? (i := 14) rfl)
theorem dX8_told_29 : decode cX8_told 29 = .ok (.iconst 2, 1) := tX8_told_ok (29, .iconst 2, 1) (List.mem_of_getElem? (i := 15) rfl)
theorem dX8_told_30 : decode cX8_told 30 = .ok (.invokevirtual 70, 3) := tX8_told_ok (30, .invokevirtual 70, 3) (List.mem_of_getElem? (i := 16) rfl)
theorem dX8_told_33 : decode cX8_told 33 = .ok (.ireturn, 1) := tX8_told_ok (33, .ireturn, 1) (List.mem_of_getElem? (i := 17) rfl)
theorem dX8_told_34 : decode cX8_told 34 = .ok (.aload_n 0, 1) := tX8_told_ok (34, .aload_n 0, 1) (List.mem_of_getElem? (i := 18) rfl)
theorem dX8_told_35 : decode cX8_told 35 = .ok (.getfield 19, 3) := tX8_told_ok (35, .getfield 19, 3) (List.mem_of_getElem? (i := 19) rfl)
theorem dX8_told_38 : decode cX8_told 38 = .ok (.getfield 137, 3) := tX8_told_ok (38, .getfield 137, 3) (List.mem_of_getElem? (i := 20) rfl)
theorem dX8_told_41 : decode cX8_told 41 = .ok (.iload_n 1, 1) := tX8_told_ok (41, .iload_n 1, 1) (List.mem_of_getElem? (i := 21) rfl)
theorem dX8_told_42 : decode cX8_told 42 = .ok (.iload_n 2, 1) := tX8_told_ok (42, .iload_n 2, 1) (List.mem_of_getElem? (i := 22) rfl)
theorem dX8_told_43 : decode cX8_told 43 = .ok (.iastore, 1) := tX8_told_ok (43, .iastore, 1) (List.mem_of_getElem? (i := 23) rfl)
theorem dX8_told_44 : decode cX8_told 44 = .ok (.aload_n 0, 1) := tX8_told_ok (44, .aload_n 0, 1) (List.mem_of_getElem? (i := 24) rfl)
theorem dX8_told_45 : decode cX8_told 45 = .ok (.invokevirtual 77, 3) := tX8_told_ok (45, .invokevirtual 77, 3) (List.mem_of_getElem? (i := 25) rfl)
theorem dX8_told_48 : decode cX8_told 48 = .ok (.ireturn, 1) := tX8_told_ok (48, .ireturn, 1) (List.mem_of_getElem? (i := 26) rfl)

def tX8_kind : List (Nat × Instr × Nat) := [
  (0, .iload_n 1, 1),
  (1, .iconst 0, 1),
  (2, .iconst 4, 1),
  (3, .invokestatic 66, 3),
  (6, .ifCond .ne 9, 3),
  (9, .aload_n 0, 1),
  (10, .iconst 2, 1),
  (11, .invokevirtual 70, 3),
  (14, .ireturn, 1),
  (15, .iload_n 1, 1),
  (16, .iconst 4, 1),
  (17, .if_icmp .ne 7, 3),
  (20, .iconst 1, 1),
  (21, .goto 4, 3),
  (24, .iconst 0, 1),
  (25, .istore_n 3, 1),
  (26, .iload_n 1, 1),
  (27, .iconst 2, 1),
  (28, .if_icmp .eq 8, 3),
  (31, .iload_n 1, 1),
  (32, .iconst 4, 1),
  (33, .if_icmp .ne 8, 3),
  (36, .bipush 30, 2),
  (38, .goto 4, 3),
  (41, .iconst 0, 1),
  (42, .istore 4, 2),
  (44, .iload_n 2, 1),
  (45, .iload_n 3, 1),
  (46, .iload 4, 2),
  (48, .invokestatic 66, 3),
  (51, .ifCond .ne 9, 3),
  (54, .aload_n 0, 1),
  (55, .iconst 2, 1),
  (56, .invokevirtual 70, 3),
  (59, .ireturn, 1),
  (60, .aload_n 0, 1),
  (61, .getfield 19, 3),
  (64, .iload_n 1, 1),
  (65, .iload_n 2, 1),
  (66, .invokevirtual 140, 3),
  (69, .aload_n 0, 1),
  (70, .invokevirtual 125, 3),
  (73, .aload_n 0, 1),
  (74, .invokevirtual 77, 3),
  (77, .ireturn, 1)]
set_option maxRecDepth 100000 in
theorem tX8_kind_ok : ∀ q ∈ tX8_kind, decode cX8_kind q.1 = .ok q.2 := by decide +kernel
theorem dX8_kind_0 : decode cX8_kind 0 = .ok (.iload_n 1, 1) := tX8_kind_ok (0, .iload_n 1, 1) (List.mem_of_getElem? (i := 0) rfl)
theorem dX8_kind_1 : decode cX8_kind 1 = .ok (.iconst 0, 1) := tX8_kind_ok (1, .iconst 0, 1) (List.mem_of_getElem? (i := 1) rfl)
theorem dX8_kind_2 : decode cX8_kind 2 = .ok (.iconst 4, 1) := tX8_kind_ok (2, .iconst 4, 1) (List.mem_of_getElem? (i := 2) rfl)
theorem dX8_kind_3 : decode cX8_kind 3 = .ok (.invokestatic 66, 3) := tX8_kind_ok (3, .invokestatic 66, 3) (List.mem_of_getElem? (i := 3) rfl)
theorem dX8_kind_6 : decode cX8_kind 6 = .ok (.ifCond .ne 9, 3) := tX8_kind_ok (6, .ifCond .ne 9, 3) (List.mem_of_getElem? (i := 4) rfl)
theorem dX8_kind_9 : decode cX8_kind 9 = .ok (.aload_n 0, 1) := tX8_kind_ok (9, .aload_n 0, 1) (List.mem_of_getElem? (i := 5) rfl)
theorem dX8_kind_10 : decode cX8_kind 10 = .ok (.iconst 2, 1) := tX8_kind_ok (10, .iconst 2, 1) (List.mem_of_getElem? (i := 6) rfl)
theorem dX8_kind_11 : decode cX8_kind 11 = .ok (.invokevirtual 70, 3) := tX8_kind_ok (11, .invokevirtual 70, 3) (List.mem_of_getElem? (i := 7) rfl)
theorem dX8_kind_14 : decode cX8_kind 14 = .ok (.ireturn, 1) := tX8_kind_ok (14, .ireturn, 1) (List.mem_of_getElem? (i := 8) rfl)
theorem dX8_kind_15 : decode cX8_kind 15 = .ok (.iload_n 1, 1) := tX8_kind_ok (15, .iload_n 1, 1) (List.mem_of_getElem? (i := 9) rfl)
theorem dX8_kind_16 : decode cX8_kind 16 = .ok (.iconst 4, 1) := tX8_kind_ok (16, .iconst 4, 1) (List.mem_of_getElem? (i := 10) rfl)
theorem dX8_kind_17 : decode cX8_kind 17 = .ok (.if_icmp .ne 7, 3) := tX8_kind_ok (17, .if_icmp .ne 7, 3) (List.mem_of_getElem? (i := 11) rfl)
theorem dX8_kind_20 : decode cX8_kind 20 = .ok (.iconst 1, 1) := tX8_kind_ok (20, .iconst 1, 1) (List.mem_of_getElem? (i := 12) rfl)
theorem dX8_kind_21 : decode cX8_kind 21 = .ok (.goto 4, 3) := tX8_kind_ok (21, .goto 4, 3) (List.mem_of_getElem? (i := 13) rfl)
theorem dX8_kind_24 : decode cX8_kind 24 = .ok (.iconst 0, 1) := tX8_kind_ok (24, .iconst 0, 1) (List.mem_of_getElem? (i := 14) rfl)
theorem dX8_kind_25 : decode cX8_kind 25 = .ok (.istore_n 3, 1) := tX8_kind_ok (25, .istore_n 3, 1) (List.mem_of_getElem? (i := 15) rfl)
theorem dX8_kind_26 : decode cX8_kind 26 = .ok (.iload_n 1, 1) := tX8_kind_ok (26, .iload_n 1, 1) (List.mem_of_getElem? (i := 16) rfl)
theorem dX8_kind_27 : decode cX8_kind 27 = .ok (.iconst 2, 1) := tX8_kind_ok (27, .iconst 2, 1) (List.mem_of_getElem? (i := 17) rfl)
theorem dX8_kind_28 : decode cX8_kind 28 = .ok (.if_icmp .eq 8, 3) := tX8_kind_ok (28, .if_icmp .eq 8, 3) (List.mem_of_getElem? (i := 18) rfl)
theorem dX8_kind_31 : decode cX8_kind 31 = .ok (.iload_n 1, 1) := tX8_kind_ok (31, .iload_n 1, 1) (List.mem_of_getElem? (i := 19) rfl)
theorem dX8_kind_32 : decode cX8_kind 32 = .ok (.iconst 4, 1) := tX8_kind_ok (32, .iconst 4, 1) (List.mem_of_getElem? (i := 20) rfl)
theorem dX8_kind_33 : decode cX8_kind 33 = .ok (.if_icmp .ne 8, 3) := tX8_kind_ok (33, .if_icmp .ne 8, 3) (List.mem_of_getElem? (i := 21) rfl)
theorem dX8_kind_36 : decode cX8_kind 36 = .ok (.bipush 30, 2) := tX8_kind_ok (36, .bipush 30, 2) (List.mem_of_getElem? (i := 22) rfl)
theorem dX8_kind_38 : decode cX8_kind 38 = .ok (.goto 4, 3) := tX8_kind_ok (38, .goto 4, 3) (List.mem_of_getElem? (i := 23) rfl)
theorem dX8_kind_41 : decode cX8_kind 41 = .ok (.iconst 0, 1) := tX8_kind_ok (41, .iconst 0, 1) (List.mem_of_getElem? (i := 24) rfl)
theorem dX8_kind_42 : decode cX8_kind 42 = .ok (.istore 4, 2) := tX8_kind_ok (42, .istore 4, 2) (List.mem_of_getElem? (i := 25) rfl)
theorem dX8_kind_44 : decode cX8_kind 44 = .ok (.iload_n 2, 1) := tX8_kind_ok (44, .iload_n 2, 1) (List.mem_of_getElem? (i := 26) rfl)
theorem dX8_kind_45 : decode cX8_kind 45 = .ok (.iload_n 3, 1) := tX8_kind_ok (45, .iload_n 3, 1) (List.mem_of_getElem? (i := 27) rfl)
theorem dX8_kind_46 : decode cX8_kind 46 = .ok (.iload 4, 2) := tX8_kind_ok (46, .iload 4, 2) (List.mem_of_getElem? (i := 28) rfl)
theorem dX8_kind_48 : decode cX8_kind 48 = .ok (.invokestatic 66, 3) := tX8_kind_ok (48, .invokestatic 66, 3) (List.mem_of_getElem? (i := 29) rfl)
theorem dX8_kind_51 : decode cX8_kind 51 = .ok (.ifCond .ne 9, 3) := tX8_kind_ok (51, .ifCond .ne 9, 3) (List.mem_of_getElem? (i := 30) rfl)
theorem dX8_kind_54 : decode cX8_kind 54 = .ok (.aload_n 0, 1) := tX8_kind_ok (54, .aload_n 0, 1) (List.mem_of_getElem? (i := 31) rfl)
theorem dX8_kind_55 : decode cX8_kind 55 = .ok (.iconst 2, 1) := tX8_kind_ok (55, .iconst 2, 1) (List.mem_of_getElem? (i := 32) rfl)
theorem dX8_kind_56 : decode cX8_kind 56 = .ok (.invokevirtual 70, 3) := tX8_kind_ok (56, .invokevirtual 70, 3) (List.mem_of_getElem? (i := 33) rfl)
theorem dX8_kind_59 : decode cX8_kind 59 = .ok (.ireturn, 1) := tX8_kind_ok (59, .ireturn, 1) (List.mem_of_getElem? (i := 34) rfl)
theorem dX8_kind_60 : decode cX8_kind 60 = .ok (.aload_n 0, 1) := tX8_kind_ok (60, .aload_n 0, 1) (List.mem_of_getElem? (i := 35) rfl)
theorem dX8_kind_61 : decode cX8_kind 61 = .ok (.getfield 19, 3) := tX8_kind_ok (61, .getfield 19, 3) (List.mem_of_getElem? (i := 36) rfl)
theorem dX8_kind_64 : decode cX8_kind 64 = .ok (.iload_n 1, 1) := tX8_kind_ok (64, .iload_n 1, 1) (List.mem_of_getElem? (i := 37) rfl)
theorem dX8_kind_65 : decode cX8_kind 65 = .ok (.iload_n 2, 1) := tX8_kind_ok (65, .iload_n 2, 1) (List.mem_of_getElem? (i := 38) rfl)
theorem dX8_kind_66 : decode cX8_kind 66 = .ok (.invokevirtual 140, 3) := tX8_kind_ok (66, .invokevirtual 140, 3) (List.mem_of_getElem? (i := 39) rfl)
theorem dX8_kind_69 : decode cX8_kind 69 = .ok (.aload_n 0, 1) := tX8_kind_ok (69, .aload_n 0, 1) (List.mem_of_getElem? (i := 40) rfl)
theorem dX8_kind_70 : decode cX8_kind 70 = .ok (.invokevirtual 125, 3) := tX8_kind_ok (70, .invokevirtual 125, 3) (List.mem_of_getElem? (i := 41) rfl)
theorem dX8_kind_73 : decode cX8_kind 73 = .ok (.aload_n 0, 1) := tX8_kind_ok (73, .aload_n 0, 1) (List.mem_of_getElem? (i := 42) rfl)
theorem dX8_kind_74 : decode cX8_kind 74 = .ok (.invokevirtual 77, 3) := tX8_kind_ok (74, .invokevirtual 77, 3) (List.mem_of_getElem? (i := 43) rfl)
theorem dX8_kind_77 : decode cX8_kind 77 = .ok (.ireturn, 1) := tX8_kind_ok (77, .ireturn, 1) (List.mem_of_getElem? (i := 44) rfl)

def tX8_bar : List (Nat × Instr × Nat) := [
  (0, .iload_n 1, 1),
  (1, .iload_n 2, 1),
  (2, .invokestatic 144, 3),
  (5, .ifCond .ne 9, 3),
  (8, .aload_n 0, 1),
  (9, .iconst 2, 1),
  (10, .invokevirtual 70, 3),
  (13, .ireturn, 1),
  (14, .aload_n 0, 1),
  (15, .getfield 19, 3),
  (18, .iload_n 1, 1),
  (19, .iload_n 2, 1),
  (20, .iload_n 3, 1),
  (21, .invokevirtual 147, 3),
  (24, .aload_n 0, 1),
  (25, .invokevirtual 125, 3),
  (28, .aload_n 0, 1),
  (29, .invokevirtual 77, 3),
  (32, .ireturn, 1)]
set_option maxRecDepth 100000 in
theorem tX8_bar_ok : ∀ q ∈ tX8_bar, decode cX8_bar q.1 = .ok q.2 := by decide +kernel
theorem dX8_bar_0 : decode cX8_bar 0 = .ok (.iload_n 1, 1) := tX8_bar_ok (0, .iload_n 1, 1) (List.mem_of_getElem? (i := 0) rfl)
theorem dX8_bar_1 : decode cX8_bar 1 = .ok (.iload_n 2, 1) := tX8_bar_ok (1, .iload_n 2, 1) (List.mem_of_getElem? (i := 1) rfl)
theorem dX8_bar_2 : decode cX8_bar 2 = .ok (.invokestatic 144, 3) := tX8_bar_ok (2, .invokestatic 144, 3) (List.mem_of_getElem? (i := 2) rfl)
theorem dX8_bar_5 : decode cX8_bar 5 = .ok (.ifCond .ne 9, 3) := tX8_bar_ok (5, .ifCond .ne 9, 3) (List.mem_of_getElem? (i := 3) rfl)
theorem dX8_bar_8 : decode cX8_bar 8 = .ok (.aload_n 0, 1) := tX8_bar_ok (8, .aload_n 0, 1) (List.mem_of_getElem? (i := 4) rfl)
theorem dX8_bar_9 : decode cX8_bar 9 = .ok (.iconst 2, 1) := tX8_bar_ok (9, .iconst 2, 1) (List.mem_of_getElem? (i := 5) rfl)
theorem dX8_bar_10 : decode cX8_bar 10 = .ok (.invokevirtual 70, 3) := tX8_bar_ok (10, .invokevirtual 70, 3) (List.mem_of_getElem? (i := 6) rfl)
theorem dX8_bar_13 : decode cX8_bar 13 = .ok (.ireturn, 1) := tX8_bar_ok (13, .ireturn, 1) (List.mem_of_getElem? (i := 7) rfl)
theorem dX8_bar_14 : decode cX8_bar 14 = .ok (.aload_n 0, 1) := tX8_bar_ok (14, .aload_n 0, 1) (List.mem_of_getElem? (i := 8) rfl)
theorem dX8_bar_15 : decode cX8_bar 15 = .ok (.getfield 19, 3) := tX8_bar_ok (15, .getfield 19, 3) (List.mem_of_getElem? (i := 9) rfl)
theorem dX8_bar_18 : decode cX8_bar 18 = .ok (.iload_n 1, 1) := tX8_bar_ok (18, .iload_n 1, 1) (List.mem_of_getElem? (i := 10) rfl)
theorem dX8_bar_19 : decode cX8_bar 19 = .ok (.iload_n 2, 1) := tX8_bar_ok (19, .iload_n 2, 1) (List.mem_of_getElem? (i := 11) rfl)
theorem dX8_bar_20 : decode cX8_bar 20 = .ok (.iload_n 3, 1) := tX8_bar_ok (20, .iload_n 3, 1) (List.mem_of_getElem? (i := 12) rfl)
theorem dX8_bar_21 : decode cX8_bar 21 = .ok (.invokevirtual 147, 3) := tX8_bar_ok (21, .invokevirtual 147, 3) (List.mem_of_getElem? (i := 13) rfl)
theorem dX8_bar_24 : decode cX8_bar 24 = .ok (.aload_n 0, 1) := tX8_bar_ok (24, .aload_n 0, 1) (List.mem_of_getElem? (i := 14) rfl)
theorem dX8_bar_25 : decode cX8_bar 25 = .ok (.invokevirtual 125, 3) := tX8_bar_ok (25, .invokevirtual 125, 3) (List.mem_of_getElem? (i := 15) rfl)
theorem dX8_bar_28 : decode cX8_bar 28 = .ok (.aload_n 0, 1) := tX8_bar_ok (28, .aload_n 0, 1) (List.mem_of_getElem? (i := 16) rfl)
theorem dX8_bar_29 : decode cX8_bar 29 = .ok (.invokevirtual 77, 3) := tX8_bar_ok (29, .invokevirtual 77, 3) (List.mem_of_getElem? (i := 17) rfl)
theorem dX8_bar_32 : decode cX8_bar 32 = .ok (.ireturn, 1) := tX8_bar_ok (32, .ireturn, 1) (List.mem_of_getElem? (i := 18) rfl)

def tX8_wall : List (Nat × Instr × Nat) := [
  (0, .aload_n 0, 1),
  (1, .iload_n 1, 1),
  (2, .invokevirtual 111, 3),
  (5, .istore_n 3, 1),
  (6, .iload_n 3, 1),
  (7, .ifCond .eq 9, 3),
  (10, .aload_n 0, 1),
  (11, .iload_n 3, 1),
  (12, .invokevirtual 88, 3),
  (15, .ireturn, 1),
  (16, .iload_n 2, 1),
  (17, .ifCond .ge 9, 3),
  (20, .aload_n 0, 1),
  (21, .iconst 2, 1),
  (22, .invokevirtual 88, 3),
  (25, .ireturn, 1),
  (26, .iload_n 2, 1),
  (27, .bipush 64, 2),
  (29, .if_icmp .gt 18, 3),
  (32, .aload_n 0, 1),
  (33, .getfield 12, 3),
  (36, .iload_n 1, 1),
  (37, .iconst 0, 1),
  (38, .iconst 2, 1),
  (39, .iload_n 2, 1),
  (40, .imul, 1),
  (41, .invokevirtual 104, 3),
  (44, .ifCond .ne 9, 3),
  (47, .aload_n 0, 1),
  (48, .iconst 4, 1),
  (49, .invokevirtual 88, 3),
  (52, .ireturn, 1),
  (53, .iconst 0, 1),
  (54, .istore 4, 2),
  (56, .iload 4, 2),
  (58, .iload_n 2, 1),
  (59, .if_icmp .ge 47, 3),
  (62, .aload_n 0, 1),
  (63, .getfield 12, 3),
  (66, .iload_n 1, 1),
  (67, .iconst 2, 1),
  (68, .iload 4, 2),
  (70, .imul, 1),
  (71, .invokevirtual 92, 3),
  (74, .aload_n 0, 1),
  (75, .getfield 12, 3),
  (78, .iload_n 1, 1),
  (79, .iconst 2, 1),
  (80, .iload 4, 2),
  (82, .imul, 1),
  (83, .iconst 1, 1),
  (84, .iadd, 1),
  (85, .invokevirtual 92, 3),
  (88, .invokestatic 144, 3),
  (91, .ifCond .ne 9, 3),
  (94, .aload_n 0, 1),
  (95, .iconst 2, 1),
  (96, .invokevirtual 88, 3),
  (99, .ireturn, 1),
  (100, .iinc 4 1, 3),
  (103, .goto (-47), 3),
  (106, .aload_n 0, 1),
  (107, .getfield 19, 3),
  (110, .getfield 151, 3),
  (113, .istore 4, 2),
  (115, .iconst 0, 1),
  (116, .istore 5, 2),
  (118, .iload 5, 2),
  (120, .iload_n 2, 1),
  (121, .if_icmp .ge 43, 3),
  (124, .aload_n 0, 1),
  (125, .getfield 19, 3),
  (128, .aload_n 0, 1),
  (129, .getfield 12, 3),
  (132, .iload_n 1, 1),
  (133, .iconst 2, 1),
  (134, .iload 5, 2),
  (136, .imul, 1),
  (137, .invokevirtual 92, 3),
  (140, .aload_n 0, 1),
  (141, .getfield 12, 3),
  (144, .iload_n 1, 1),
  (145, .iconst 2, 1),
  (146, .iload 5, 2),
  (148, .imul, 1),
  (149, .iconst 1, 1),
  (150, .iadd, 1),
  (151, .invokevirtual 92, 3),
  (154, .iconst 1, 1),
  (155, .invokevirtual 147, 3),
  (158, .iinc 5 1, 3),
  (161, .goto (-43), 3),
  (164, .aload_n 0, 1),
  (165, .invokevirtual 125, 3),
  (168, .aload_n 0, 1),
  (169, .aload_n 0, 1),
  (170, .getfield 19, 3),
  (173, .getfield 151, 3),
  (176, .iload 4, 2),
  (178, .isub, 1),
  (179, .invokevirtual 95, 3),
  (182, .ireturn, 1)]
set_option maxRecDepth 100000 in
theorem tX8_wall_ok : ∀ q ∈ tX8_wall, decode cX8_wall q.1 = .ok q.2 := by decide +kernel
theorem dX8_wall_0 : decode cX8_wall 0 = .ok (.aload_n 0, 1) := tX8_wall_ok (0, .aload_n 0, 1) (List.mem_of_getElem? (i := 0) rfl)
theorem dX8_wall_1 : decode cX8_wall 1 = .ok (.iload_n 1, 1) := tX8_wall_ok (1, .iload_n 1, 1) (List.mem_of_getElem? (i := 1) rfl)
theorem dX8_wall_2 : decode cX8_wall 2 = .ok (.invokevirtual 111, 3) := tX8_wall_ok (2, .invokevirtual 111, 3) (List.mem_of_getElem? (i := 2) rfl)
theorem dX8_wall_5 : decode cX8_wall 5 = .ok (.istore_n 3, 1) := tX8_wall_ok (5, .istore_n 3, 1) (List.mem_of_getElem? (i := 3) rfl)
theorem dX8_wall_6 : decode cX8_wall 6 = .ok (.iload_n 3, 1) := tX8_wall_ok (6, .iload_n 3, 1) (List.mem_of_getElem? (i := 4) rfl)
theorem dX8_wall_7 : decode cX8_wall 7 = .ok (.ifCond .eq 9, 3) := tX8_wall_ok (7, .ifCond .eq 9, 3) (List.mem_of_getElem? (i := 5) rfl)
theorem dX8_wall_10 : decode cX8_wall 10 = .ok (.aload_n 0, 1) := tX8_wall_ok (10, .aload_n 0, 1) (List.mem_of_getElem? (i := 6) rfl)
theorem dX8_wall_11 : decode cX8_wall 11 = .ok (.iload_n 3, 1) := tX8_wall_ok (11, .iload_n 3, 1) (List.mem_of_getElem? (i := 7) rfl)
theorem dX8_wall_12 : decode cX8_wall 12 = .ok (.invokevirtual 88, 3) := tX8_wall_ok (12, .invokevirtual 88, 3) (List.mem_of_getElem? (i := 8) rfl)
theorem dX8_wall_15 : decode cX8_wall 15 = .ok (.ireturn, 1) := tX8_wall_ok (15, .ireturn, 1) (List.mem_of_getElem? (i := 9) rfl)
theorem dX8_wall_16 : decode cX8_wall 16 = .ok (.iload_n 2, 1) := tX8_wall_ok (16, .iload_n 2, 1) (List.mem_of_getElem? (i := 10) rfl)
theorem dX8_wall_17 : decode cX8_wall 17 = .ok (.ifCond .ge 9, 3) := tX8_wall_ok (17, .ifCond .ge 9, 3) (List.mem_of_getElem? (i := 11) rfl)
theorem dX8_wall_20 : decode cX8_wall 20 = .ok (.aload_n 0, 1) := tX8_wall_ok (20, .aload_n 0, 1) (List.mem_of_getElem? (i := 12) rfl)
theorem dX8_wall_21 : decode cX8_wall 21 = .ok (.iconst 2, 1) := tX8_wall_ok (21, .iconst 2, 1) (List.mem_of_getElem? (i := 13) rfl)
theorem dX8_wall_22 : decode cX8_wall 22 = .ok (.invokevirtual 88, 3) := tX8_wall_ok (22, .invokevirtual 88, 3) (List.mem_of_getElem? (i := 14) rfl)
theorem dX8_wall_25 : decode cX8_wall 25 = .ok (.ireturn, 1) := tX8_wall_ok (25, .ireturn, 1) (List.mem_of_getElem? (i := 15) rfl)
theorem dX8_wall_26 : decode cX8_wall 26 = .ok (.iload_n 2, 1) := tX8_wall_ok (26, .iload_n 2, 1) (List.mem_of_getElem? (i := 16) rfl)
theorem dX8_wall_27 : decode cX8_wall 27 = .ok (.bipush 64, 2) := tX8_wall_ok (27, .bipush 64, 2) (List.mem_of_getElem? (i := 17) rfl)
theorem dX8_wall_29 : decode cX8_wall 29 = .ok (.if_icmp .gt 18, 3) := tX8_wall_ok (29, .if_icmp .gt 18, 3) (List.mem_of_getElem? (i := 18) rfl)
theorem dX8_wall_32 : decode cX8_wall 32 = .ok (.aload_n 0, 1) := tX8_wall_ok (32, .aload_n 0, 1) (List.mem_of_getElem? (i := 19) rfl)
theorem dX8_wall_33 : decode cX8_wall 33 = .ok (.getfield 12, 3) := tX8_wall_ok (33, .getfield 12, 3) (List.mem_of_getElem? (i := 20) rfl)
theorem dX8_wall_36 : decode cX8_wall 36 = .ok (.iload_n 1, 1) := tX8_wall_ok (36, .iload_n 1, 1) (List.mem_of_getElem? (i := 21) rfl)
theorem dX8_wall_37 : decode cX8_wall 37 = .ok (.iconst 0, 1) := tX8_wall_ok (37, .iconst 0, 1) (List.mem_of_getElem? (i := 22) rfl)
theorem dX8_wall_38 : decode cX8_wall 38 = .ok (.iconst 2, 1) := tX8_wall_ok (38, .iconst 2, 1) (List.mem_of_getElem? (i := 23) rfl)
theorem dX8_wall_39 : decode cX8_wall 39 = .ok (.iload_n 2, 1) := tX8_wall_ok (39, .iload_n 2, 1) (List.mem_of_getElem? (i := 24) rfl)
theorem dX8_wall_40 : decode cX8_wall 40 = .ok (.imul, 1) := tX8_wall_ok (40, .imul, 1) (List.mem_of_getElem? (i := 25) rfl)
theorem dX8_wall_41 : decode cX8_wall 41 = .ok (.invokevirtual 104, 3) := tX8_wall_ok (41, .invokevirtual 104, 3) (List.mem_of_getElem? (i := 26) rfl)
theorem dX8_wall_44 : decode cX8_wall 44 = .ok (.ifCond .ne 9, 3) := tX8_wall_ok (44, .ifCond .ne 9, 3) (List.mem_of_getElem? (i := 27) rfl)
theorem dX8_wall_47 : decode cX8_wall 47 = .ok (.aload_n 0, 1) := tX8_wall_ok (47, .aload_n 0, 1) (List.mem_of_getElem? (i := 28) rfl)
theorem dX8_wall_48 : decode cX8_wall 48 = .ok (.iconst 4, 1) := tX8_wall_ok (48, .iconst 4, 1) (List.mem_of_getElem? (i := 29) rfl)
theorem dX8_wall_49 : decode cX8_wall 49 = .ok (.invokevirtual 88, 3) := tX8_wall_ok (49, .invokevirtual 88, 3) (List.mem_of_getElem? (i := 30) rfl)
theorem dX8_wall_52 : decode cX8_wall 52 = .ok (.ireturn, 1) := tX8_wall_ok (52, .ireturn, 1) (List.mem_of_getElem? (i := 31) rfl)
theorem dX8_wall_53 : decode cX8_wall 53 = .ok (.iconst 0, 1) := tX8_wall_ok (53, .iconst 0, 1) (List.mem_of_getElem? (i := 32) rfl)
theorem dX8_wall_54 : decode cX8_wall 54 = .ok (.istore 4, 2) := tX8_wall_ok (54, .istore 4, 2) (List.mem_of_getElem? (i := 33) rfl)
theorem dX8_wall_56 : decode cX8_wall 56 = .ok (.iload 4, 2) := tX8_wall_ok (56, .iload 4, 2) (List.mem_of_getElem? (i := 34) rfl)
theorem dX8_wall_58 : decode cX8_wall 58 = .ok (.iload_n 2, 1) := tX8_wall_ok (58, .iload_n 2, 1) (List.mem_of_getElem? (i := 35) rfl)
theorem dX8_wall_59 : decode cX8_wall 59 = .ok (.if_icmp .ge 47, 3) := tX8_wall_ok (59, .if_icmp .ge 47, 3) (List.mem_of_getElem? (i := 36) rfl)
theorem dX8_wall_62 : decode cX8_wall 62 = .ok (.aload_n 0, 1) := tX8_wall_ok (62, .aload_n 0, 1) (List.mem_of_getElem? (i := 37) rfl)
theorem dX8_wall_63 : decode cX8_wall 63 = .ok (.getfield 12, 3) := tX8_wall_ok (63, .getfield 12, 3) (List.mem_of_getElem? (i := 38) rfl)
theorem dX8_wall_66 : decode cX8_wall 66 = .ok (.iload_n 1, 1) := tX8_wall_ok (66, .iload_n 1, 1) (List.mem_of_getElem? (i := 39) rfl)
theorem dX8_wall_67 : decode cX8_wall 67 = .ok (.iconst 2, 1) := tX8_wall_ok (67, .iconst 2, 1) (List.mem_of_getElem? (i := 40) rfl)
theorem dX8_wall_68 : decode cX8_wall 68 = .ok (.iload 4, 2) := tX8_wall_ok (68, .iload 4, 2) (List.mem_of_getElem? (i := 41) rfl)
theorem dX8_wall_70 : decode cX8_wall 70 = .ok (.imul, 1) := tX8_wall_ok (70, .imul, 1) (List.mem_of_getElem? (i := 42) rfl)
theorem dX8_wall_71 : decode cX8_wall 71 = .ok (.invokevirtual 92, 3) := tX8_wall_ok (71, .invokevirtual 92, 3) (List.mem_of_getElem? (i := 43) rfl)
theorem dX8_wall_74 : decode cX8_wall 74 = .ok (.aload_n 0, 1) := tX8_wall_ok (74, .aload_n 0, 1) (List.mem_of_getElem? (i := 44) rfl)
theorem dX8_wall_75 : decode cX8_wall 75 = .ok (.getfield 12, 3) := tX8_wall_ok (75, .getfield 12, 3) (List.mem_of_getElem? (i := 45) rfl)
theorem dX8_wall_78 : decode cX8_wall 78 = .ok (.iload_n 1, 1) := tX8_wall_ok (78, .iload_n 1, 1) (List.mem_of_getElem? (i := 46) rfl)
theorem dX8_wall_79 : decode cX8_wall 79 = .ok (.iconst 2, 1) := tX8_wall_ok (79, .iconst 2, 1) (List.mem_of_getElem? (i := 47) rfl)
theorem dX8_wall_80 : decode cX8_wall 80 = .ok (.iload 4, 2) := tX8_wall_ok (80, .iload 4, 2) (List.mem_of_getElem? (i := 48) rfl)
theorem dX8_wall_82 : decode cX8_wall 82 = .ok (.imul, 1) := tX8_wall_ok (82, .imul, 1) (List.mem_of_getElem? (i := 49) rfl)
theorem dX8_wall_83 : decode cX8_wall 83 = .ok (.iconst 1, 1) := tX8_wall_ok (83, .iconst 1, 1) (List.mem_of_getElem? (i := 50) rfl)
theorem dX8_wall_84 : decode cX8_wall 84 = .ok (.iadd, 1) := tX8_wall_ok (84, .iadd, 1) (List.mem_of_getElem? (i := 51) rfl)
theorem dX8_wall_85 : decode cX8_wall 85 = .ok (.invokevirtual 92, 3) := tX8_wall_ok (85, .invokevirtual 92, 3) (List.mem_of_getElem? (i := 52) rfl)
theorem dX8_wall_88 : decode cX8_wall 88 = .ok (.invokestatic 144, 3) := tX8_wall_ok (88, .invokestatic 144, 3) (List.mem_of_getElem? (i := 53) rfl)
theorem dX8_wall_91 : decode cX8_wall 91 = .ok (.ifCond .ne 9, 3) := tX8_wall_ok (91, .ifCond .ne 9, 3) (List.mem_of_getElem? (i := 54) rfl)
theorem dX8_wall_94 : decode cX8_wall 94 = .ok (.aload_n 0, 1) := tX8_wall_ok (94, .aload_n 0, 1) (List.mem_of_getElem? (i := 55) rfl)
theorem dX8_wall_95 : decode cX8_wall 95 = .ok (.iconst 2, 1) := tX8_wall_ok (95, .iconst 2, 1) (List.mem_of_getElem? (i := 56) rfl)
theorem dX8_wall_96 : decode cX8_wall 96 = .ok (.invokevirtual 88, 3) := tX8_wall_ok (96, .invokevirtual 88, 3) (List.mem_of_getElem? (i := 57) rfl)
theorem dX8_wall_99 : decode cX8_wall 99 = .ok (.ireturn, 1) := tX8_wall_ok (99, .ireturn, 1) (List.mem_of_getElem? (i := 58) rfl)
theorem dX8_wall_100 : decode cX8_wall 100 = .ok (.iinc 4 1, 3) := tX8_wall_ok (100, .iinc 4 1, 3) (List.mem_of_getElem? (i := 59) rfl)
theorem dX8_wall_103 : decode cX8_wall 103 = .ok (.goto (-47), 3) := tX8_wall_ok (103, .goto (-47), 3) (List.mem_of_getElem? (i := 60) rfl)
theorem dX8_wall_106 : decode cX8_wall 106 = .ok (.aload_n 0, 1) := tX8_wall_ok (106, .aload_n 0, 1) (List.mem_of_getElem? (i := 61) rfl)
theorem dX8_wall_107 : decode cX8_wall 107 = .ok (.getfield 19, 3) := tX8_wall_ok (107, .getfield 19, 3) (List.mem_of_getElem? (i := 62) rfl)
theorem dX8_wall_110 : decode cX8_wall 110 = .ok (.getfield 151, 3) := tX8_wall_ok (110, .getfield 151, 3) (List.mem_of_getElem? (i := 63) rfl)
theorem dX8_wall_113 : decode cX8_wall 113 = .ok (.istore 4, 2) := tX8_wall_ok (113, .istore 4, 2) (List.mem_of_getElem? (i := 64) rfl)
theorem dX8_wall_115 : decode cX8_wall 115 = .ok (.iconst 0, 1) := tX8_wall_ok (115, .iconst 0, 1) (List.mem_of_getElem? (i := 65) rfl)
theorem dX8_wall_116 : decode cX8_wall 116 = .ok (.istore 5, 2) := tX8_wall_ok (116, .istore 5, 2) (List.mem_of_getElem? (i := 66) rfl)
theorem dX8_wall_118 : decode cX8_wall 118 = .ok (.iload 5, 2) := tX8_wall_ok (118, .iload 5, 2) (List.mem_of_getElem? (i := 67) rfl)
theorem dX8_wall_120 : decode cX8_wall 120 = .ok (.iload_n 2, 1) := tX8_wall_ok (120, .iload_n 2, 1) (List.mem_of_getElem? (i := 68) rfl)
theorem dX8_wall_121 : decode cX8_wall 121 = .ok (.if_icmp .ge 43, 3) := tX8_wall_ok (121, .if_icmp .ge 43, 3) (List.mem_of_getElem? (i := 69) rfl)
theorem dX8_wall_124 : decode cX8_wall 124 = .ok (.aload_n 0, 1) := tX8_wall_ok (124, .aload_n 0, 1) (List.mem_of_getElem? (i := 70) rfl)
theorem dX8_wall_125 : decode cX8_wall 125 = .ok (.getfield 19, 3) := tX8_wall_ok (125, .getfield 19, 3) (List.mem_of_getElem? (i := 71) rfl)
theorem dX8_wall_128 : decode cX8_wall 128 = .ok (.aload_n 0, 1) := tX8_wall_ok (128, .aload_n 0, 1) (List.mem_of_getElem? (i := 72) rfl)
theorem dX8_wall_129 : decode cX8_wall 129 = .ok (.getfield 12, 3) := tX8_wall_ok (129, .getfield 12, 3) (List.mem_of_getElem? (i := 73) rfl)
theorem dX8_wall_132 : decode cX8_wall 132 = .ok (.iload_n 1, 1) := tX8_wall_ok (132, .iload_n 1, 1) (List.mem_of_getElem? (i := 74) rfl)
theorem dX8_wall_133 : decode cX8_wall 133 = .ok (.iconst 2, 1) := tX8_wall_ok (133, .iconst 2, 1) (List.mem_of_getElem? (i := 75) rfl)
theorem dX8_wall_134 : decode cX8_wall 134 = .ok (.iload 5, 2) := tX8_wall_ok (134, .iload 5, 2) (List.mem_of_getElem? (i := 76) rfl)
theorem dX8_wall_136 : decode cX8_wall 136 = .ok (.imul, 1) := tX8_wall_ok (136, .imul, 1) (List.mem_of_getElem? (i := 77) rfl)
theorem dX8_wall_137 : decode cX8_wall 137 = .ok (.invokevirtual 92, 3) := tX8_wall_ok (137, .invokevirtual 92, 3) (List.mem_of_getElem? (i := 78) rfl)
theorem dX8_wall_140 : decode cX8_wall 140 = .ok (.aload_n 0, 1) := tX8_wall_ok (140, .aload_n 0, 1) (List.mem_of_getElem? (i := 79) rfl)
theorem dX8_wall_141 : decode cX8_wall 141 = .ok (.getfield 12, 3) := tX8_wall_ok (141, .getfield 12, 3) (List.mem_of_getElem? (i := 80) rfl)
theorem dX8_wall_144 : decode cX8_wall 144 = .ok (.iload_n 1, 1) := tX8_wall_ok (144, .iload_n 1, 1) (List.mem_of_getElem? (i := 81) rfl)
theorem dX8_wall_145 : decode cX8_wall 145 = .ok (.iconst 2, 1) := tX8_wall_ok (145, .iconst 2, 1) (List.mem_of_getElem? (i := 82) rfl)
theorem dX8_wall_146 : decode cX8_wall 146 = .ok (.iload 5, 2) := tX8_wall_ok (146, .iload 5, 2) (List.mem_of_getElem? (i := 83) rfl)
theorem dX8_wall_148 : decode cX8_wall 148 = .ok (.imul, 1) := tX8_wall_ok (148, .imul, 1) (List.mem_of_getElem? (i := 84) rfl)
theorem dX8_wall_149 : decode cX8_wall 149 = .ok (.iconst 1, 1) := tX8_wall_ok (149, .iconst 1, 1) (List.mem_of_getElem? (i := 85) rfl)
theorem dX8_wall_150 : decode cX8_wall 150 = .ok (.iadd, 1) := tX8_wall_ok (150, .iadd, 1) (List.mem_of_getElem? (i := 86) rfl)
theorem dX8_wall_151 : decode cX8_wall 151 = .ok (.invokevirtual 92, 3) := tX8_wall_ok (151, .invokevirtual 92, 3) (List.mem_of_getElem? (i := 87) rfl)
theorem dX8_wall_154 : decode cX8_wall 154 = .ok (.iconst 1, 1) := tX8_wall_ok (154, .iconst 1, 1) (List.mem_of_getElem? (i := 88) rfl)
theorem dX8_wall_155 : decode cX8_wall 155 = .ok (.invokevirtual 147, 3) := tX8_wall_ok (155, .invokevirtual 147, 3) (List.mem_of_getElem? (i := 89) rfl)
theorem dX8_wall_158 : decode cX8_wall 158 = .ok (.iinc 5 1, 3) := tX8_wall_ok (158, .iinc 5 1, 3) (List.mem_of_getElem? (i := 90) rfl)
theorem dX8_wall_161 : decode cX8_wall 161 = .ok (.goto (-43), 3) := tX8_wall_ok (161, .goto (-43), 3) (List.mem_of_getElem? (i := 91) rfl)
theorem dX8_wall_164 : decode cX8_wall 164 = .ok (.aload_n 0, 1) := tX8_wall_ok (164, .aload_n 0, 1) (List.mem_of_getElem? (i := 92) rfl)
theorem dX8_wall_165 : decode cX8_wall 165 = .ok (.invokevirtual 125, 3) := tX8_wall_ok (165, .invokevirtual 125, 3) (List.mem_of_getElem? (i := 93) rfl)
theorem dX8_wall_168 : decode cX8_wall 168 = .ok (.aload_n 0, 1) := tX8_wall_ok (168, .aload_n 0, 1) (List.mem_of_getElem? (i := 94) rfl)
theorem dX8_wall_169 : decode cX8_wall 169 = .ok (.aload_n 0, 1) := tX8_wall_ok (169, .aload_n 0, 1) (List.mem_of_getElem? (i := 95) rfl)
theorem dX8_wall_170 : decode cX8_wall 170 = .ok (.getfield 19, 3) := tX8_wall_ok (170, .getfield 19, 3) (List.mem_of_getElem? (i := 96) rfl)
theorem dX8_wall_173 : decode cX8_wall 173 = .ok (.getfield 151, 3) := tX8_wall_ok (173, .getfield 151, 3) (List.mem_of_getElem? (i := 97) rfl)
theorem dX8_wall_176 : decode cX8_wall 176 = .ok (.iload 4, 2) := tX8_wall_ok (176, .iload 4, 2) (List.mem_of_getElem? (i := 98) rfl)
theorem dX8_wall_178 : decode cX8_wall 178 = .ok (.isub, 1) := tX8_wall_ok (178, .isub, 1) (List.mem_of_getElem? (i := 99) rfl)
theorem dX8_wall_179 : decode cX8_wall 179 = .ok (.invokevirtual 95, 3) := tX8_wall_ok (179, .invokevirtual 95, 3) (List.mem_of_getElem? (i := 100) rfl)
theorem dX8_wall_182 : decode cX8_wall 182 = .ok (.ireturn, 1) := tX8_wall_ok (182, .ireturn, 1) (List.mem_of_getElem? (i := 101) rfl)

def tX8_from : List (Nat × Instr × Nat) := [
  (0, .iload_n 1, 1),
  (1, .iload_n 2, 1),
  (2, .invokestatic 144, 3),
  (5, .ifCond .ne 9, 3),
  (8, .aload_n 0, 1),
  (9, .iconst 2, 1),
  (10, .invokevirtual 70, 3),
  (13, .ireturn, 1),
  (14, .aload_n 0, 1),
  (15, .getfield 19, 3),
  (18, .iload_n 1, 1),
  (19, .putfield 154, 3),
  (22, .aload_n 0, 1),
  (23, .getfield 19, 3),
  (26, .iload_n 2, 1),
  (27, .putfield 157, 3),
  (30, .aload_n 0, 1),
  (31, .invokevirtual 77, 3),
  (34, .ireturn, 1)]
set_option maxRecDepth 100000 in
theorem tX8_from_ok : ∀ q ∈ tX8_from, decode cX8_from q.1 = .ok q.2 := by decide +kernel
theorem dX8_from_0 : decode cX8_from 0 = .ok (.iload_n 1, 1) := tX8_from_ok (0, .iload_n 1, 1) (List.mem_of_getElem? (i := 0) rfl)
theorem dX8_from_1 : decode cX8_from 1 = .ok (.iload_n 2, 1) := tX8_from_ok (1, .iload_n 2, 1) (List.mem_of_getElem? (i := 1) rfl)
theorem dX8_from_2 : decode cX8_from 2 = .ok (.invokestatic 144, 3) := tX8_from_ok (2, .invokestatic 144, 3) (List.mem_of_getElem? (i := 2) rfl)
theorem dX8_from_5 : decode cX8_from 5 = .ok (.ifCond .ne 9, 3) := tX8_from_ok (5, .ifCond .ne 9, 3) (List.mem_of_getElem? (i := 3) rfl)
theorem dX8_from_8 : decode cX8_from 8 = .ok (.aload_n 0, 1) := tX8_from_ok (8, .aload_n 0, 1) (List.mem_of_getElem? (i := 4) rfl)
theorem dX8_from_9 : decode cX8_from 9 = .ok (.iconst 2, 1) := tX8_from_ok (9, .iconst 2, 1) (List.mem_of_getElem? (i := 5) rfl)
theorem dX8_from_10 : decode cX8_from 10 = .ok (.invokevirtual 70, 3) := tX8_from_ok (10, .invokevirtual 70, 3) (List.mem_of_getElem? (i := 6) rfl)
theorem dX8_from_13 : decode cX8_from 13 = .ok (.ireturn, 1) := tX8_from_ok (13, .ireturn, 1) (List.mem_of_getElem? (i := 7) rfl)
theorem dX8_from_14 : decode cX8_from 14 = .ok (.aload_n 0, 1) := tX8_from_ok (14, .aload_n 0, 1) (List.mem_of_getElem? (i := 8) rfl)
theorem dX8_from_15 : decode cX8_from 15 = .ok (.getfield 19, 3) := tX8_from_ok (15, .getfield 19, 3) (List.mem_of_getElem? (i := 9) rfl)
theorem dX8_from_18 : decode cX8_from 18 = .ok (.iload_n 1, 1) := tX8_from_ok (18, .iload_n 1, 1) (List.mem_of_getElem? (i := 10) rfl)
theorem dX8_from_19 : decode cX8_from 19 = .ok (.putfield 154, 3) := tX8_from_ok (19, .putfield 154, 3) (List.mem_of_getElem? (i := 11) rfl)
theorem dX8_from_22 : decode cX8_from 22 = .ok (.aload_n 0, 1) := tX8_from_ok (22, .aload_n 0, 1) (List.mem_of_getElem? (i := 12) rfl)
theorem dX8_from_23 : decode cX8_from 23 = .ok (.getfield 19, 3) := tX8_from_ok (23, .getfield 19, 3) (List.mem_of_getElem? (i := 13) rfl)
theorem dX8_from_26 : decode cX8_from 26 = .ok (.iload_n 2, 1) := tX8_from_ok (26, .iload_n 2, 1) (List.mem_of_getElem? (i := 14) rfl)
theorem dX8_from_27 : decode cX8_from 27 = .ok (.putfield 157, 3) := tX8_from_ok (27, .putfield 157, 3) (List.mem_of_getElem? (i := 15) rfl)
theorem dX8_from_30 : decode cX8_from 30 = .ok (.aload_n 0, 1) := tX8_from_ok (30, .aload_n 0, 1) (List.mem_of_getElem? (i := 16) rfl)
theorem dX8_from_31 : decode cX8_from 31 = .ok (.invokevirtual 77, 3) := tX8_from_ok (31, .invokevirtual 77, 3) (List.mem_of_getElem? (i := 17) rfl)
theorem dX8_from_34 : decode cX8_from 34 = .ok (.ireturn, 1) := tX8_from_ok (34, .ireturn, 1) (List.mem_of_getElem? (i := 18) rfl)

def tX8_to : List (Nat × Instr × Nat) := [
  (0, .iload_n 1, 1),
  (1, .iload_n 2, 1),
  (2, .invokestatic 144, 3),
  (5, .ifCond .ne 9, 3),
  (8, .aload_n 0, 1),
  (9, .iconst 2, 1),
  (10, .invokevirtual 70, 3),
  (13, .ireturn, 1),
  (14, .aload_n 0, 1),
  (15, .getfield 19, 3),
  (18, .iload_n 1, 1),
  (19, .putfield 160, 3),
  (22, .aload_n 0, 1),
  (23, .getfield 19, 3),
  (26, .iload_n 2, 1),
  (27, .putfield 163, 3),
  (30, .aload_n 0, 1),
  (31, .invokevirtual 125, 3),
  (34, .aload_n 0, 1),
  (35, .invokevirtual 77, 3),
  (38, .ireturn, 1)]
set_option maxRecDepth 100000 in
theorem tX8_to_ok : ∀ q ∈ tX8_to, decode cX8_to q.1 = .ok q.2 := by decide +kernel
theorem dX8_to_0 : decode cX8_to 0 = .ok (.iload_n 1, 1) := tX8_to_ok (0, .iload_n 1, 1) (List.mem_of_getElem? (i := 0) rfl)
theorem dX8_to_1 : decode cX8_to 1 = .ok (.iload_n 2, 1) := tX8_to_ok (1, .iload_n 2, 1) (List.mem_of_getElem? (i := 1) rfl)
theorem dX8_to_2 : decode cX8_to 2 = .ok (.invokestatic 144, 3) := tX8_to_ok (2, .invokestatic 144, 3) (List.mem_of_getElem? (i := 2) rfl)
theorem dX8_to_5 : decode cX8_to 5 = .ok (.ifCond .ne 9, 3) := tX8_to_ok (5, .ifCond .ne 9, 3) (List.mem_of_getElem? (i := 3) rfl)
theorem dX8_to_8 : decode cX8_to 8 = .ok (.aload_n 0, 1) := tX8_to_ok (8, .aload_n 0, 1) (List.mem_of_getElem? (i := 4) rfl)
theorem dX8_to_9 : decode cX8_to 9 = .ok (.iconst 2, 1) := tX8_to_ok (9, .iconst 2, 1) (List.mem_of_getElem? (i := 5) rfl)
theorem dX8_to_10 : decode cX8_to 10 = .ok (.invokevirtual 70, 3) := tX8_to_ok (10, .invokevirtual 70, 3) (List.mem_of_getElem? (i := 6) rfl)
theorem dX8_to_13 : decode cX8_to 13 = .ok (.ireturn, 1) := tX8_to_ok (13, .ireturn, 1) (List.mem_of_getElem? (i := 7) rfl)
theorem dX8_to_14 : decode cX8_to 14 = .ok (.aload_n 0, 1) := tX8_to_ok (14, .aload_n 0, 1) (List.mem_of_getElem? (i := 8) rfl)
theorem dX8_to_15 : decode cX8_to 15 = .ok (.getfield 19, 3) := tX8_to_ok (15, .getfield 19, 3) (List.mem_of_getElem? (i := 9) rfl)
theorem dX8_to_18 : decode cX8_to 18 = .ok (.iload_n 1, 1) := tX8_to_ok (18, .iload_n 1, 1) (List.mem_of_getElem? (i := 10) rfl)
theorem dX8_to_19 : decode cX8_to 19 = .ok (.putfield 160, 3) := tX8_to_ok (19, .putfield 160, 3) (List.mem_of_getElem? (i := 11) rfl)
theorem dX8_to_22 : decode cX8_to 22 = .ok (.aload_n 0, 1) := tX8_to_ok (22, .aload_n 0, 1) (List.mem_of_getElem? (i := 12) rfl)
theorem dX8_to_23 : decode cX8_to 23 = .ok (.getfield 19, 3) := tX8_to_ok (23, .getfield 19, 3) (List.mem_of_getElem? (i := 13) rfl)
theorem dX8_to_26 : decode cX8_to 26 = .ok (.iload_n 2, 1) := tX8_to_ok (26, .iload_n 2, 1) (List.mem_of_getElem? (i := 14) rfl)
theorem dX8_to_27 : decode cX8_to 27 = .ok (.putfield 163, 3) := tX8_to_ok (27, .putfield 163, 3) (List.mem_of_getElem? (i := 15) rfl)
theorem dX8_to_30 : decode cX8_to 30 = .ok (.aload_n 0, 1) := tX8_to_ok (30, .aload_n 0, 1) (List.mem_of_getElem? (i := 16) rfl)
theorem dX8_to_31 : decode cX8_to 31 = .ok (.invokevirtual 125, 3) := tX8_to_ok (31, .invokevirtual 125, 3) (List.mem_of_getElem? (i := 17) rfl)
theorem dX8_to_34 : decode cX8_to 34 = .ok (.aload_n 0, 1) := tX8_to_ok (34, .aload_n 0, 1) (List.mem_of_getElem? (i := 18) rfl)
theorem dX8_to_35 : decode cX8_to 35 = .ok (.invokevirtual 77, 3) := tX8_to_ok (35, .invokevirtual 77, 3) (List.mem_of_getElem? (i := 19) rfl)
theorem dX8_to_38 : decode cX8_to 38 = .ok (.ireturn, 1) := tX8_to_ok (38, .ireturn, 1) (List.mem_of_getElem? (i := 20) rfl)

def tX8_open : List (Nat × Instr × Nat) := [
  (0, .iload_n 1, 1),
  (1, .iload_n 2, 1),
  (2, .invokestatic 144, 3),
  (5, .ifCond .ne 9, 3),
  (8, .aload_n 0, 1),
  (9, .iconst 2, 1),
  (10, .invokevirtual 88, 3),
  (13, .ireturn, 1),
  (14, .aload_n 0, 1),
  (15, .aload_n 0, 1),
  (16, .getfield 19, 3),
  (19, .iload_n 1, 1),
  (20, .iload_n 2, 1),
  (21, .invokevirtual 166, 3),
  (24, .ifCond .eq 7, 3),
  (27, .iconst 1, 1),
  (28, .goto 4, 3),
  (31, .iconst 0, 1),
  (32, .invokevirtual 95, 3),
  (35, .ireturn, 1)]
set_option maxRecDepth 100000 in
theorem tX8_open_ok : ∀ q ∈ tX8_open, decode cX8_open q.1 = .ok q.2 := by decide +kernel
theorem dX8_open_0 : decode cX8_open 0 = .ok (.iload_n 1, 1) := tX8_open_ok (0, .iload_n 1, 1) (List.mem_of_getElem? (i := 0) rfl)
theorem dX8_open_1 : decode cX8_open 1 = .ok (.iload_n 2, 1) := tX8_open_ok (1, .iload_n 2, 1) (List.mem_of_getElem? (i := 1) rfl)
theorem dX8_open_2 : decode cX8_open 2 = .ok (.invokestatic 144, 3) := tX8_open_ok (2, .invokestatic 144, 3) (List.mem_of_getElem? (i := 2) rfl)
theorem dX8_open_5 : decode cX8_open 5 = .ok (.ifCond .ne 9, 3) := tX8_open_ok (5, .ifCond .ne 9, 3) (List.mem_of_getElem? (i := 3) rfl)
theorem dX8_open_8 : decode cX8_open 8 = .ok (.aload_n 0, 1) := tX8_open_ok (8, .aload_n 0, 1) (List.mem_of_getElem? (i := 4) rfl)
theorem dX8_open_9 : decode cX8_open 9 = .ok (.iconst 2, 1) := tX8_open_ok (9, .iconst 2, 1) (List.mem_of_getElem? (i := 5) rfl)
theorem dX8_open_10 : decode cX8_open 10 = .ok (.invokevirtual 88, 3) := tX8_open_ok (10, .invokevirtual 88, 3) (List.mem_of_getElem? (i := 6) rfl)
theorem dX8_open_13 : decode cX8_open 13 = .ok (.ireturn, 1) := tX8_open_ok (13, .ireturn, 1) (List.mem_of_getElem? (i := 7) rfl)
theorem dX8_open_14 : decode cX8_open 14 = .ok (.aload_n 0, 1) := tX8_open_ok (14, .aload_n 0, 1) (List.mem_of_getElem? (i := 8) rfl)
theorem dX8_open_15 : decode cX8_open 15 = .ok (.aload_n 0, 1) := tX8_open_ok (15, .aload_n 0, 1) (List.mem_of_getElem? (i := 9) rfl)
theorem dX8_open_16 : decode cX8_open 16 = .ok (.getfield 19, 3) := tX8_open_ok (16, .getfield 19, 3) (List.mem_of_getElem? (i := 10) rfl)
theorem dX8_open_19 : decode cX8_open 19 = .ok (.iload_n 1, 1) := tX8_open_ok (19, .iload_n 1, 1) (List.mem_of_getElem? (i := 11) rfl)
theorem dX8_open_20 : decode cX8_open 20 = .ok (.iload_n 2, 1) := tX8_open_ok (20, .iload_n 2, 1) (List.mem_of_getElem? (i := 12) rfl)
theorem dX8_open_21 : decode cX8_open 21 = .ok (.invokevirtual 166, 3) := tX8_open_ok (21, .invokevirtual 166, 3) (List.mem_of_getElem? (i := 13) rfl)
theorem dX8_open_24 : decode cX8_open 24 = .ok (.ifCond .eq 7, 3) := tX8_open_ok (24, .ifCond .eq 7, 3) (List.mem_of_getElem? (i := 14) rfl)
theorem dX8_open_27 : decode cX8_open 27 = .ok (.iconst 1, 1) := tX8_open_ok (27, .iconst 1, 1) (List.mem_of_getElem? (i := 15) rfl)
theorem dX8_open_28 : decode cX8_open 28 = .ok (.goto 4, 3) := tX8_open_ok (28, .goto 4, 3) (List.mem_of_getElem? (i := 16) rfl)
theorem dX8_open_31 : decode cX8_open 31 = .ok (.iconst 0, 1) := tX8_open_ok (31, .iconst 0, 1) (List.mem_of_getElem? (i := 17) rfl)
theorem dX8_open_32 : decode cX8_open 32 = .ok (.invokevirtual 95, 3) := tX8_open_ok (32, .invokevirtual 95, 3) (List.mem_of_getElem? (i := 18) rfl)
theorem dX8_open_35 : decode cX8_open 35 = .ok (.ireturn, 1) := tX8_open_ok (35, .ireturn, 1) (List.mem_of_getElem? (i := 19) rfl)

def tX8_count : List (Nat × Instr × Nat) := [
  (0, .aload_n 0, 1),
  (1, .iload_n 1, 1),
  (2, .bipush 60, 2),
  (4, .invokevirtual 169, 3),
  (7, .istore_n 2, 1),
  (8, .iload_n 2, 1),
  (9, .ifCond .eq 10, 3),
  (12, .aload_n 0, 1),
  (13, .iload_n 2, 1),
  (14, .invokevirtual 88, 3),
  (17, .i2l, 1),
  (18, .lreturn, 1),
  (19, .aload_n 0, 1),
  (20, .aload_n 0, 1),
  (21, .iload_n 1, 1),
  (22, .invokevirtual 172, 3),
  (25, .iload_n 1, 1),
  (26, .aload_n 0, 1),
  (27, .getfield 19, 3),
  (30, .invokevirtual 176, 3),
  (33, .invokevirtual 180, 3),
  (36, .invokevirtual 186, 3),
  (39, .lreturn, 1)]
set_option maxRecDepth 100000 in
theorem tX8_count_ok : ∀ q ∈ tX8_count, decode cX8_count q.1 = .ok q.2 := by decide +kernel
theorem dX8_count_0 : decode cX8_count 0 = .ok (.aload_n 0, 1) := tX8_count_ok (0, .aload_n 0, 1) (List.mem_of_getElem? (i := 0) rfl)
theorem dX8_count_1 : decode cX8_count 1 = .ok (.iload_n 1, 1) := tX8_count_ok (1, .iload_n 1, 1) (List.mem_of_getElem? (i := 1) rfl)
theorem dX8_count_2 : decode cX8_count 2 = .ok (.bipush 60, 2) := tX8_count_ok (2, .bipush 60, 2) (List.mem_of_getElem? (i := 2) rfl)
theorem dX8_count_4 : decode cX8_count 4 = .ok (.invokevirtual 169, 3) := tX8_count_ok (4, .invokevirtual 169, 3) (List.mem_of_getElem? (i := 3) rfl)
theorem dX8_count_7 : decode cX8_count 7 = .ok (.istore_n 2, 1) := tX8_count_ok (7, .istore_n 2, 1) (List.mem_of_getElem? (i := 4) rfl)
theorem dX8_count_8 : decode cX8_count 8 = .ok (.iload_n 2, 1) := tX8_count_ok (8, .iload_n 2, 1) (List.mem_of_getElem? (i := 5) rfl)
theorem dX8_count_9 : decode cX8_count 9 = .ok (.ifCond .eq 10, 3) := tX8_count_ok (9, .ifCond .eq 10, 3) (List.mem_of_getElem? (i := 6) rfl)
theorem dX8_count_12 : decode cX8_count 12 = .ok (.aload_n 0, 1) := tX8_count_ok (12, .aload_n 0, 1) (List.mem_of_getElem? (i := 7) rfl)
theorem dX8_count_13 : decode cX8_count 13 = .ok (.iload_n 2, 1) := tX8_count_ok (13, .iload_n 2, 1) (List.mem_of_getElem? (i := 8) rfl)
theorem dX8_count_14 : decode cX8_count 14 = .ok (.invokevirtual 88, 3) := tX8_count_ok (14, .invokevirtual 88, 3) (List.mem_of_getElem? (i := 9) rfl)
theorem dX8_count_17 : decode cX8_count 17 = .ok (.i2l, 1) := tX8_count_ok (17, .i2l, 1) (List.mem_of_getElem? (i := 10) rfl)
theorem dX8_count_18 : decode cX8_count 18 = .ok (.lreturn, 1) := tX8_count_ok (18, .lreturn, 1) (List.mem_of_getElem? (i := 11) rfl)
theorem dX8_count_19 : decode cX8_count 19 = .ok (.aload_n 0, 1) := tX8_count_ok (19, .aload_n 0, 1) (List.mem_of_getElem? (i := 12) rfl)
theorem dX8_count_20 : decode cX8_count 20 = .ok (.aload_n 0, 1) := tX8_count_ok (20, .aload_n 0, 1) (List.mem_of_getElem? (i := 13) rfl)
theorem dX8_count_21 : decode cX8_count 21 = .ok (.iload_n 1, 1) := tX8_count_ok (21, .iload_n 1, 1) (List.mem_of_getElem? (i := 14) rfl)
theorem dX8_count_22 : decode cX8_count 22 = .ok (.invokevirtual 172, 3) := tX8_count_ok (22, .invokevirtual 172, 3) (List.mem_of_getElem? (i := 15) rfl)
theorem dX8_count_25 : decode cX8_count 25 = .ok (.iload_n 1, 1) := tX8_count_ok (25, .iload_n 1, 1) (List.mem_of_getElem? (i := 16) rfl)
theorem dX8_count_26 : decode cX8_count 26 = .ok (.aload_n 0, 1) := tX8_count_ok (26, .aload_n 0, 1) (List.mem_of_getElem? (i := 17) rfl)
theorem dX8_count_27 : decode cX8_count 27 = .ok (.getfield 19, 3) := tX8_count_ok (27, .getfield 19, 3) (List.mem_of_getElem? (i := 18) rfl)
theorem dX8_count_30 : decode cX8_count 30 = .ok (.invokevirtual 176, 3) := tX8_count_ok (30, .invokevirtual 176, 3) (List.mem_of_getElem? (i := 19) rfl)
theorem dX8_count_33 : decode cX8_count 33 = .ok (.invokevirtual 180, 3) := tX8_count_ok (33, .invokevirtual 180, 3) (List.mem_of_getElem? (i := 20) rfl)
theorem dX8_count_36 : decode cX8_count 36 = .ok (.invokevirtual 186, 3) := tX8_count_ok (36, .invokevirtual 186, 3) (List.mem_of_getElem? (i := 21) rfl)
theorem dX8_count_39 : decode cX8_count 39 = .ok (.lreturn, 1) := tX8_count_ok (39, .lreturn, 1) (List.mem_of_getElem? (i := 22) rfl)

def tX8_all : List (Nat × Instr × Nat) := [
  (0, .iload_n 1, 1),
  (1, .iconst 0, 1),
  (2, .bipush 60, 2),
  (4, .invokestatic 66, 3),
  (7, .ifCond .ne 10, 3),
  (10, .aload_n 0, 1),
  (11, .iconst 2, 1),
  (12, .invokevirtual 88, 3),
  (15, .i2l, 1),
  (16, .lreturn, 1),
  (17, .aload_n 0, 1),
  (18, .getfield 19, 3),
  (21, .aload_n 0, 1),
  (22, .getfield 19, 3),
  (25, .getfield 154, 3),
  (28, .aload_n 0, 1),
  (29, .getfield 19, 3),
  (32, .getfield 157, 3),
  (35, .invokevirtual 166, 3),
  (38, .ifCond .ne 11, 3),
  (41, .aload_n 0, 1),
  (42, .bipush 7, 2),
  (44, .invokevirtual 88, 3),
  (47, .i2l, 1),
  (48, .lreturn, 1),
  (49, .aload_n 0, 1),
  (50, .aload_n 0, 1),
  (51, .invokevirtual 190, 3),
  (54, .iload_n 1, 1),
  (55, .invokevirtual 194, 3),
  (58, .invokevirtual 186, 3),
  (61, .lreturn, 1)]
set_option maxRecDepth 100000 in
theorem tX8_all_ok : ∀ q ∈ tX8_all, decode cX8_all q.1 = .ok q.2 := by decide +kernel
theorem dX8_all_0 : decode cX8_all 0 = .ok (.iload_n 1, 1) := tX8_all_ok (0, .iload_n 1, 1) (List.mem_of_getElem? (i := 0) rfl)
theorem dX8_all_1 : decode cX8_all 1 = .ok (.iconst 0, 1) := tX8_all_ok (1, .iconst 0, 1) (List.mem_of_getElem? (i := 1) rfl)
theorem dX8_all_2 : decode cX8_all 2 = .ok (.bipush 60, 2) := tX8_all_ok (2, .bipush 60, 2) (List.mem_of_getElem? (i := 2) rfl)
theorem dX8_all_4 : decode cX8_all 4 = .ok (.invokestatic 66, 3) := tX8_all_ok (4, .invokestatic 66, 3) (List.mem_of_getElem? (i := 3) rfl)
theorem dX8_all_7 : decode cX8_all 7 = .ok (.ifCond .ne 10, 3) := tX8_all_ok (7, .ifCond .ne 10, 3) (List.mem_of_getElem? (i := 4) rfl)
theorem dX8_all_10 : decode cX8_all 10 = .ok (.aload_n 0, 1) := tX8_all_ok (10, .aload_n 0, 1) (List.mem_of_getElem? (i := 5) rfl)
theorem dX8_all_11 : decode cX8_all 11 = .ok (.iconst 2, 1) := tX8_all_ok (11, .iconst 2, 1) (List.mem_of_getElem? (i := 6) rfl)
theorem dX8_all_12 : decode cX8_all 12 = .ok (.invokevirtual 88, 3) := tX8_all_ok (12, .invokevirtual 88, 3) (List.mem_of_getElem? (i := 7) rfl)
theorem dX8_all_15 : decode cX8_all 15 = .ok (.i2l, 1) := tX8_all_ok (15, .i2l, 1) (List.mem_of_getElem? (i := 8) rfl)
theorem dX8_all_16 : decode cX8_all 16 = .ok (.lreturn, 1) := tX8_all_ok (16, .lreturn, 1) (List.mem_of_getElem? (i := 9) rfl)
theorem dX8_all_17 : decode cX8_all 17 = .ok (.aload_n 0, 1) := tX8_all_ok (17, .aload_n 0, 1) (List.mem_of_getElem? (i := 10) rfl)
theorem dX8_all_18 : decode cX8_all 18 = .ok (.getfield 19, 3) := tX8_all_ok (18, .getfield 19, 3) (List.mem_of_getElem? (i := 11) rfl)
theorem dX8_all_21 : decode cX8_all 21 = .ok (.aload_n 0, 1) := tX8_all_ok (21, .aload_n 0, 1) (List.mem_of_getElem? (i := 12) rfl)
theorem dX8_all_22 : decode cX8_all 22 = .ok (.getfield 19, 3) := tX8_all_ok (22, .getfield 19, 3) (List.mem_of_getElem? (i := 13) rfl)
theorem dX8_all_25 : decode cX8_all 25 = .ok (.getfield 154, 3) := tX8_all_ok (25, .getfield 154, 3) (List.mem_of_getElem? (i := 14) rfl)
theorem dX8_all_28 : decode cX8_all 28 = .ok (.aload_n 0, 1) := tX8_all_ok (28, .aload_n 0, 1) (List.mem_of_getElem? (i := 15) rfl)
theorem dX8_all_29 : decode cX8_all 29 = .ok (.getfield 19, 3) := tX8_all_ok (29, .getfield 19, 3) (List.mem_of_getElem? (i := 16) rfl)
theorem dX8_all_32 : decode cX8_all 32 = .ok (.getfield 157, 3) := tX8_all_ok (32, .getfield 157, 3) (List.mem_of_getElem? (i := 17) rfl)
theorem dX8_all_35 : decode cX8_all 35 = .ok (.invokevirtual 166, 3) := tX8_all_ok (35, .invokevirtual 166, 3) (List.mem_of_getElem? (i := 18) rfl)
theorem dX8_all_38 : decode cX8_all 38 = .ok (.ifCond .ne 11, 3) := tX8_all_ok (38, .ifCond .ne 11, 3) (List.mem_of_getElem? (i := 19) rfl)
theorem dX8_all_41 : decode cX8_all 41 = .ok (.aload_n 0, 1) := tX8_all_ok (41, .aload_n 0, 1) (List.mem_of_getElem? (i := 20) rfl)
theorem dX8_all_42 : decode cX8_all 42 = .ok (.bipush 7, 2) := tX8_all_ok (42, .bipush 7, 2) (List.mem_of_getElem? (i := 21) rfl)
theorem dX8_all_44 : decode cX8_all 44 = .ok (.invokevirtual 88, 3) := tX8_all_ok (44, .invokevirtual 88, 3) (List.mem_of_getElem? (i := 22) rfl)
theorem dX8_all_47 : decode cX8_all 47 = .ok (.i2l, 1) := tX8_all_ok (47, .i2l, 1) (List.mem_of_getElem? (i := 23) rfl)
theorem dX8_all_48 : decode cX8_all 48 = .ok (.lreturn, 1) := tX8_all_ok (48, .lreturn, 1) (List.mem_of_getElem? (i := 24) rfl)
theorem dX8_all_49 : decode cX8_all 49 = .ok (.aload_n 0, 1) := tX8_all_ok (49, .aload_n 0, 1) (List.mem_of_getElem? (i := 25) rfl)
theorem dX8_all_50 : decode cX8_all 50 = .ok (.aload_n 0, 1) := tX8_all_ok (50, .aload_n 0, 1) (List.mem_of_getElem? (i := 26) rfl)
theorem dX8_all_51 : decode cX8_all 51 = .ok (.invokevirtual 190, 3) := tX8_all_ok (51, .invokevirtual 190, 3) (List.mem_of_getElem? (i := 27) rfl)
theorem dX8_all_54 : decode cX8_all 54 = .ok (.iload_n 1, 1) := tX8_all_ok (54, .iload_n 1, 1) (List.mem_of_getElem? (i := 28) rfl)
theorem dX8_all_55 : decode cX8_all 55 = .ok (.invokevirtual 194, 3) := tX8_all_ok (55, .invokevirtual 194, 3) (List.mem_of_getElem? (i := 29) rfl)
theorem dX8_all_58 : decode cX8_all 58 = .ok (.invokevirtual 186, 3) := tX8_all_ok (58, .invokevirtual 186, 3) (List.mem_of_getElem? (i := 30) rfl)
theorem dX8_all_61 : decode cX8_all 61 = .ok (.lreturn, 1) := tX8_all_ok (61, .lreturn, 1) (List.mem_of_getElem? (i := 31) rfl)

def tX8_least : List (Nat × Instr × Nat) := [
  (0, .aload_n 0, 1),
  (1, .getfield 19, 3),
  (4, .invokevirtual 198, 3),
  (7, .ifCond .ne 10, 3),
  (10, .aload_n 0, 1),
  (11, .bipush 7, 2),
  (13, .invokevirtual 88, 3),
  (16, .ireturn, 1),
  (17, .iconst 0, 1),
  (18, .istore_n 1, 1),
  (19, .iload_n 1, 1),
  (20, .bipush 60, 2),
  (22, .if_icmp .gt 36, 3),
  (25, .aload_n 0, 1),
  (26, .iload_n 1, 1),
  (27, .invokevirtual 172, 3),
  (30, .iload_n 1, 1),
  (31, .aload_n 0, 1),
  (32, .getfield 19, 3),
  (35, .invokevirtual 176, 3),
  (38, .invokevirtual 180, 3),
  (41, .lconst 0, 1),
  (42, .lcmp, 1),
  (43, .ifCond .le 9, 3),
  (46, .aload_n 0, 1),
  (47, .iload_n 1, 1),
  (48, .invokevirtual 95, 3),
  (51, .ireturn, 1),
  (52, .iinc 1 1, 3),
  (55, .goto (-36), 3),
  (58, .aload_n 0, 1),
  (59, .bipush 8, 2),
  (61, .invokevirtual 88, 3),
  (64, .ireturn, 1)]
set_option maxRecDepth 100000 in
theorem tX8_least_ok : ∀ q ∈ tX8_least, decode cX8_least q.1 = .ok q.2 := by decide +kernel
theorem dX8_least_0 : decode cX8_least 0 = .ok (.aload_n 0, 1) := tX8_least_ok (0, .aload_n 0, 1) (List.mem_of_getElem? (i := 0) rfl)
theorem dX8_least_1 : decode cX8_least 1 = .ok (.getfield 19, 3) := tX8_least_ok (1, .getfield 19, 3) (List.mem_of_getElem? (i := 1) rfl)
theorem dX8_least_4 : decode cX8_least 4 = .ok (.invokevirtual 198, 3) := tX8_least_ok (4, .invokevirtual 198, 3) (List.mem_of_getElem? (i := 2) rfl)
theorem dX8_least_7 : decode cX8_least 7 = .ok (.ifCond .ne 10, 3) := tX8_least_ok (7, .ifCond .ne 10, 3) (List.mem_of_getElem? (i := 3) rfl)
theorem dX8_least_10 : decode cX8_least 10 = .ok (.aload_n 0, 1) := tX8_least_ok (10, .aload_n 0, 1) (List.mem_of_getElem? (i := 4) rfl)
theorem dX8_least_11 : decode cX8_least 11 = .ok (.bipush 7, 2) := tX8_least_ok (11, .bipush 7, 2) (List.mem_of_getElem? (i := 5) rfl)
theorem dX8_least_13 : decode cX8_least 13 = .ok (.invokevirtual 88, 3) := tX8_least_ok (13, .invokevirtual 88, 3) (List.mem_of_getElem? (i := 6) rfl)
theorem dX8_least_16 : decode cX8_least 16 = .ok (.ireturn, 1) := tX8_least_ok (16, .ireturn, 1) (List.mem_of_getElem? (i := 7) rfl)
theorem dX8_least_17 : decode cX8_least 17 = .ok (.iconst 0, 1) := tX8_least_ok (17, .iconst 0, 1) (List.mem_of_getElem? (i := 8) rfl)
theorem dX8_least_18 : decode cX8_least 18 = .ok (.istore_n 1, 1) := tX8_least_ok (18, .istore_n 1, 1) (List.mem_of_getElem? (i := 9) rfl)
theorem dX8_least_19 : decode cX8_least 19 = .ok (.iload_n 1, 1) := tX8_least_ok (19, .iload_n 1, 1) (List.mem_of_getElem? (i := 10) rfl)
theorem dX8_least_20 : decode cX8_least 20 = .ok (.bipush 60, 2) := tX8_least_ok (20, .bipush 60, 2) (List.mem_of_getElem? (i := 11) rfl)
theorem dX8_least_22 : decode cX8_least 22 = .ok (.if_icmp .gt 36, 3) := tX8_least_ok (22, .if_icmp .gt 36, 3) (List.mem_of_getElem? (i := 12) rfl)
theorem dX8_least_25 : decode cX8_least 25 = .ok (.aload_n 0, 1) := tX8_least_ok (25, .aload_n 0, 1) (List.mem_of_getElem? (i := 13) rfl)
theorem dX8_least_26 : decode cX8_least 26 = .ok (.iload_n 1, 1) := tX8_least_ok (26, .iload_n 1, 1) (List.mem_of_getElem? (i := 14) rfl)
theorem dX8_least_27 : decode cX8_least 27 = .ok (.invokevirtual 172, 3) := tX8_least_ok (27, .invokevirtual 172, 3) (List.mem_of_getElem? (i := 15) rfl)
theorem dX8_least_30 : decode cX8_least 30 = .ok (.iload_n 1, 1) := tX8_least_ok (30, .iload_n 1, 1) (List.mem_of_getElem? (i := 16) rfl)
theorem dX8_least_31 : decode cX8_least 31 = .ok (.aload_n 0, 1) := tX8_least_ok (31, .aload_n 0, 1) (List.mem_of_getElem? (i := 17) rfl)
theorem dX8_least_32 : decode cX8_least 32 = .ok (.getfield 19, 3) := tX8_least_ok (32, .getfield 19, 3) (List.mem_of_getElem? (i := 18) rfl)
theorem dX8_least_35 : decode cX8_least 35 = .ok (.invokevirtual 176, 3) := tX8_least_ok (35, .invokevirtual 176, 3) (List.mem_of_getElem? (i := 19) rfl)
theorem dX8_least_38 : decode cX8_least 38 = .ok (.invokevirtual 180, 3) := tX8_least_ok (38, .invokevirtual 180, 3) (List.mem_of_getElem? (i := 20) rfl)
theorem dX8_least_41 : decode cX8_least 41 = .ok (.lconst 0, 1) := tX8_least_ok (41, .lconst 0, 1) (List.mem_of_getElem? (i := 21) rfl)
theorem dX8_least_42 : decode cX8_least 42 = .ok (.lcmp, 1) := tX8_least_ok (42, .lcmp, 1) (List.mem_of_getElem? (i := 22) rfl)
theorem dX8_least_43 : decode cX8_least 43 = .ok (.ifCond .le 9, 3) := tX8_least_ok (43, .ifCond .le 9, 3) (List.mem_of_getElem? (i := 23) rfl)
theorem dX8_least_46 : decode cX8_least 46 = .ok (.aload_n 0, 1) := tX8_least_ok (46, .aload_n 0, 1) (List.mem_of_getElem? (i := 24) rfl)
theorem dX8_least_47 : decode cX8_least 47 = .ok (.iload_n 1, 1) := tX8_least_ok (47, .iload_n 1, 1) (List.mem_of_getElem? (i := 25) rfl)
theorem dX8_least_48 : decode cX8_least 48 = .ok (.invokevirtual 95, 3) := tX8_least_ok (48, .invokevirtual 95, 3) (List.mem_of_getElem? (i := 26) rfl)
theorem dX8_least_51 : decode cX8_least 51 = .ok (.ireturn, 1) := tX8_least_ok (51, .ireturn, 1) (List.mem_of_getElem? (i := 27) rfl)
theorem dX8_least_52 : decode cX8_least 52 = .ok (.iinc 1 1, 3) := tX8_least_ok (52, .iinc 1 1, 3) (List.mem_of_getElem? (i := 28) rfl)
theorem dX8_least_55 : decode cX8_least 55 = .ok (.goto (-36), 3) := tX8_least_ok (55, .goto (-36), 3) (List.mem_of_getElem? (i := 29) rfl)
theorem dX8_least_58 : decode cX8_least 58 = .ok (.aload_n 0, 1) := tX8_least_ok (58, .aload_n 0, 1) (List.mem_of_getElem? (i := 30) rfl)
theorem dX8_least_59 : decode cX8_least 59 = .ok (.bipush 8, 2) := tX8_least_ok (59, .bipush 8, 2) (List.mem_of_getElem? (i := 31) rfl)
theorem dX8_least_61 : decode cX8_least 61 = .ok (.invokevirtual 88, 3) := tX8_least_ok (61, .invokevirtual 88, 3) (List.mem_of_getElem? (i := 32) rfl)
theorem dX8_least_64 : decode cX8_least 64 = .ok (.ireturn, 1) := tX8_least_ok (64, .ireturn, 1) (List.mem_of_getElem? (i := 33) rfl)

def tX8_sum : List (Nat × Instr × Nat) := [
  (0, .iload_n 3, 1),
  (1, .iconst 0, 1),
  (2, .bipush 120, 2),
  (4, .invokestatic 66, 3),
  (7, .ifCond .ne 10, 3),
  (10, .aload_n 0, 1),
  (11, .iconst 2, 1),
  (12, .invokevirtual 88, 3),
  (15, .i2l, 1),
  (16, .lreturn, 1),
  (17, .aload_n 0, 1),
  (18, .iload_n 1, 1),
  (19, .iload_n 2, 1),
  (20, .invokevirtual 201, 3),
  (23, .istore 4, 2),
  (25, .iload 4, 2),
  (27, .ifCond .eq 11, 3),
  (30, .aload_n 0, 1),
  (31, .iload 4, 2),
  (33, .invokevirtual 88, 3),
  (36, .i2l, 1),
  (37, .lreturn, 1),
  (38, .aload_n 0, 1),
  (39, .iload_n 2, 1),
  (40, .invokevirtual 172, 3),
  (43, .iload_n 2, 1),
  (44, .aload_n 0, 1),
  (45, .getfield 19, 3),
  (48, .invokevirtual 176, 3),
  (51, .invokevirtual 180, 3),
  (54, .lconst 0, 1),
  (55, .lcmp, 1),
  (56, .ifCond .ne 9, 3),
  (59, .aload_n 0, 1),
  (60, .lconst 0, 1),
  (61, .invokevirtual 204, 3),
  (64, .lreturn, 1),
  (65, .aload_n 0, 1),
  (66, .aload_n 0, 1),
  (67, .invokevirtual 207, 3),
  (70, .iload_n 1, 1),
  (71, .iload_n 2, 1),
  (72, .iload_n 3, 1),
  (73, .invokevirtual 211, 3),
  (76, .invokevirtual 204, 3),
  (79, .lreturn, 1)]
set_option maxRecDepth 100000 in
theorem tX8_sum_ok : ∀ q ∈ tX8_sum, decode cX8_sum q.1 = .ok q.2 := by decide +kernel
theorem dX8_sum_0 : decode cX8_sum 0 = .ok (.iload_n 3, 1) := tX8_sum_ok (0, .iload_n 3, 1) (List.mem_of_getElem? (i := 0) rfl)
theorem dX8_sum_1 : decode cX8_sum 1 = .ok (.iconst 0, 1) := tX8_sum_ok (1, .iconst 0, 1) (List.mem_of_getElem? (i := 1) rfl)
theorem dX8_sum_2 : decode cX8_sum 2 = .ok (.bipush 120, 2) := tX8_sum_ok (2, .bipush 120, 2) (List.mem_of_getElem? (i := 2) rfl)
theorem dX8_sum_4 : decode cX8_sum 4 = .ok (.invokestatic 66, 3) := tX8_sum_ok (4, .invokestatic 66, 3) (List.mem_of_getElem? (i := 3) rfl)
theorem dX8_sum_7 : decode cX8_sum 7 = .ok (.ifCond .ne 10, 3) := tX8_sum_ok (7, .ifCond .ne 10, 3) (List.mem_of_getElem? (i := 4) rfl)
theorem dX8_sum_10 : decode cX8_sum 10 = .ok (.aload_n 0, 1) := tX8_sum_ok (10, .aload_n 0, 1) (List.mem_of_getElem? (i := 5) rfl)
theorem dX8_sum_11 : decode cX8_sum 11 = .ok (.iconst 2, 1) := tX8_sum_ok (11, .iconst 2, 1) (List.mem_of_getElem? (i := 6) rfl)
theorem dX8_sum_12 : decode cX8_sum 12 = .ok (.invokevirtual 88, 3) := tX8_sum_ok (12, .invokevirtual 88, 3) (List.mem_of_getElem? (i := 7) rfl)
theorem dX8_sum_15 : decode cX8_sum 15 = .ok (.i2l, 1) := tX8_sum_ok (15, .i2l, 1) (List.mem_of_getElem? (i := 8) rfl)
theorem dX8_sum_16 : decode cX8_sum 16 = .ok (.lreturn, 1) := tX8_sum_ok (16, .lreturn, 1) (List.mem_of_getElem? (i := 9) rfl)
theorem dX8_sum_17 : decode cX8_sum 17 = .ok (.aload_n 0, 1) := tX8_sum_ok (17, .aload_n 0, 1) (List.mem_of_getElem? (i := 10) rfl)
theorem dX8_sum_18 : decode cX8_sum 18 = .ok (.iload_n 1, 1) := tX8_sum_ok (18, .iload_n 1, 1) (List.mem_of_getElem? (i := 11) rfl)
theorem dX8_sum_19 : decode cX8_sum 19 = .ok (.iload_n 2, 1) := tX8_sum_ok (19, .iload_n 2, 1) (List.mem_of_getElem? (i := 12) rfl)
theorem dX8_sum_20 : decode cX8_sum 20 = .ok (.invokevirtual 201, 3) := tX8_sum_ok (20, .invokevirtual 201, 3) (List.mem_of_getElem? (i := 13) rfl)
theorem dX8_sum_23 : decode cX8_sum 23 = .ok (.istore 4, 2) := tX8_sum_ok (23, .istore 4, 2) (List.mem_of_getElem? (i := 14) rfl)
theorem dX8_sum_25 : decode cX8_sum 25 = .ok (.iload 4, 2) := tX8_sum_ok (25, .iload 4, 2) (List.mem_of_getElem? (i := 15) rfl)
theorem dX8_sum_27 : decode cX8_sum 27 = .ok (.ifCond .eq 11, 3) := tX8_sum_ok (27, .ifCond .eq 11, 3) (List.mem_of_getElem? (i := 16) rfl)
theorem dX8_sum_30 : decode cX8_sum 30 = .ok (.aload_n 0, 1) := tX8_sum_ok (30, .aload_n 0, 1) (List.mem_of_getElem? (i := 17) rfl)
theorem dX8_sum_31 : decode cX8_sum 31 = .ok (.iload 4, 2) := tX8_sum_ok (31, .iload 4, 2) (List.mem_of_getElem? (i := 18) rfl)
theorem dX8_sum_33 : decode cX8_sum 33 = .ok (.invokevirtual 88, 3) := tX8_sum_ok (33, .invokevirtual 88, 3) (List.mem_of_getElem? (i := 19) rfl)
theorem dX8_sum_36 : decode cX8_sum 36 = .ok (.i2l, 1) := tX8_sum_ok (36, .i2l, 1) (List.mem_of_getElem? (i := 20) rfl)
theorem dX8_sum_37 : decode cX8_sum 37 = .ok (.lreturn, 1) := tX8_sum_ok (37, .lreturn, 1) (List.mem_of_getElem? (i := 21) rfl)
theorem dX8_sum_38 : decode cX8_sum 38 = .ok (.aload_n 0, 1) := tX8_sum_ok (38, .aload_n 0, 1) (List.mem_of_getElem? (i := 22) rfl)
theorem dX8_sum_39 : decode cX8_sum 39 = .ok (.iload_n 2, 1) := tX8_sum_ok (39, .iload_n 2, 1) (List.mem_of_getElem? (i := 23) rfl)
theorem dX8_sum_40 : decode cX8_sum 40 = .ok (.invokevirtual 172, 3) := tX8_sum_ok (40, .invokevirtual 172, 3) (List.mem_of_getElem? (i := 24) rfl)
theorem dX8_sum_43 : decode cX8_sum 43 = .ok (.iload_n 2, 1) := tX8_sum_ok (43, .iload_n 2, 1) (List.mem_of_getElem? (i := 25) rfl)
theorem dX8_sum_44 : decode cX8_sum 44 = .ok (.aload_n 0, 1) := tX8_sum_ok (44, .aload_n 0, 1) (List.mem_of_getElem? (i := 26) rfl)
theorem dX8_sum_45 : decode cX8_sum 45 = .ok (.getfield 19, 3) := tX8_sum_ok (45, .getfield 19, 3) (List.mem_of_getElem? (i := 27) rfl)
theorem dX8_sum_48 : decode cX8_sum 48 = .ok (.invokevirtual 176, 3) := tX8_sum_ok (48, .invokevirtual 176, 3) (List.mem_of_getElem? (i := 28) rfl)
theorem dX8_sum_51 : decode cX8_sum 51 = .ok (.invokevirtual 180, 3) := tX8_sum_ok (51, .invokevirtual 180, 3) (List.mem_of_getElem? (i := 29) rfl)
theorem dX8_sum_54 : decode cX8_sum 54 = .ok (.lconst 0, 1) := tX8_sum_ok (54, .lconst 0, 1) (List.mem_of_getElem? (i := 30) rfl)
theorem dX8_sum_55 : decode cX8_sum 55 = .ok (.lcmp, 1) := tX8_sum_ok (55, .lcmp, 1) (List.mem_of_getElem? (i := 31) rfl)
theorem dX8_sum_56 : decode cX8_sum 56 = .ok (.ifCond .ne 9, 3) := tX8_sum_ok (56, .ifCond .ne 9, 3) (List.mem_of_getElem? (i := 32) rfl)
theorem dX8_sum_59 : decode cX8_sum 59 = .ok (.aload_n 0, 1) := tX8_sum_ok (59, .aload_n 0, 1) (List.mem_of_getElem? (i := 33) rfl)
theorem dX8_sum_60 : decode cX8_sum 60 = .ok (.lconst 0, 1) := tX8_sum_ok (60, .lconst 0, 1) (List.mem_of_getElem? (i := 34) rfl)
theorem dX8_sum_61 : decode cX8_sum 61 = .ok (.invokevirtual 204, 3) := tX8_sum_ok (61, .invokevirtual 204, 3) (List.mem_of_getElem? (i := 35) rfl)
theorem dX8_sum_64 : decode cX8_sum 64 = .ok (.lreturn, 1) := tX8_sum_ok (64, .lreturn, 1) (List.mem_of_getElem? (i := 36) rfl)
theorem dX8_sum_65 : decode cX8_sum 65 = .ok (.aload_n 0, 1) := tX8_sum_ok (65, .aload_n 0, 1) (List.mem_of_getElem? (i := 37) rfl)
theorem dX8_sum_66 : decode cX8_sum 66 = .ok (.aload_n 0, 1) := tX8_sum_ok (66, .aload_n 0, 1) (List.mem_of_getElem? (i := 38) rfl)
theorem dX8_sum_67 : decode cX8_sum 67 = .ok (.invokevirtual 207, 3) := tX8_sum_ok (67, .invokevirtual 207, 3) (List.mem_of_getElem? (i := 39) rfl)
theorem dX8_sum_70 : decode cX8_sum 70 = .ok (.iload_n 1, 1) := tX8_sum_ok (70, .iload_n 1, 1) (List.mem_of_getElem? (i := 40) rfl)
theorem dX8_sum_71 : decode cX8_sum 71 = .ok (.iload_n 2, 1) := tX8_sum_ok (71, .iload_n 2, 1) (List.mem_of_getElem? (i := 41) rfl)
theorem dX8_sum_72 : decode cX8_sum 72 = .ok (.iload_n 3, 1) := tX8_sum_ok (72, .iload_n 3, 1) (List.mem_of_getElem? (i := 42) rfl)
theorem dX8_sum_73 : decode cX8_sum 73 = .ok (.invokevirtual 211, 3) := tX8_sum_ok (73, .invokevirtual 211, 3) (List.mem_of_getElem? (i := 43) rfl)
theorem dX8_sum_76 : decode cX8_sum 76 = .ok (.invokevirtual 204, 3) := tX8_sum_ok (76, .invokevirtual 204, 3) (List.mem_of_getElem? (i := 44) rfl)
theorem dX8_sum_79 : decode cX8_sum 79 = .ok (.lreturn, 1) := tX8_sum_ok (79, .lreturn, 1) (List.mem_of_getElem? (i := 45) rfl)

def tX8_best : List (Nat × Instr × Nat) := [
  (0, .aload_n 0, 1),
  (1, .iload_n 1, 1),
  (2, .iload_n 2, 1),
  (3, .invokevirtual 201, 3),
  (6, .istore 4, 2),
  (8, .iload 4, 2),
  (10, .ifCond .eq 10, 3),
  (13, .aload_n 0, 1),
  (14, .iload 4, 2),
  (16, .invokevirtual 88, 3),
  (19, .ireturn, 1),
  (20, .aload_n 0, 1),
  (21, .iload_n 2, 1),
  (22, .invokevirtual 172, 3),
  (25, .iload_n 2, 1),
  (26, .aload_n 0, 1),
  (27, .getfield 19, 3),
  (30, .invokevirtual 176, 3),
  (33, .invokevirtual 180, 3),
  (36, .lconst 0, 1),
  (37, .lcmp, 1),
  (38, .ifCond .ne 10, 3),
  (41, .aload_n 0, 1),
  (42, .bipush 8, 2),
  (44, .invokevirtual 88, 3),
  (47, .ireturn, 1),
  (48, .aload_n 0, 1),
  (49, .aload_n 0, 1),
  (50, .invokevirtual 207, 3),
  (53, .iload_n 1, 1),
  (54, .iload_n 2, 1),
  (55, .iload_n 3, 1),
  (56, .invokevirtual 217, 3),
  (59, .invokevirtual 95, 3),
  (62, .ireturn, 1)]
set_option maxRecDepth 100000 in
theorem tX8_best_ok : ∀ q ∈ tX8_best, decode cX8_best q.1 = .ok q.2 := by decide +kernel
theorem dX8_best_0 : decode cX8_best 0 = .ok (.aload_n 0, 1) := tX8_best_ok (0, .aload_n 0, 1) (List.mem_of_getElem? (i := 0) rfl)
theorem dX8_best_1 : decode cX8_best 1 = .ok (.iload_n 1, 1) := tX8_best_ok (1, .iload_n 1, 1) (List.mem_of_getElem? (i := 1) rfl)
theorem dX8_best_2 : decode cX8_best 2 = .ok (.iload_n 2, 1) := tX8_best_ok (2, .iload_n 2, 1) (List.mem_of_getElem? (i := 2) rfl)
theorem dX8_best_3 : decode cX8_best 3 = .ok (.invokevirtual 201, 3) := tX8_best_ok (3, .invokevirtual 201, 3) (List.mem_of_getElem? (i := 3) rfl)
theorem dX8_best_6 : decode cX8_best 6 = .ok (.istore 4, 2) := tX8_best_ok (6, .istore 4, 2) (List.mem_of_getElem? (i := 4) rfl)
theorem dX8_best_8 : decode cX8_best 8 = .ok (.iload 4, 2) := tX8_best_ok (8, .iload 4, 2) (List.mem_of_getElem? (i := 5) rfl)
theorem dX8_best_10 : decode cX8_best 10 = .ok (.ifCond .eq 10, 3) := tX8_best_ok (10, .ifCond .eq 10, 3) (List.mem_of_getElem? (i := 6) rfl)
theorem dX8_best_13 : decode cX8_best 13 = .ok (.aload_n 0, 1) := tX8_best_ok (13, .aload_n 0, 1) (List.mem_of_getElem? (i := 7) rfl)
theorem dX8_best_14 : decode cX8_best 14 = .ok (.iload 4, 2) := tX8_best_ok (14, .iload 4, 2) (List.mem_of_getElem? (i := 8) rfl)
theorem dX8_best_16 : decode cX8_best 16 = .ok (.invokevirtual 88, 3) := tX8_best_ok (16, .invokevirtual 88, 3) (List.mem_of_getElem? (i := 9) rfl)
theorem dX8_best_19 : decode cX8_best 19 = .ok (.ireturn, 1) := tX8_best_ok (19, .ireturn, 1) (List.mem_of_getElem? (i := 10) rfl)
theorem dX8_best_20 : decode cX8_best 20 = .ok (.aload_n 0, 1) := tX8_best_ok (20, .aload_n 0, 1) (List.mem_of_getElem? (i := 11) rfl)
theorem dX8_best_21 : decode cX8_best 21 = .ok (.iload_n 2, 1) := tX8_best_ok (21, .iload_n 2, 1) (List.mem_of_getElem? (i := 12) rfl)
theorem dX8_best_22 : decode cX8_best 22 = .ok (.invokevirtual 172, 3) := tX8_best_ok (22, .invokevirtual 172, 3) (List.mem_of_getElem? (i := 13) rfl)
theorem dX8_best_25 : decode cX8_best 25 = .ok (.iload_n 2, 1) := tX8_best_ok (25, .iload_n 2, 1) (List.mem_of_getElem? (i := 14) rfl)
theorem dX8_best_26 : decode cX8_best 26 = .ok (.aload_n 0, 1) := tX8_best_ok (26, .aload_n 0, 1) (List.mem_of_getElem? (i := 15) rfl)
theorem dX8_best_27 : decode cX8_best 27 = .ok (.getfield 19, 3) := tX8_best_ok (27, .getfield 19, 3) (List.mem_of_getElem? (i := 16) rfl)
theorem dX8_best_30 : decode cX8_best 30 = .ok (.invokevirtual 176, 3) := tX8_best_ok (30, .invokevirtual 176, 3) (List.mem_of_getElem? (i := 17) rfl)
theorem dX8_best_33 : decode cX8_best 33 = .ok (.invokevirtual 180, 3) := tX8_best_ok (33, .invokevirtual 180, 3) (List.mem_of_getElem? (i := 18) rfl)
theorem dX8_best_36 : decode cX8_best 36 = .ok (.lconst 0, 1) := tX8_best_ok (36, .lconst 0, 1) (List.mem_of_getElem? (i := 19) rfl)
theorem dX8_best_37 : decode cX8_best 37 = .ok (.lcmp, 1) := tX8_best_ok (37, .lcmp, 1) (List.mem_of_getElem? (i := 20) rfl)
theorem dX8_best_38 : decode cX8_best 38 = .ok (.ifCond .ne 10, 3) := tX8_best_ok (38, .ifCond .ne 10, 3) (List.mem_of_getElem? (i := 21) rfl)
theorem dX8_best_41 : decode cX8_best 41 = .ok (.aload_n 0, 1) := tX8_best_ok (41, .aload_n 0, 1) (List.mem_of_getElem? (i := 22) rfl)
theorem dX8_best_42 : decode cX8_best 42 = .ok (.bipush 8, 2) := tX8_best_ok (42, .bipush 8, 2) (List.mem_of_getElem? (i := 23) rfl)
theorem dX8_best_44 : decode cX8_best 44 = .ok (.invokevirtual 88, 3) := tX8_best_ok (44, .invokevirtual 88, 3) (List.mem_of_getElem? (i := 24) rfl)
theorem dX8_best_47 : decode cX8_best 47 = .ok (.ireturn, 1) := tX8_best_ok (47, .ireturn, 1) (List.mem_of_getElem? (i := 25) rfl)
theorem dX8_best_48 : decode cX8_best 48 = .ok (.aload_n 0, 1) := tX8_best_ok (48, .aload_n 0, 1) (List.mem_of_getElem? (i := 26) rfl)
theorem dX8_best_49 : decode cX8_best 49 = .ok (.aload_n 0, 1) := tX8_best_ok (49, .aload_n 0, 1) (List.mem_of_getElem? (i := 27) rfl)
theorem dX8_best_50 : decode cX8_best 50 = .ok (.invokevirtual 207, 3) := tX8_best_ok (50, .invokevirtual 207, 3) (List.mem_of_getElem? (i := 28) rfl)
theorem dX8_best_53 : decode cX8_best 53 = .ok (.iload_n 1, 1) := tX8_best_ok (53, .iload_n 1, 1) (List.mem_of_getElem? (i := 29) rfl)
theorem dX8_best_54 : decode cX8_best 54 = .ok (.iload_n 2, 1) := tX8_best_ok (54, .iload_n 2, 1) (List.mem_of_getElem? (i := 30) rfl)
theorem dX8_best_55 : decode cX8_best 55 = .ok (.iload_n 3, 1) := tX8_best_ok (55, .iload_n 3, 1) (List.mem_of_getElem? (i := 31) rfl)
theorem dX8_best_56 : decode cX8_best 56 = .ok (.invokevirtual 217, 3) := tX8_best_ok (56, .invokevirtual 217, 3) (List.mem_of_getElem? (i := 32) rfl)
theorem dX8_best_59 : decode cX8_best 59 = .ok (.invokevirtual 95, 3) := tX8_best_ok (59, .invokevirtual 95, 3) (List.mem_of_getElem? (i := 33) rfl)
theorem dX8_best_62 : decode cX8_best 62 = .ok (.ireturn, 1) := tX8_best_ok (62, .ireturn, 1) (List.mem_of_getElem? (i := 34) rfl)

def tX8_walk : List (Nat × Instr × Nat) := [
  (0, .aload_n 0, 1),
  (1, .iload_n 1, 1),
  (2, .bipush 60, 2),
  (4, .invokevirtual 169, 3),
  (7, .istore 4, 2),
  (9, .iload 4, 2),
  (11, .ifCond .eq 10, 3),
  (14, .aload_n 0, 1),
  (15, .iload 4, 2),
  (17, .invokevirtual 88, 3),
  (20, .ireturn, 1),
  (21, .lload_n 2, 1),
  (22, .lconst 0, 1),
  (23, .lcmp, 1),
  (24, .ifCond .ge 10, 3),
  (27, .aload_n 0, 1),
  (28, .bipush 8, 2),
  (30, .invokevirtual 88, 3),
  (33, .ireturn, 1),
  (34, .aload_n 0, 1),
  (35, .iload_n 1, 1),
  (36, .invokevirtual 172, 3),
  (39, .iload_n 1, 1),
  (40, .aload_n 0, 1),
  (41, .getfield 19, 3),
  (44, .invokevirtual 176, 3),
  (47, .invokevirtual 180, 3),
  (50, .lstore 5, 2),
  (52, .lload 5, 2),
  (54, .ldc2_w 221, 3),
  (57, .lcmp, 1),
  (58, .ifCond .lt 10, 3),
  (61, .aload_n 0, 1),
  (62, .bipush 9, 2),
  (64, .invokevirtual 88, 3),
  (67, .ireturn, 1),
  (68, .lload_n 2, 1),
  (69, .lload 5, 2),
  (71, .lcmp, 1),
  (72, .ifCond .lt 10, 3),
  (75, .aload_n 0, 1),
  (76, .bipush 8, 2),
  (78, .invokevirtual 88, 3),
  (81, .ireturn, 1),
  (82, .aload_n 0, 1),
  (83, .iload_n 1, 1),
  (84, .lload_n 2, 1),
  (85, .invokevirtual 223, 3),
  (88, .aload_n 0, 1),
  (89, .iload_n 1, 1),
  (90, .invokevirtual 95, 3),
  (93, .ireturn, 1)]
set_option maxRecDepth 100000 in
theorem tX8_walk_ok : ∀ q ∈ tX8_walk, decode cX8_walk q.1 = .ok q.2 := by decide +kernel
theorem dX8_walk_0 : decode cX8_walk 0 = .ok (.aload_n 0, 1) := tX8_walk_ok (0, .aload_n 0, 1) (List.mem_of_getElem? (i := 0) rfl)
theorem dX8_walk_1 : decode cX8_walk 1 = .ok (.iload_n 1, 1) := tX8_walk_ok (1, .iload_n 1, 1) (List.mem_of_getElem? (i := 1) rfl)
theorem dX8_walk_2 : decode cX8_walk 2 = .ok (.bipush 60, 2) := tX8_walk_ok (2, .bipush 60, 2) (List.mem_of_getElem? (i := 2) rfl)
theorem dX8_walk_4 : decode cX8_walk 4 = .ok (.invokevirtual 169, 3) := tX8_walk_ok (4, .invokevirtual 169, 3) (List.mem_of_getElem? (i := 3) rfl)
theorem dX8_walk_7 : decode cX8_walk 7 = .ok (.istore 4, 2) := tX8_walk_ok (7, .istore 4, 2) (List.mem_of_getElem? (i := 4) rfl)
theorem dX8_walk_9 : decode cX8_walk 9 = .ok (.iload 4, 2) := tX8_walk_ok (9, .iload 4, 2) (List.mem_of_getElem? (i := 5) rfl)
theorem dX8_walk_11 : decode cX8_walk 11 = .ok (.ifCond .eq 10, 3) := tX8_walk_ok (11, .ifCond .eq 10, 3) (List.mem_of_getElem? (i := 6) rfl)
theorem dX8_walk_14 : decode cX8_walk 14 = .ok (.aload_n 0, 1) := tX8_walk_ok (14, .aload_n 0, 1) (List.mem_of_getElem? (i := 7) rfl)
theorem dX8_walk_15 : decode cX8_walk 15 = .ok (.iload 4, 2) := tX8_walk_ok (15, .iload 4, 2) (List.mem_of_getElem? (i := 8) rfl)
theorem dX8_walk_17 : decode cX8_walk 17 = .ok (.invokevirtual 88, 3) := tX8_walk_ok (17, .invokevirtual 88, 3) (List.mem_of_getElem? (i := 9) rfl)
theorem dX8_walk_20 : decode cX8_walk 20 = .ok (.ireturn, 1) := tX8_walk_ok (20, .ireturn, 1) (List.mem_of_getElem? (i := 10) rfl)
theorem dX8_walk_21 : decode cX8_walk 21 = .ok (.lload_n 2, 1) := tX8_walk_ok (21, .lload_n 2, 1) (List.mem_of_getElem? (i := 11) rfl)
theorem dX8_walk_22 : decode cX8_walk 22 = .ok (.lconst 0, 1) := tX8_walk_ok (22, .lconst 0, 1) (List.mem_of_getElem? (i := 12) rfl)
theorem dX8_walk_23 : decode cX8_walk 23 = .ok (.lcmp, 1) := tX8_walk_ok (23, .lcmp, 1) (List.mem_of_getElem? (i := 13) rfl)
theorem dX8_walk_24 : decode cX8_walk 24 = .ok (.ifCond .ge 10, 3) := tX8_walk_ok (24, .ifCond .ge 10, 3) (List.mem_of_getElem? (i := 14) rfl)
theorem dX8_walk_27 : decode cX8_walk 27 = .ok (.aload_n 0, 1) := tX8_walk_ok (27, .aload_n 0, 1) (List.mem_of_getElem? (i := 15) rfl)
theorem dX8_walk_28 : decode cX8_walk 28 = .ok (.bipush 8, 2) := tX8_walk_ok (28, .bipush 8, 2) (List.mem_of_getElem? (i := 16) rfl)
theorem dX8_walk_30 : decode cX8_walk 30 = .ok (.invokevirtual 88, 3) := tX8_walk_ok (30, .invokevirtual 88, 3) (List.mem_of_getElem? (i := 17) rfl)
theorem dX8_walk_33 : decode cX8_walk 33 = .ok (.ireturn, 1) := tX8_walk_ok (33, .ireturn, 1) (List.mem_of_getElem? (i := 18) rfl)
theorem dX8_walk_34 : decode cX8_walk 34 = .ok (.aload_n 0, 1) := tX8_walk_ok (34, .aload_n 0, 1) (List.mem_of_getElem? (i := 19) rfl)
theorem dX8_walk_35 : decode cX8_walk 35 = .ok (.iload_n 1, 1) := tX8_walk_ok (35, .iload_n 1, 1) (List.mem_of_getElem? (i := 20) rfl)
theorem dX8_walk_36 : decode cX8_walk 36 = .ok (.invokevirtual 172, 3) := tX8_walk_ok (36, .invokevirtual 172, 3) (List.mem_of_getElem? (i := 21) rfl)
theorem dX8_walk_39 : decode cX8_walk 39 = .ok (.iload_n 1, 1) := tX8_walk_ok (39, .iload_n 1, 1) (List.mem_of_getElem? (i := 22) rfl)
theorem dX8_walk_40 : decode cX8_walk 40 = .ok (.aload_n 0, 1) := tX8_walk_ok (40, .aload_n 0, 1) (List.mem_of_getElem? (i := 23) rfl)
theorem dX8_walk_41 : decode cX8_walk 41 = .ok (.getfield 19, 3) := tX8_walk_ok (41, .getfield 19, 3) (List.mem_of_getElem? (i := 24) rfl)
theorem dX8_walk_44 : decode cX8_walk 44 = .ok (.invokevirtual 176, 3) := tX8_walk_ok (44, .invokevirtual 176, 3) (List.mem_of_getElem? (i := 25) rfl)
theorem dX8_walk_47 : decode cX8_walk 47 = .ok (.invokevirtual 180, 3) := tX8_walk_ok (47, .invokevirtual 180, 3) (List.mem_of_getElem? (i := 26) rfl)
theorem dX8_walk_50 : decode cX8_walk 50 = .ok (.lstore 5, 2) := tX8_walk_ok (50, .lstore 5, 2) (List.mem_of_getElem? (i := 27) rfl)
theorem dX8_walk_52 : decode cX8_walk 52 = .ok (.lload 5, 2) := tX8_walk_ok (52, .lload 5, 2) (List.mem_of_getElem? (i := 28) rfl)
theorem dX8_walk_54 : decode cX8_walk 54 = .ok (.ldc2_w 221, 3) := tX8_walk_ok (54, .ldc2_w 221, 3) (List.mem_of_getElem? (i := 29) rfl)
theorem dX8_walk_57 : decode cX8_walk 57 = .ok (.lcmp, 1) := tX8_walk_ok (57, .lcmp, 1) (List.mem_of_getElem? (i := 30) rfl)
theorem dX8_walk_58 : decode cX8_walk 58 = .ok (.ifCond .lt 10, 3) := tX8_walk_ok (58, .ifCond .lt 10, 3) (List.mem_of_getElem? (i := 31) rfl)
theorem dX8_walk_61 : decode cX8_walk 61 = .ok (.aload_n 0, 1) := tX8_walk_ok (61, .aload_n 0, 1) (List.mem_of_getElem? (i := 32) rfl)
theorem dX8_walk_62 : decode cX8_walk 62 = .ok (.bipush 9, 2) := tX8_walk_ok (62, .bipush 9, 2) (List.mem_of_getElem? (i := 33) rfl)
theorem dX8_walk_64 : decode cX8_walk 64 = .ok (.invokevirtual 88, 3) := tX8_walk_ok (64, .invokevirtual 88, 3) (List.mem_of_getElem? (i := 34) rfl)
theorem dX8_walk_67 : decode cX8_walk 67 = .ok (.ireturn, 1) := tX8_walk_ok (67, .ireturn, 1) (List.mem_of_getElem? (i := 35) rfl)
theorem dX8_walk_68 : decode cX8_walk 68 = .ok (.lload_n 2, 1) := tX8_walk_ok (68, .lload_n 2, 1) (List.mem_of_getElem? (i := 36) rfl)
theorem dX8_walk_69 : decode cX8_walk 69 = .ok (.lload 5, 2) := tX8_walk_ok (69, .lload 5, 2) (List.mem_of_getElem? (i := 37) rfl)
theorem dX8_walk_71 : decode cX8_walk 71 = .ok (.lcmp, 1) := tX8_walk_ok (71, .lcmp, 1) (List.mem_of_getElem? (i := 38) rfl)
theorem dX8_walk_72 : decode cX8_walk 72 = .ok (.ifCond .lt 10, 3) := tX8_walk_ok (72, .ifCond .lt 10, 3) (List.mem_of_getElem? (i := 39) rfl)
theorem dX8_walk_75 : decode cX8_walk 75 = .ok (.aload_n 0, 1) := tX8_walk_ok (75, .aload_n 0, 1) (List.mem_of_getElem? (i := 40) rfl)
theorem dX8_walk_76 : decode cX8_walk 76 = .ok (.bipush 8, 2) := tX8_walk_ok (76, .bipush 8, 2) (List.mem_of_getElem? (i := 41) rfl)
theorem dX8_walk_78 : decode cX8_walk 78 = .ok (.invokevirtual 88, 3) := tX8_walk_ok (78, .invokevirtual 88, 3) (List.mem_of_getElem? (i := 42) rfl)
theorem dX8_walk_81 : decode cX8_walk 81 = .ok (.ireturn, 1) := tX8_walk_ok (81, .ireturn, 1) (List.mem_of_getElem? (i := 43) rfl)
theorem dX8_walk_82 : decode cX8_walk 82 = .ok (.aload_n 0, 1) := tX8_walk_ok (82, .aload_n 0, 1) (List.mem_of_getElem? (i := 44) rfl)
theorem dX8_walk_83 : decode cX8_walk 83 = .ok (.iload_n 1, 1) := tX8_walk_ok (83, .iload_n 1, 1) (List.mem_of_getElem? (i := 45) rfl)
theorem dX8_walk_84 : decode cX8_walk 84 = .ok (.lload_n 2, 1) := tX8_walk_ok (84, .lload_n 2, 1) (List.mem_of_getElem? (i := 46) rfl)
theorem dX8_walk_85 : decode cX8_walk 85 = .ok (.invokevirtual 223, 3) := tX8_walk_ok (85, .invokevirtual 223, 3) (List.mem_of_getElem? (i := 47) rfl)
theorem dX8_walk_88 : decode cX8_walk 88 = .ok (.aload_n 0, 1) := tX8_walk_ok (88, .aload_n 0, 1) (List.mem_of_getElem? (i := 48) rfl)
theorem dX8_walk_89 : decode cX8_walk 89 = .ok (.iload_n 1, 1) := tX8_walk_ok (89, .iload_n 1, 1) (List.mem_of_getElem? (i := 49) rfl)
theorem dX8_walk_90 : decode cX8_walk 90 = .ok (.invokevirtual 95, 3) := tX8_walk_ok (90, .invokevirtual 95, 3) (List.mem_of_getElem? (i := 50) rfl)
theorem dX8_walk_93 : decode cX8_walk 93 = .ok (.ireturn, 1) := tX8_walk_ok (93, .ireturn, 1) (List.mem_of_getElem? (i := 51) rfl)

def tX8_number : List (Nat × Instr × Nat) := [
  (0, .aload_n 0, 1),
  (1, .iload_n 1, 1),
  (2, .iload_n 2, 1),
  (3, .bipush 60, 2),
  (5, .invokevirtual 227, 3),
  (8, .istore_n 3, 1),
  (9, .iload_n 3, 1),
  (10, .ifCond .eq 10, 3),
  (13, .aload_n 0, 1),
  (14, .iload_n 3, 1),
  (15, .invokevirtual 88, 3),
  (18, .i2l, 1),
  (19, .lreturn, 1),
  (20, .aload_n 0, 1),
  (21, .getfield 19, 3),
  (24, .invokevirtual 198, 3),
  (27, .ifCond .ne 11, 3),
  (30, .aload_n 0, 1),
  (31, .bipush 7, 2),
  (33, .invokevirtual 88, 3),
  (36, .i2l, 1),
  (37, .lreturn, 1),
  (38, .aload_n 0, 1),
  (39, .iload_n 1, 1),
  (40, .iload_n 2, 1),
  (41, .invokevirtual 231, 3),
  (44, .ifCond .ne 11, 3),
  (47, .aload_n 0, 1),
  (48, .bipush 8, 2),
  (50, .invokevirtual 88, 3),
  (53, .i2l, 1),
  (54, .lreturn, 1),
  (55, .aload_n 0, 1),
  (56, .iload_n 2, 1),
  (57, .invokevirtual 172, 3),
  (60, .iload_n 2, 1),
  (61, .aload_n 0, 1),
  (62, .getfield 19, 3),
  (65, .invokevirtual 176, 3),
  (68, .invokevirtual 180, 3),
  (71, .ldc2_w 221, 3),
  (74, .lcmp, 1),
  (75, .ifCond .lt 11, 3),
  (78, .aload_n 0, 1),
  (79, .bipush 9, 2),
  (81, .invokevirtual 88, 3),
  (84, .i2l, 1),
  (85, .lreturn, 1),
  (86, .aload_n 0, 1),
  (87, .aload_n 0, 1),
  (88, .iload_n 1, 1),
  (89, .iload_n 2, 1),
  (90, .invokevirtual 234, 3),
  (93, .invokevirtual 204, 3),
  (96, .lreturn, 1)]
set_option maxRecDepth 100000 in
theorem tX8_number_ok : ∀ q ∈ tX8_number, decode cX8_number q.1 = .ok q.2 := by decide +kernel
theorem dX8_number_0 : decode cX8_number 0 = .ok (.aload_n 0, 1) := tX8_number_ok (0, .aload_n 0, 1) (List.mem_of_getElem? (i := 0) rfl)
theorem dX8_number_1 : decode cX8_number 1 = .ok (.iload_n 1, 1) := tX8_number_ok (1, .iload_n 1, 1) (List.mem_of_getElem? (i := 1) rfl)
theorem dX8_number_2 : decode cX8_number 2 = .ok (.iload_n 2, 1) := tX8_number_ok (2, .iload_n 2, 1) (List.mem_of_getElem? (i := 2) rfl)
theorem dX8_number_3 : decode cX8_number 3 = .ok (.bipush 60, 2) := tX8_number_ok (3, .bipush 60, 2) (List.mem_of_getElem? (i := 3) rfl)
theorem dX8_number_5 : decode cX8_number 5 = .ok (.invokevirtual 227, 3) := tX8_number_ok (5, .invokevirtual 227, 3) (List.mem_of_getElem? (i := 4) rfl)
theorem dX8_number_8 : decode cX8_number 8 = .ok (.istore_n 3, 1) := tX8_number_ok (8, .istore_n 3, 1) (List.mem_of_getElem? (i := 5) rfl)
theorem dX8_number_9 : decode cX8_number 9 = .ok (.iload_n 3, 1) := tX8_number_ok (9, .iload_n 3, 1) (List.mem_of_getElem? (i := 6) rfl)
theorem dX8_number_10 : decode cX8_number 10 = .ok (.ifCond .eq 10, 3) := tX8_number_ok (10, .ifCond .eq 10, 3) (List.mem_of_getElem? (i := 7) rfl)
theorem dX8_number_13 : decode cX8_number 13 = .ok (.aload_n 0, 1) := tX8_number_ok (13, .aload_n 0, 1) (List.mem_of_getElem? (i := 8) rfl)
theorem dX8_number_14 : decode cX8_number 14 = .ok (.iload_n 3, 1) := tX8_number_ok (14, .iload_n 3, 1) (List.mem_of_getElem? (i := 9) rfl)
theorem dX8_number_15 : decode cX8_number 15 = .ok (.invokevirtual 88, 3) := tX8_number_ok (15, .invokevirtual 88, 3) (List.mem_of_getElem? (i := 10) rfl)
theorem dX8_number_18 : decode cX8_number 18 = .ok (.i2l, 1) := tX8_number_ok (18, .i2l, 1) (List.mem_of_getElem? (i := 11) rfl)
theorem dX8_number_19 : decode cX8_number 19 = .ok (.lreturn, 1) := tX8_number_ok (19, .lreturn, 1) (List.mem_of_getElem? (i := 12) rfl)
theorem dX8_number_20 : decode cX8_number 20 = .ok (.aload_n 0, 1) := tX8_number_ok (20, .aload_n 0, 1) (List.mem_of_getElem? (i := 13) rfl)
theorem dX8_number_21 : decode cX8_number 21 = .ok (.getfield 19, 3) := tX8_number_ok (21, .getfield 19, 3) (List.mem_of_getElem? (i := 14) rfl)
theorem dX8_number_24 : decode cX8_number 24 = .ok (.invokevirtual 198, 3) := tX8_number_ok (24, .invokevirtual 198, 3) (List.mem_of_getElem? (i := 15) rfl)
theorem dX8_number_27 : decode cX8_number 27 = .ok (.ifCond .ne 11, 3) := tX8_number_ok (27, .ifCond .ne 11, 3) (List.mem_of_getElem? (i := 16) rfl)
theorem dX8_number_30 : decode cX8_number 30 = .ok (.aload_n 0, 1) := tX8_number_ok (30, .aload_n 0, 1) (List.mem_of_getElem? (i := 17) rfl)
theorem dX8_number_31 : decode cX8_number 31 = .ok (.bipush 7, 2) := tX8_number_ok (31, .bipush 7, 2) (List.mem_of_getElem? (i := 18) rfl)
theorem dX8_number_33 : decode cX8_number 33 = .ok (.invokevirtual 88, 3) := tX8_number_ok (33, .invokevirtual 88, 3) (List.mem_of_getElem? (i := 19) rfl)
theorem dX8_number_36 : decode cX8_number 36 = .ok (.i2l, 1) := tX8_number_ok (36, .i2l, 1) (List.mem_of_getElem? (i := 20) rfl)
theorem dX8_number_37 : decode cX8_number 37 = .ok (.lreturn, 1) := tX8_number_ok (37, .lreturn, 1) (List.mem_of_getElem? (i := 21) rfl)
theorem dX8_number_38 : decode cX8_number 38 = .ok (.aload_n 0, 1) := tX8_number_ok (38, .aload_n 0, 1) (List.mem_of_getElem? (i := 22) rfl)
theorem dX8_number_39 : decode cX8_number 39 = .ok (.iload_n 1, 1) := tX8_number_ok (39, .iload_n 1, 1) (List.mem_of_getElem? (i := 23) rfl)
theorem dX8_number_40 : decode cX8_number 40 = .ok (.iload_n 2, 1) := tX8_number_ok (40, .iload_n 2, 1) (List.mem_of_getElem? (i := 24) rfl)
theorem dX8_number_41 : decode cX8_number 41 = .ok (.invokevirtual 231, 3) := tX8_number_ok (41, .invokevirtual 231, 3) (List.mem_of_getElem? (i := 25) rfl)
theorem dX8_number_44 : decode cX8_number 44 = .ok (.ifCond .ne 11, 3) := tX8_number_ok (44, .ifCond .ne 11, 3) (List.mem_of_getElem? (i := 26) rfl)
theorem dX8_number_47 : decode cX8_number 47 = .ok (.aload_n 0, 1) := tX8_number_ok (47, .aload_n 0, 1) (List.mem_of_getElem? (i := 27) rfl)
theorem dX8_number_48 : decode cX8_number 48 = .ok (.bipush 8, 2) := tX8_number_ok (48, .bipush 8, 2) (List.mem_of_getElem? (i := 28) rfl)
theorem dX8_number_50 : decode cX8_number 50 = .ok (.invokevirtual 88, 3) := tX8_number_ok (50, .invokevirtual 88, 3) (List.mem_of_getElem? (i := 29) rfl)
theorem dX8_number_53 : decode cX8_number 53 = .ok (.i2l, 1) := tX8_number_ok (53, .i2l, 1) (List.mem_of_getElem? (i := 30) rfl)
theorem dX8_number_54 : decode cX8_number 54 = .ok (.lreturn, 1) := tX8_number_ok (54, .lreturn, 1) (List.mem_of_getElem? (i := 31) rfl)
theorem dX8_number_55 : decode cX8_number 55 = .ok (.aload_n 0, 1) := tX8_number_ok (55, .aload_n 0, 1) (List.mem_of_getElem? (i := 32) rfl)
theorem dX8_number_56 : decode cX8_number 56 = .ok (.iload_n 2, 1) := tX8_number_ok (56, .iload_n 2, 1) (List.mem_of_getElem? (i := 33) rfl)
theorem dX8_number_57 : decode cX8_number 57 = .ok (.invokevirtual 172, 3) := tX8_number_ok (57, .invokevirtual 172, 3) (List.mem_of_getElem? (i := 34) rfl)
theorem dX8_number_60 : decode cX8_number 60 = .ok (.iload_n 2, 1) := tX8_number_ok (60, .iload_n 2, 1) (List.mem_of_getElem? (i := 35) rfl)
theorem dX8_number_61 : decode cX8_number 61 = .ok (.aload_n 0, 1) := tX8_number_ok (61, .aload_n 0, 1) (List.mem_of_getElem? (i := 36) rfl)
theorem dX8_number_62 : decode cX8_number 62 = .ok (.getfield 19, 3) := tX8_number_ok (62, .getfield 19, 3) (List.mem_of_getElem? (i := 37) rfl)
theorem dX8_number_65 : decode cX8_number 65 = .ok (.invokevirtual 176, 3) := tX8_number_ok (65, .invokevirtual 176, 3) (List.mem_of_getElem? (i := 38) rfl)
theorem dX8_number_68 : decode cX8_number 68 = .ok (.invokevirtual 180, 3) := tX8_number_ok (68, .invokevirtual 180, 3) (List.mem_of_getElem? (i := 39) rfl)
theorem dX8_number_71 : decode cX8_number 71 = .ok (.ldc2_w 221, 3) := tX8_number_ok (71, .ldc2_w 221, 3) (List.mem_of_getElem? (i := 40) rfl)
theorem dX8_number_74 : decode cX8_number 74 = .ok (.lcmp, 1) := tX8_number_ok (74, .lcmp, 1) (List.mem_of_getElem? (i := 41) rfl)
theorem dX8_number_75 : decode cX8_number 75 = .ok (.ifCond .lt 11, 3) := tX8_number_ok (75, .ifCond .lt 11, 3) (List.mem_of_getElem? (i := 42) rfl)
theorem dX8_number_78 : decode cX8_number 78 = .ok (.aload_n 0, 1) := tX8_number_ok (78, .aload_n 0, 1) (List.mem_of_getElem? (i := 43) rfl)
theorem dX8_number_79 : decode cX8_number 79 = .ok (.bipush 9, 2) := tX8_number_ok (79, .bipush 9, 2) (List.mem_of_getElem? (i := 44) rfl)
theorem dX8_number_81 : decode cX8_number 81 = .ok (.invokevirtual 88, 3) := tX8_number_ok (81, .invokevirtual 88, 3) (List.mem_of_getElem? (i := 45) rfl)
theorem dX8_number_84 : decode cX8_number 84 = .ok (.i2l, 1) := tX8_number_ok (84, .i2l, 1) (List.mem_of_getElem? (i := 46) rfl)
theorem dX8_number_85 : decode cX8_number 85 = .ok (.lreturn, 1) := tX8_number_ok (85, .lreturn, 1) (List.mem_of_getElem? (i := 47) rfl)
theorem dX8_number_86 : decode cX8_number 86 = .ok (.aload_n 0, 1) := tX8_number_ok (86, .aload_n 0, 1) (List.mem_of_getElem? (i := 48) rfl)
theorem dX8_number_87 : decode cX8_number 87 = .ok (.aload_n 0, 1) := tX8_number_ok (87, .aload_n 0, 1) (List.mem_of_getElem? (i := 49) rfl)
theorem dX8_number_88 : decode cX8_number 88 = .ok (.iload_n 1, 1) := tX8_number_ok (88, .iload_n 1, 1) (List.mem_of_getElem? (i := 50) rfl)
theorem dX8_number_89 : decode cX8_number 89 = .ok (.iload_n 2, 1) := tX8_number_ok (89, .iload_n 2, 1) (List.mem_of_getElem? (i := 51) rfl)
theorem dX8_number_90 : decode cX8_number 90 = .ok (.invokevirtual 234, 3) := tX8_number_ok (90, .invokevirtual 234, 3) (List.mem_of_getElem? (i := 52) rfl)
theorem dX8_number_93 : decode cX8_number 93 = .ok (.invokevirtual 204, 3) := tX8_number_ok (93, .invokevirtual 204, 3) (List.mem_of_getElem? (i := 53) rfl)
theorem dX8_number_96 : decode cX8_number 96 = .ok (.lreturn, 1) := tX8_number_ok (96, .lreturn, 1) (List.mem_of_getElem? (i := 54) rfl)

def tX8_draw : List (Nat × Instr × Nat) := [
  (0, .iload_n 2, 1),
  (1, .ifCond .ge 10, 3),
  (4, .aload_n 0, 1),
  (5, .iconst 2, 1),
  (6, .invokevirtual 88, 3),
  (9, .i2l, 1),
  (10, .lreturn, 1),
  (11, .aload_n 0, 1),
  (12, .iload_n 1, 1),
  (13, .bipush 60, 2),
  (15, .invokevirtual 169, 3),
  (18, .istore_n 3, 1),
  (19, .iload_n 3, 1),
  (20, .ifCond .eq 10, 3),
  (23, .aload_n 0, 1),
  (24, .iload_n 3, 1),
  (25, .invokevirtual 88, 3),
  (28, .i2l, 1),
  (29, .lreturn, 1),
  (30, .aload_n 0, 1),
  (31, .iload_n 1, 1),
  (32, .invokevirtual 172, 3),
  (35, .iload_n 1, 1),
  (36, .aload_n 0, 1),
  (37, .getfield 19, 3),
  (40, .invokevirtual 176, 3),
  (43, .invokevirtual 180, 3),
  (46, .lstore 4, 2),
  (48, .lload 4, 2),
  (50, .lconst 0, 1),
  (51, .lcmp, 1),
  (52, .ifCond .gt 11, 3),
  (55, .aload_n 0, 1),
  (56, .bipush 8, 2),
  (58, .invokevirtual 88, 3),
  (61, .i2l, 1),
  (62, .lreturn, 1),
  (63, .lload 4, 2),
  (65, .ldc2_w 221, 3),
  (68, .lcmp, 1),
  (69, .ifCond .lt 11, 3),
  (72, .aload_n 0, 1),
  (73, .bipush 9, 2),
  (75, .invokevirtual 88, 3),
  (78, .i2l, 1),
  (79, .lreturn, 1),
  (80, .aload_n 0, 1),
  (81, .lload 4, 2),
  (83, .iload_n 2, 1),
  (84, .invokestatic 237, 3),
  (87, .invokevirtual 204, 3),
  (90, .lreturn, 1)]
set_option maxRecDepth 100000 in
theorem tX8_draw_ok : ∀ q ∈ tX8_draw, decode cX8_draw q.1 = .ok q.2 := by decide +kernel
theorem dX8_draw_0 : decode cX8_draw 0 = .ok (.iload_n 2, 1) := tX8_draw_ok (0, .iload_n 2, 1) (List.mem_of_getElem? (i := 0) rfl)
theorem dX8_draw_1 : decode cX8_draw 1 = .ok (.ifCond .ge 10, 3) := tX8_draw_ok (1, .ifCond .ge 10, 3) (List.mem_of_getElem? (i := 1) rfl)
theorem dX8_draw_4 : decode cX8_draw 4 = .ok (.aload_n 0, 1) := tX8_draw_ok (4, .aload_n 0, 1) (List.mem_of_getElem? (i := 2) rfl)
theorem dX8_draw_5 : decode cX8_draw 5 = .ok (.iconst 2, 1) := tX8_draw_ok (5, .iconst 2, 1) (List.mem_of_getElem? (i := 3) rfl)
theorem dX8_draw_6 : decode cX8_draw 6 = .ok (.invokevirtual 88, 3) := tX8_draw_ok (6, .invokevirtual 88, 3) (List.mem_of_getElem? (i := 4) rfl)
theorem dX8_draw_9 : decode cX8_draw 9 = .ok (.i2l, 1) := tX8_draw_ok (9, .i2l, 1) (List.mem_of_getElem? (i := 5) rfl)
theorem dX8_draw_10 : decode cX8_draw 10 = .ok (.lreturn, 1) := tX8_draw_ok (10, .lreturn, 1) (List.mem_of_getElem? (i := 6) rfl)
theorem dX8_draw_11 : decode cX8_draw 11 = .ok (.aload_n 0, 1) := tX8_draw_ok (11, .aload_n 0, 1) (List.mem_of_getElem? (i := 7) rfl)
theorem dX8_draw_12 : decode cX8_draw 12 = .ok (.iload_n 1, 1) := tX8_draw_ok (12, .iload_n 1, 1) (List.mem_of_getElem? (i := 8) rfl)
theorem dX8_draw_13 : decode cX8_draw 13 = .ok (.bipush 60, 2) := tX8_draw_ok (13, .bipush 60, 2) (List.mem_of_getElem? (i := 9) rfl)
theorem dX8_draw_15 : decode cX8_draw 15 = .ok (.invokevirtual 169, 3) := tX8_draw_ok (15, .invokevirtual 169, 3) (List.mem_of_getElem? (i := 10) rfl)
theorem dX8_draw_18 : decode cX8_draw 18 = .ok (.istore_n 3, 1) := tX8_draw_ok (18, .istore_n 3, 1) (List.mem_of_getElem? (i := 11) rfl)
theorem dX8_draw_19 : decode cX8_draw 19 = .ok (.iload_n 3, 1) := tX8_draw_ok (19, .iload_n 3, 1) (List.mem_of_getElem? (i := 12) rfl)
theorem dX8_draw_20 : decode cX8_draw 20 = .ok (.ifCond .eq 10, 3) := tX8_draw_ok (20, .ifCond .eq 10, 3) (List.mem_of_getElem? (i := 13) rfl)
theorem dX8_draw_23 : decode cX8_draw 23 = .ok (.aload_n 0, 1) := tX8_draw_ok (23, .aload_n 0, 1) (List.mem_of_getElem? (i := 14) rfl)
theorem dX8_draw_24 : decode cX8_draw 24 = .ok (.iload_n 3, 1) := tX8_draw_ok (24, .iload_n 3, 1) (List.mem_of_getElem? (i := 15) rfl)
theorem dX8_draw_25 : decode cX8_draw 25 = .ok (.invokevirtual 88, 3) := tX8_draw_ok (25, .invokevirtual 88, 3) (List.mem_of_getElem? (i := 16) rfl)
theorem dX8_draw_28 : decode cX8_draw 28 = .ok (.i2l, 1) := tX8_draw_ok (28, .i2l, 1) (List.mem_of_getElem? (i := 17) rfl)
theorem dX8_draw_29 : decode cX8_draw 29 = .ok (.lreturn, 1) := tX8_draw_ok (29, .lreturn, 1) (List.mem_of_getElem? (i := 18) rfl)
theorem dX8_draw_30 : decode cX8_draw 30 = .ok (.aload_n 0, 1) := tX8_draw_ok (30, .aload_n 0, 1) (List.mem_of_getElem? (i := 19) rfl)
theorem dX8_draw_31 : decode cX8_draw 31 = .ok (.iload_n 1, 1) := tX8_draw_ok (31, .iload_n 1, 1) (List.mem_of_getElem? (i := 20) rfl)
theorem dX8_draw_32 : decode cX8_draw 32 = .ok (.invokevirtual 172, 3) := tX8_draw_ok (32, .invokevirtual 172, 3) (List.mem_of_getElem? (i := 21) rfl)
theorem dX8_draw_35 : decode cX8_draw 35 = .ok (.iload_n 1, 1) := tX8_draw_ok (35, .iload_n 1, 1) (List.mem_of_getElem? (i := 22) rfl)
theorem dX8_draw_36 : decode cX8_draw 36 = .ok (.aload_n 0, 1) := tX8_draw_ok (36, .aload_n 0, 1) (List.mem_of_getElem? (i := 23) rfl)
theorem dX8_draw_37 : decode cX8_draw 37 = .ok (.getfield 19, 3) := tX8_draw_ok (37, .getfield 19, 3) (List.mem_of_getElem? (i := 24) rfl)
theorem dX8_draw_40 : decode cX8_draw 40 = .ok (.invokevirtual 176, 3) := tX8_draw_ok (40, .invokevirtual 176, 3) (List.mem_of_getElem? (i := 25) rfl)
theorem dX8_draw_43 : decode cX8_draw 43 = .ok (.invokevirtual 180, 3) := tX8_draw_ok (43, .invokevirtual 180, 3) (List.mem_of_getElem? (i := 26) rfl)
theorem dX8_draw_46 : decode cX8_draw 46 = .ok (.lstore 4, 2) := tX8_draw_ok (46, .lstore 4, 2) (List.mem_of_getElem? (i := 27) rfl)
theorem dX8_draw_48 : decode cX8_draw 48 = .ok (.lload 4, 2) := tX8_draw_ok (48, .lload 4, 2) (List.mem_of_getElem? (i := 28) rfl)
theorem dX8_draw_50 : decode cX8_draw 50 = .ok (.lconst 0, 1) := tX8_draw_ok (50, .lconst 0, 1) (List.mem_of_getElem? (i := 29) rfl)
theorem dX8_draw_51 : decode cX8_draw 51 = .ok (.lcmp, 1) := tX8_draw_ok (51, .lcmp, 1) (List.mem_of_getElem? (i := 30) rfl)
theorem dX8_draw_52 : decode cX8_draw 52 = .ok (.ifCond .gt 11, 3) := tX8_draw_ok (52, .ifCond .gt 11, 3) (List.mem_of_getElem? (i := 31) rfl)
theorem dX8_draw_55 : decode cX8_draw 55 = .ok (.aload_n 0, 1) := tX8_draw_ok (55, .aload_n 0, 1) (List.mem_of_getElem? (i := 32) rfl)
theorem dX8_draw_56 : decode cX8_draw 56 = .ok (.bipush 8, 2) := tX8_draw_ok (56, .bipush 8, 2) (List.mem_of_getElem? (i := 33) rfl)
theorem dX8_draw_58 : decode cX8_draw 58 = .ok (.invokevirtual 88, 3) := tX8_draw_ok (58, .invokevirtual 88, 3) (List.mem_of_getElem? (i := 34) rfl)
theorem dX8_draw_61 : decode cX8_draw 61 = .ok (.i2l, 1) := tX8_draw_ok (61, .i2l, 1) (List.mem_of_getElem? (i := 35) rfl)
theorem dX8_draw_62 : decode cX8_draw 62 = .ok (.lreturn, 1) := tX8_draw_ok (62, .lreturn, 1) (List.mem_of_getElem? (i := 36) rfl)
theorem dX8_draw_63 : decode cX8_draw 63 = .ok (.lload 4, 2) := tX8_draw_ok (63, .lload 4, 2) (List.mem_of_getElem? (i := 37) rfl)
theorem dX8_draw_65 : decode cX8_draw 65 = .ok (.ldc2_w 221, 3) := tX8_draw_ok (65, .ldc2_w 221, 3) (List.mem_of_getElem? (i := 38) rfl)
theorem dX8_draw_68 : decode cX8_draw 68 = .ok (.lcmp, 1) := tX8_draw_ok (68, .lcmp, 1) (List.mem_of_getElem? (i := 39) rfl)
theorem dX8_draw_69 : decode cX8_draw 69 = .ok (.ifCond .lt 11, 3) := tX8_draw_ok (69, .ifCond .lt 11, 3) (List.mem_of_getElem? (i := 40) rfl)
theorem dX8_draw_72 : decode cX8_draw 72 = .ok (.aload_n 0, 1) := tX8_draw_ok (72, .aload_n 0, 1) (List.mem_of_getElem? (i := 41) rfl)
theorem dX8_draw_73 : decode cX8_draw 73 = .ok (.bipush 9, 2) := tX8_draw_ok (73, .bipush 9, 2) (List.mem_of_getElem? (i := 42) rfl)
theorem dX8_draw_75 : decode cX8_draw 75 = .ok (.invokevirtual 88, 3) := tX8_draw_ok (75, .invokevirtual 88, 3) (List.mem_of_getElem? (i := 43) rfl)
theorem dX8_draw_78 : decode cX8_draw 78 = .ok (.i2l, 1) := tX8_draw_ok (78, .i2l, 1) (List.mem_of_getElem? (i := 44) rfl)
theorem dX8_draw_79 : decode cX8_draw 79 = .ok (.lreturn, 1) := tX8_draw_ok (79, .lreturn, 1) (List.mem_of_getElem? (i := 45) rfl)
theorem dX8_draw_80 : decode cX8_draw 80 = .ok (.aload_n 0, 1) := tX8_draw_ok (80, .aload_n 0, 1) (List.mem_of_getElem? (i := 46) rfl)
theorem dX8_draw_81 : decode cX8_draw 81 = .ok (.lload 4, 2) := tX8_draw_ok (81, .lload 4, 2) (List.mem_of_getElem? (i := 47) rfl)
theorem dX8_draw_83 : decode cX8_draw 83 = .ok (.iload_n 2, 1) := tX8_draw_ok (83, .iload_n 2, 1) (List.mem_of_getElem? (i := 48) rfl)
theorem dX8_draw_84 : decode cX8_draw 84 = .ok (.invokestatic 237, 3) := tX8_draw_ok (84, .invokestatic 237, 3) (List.mem_of_getElem? (i := 49) rfl)
theorem dX8_draw_87 : decode cX8_draw 87 = .ok (.invokevirtual 204, 3) := tX8_draw_ok (87, .invokevirtual 204, 3) (List.mem_of_getElem? (i := 50) rfl)
theorem dX8_draw_90 : decode cX8_draw 90 = .ok (.lreturn, 1) := tX8_draw_ok (90, .lreturn, 1) (List.mem_of_getElem? (i := 51) rfl)

def tX8_mirror : List (Nat × Instr × Nat) := [
  (0, .iload_n 1, 1),
  (1, .ifCond .lt 12, 3),
  (4, .iload_n 2, 1),
  (5, .iconst 0, 1),
  (6, .iconst 1, 1),
  (7, .invokestatic 66, 3),
  (10, .ifCond .ne 10, 3),
  (13, .aload_n 0, 1),
  (14, .iconst 2, 1),
  (15, .invokevirtual 88, 3),
  (18, .i2l, 1),
  (19, .lreturn, 1),
  (20, .aload_n 0, 1),
  (21, .getfield 19, 3),
  (24, .getfield 241, 3),
  (27, .iconst 1, 1),
  (28, .if_icmp .ne 13, 3),
  (31, .aload_n 0, 1),
  (32, .getfield 19, 3),
  (35, .invokevirtual 244, 3),
  (38, .ifCond .ne 10, 3),
  (41, .aload_n 0, 1),
  (42, .iconst 5, 1),
  (43, .invokevirtual 88, 3),
  (46, .i2l, 1),
  (47, .lreturn, 1),
  (48, .aload_n 0, 1),
  (49, .getfield 19, 3),
  (52, .invokevirtual 198, 3),
  (55, .ifCond .eq 13, 3),
  (58, .aload_n 0, 1),
  (59, .getfield 19, 3),
  (62, .getfield 151, 3),
  (65, .ifCond .le 11, 3),
  (68, .aload_n 0, 1),
  (69, .bipush 7, 2),
  (71, .invokevirtual 88, 3),
  (74, .i2l, 1),
  (75, .lreturn, 1),
  (76, .iload_n 1, 1),
  (77, .i2l, 1),
  (78, .aload_n 0, 1),
  (79, .getfield 19, 3),
  (82, .getfield 157, 3),
  (85, .i2l, 1),
  (86, .ladd, 1),
  (87, .ldc2_w 247, 3),
  (90, .lcmp, 1),
  (91, .ifCond .gt 28, 3),
  (94, .ldc2_w 249, 3),
  (97, .iload_n 1, 1),
  (98, .i2l, 1),
  (99, .lmul, 1),
  (100, .aload_n 0, 1),
  (101, .getfield 19, 3),
  (104, .getfield 154, 3),
  (107, .invokestatic 251, 3),
  (110, .i2l, 1),
  (111, .ladd, 1),
  (112, .ldc2_w 256, 3),
  (115, .lcmp, 1),
  (116, .ifCond .le 11, 3),
  (119, .aload_n 0, 1),
  (120, .bipush 10, 2),
  (122, .invokevirtual 88, 3),
  (125, .i2l, 1),
  (126, .lreturn, 1),
  (127, .iload_n 2, 1),
  (128, .ifCond .ne 13, 3),
  (131, .aload_n 0, 1),
  (132, .getfield 19, 3),
  (135, .getfield 163, 3),
  (138, .goto 13, 3),
  (141, .bipush (-2), 2),
  (143, .aload_n 0, 1),
  (144, .getfield 19, 3),
  (147, .getfield 163, 3),
  (150, .isub, 1),
  (151, .istore_n 3, 1),
  (152, .aload_n 0, 1),
  (153, .aload_n 0, 1),
  (154, .getfield 33, 3),
  (157, .aload_n 0, 1),
  (158, .getfield 19, 3),
  (161, .iload_n 1, 1),
  (162, .iload_n 3, 1),
  (163, .invokevirtual 258, 3),
  (166, .invokevirtual 204, 3),
  (169, .lreturn, 1)]
set_option maxRecDepth 100000 in
theorem tX8_mirror_ok : ∀ q ∈ tX8_mirror, decode cX8_mirror q.1 = .ok q.2 := by decide +kernel
theorem dX8_mirror_0 : decode cX8_mirror 0 = .ok (.iload_n 1, 1) := tX8_mirror_ok (0, .iload_n 1, 1) (List.mem_of_getElem? (i := 0) rfl)
theorem dX8_mirror_1 : decode cX8_mirror 1 = .ok (.ifCond .lt 12, 3) := tX8_mirror_ok (1, .ifCond .lt 12, 3) (List.mem_of_getElem? (i := 1) rfl)
theorem dX8_mirror_4 : decode cX8_mirror 4 = .ok (.iload_n 2, 1) := tX8_mirror_ok (4, .iload_n 2, 1) (List.mem_of_getElem? (i := 2) rfl)
theorem dX8_mirror_5 : decode cX8_mirror 5 = .ok (.iconst 0, 1) := tX8_mirror_ok (5, .iconst 0, 1) (List.mem_of_getElem? (i := 3) rfl)
theorem dX8_mirror_6 : decode cX8_mirror 6 = .ok (.iconst 1, 1) := tX8_mirror_ok (6, .iconst 1, 1) (List.mem_of_getElem? (i := 4) rfl)
theorem dX8_mirror_7 : decode cX8_mirror 7 = .ok (.invokestatic 66, 3) := tX8_mirror_ok (7, .invokestatic 66, 3) (List.mem_of_getElem? (i := 5) rfl)
theorem dX8_mirror_10 : decode cX8_mirror 10 = .ok (.ifCond .ne 10, 3) := tX8_mirror_ok (10, .ifCond .ne 10, 3) (List.mem_of_getElem? (i := 6) rfl)
theorem dX8_mirror_13 : decode cX8_mirror 13 = .ok (.aload_n 0, 1) := tX8_mirror_ok (13, .aload_n 0, 1) (List.mem_of_getElem? (i := 7) rfl)
theorem dX8_mirror_14 : decode cX8_mirror 14 = .ok (.iconst 2, 1) := tX8_mirror_ok (14, .iconst 2, 1) (List.mem_of_getElem? (i := 8) rfl)
theorem dX8_mirror_15 : decode cX8_mirror 15 = .ok (.invokevirtual 88, 3) := tX8_mirror_ok (15, .invokevirtual 88, 3) (List.mem_of_getElem? (i := 9) rfl)
theorem dX8_mirror_18 : decode cX8_mirror 18 = .ok (.i2l, 1) := tX8_mirror_ok (18, .i2l, 1) (List.mem_of_getElem? (i := 10) rfl)
theorem dX8_mirror_19 : decode cX8_mirror 19 = .ok (.lreturn, 1) := tX8_mirror_ok (19, .lreturn, 1) (List.mem_of_getElem? (i := 11) rfl)
theorem dX8_mirror_20 : decode cX8_mirror 20 = .ok (.aload_n 0, 1) := tX8_mirror_ok (20, .aload_n 0, 1) (List.mem_of_getElem? (i := 12) rfl)
theorem dX8_mirror_21 : decode cX8_mirror 21 = .ok (.getfield 19, 3) := tX8_mirror_ok (21, .getfield 19, 3) (List.mem_of_getElem? (i := 13) rfl)
theorem dX8_mirror_24 : decode cX8_mirror 24 = .ok (.getfield 241, 3) := tX8_mirror_ok (24, .getfield 241, 3) (List.mem_of_getElem? (i := 14) rfl)
theorem dX8_mirror_27 : decode cX8_mirror 27 = .ok (.iconst 1, 1) := tX8_mirror_ok (27, .iconst 1, 1) (List.mem_of_getElem? (i := 15) rfl)
theorem dX8_mirror_28 : decode cX8_mirror 28 = .ok (.if_icmp .ne 13, 3) := tX8_mirror_ok (28, .if_icmp .ne 13, 3) (List.mem_of_getElem? (i := 16) rfl)
theorem dX8_mirror_31 : decode cX8_mirror 31 = .ok (.aload_n 0, 1) := tX8_mirror_ok (31, .aload_n 0, 1) (List.mem_of_getElem? (i := 17) rfl)
theorem dX8_mirror_32 : decode cX8_mirror 32 = .ok (.getfield 19, 3) := tX8_mirror_ok (32, .getfield 19, 3) (List.mem_of_getElem? (i := 18) rfl)
theorem dX8_mirror_35 : decode cX8_mirror 35 = .ok (.invokevirtual 244, 3) := tX8_mirror_ok (35, .invokevirtual 244, 3) (List.mem_of_getElem? (i := 19) rfl)
theorem dX8_mirror_38 : decode cX8_mirror 38 = .ok (.ifCond .ne 10, 3) := tX8_mirror_ok (38, .ifCond .ne 10, 3) (List.mem_of_getElem? (i := 20) rfl)
theorem dX8_mirror_41 : decode cX8_mirror 41 = .ok (.aload_n 0, 1) := tX8_mirror_ok (41, .aload_n 0, 1) (List.mem_of_getElem? (i := 21) rfl)
theorem dX8_mirror_42 : decode cX8_mirror 42 = .ok (.iconst 5, 1) := tX8_mirror_ok (42, .iconst 5, 1) (List.mem_of_getElem? (i := 22) rfl)
theorem dX8_mirror_43 : decode cX8_mirror 43 = .ok (.invokevirtual 88, 3) := tX8_mirror_ok (43, .invokevirtual 88, 3) (List.mem_of_getElem? (i := 23) rfl)
theorem dX8_mirror_46 : decode cX8_mirror 46 = .ok (.i2l, 1) := tX8_mirror_ok (46, .i2l, 1) (List.mem_of_getElem? (i := 24) rfl)
theorem dX8_mirror_47 : decode cX8_mirror 47 = .ok (.lreturn, 1) := tX8_mirror_ok (47, .lreturn, 1) (List.mem_of_getElem? (i := 25) rfl)
theorem dX8_mirror_48 : decode cX8_mirror 48 = .ok (.aload_n 0, 1) := tX8_mirror_ok (48, .aload_n 0, 1) (List.mem_of_getElem? (i := 26) rfl)
theorem dX8_mirror_49 : decode cX8_mirror 49 = .ok (.getfield 19, 3) := tX8_mirror_ok (49, .getfield 19, 3) (List.mem_of_getElem? (i := 27) rfl)
theorem dX8_mirror_52 : decode cX8_mirror 52 = .ok (.invokevirtual 198, 3) := tX8_mirror_ok (52, .invokevirtual 198, 3) (List.mem_of_getElem? (i := 28) rfl)
theorem dX8_mirror_55 : decode cX8_mirror 55 = .ok (.ifCond .eq 13, 3) := tX8_mirror_ok (55, .ifCond .eq 13, 3) (List.mem_of_getElem? (i := 29) rfl)
theorem dX8_mirror_58 : decode cX8_mirror 58 = .ok (.aload_n 0, 1) := tX8_mirror_ok (58, .aload_n 0, 1) (List.mem_of_getElem? (i := 30) rfl)
theorem dX8_mirror_59 : decode cX8_mirror 59 = .ok (.getfield 19, 3) := tX8_mirror_ok (59, .getfield 19, 3) (List.mem_of_getElem? (i := 31) rfl)
theorem dX8_mirror_62 : decode cX8_mirror 62 = .ok (.getfield 151, 3) := tX8_mirror_ok (62, .getfield 151, 3) (List.mem_of_getElem? (i := 32) rfl)
theorem dX8_mirror_65 : decode cX8_mirror 65 = .ok (.ifCond .le 11, 3) := tX8_mirror_ok (65, .ifCond .le 11, 3) (List.mem_of_getElem? (i := 33) rfl)
theorem dX8_mirror_68 : decode cX8_mirror 68 = .ok (.aload_n 0, 1) := tX8_mirror_ok (68, .aload_n 0, 1) (List.mem_of_getElem? (i := 34) rfl)
theorem dX8_mirror_69 : decode cX8_mirror 69 = .ok (.bipush 7, 2) := tX8_mirror_ok (69, .bipush 7, 2) (List.mem_of_getElem? (i := 35) rfl)
theorem dX8_mirror_71 : decode cX8_mirror 71 = .ok (.invokevirtual 88, 3) := tX8_mirror_ok (71, .invokevirtual 88, 3) (List.mem_of_getElem? (i := 36) rfl)
theorem dX8_mirror_74 : decode cX8_mirror 74 = .ok (.i2l, 1) := tX8_mirror_ok (74, .i2l, 1) (List.mem_of_getElem? (i := 37) rfl)
theorem dX8_mirror_75 : decode cX8_mirror 75 = .ok (.lreturn, 1) := tX8_mirror_ok (75, .lreturn, 1) (List.mem_of_getElem? (i := 38) rfl)
theorem dX8_mirror_76 : decode cX8_mirror 76 = .ok (.iload_n 1, 1) := tX8_mirror_ok (76, .iload_n 1, 1) (List.mem_of_getElem? (i := 39) rfl)
theorem dX8_mirror_77 : decode cX8_mirror 77 = .ok (.i2l, 1) := tX8_mirror_ok (77, .i2l, 1) (List.mem_of_getElem? (i := 40) rfl)
theorem dX8_mirror_78 : decode cX8_mirror 78 = .ok (.aload_n 0, 1) := tX8_mirror_ok (78, .aload_n 0, 1) (List.mem_of_getElem? (i := 41) rfl)
theorem dX8_mirror_79 : decode cX8_mirror 79 = .ok (.getfield 19, 3) := tX8_mirror_ok (79, .getfield 19, 3) (List.mem_of_getElem? (i := 42) rfl)
theorem dX8_mirror_82 : decode cX8_mirror 82 = .ok (.getfield 157, 3) := tX8_mirror_ok (82, .getfield 157, 3) (List.mem_of_getElem? (i := 43) rfl)
theorem dX8_mirror_85 : decode cX8_mirror 85 = .ok (.i2l, 1) := tX8_mirror_ok (85, .i2l, 1) (List.mem_of_getElem? (i := 44) rfl)
theorem dX8_mirror_86 : decode cX8_mirror 86 = .ok (.ladd, 1) := tX8_mirror_ok (86, .ladd, 1) (List.mem_of_getElem? (i := 45) rfl)
theorem dX8_mirror_87 : decode cX8_mirror 87 = .ok (.ldc2_w 247, 3) := tX8_mirror_ok (87, .ldc2_w 247, 3) (List.mem_of_getElem? (i := 46) rfl)
theorem dX8_mirror_90 : decode cX8_mirror 90 = .ok (.lcmp, 1) := tX8_mirror_ok (90, .lcmp, 1) (List.mem_of_getElem? (i := 47) rfl)
theorem dX8_mirror_91 : decode cX8_mirror 91 = .ok (.ifCond .gt 28, 3) := tX8_mirror_ok (91, .ifCond .gt 28, 3) (List.mem_of_getElem? (i := 48) rfl)
theorem dX8_mirror_94 : decode cX8_mirror 94 = .ok (.ldc2_w 249, 3) := tX8_mirror_ok (94, .ldc2_w 249, 3) (List.mem_of_getElem? (i := 49) rfl)
theorem dX8_mirror_97 : decode cX8_mirror 97 = .ok (.iload_n 1, 1) := tX8_mirror_ok (97, .iload_n 1, 1) (List.mem_of_getElem? (i := 50) rfl)
theorem dX8_mirror_98 : decode cX8_mirror 98 = .ok (.i2l, 1) := tX8_mirror_ok (98, .i2l, 1) (List.mem_of_getElem? (i := 51) rfl)
theorem dX8_mirror_99 : decode cX8_mirror 99 = .ok (.lmul, 1) := tX8_mirror_ok (99, .lmul, 1) (List.mem_of_getElem? (i := 52) rfl)
theorem dX8_mirror_100 : decode cX8_mirror 100 = .ok (.aload_n 0, 1) := tX8_mirror_ok (100, .aload_n 0, 1) (List.mem_of_getElem? (i := 53) rfl)
theorem dX8_mirror_101 : decode cX8_mirror 101 = .ok (.getfield 19, 3) := tX8_mirror_ok (101, .getfield 19, 3) (List.mem_of_getElem? (i := 54) rfl)
theorem dX8_mirror_104 : decode cX8_mirror 104 = .ok (.getfield 154, 3) := tX8_mirror_ok (104, .getfield 154, 3) (List.mem_of_getElem? (i := 55) rfl)
theorem dX8_mirror_107 : decode cX8_mirror 107 = .ok (.invokestatic 251, 3) := tX8_mirror_ok (107, .invokestatic 251, 3) (List.mem_of_getElem? (i := 56) rfl)
theorem dX8_mirror_110 : decode cX8_mirror 110 = .ok (.i2l, 1) := tX8_mirror_ok (110, .i2l, 1) (List.mem_of_getElem? (i := 57) rfl)
theorem dX8_mirror_111 : decode cX8_mirror 111 = .ok (.ladd, 1) := tX8_mirror_ok (111, .ladd, 1) (List.mem_of_getElem? (i := 58) rfl)
theorem dX8_mirror_112 : decode cX8_mirror 112 = .ok (.ldc2_w 256, 3) := tX8_mirror_ok (112, .ldc2_w 256, 3) (List.mem_of_getElem? (i := 59) rfl)
theorem dX8_mirror_115 : decode cX8_mirror 115 = .ok (.lcmp, 1) := tX8_mirror_ok (115, .lcmp, 1) (List.mem_of_getElem? (i := 60) rfl)
theorem dX8_mirror_116 : decode cX8_mirror 116 = .ok (.ifCond .le 11, 3) := tX8_mirror_ok (116, .ifCond .le 11, 3) (List.mem_of_getElem? (i := 61) rfl)
theorem dX8_mirror_119 : decode cX8_mirror 119 = .ok (.aload_n 0, 1) := tX8_mirror_ok (119, .aload_n 0, 1) (List.mem_of_getElem? (i := 62) rfl)
theorem dX8_mirror_120 : decode cX8_mirror 120 = .ok (.bipush 10, 2) := tX8_mirror_ok (120, .bipush 10, 2) (List.mem_of_getElem? (i := 63) rfl)
theorem dX8_mirror_122 : decode cX8_mirror 122 = .ok (.invokevirtual 88, 3) := tX8_mirror_ok (122, .invokevirtual 88, 3) (List.mem_of_getElem? (i := 64) rfl)
theorem dX8_mirror_125 : decode cX8_mirror 125 = .ok (.i2l, 1) := tX8_mirror_ok (125, .i2l, 1) (List.mem_of_getElem? (i := 65) rfl)
theorem dX8_mirror_126 : decode cX8_mirror 126 = .ok (.lreturn, 1) := tX8_mirror_ok (126, .lreturn, 1) (List.mem_of_getElem? (i := 66) rfl)
theorem dX8_mirror_127 : decode cX8_mirror 127 = .ok (.iload_n 2, 1) := tX8_mirror_ok (127, .iload_n 2, 1) (List.mem_of_getElem? (i := 67) rfl)
theorem dX8_mirror_128 : decode cX8_mirror 128 = .ok (.ifCond .ne 13, 3) := tX8_mirror_ok (128, .ifCond .ne 13, 3) (List.mem_of_getElem? (i := 68) rfl)
theorem dX8_mirror_131 : decode cX8_mirror 131 = .ok (.aload_n 0, 1) := tX8_mirror_ok (131, .aload_n 0, 1) (List.mem_of_getElem? (i := 69) rfl)
theorem dX8_mirror_132 : decode cX8_mirror 132 = .ok (.getfield 19, 3) := tX8_mirror_ok (132, .getfield 19, 3) (List.mem_of_getElem? (i := 70) rfl)
theorem dX8_mirror_135 : decode cX8_mirror 135 = .ok (.getfield 163, 3) := tX8_mirror_ok (135, .getfield 163, 3) (List.mem_of_getElem? (i := 71) rfl)
theorem dX8_mirror_138 : decode cX8_mirror 138 = .ok (.goto 13, 3) := tX8_mirror_ok (138, .goto 13, 3) (List.mem_of_getElem? (i := 72) rfl)
theorem dX8_mirror_141 : decode cX8_mirror 141 = .ok (.bipush (-2), 2) := tX8_mirror_ok (141, .bipush (-2), 2) (List.mem_of_getElem? (i := 73) rfl)
theorem dX8_mirror_143 : decode cX8_mirror 143 = .ok (.aload_n 0, 1) := tX8_mirror_ok (143, .aload_n 0, 1) (List.mem_of_getElem? (i := 74) rfl)
theorem dX8_mirror_144 : decode cX8_mirror 144 = .ok (.getfield 19, 3) := tX8_mirror_ok (144, .getfield 19, 3) (List.mem_of_getElem? (i := 75) rfl)
theorem dX8_mirror_147 : decode cX8_mirror 147 = .ok (.getfield 163, 3) := tX8_mirror_ok (147, .getfield 163, 3) (List.mem_of_getElem? (i := 76) rfl)
theorem dX8_mirror_150 : decode cX8_mirror 150 = .ok (.isub, 1) := tX8_mirror_ok (150, .isub, 1) (List.mem_of_getElem? (i := 77) rfl)
theorem dX8_mirror_151 : decode cX8_mirror 151 = .ok (.istore_n 3, 1) := tX8_mirror_ok (151, .istore_n 3, 1) (List.mem_of_getElem? (i := 78) rfl)
theorem dX8_mirror_152 : decode cX8_mirror 152 = .ok (.aload_n 0, 1) := tX8_mirror_ok (152, .aload_n 0, 1) (List.mem_of_getElem? (i := 79) rfl)
theorem dX8_mirror_153 : decode cX8_mirror 153 = .ok (.aload_n 0, 1) := tX8_mirror_ok (153, .aload_n 0, 1) (List.mem_of_getElem? (i := 80) rfl)
theorem dX8_mirror_154 : decode cX8_mirror 154 = .ok (.getfield 33, 3) := tX8_mirror_ok (154, .getfield 33, 3) (List.mem_of_getElem? (i := 81) rfl)
theorem dX8_mirror_157 : decode cX8_mirror 157 = .ok (.aload_n 0, 1) := tX8_mirror_ok (157, .aload_n 0, 1) (List.mem_of_getElem? (i := 82) rfl)
theorem dX8_mirror_158 : decode cX8_mirror 158 = .ok (.getfield 19, 3) := tX8_mirror_ok (158, .getfield 19, 3) (List.mem_of_getElem? (i := 83) rfl)
theorem dX8_mirror_161 : decode cX8_mirror 161 = .ok (.iload_n 1, 1) := tX8_mirror_ok (161, .iload_n 1, 1) (List.mem_of_getElem? (i := 84) rfl)
theorem dX8_mirror_162 : decode cX8_mirror 162 = .ok (.iload_n 3, 1) := tX8_mirror_ok (162, .iload_n 3, 1) (List.mem_of_getElem? (i := 85) rfl)
theorem dX8_mirror_163 : decode cX8_mirror 163 = .ok (.invokevirtual 258, 3) := tX8_mirror_ok (163, .invokevirtual 258, 3) (List.mem_of_getElem? (i := 86) rfl)
theorem dX8_mirror_166 : decode cX8_mirror 166 = .ok (.invokevirtual 204, 3) := tX8_mirror_ok (166, .invokevirtual 204, 3) (List.mem_of_getElem? (i := 87) rfl)
theorem dX8_mirror_169 : decode cX8_mirror 169 = .ok (.lreturn, 1) := tX8_mirror_ok (169, .lreturn, 1) (List.mem_of_getElem? (i := 88) rfl)

def tX8_first : List (Nat × Instr × Nat) := [
  (0, .aload_n 0, 1),
  (1, .iload_n 1, 1),
  (2, .invokevirtual 262, 3),
  (5, .istore_n 2, 1),
  (6, .iload_n 2, 1),
  (7, .ifCond .eq 10, 3),
  (10, .aload_n 0, 1),
  (11, .iload_n 2, 1),
  (12, .invokevirtual 88, 3),
  (15, .i2l, 1),
  (16, .lreturn, 1),
  (17, .aload_n 0, 1),
  (18, .aload_n 0, 1),
  (19, .getfield 33, 3),
  (22, .aload_n 0, 1),
  (23, .getfield 19, 3),
  (26, .iload_n 1, 1),
  (27, .iconst 1, 1),
  (28, .invokevirtual 265, 3),
  (31, .invokevirtual 186, 3),
  (34, .lreturn, 1)]
set_option maxRecDepth 100000 in
theorem tX8_first_ok : ∀ q ∈ tX8_first, decode cX8_first q.1 = .ok q.2 := by decide +kernel
theorem dX8_first_0 : decode cX8_first 0 = .ok (.aload_n 0, 1) := tX8_first_ok (0, .aload_n 0, 1) (List.mem_of_getElem? (i := 0) rfl)
theorem dX8_first_1 : decode cX8_first 1 = .ok (.iload_n 1, 1) := tX8_first_ok (1, .iload_n 1, 1) (List.mem_of_getElem? (i := 1) rfl)
theorem dX8_first_2 : decode cX8_first 2 = .ok (.invokevirtual 262, 3) := tX8_first_ok (2, .invokevirtual 262, 3) (List.mem_of_getElem? (i := 2) rfl)
theorem dX8_first_5 : decode cX8_first 5 = .ok (.istore_n 2, 1) := tX8_first_ok (5, .istore_n 2, 1) (List.mem_of_getElem? (i := 3) rfl)
theorem dX8_first_6 : decode cX8_first 6 = .ok (.iload_n 2, 1) := tX8_first_ok (6, .iload_n 2, 1) (List.mem_of_getElem? (i := 4) rfl)
theorem dX8_first_7 : decode cX8_first 7 = .ok (.ifCond .eq 10, 3) := tX8_first_ok (7, .ifCond .eq 10, 3) (List.mem_of_getElem? (i := 5) rfl)
theorem dX8_first_10 : decode cX8_first 10 = .ok (.aload_n 0, 1) := tX8_first_ok (10, .aload_n 0, 1) (List.mem_of_getElem? (i := 6) rfl)
theorem dX8_first_11 : decode cX8_first 11 = .ok (.iload_n 2, 1) := tX8_first_ok (11, .iload_n 2, 1) (List.mem_of_getElem? (i := 7) rfl)
theorem dX8_first_12 : decode cX8_first 12 = .ok (.invokevirtual 88, 3) := tX8_first_ok (12, .invokevirtual 88, 3) (List.mem_of_getElem? (i := 8) rfl)
theorem dX8_first_15 : decode cX8_first 15 = .ok (.i2l, 1) := tX8_first_ok (15, .i2l, 1) (List.mem_of_getElem? (i := 9) rfl)
theorem dX8_first_16 : decode cX8_first 16 = .ok (.lreturn, 1) := tX8_first_ok (16, .lreturn, 1) (List.mem_of_getElem? (i := 10) rfl)
theorem dX8_first_17 : decode cX8_first 17 = .ok (.aload_n 0, 1) := tX8_first_ok (17, .aload_n 0, 1) (List.mem_of_getElem? (i := 11) rfl)
theorem dX8_first_18 : decode cX8_first 18 = .ok (.aload_n 0, 1) := tX8_first_ok (18, .aload_n 0, 1) (List.mem_of_getElem? (i := 12) rfl)
theorem dX8_first_19 : decode cX8_first 19 = .ok (.getfield 33, 3) := tX8_first_ok (19, .getfield 33, 3) (List.mem_of_getElem? (i := 13) rfl)
theorem dX8_first_22 : decode cX8_first 22 = .ok (.aload_n 0, 1) := tX8_first_ok (22, .aload_n 0, 1) (List.mem_of_getElem? (i := 14) rfl)
theorem dX8_first_23 : decode cX8_first 23 = .ok (.getfield 19, 3) := tX8_first_ok (23, .getfield 19, 3) (List.mem_of_getElem? (i := 15) rfl)
theorem dX8_first_26 : decode cX8_first 26 = .ok (.iload_n 1, 1) := tX8_first_ok (26, .iload_n 1, 1) (List.mem_of_getElem? (i := 16) rfl)
theorem dX8_first_27 : decode cX8_first 27 = .ok (.iconst 1, 1) := tX8_first_ok (27, .iconst 1, 1) (List.mem_of_getElem? (i := 17) rfl)
theorem dX8_first_28 : decode cX8_first 28 = .ok (.invokevirtual 265, 3) := tX8_first_ok (28, .invokevirtual 265, 3) (List.mem_of_getElem? (i := 18) rfl)
theorem dX8_first_31 : decode cX8_first 31 = .ok (.invokevirtual 186, 3) := tX8_first_ok (31, .invokevirtual 186, 3) (List.mem_of_getElem? (i := 19) rfl)
theorem dX8_first_34 : decode cX8_first 34 = .ok (.lreturn, 1) := tX8_first_ok (34, .lreturn, 1) (List.mem_of_getElem? (i := 20) rfl)

def tX8_turnings : List (Nat × Instr × Nat) := [
  (0, .aload_n 0, 1),
  (1, .iload_n 1, 1),
  (2, .invokevirtual 262, 3),
  (5, .istore_n 2, 1),
  (6, .iload_n 2, 1),
  (7, .ifCond .eq 10, 3),
  (10, .aload_n 0, 1),
  (11, .iload_n 2, 1),
  (12, .invokevirtual 88, 3),
  (15, .i2l, 1),
  (16, .lreturn, 1),
  (17, .aload_n 0, 1),
  (18, .aload_n 0, 1),
  (19, .getfield 33, 3),
  (22, .aload_n 0, 1),
  (23, .getfield 19, 3),
  (26, .iload_n 1, 1),
  (27, .iconst 0, 1),
  (28, .invokevirtual 265, 3),
  (31, .invokevirtual 186, 3),
  (34, .lreturn, 1)]
set_option maxRecDepth 100000 in
theorem tX8_turnings_ok : ∀ q ∈ tX8_turnings, decode cX8_turnings q.1 = .ok q.2 := by decide +kernel
theorem dX8_turnings_0 : decode cX8_turnings 0 = .ok (.aload_n 0, 1) := tX8_turnings_ok (0, .aload_n 0, 1) (List.mem_of_getElem? (i := 0) rfl)
theorem dX8_turnings_1 : decode cX8_turnings 1 = .ok (.iload_n 1, 1) := tX8_turnings_ok (1, .iload_n 1, 1) (List.mem_of_getElem? (i := 1) rfl)
theorem dX8_turnings_2 : decode cX8_turnings 2 = .ok (.invokevirtual 262, 3) := tX8_turnings_ok (2, .invokevirtual 262, 3) (List.mem_of_getElem? (i := 2) rfl)
theorem dX8_turnings_5 : decode cX8_turnings 5 = .ok (.istore_n 2, 1) := tX8_turnings_ok (5, .istore_n 2, 1) (List.mem_of_getElem? (i := 3) rfl)
theorem dX8_turnings_6 : decode cX8_turnings 6 = .ok (.iload_n 2, 1) := tX8_turnings_ok (6, .iload_n 2, 1) (List.mem_of_getElem? (i := 4) rfl)
theorem dX8_turnings_7 : decode cX8_turnings 7 = .ok (.ifCond .eq 10, 3) := tX8_turnings_ok (7, .ifCond .eq 10, 3) (List.mem_of_getElem? (i := 5) rfl)
theorem dX8_turnings_10 : decode cX8_turnings 10 = .ok (.aload_n 0, 1) := tX8_turnings_ok (10, .aload_n 0, 1) (List.mem_of_getElem? (i := 6) rfl)
theorem dX8_turnings_11 : decode cX8_turnings 11 = .ok (.iload_n 2, 1) := tX8_turnings_ok (11, .iload_n 2, 1) (List.mem_of_getElem? (i := 7) rfl)
theorem dX8_turnings_12 : decode cX8_turnings 12 = .ok (.invokevirtual 88, 3) := tX8_turnings_ok (12, .invokevirtual 88, 3) (List.mem_of_getElem? (i := 8) rfl)
theorem dX8_turnings_15 : decode cX8_turnings 15 = .ok (.i2l, 1) := tX8_turnings_ok (15, .i2l, 1) (List.mem_of_getElem? (i := 9) rfl)
theorem dX8_turnings_16 : decode cX8_turnings 16 = .ok (.lreturn, 1) := tX8_turnings_ok (16, .lreturn, 1) (List.mem_of_getElem? (i := 10) rfl)
theorem dX8_turnings_17 : decode cX8_turnings 17 = .ok (.aload_n 0, 1) := tX8_turnings_ok (17, .aload_n 0, 1) (List.mem_of_getElem? (i := 11) rfl)
theorem dX8_turnings_18 : decode cX8_turnings 18 = .ok (.aload_n 0, 1) := tX8_turnings_ok (18, .aload_n 0, 1) (List.mem_of_getElem? (i := 12) rfl)
theorem dX8_turnings_19 : decode cX8_turnings 19 = .ok (.getfield 33, 3) := tX8_turnings_ok (19, .getfield 33, 3) (List.mem_of_getElem? (i := 13) rfl)
theorem dX8_turnings_22 : decode cX8_turnings 22 = .ok (.aload_n 0, 1) := tX8_turnings_ok (22, .aload_n 0, 1) (List.mem_of_getElem? (i := 14) rfl)
theorem dX8_turnings_23 : decode cX8_turnings 23 = .ok (.getfield 19, 3) := tX8_turnings_ok (23, .getfield 19, 3) (List.mem_of_getElem? (i := 15) rfl)
theorem dX8_turnings_26 : decode cX8_turnings 26 = .ok (.iload_n 1, 1) := tX8_turnings_ok (26, .iload_n 1, 1) (List.mem_of_getElem? (i := 16) rfl)
theorem dX8_turnings_27 : decode cX8_turnings 27 = .ok (.iconst 0, 1) := tX8_turnings_ok (27, .iconst 0, 1) (List.mem_of_getElem? (i := 17) rfl)
theorem dX8_turnings_28 : decode cX8_turnings 28 = .ok (.invokevirtual 265, 3) := tX8_turnings_ok (28, .invokevirtual 265, 3) (List.mem_of_getElem? (i := 18) rfl)
theorem dX8_turnings_31 : decode cX8_turnings 31 = .ok (.invokevirtual 186, 3) := tX8_turnings_ok (31, .invokevirtual 186, 3) (List.mem_of_getElem? (i := 19) rfl)
theorem dX8_turnings_34 : decode cX8_turnings 34 = .ok (.lreturn, 1) := tX8_turnings_ok (34, .lreturn, 1) (List.mem_of_getElem? (i := 20) rfl)

def tX8_family : List (Nat × Instr × Nat) := [
  (0, .iload_n 1, 1),
  (1, .iconst 1, 1),
  (2, .iconst 4, 1),
  (3, .invokestatic 66, 3),
  (6, .ifCond .ne 9, 3),
  (9, .aload_n 0, 1),
  (10, .iconst 2, 1),
  (11, .invokevirtual 70, 3),
  (14, .ireturn, 1),
  (15, .aload_n 0, 1),
  (16, .getfield 26, 3),
  (19, .iload_n 1, 1),
  (20, .invokevirtual 269, 3),
  (23, .aload_n 0, 1),
  (24, .invokevirtual 77, 3),
  (27, .ireturn, 1)]
set_option maxRecDepth 100000 in
theorem tX8_family_ok : ∀ q ∈ tX8_family, decode cX8_family q.1 = .ok q.2 := by decide +kernel
theorem dX8_family_0 : decode cX8_family 0 = .ok (.iload_n 1, 1) := tX8_family_ok (0, .iload_n 1, 1) (List.mem_of_getElem? (i := 0) rfl)
theorem dX8_family_1 : decode cX8_family 1 = .ok (.iconst 1, 1) := tX8_family_ok (1, .iconst 1, 1) (List.mem_of_getElem? (i := 1) rfl)
theorem dX8_family_2 : decode cX8_family 2 = .ok (.iconst 4, 1) := tX8_family_ok (2, .iconst 4, 1) (List.mem_of_getElem? (i := 2) rfl)
theorem dX8_family_3 : decode cX8_family 3 = .ok (.invokestatic 66, 3) := tX8_family_ok (3, .invokestatic 66, 3) (List.mem_of_getElem? (i := 3) rfl)
theorem dX8_family_6 : decode cX8_family 6 = .ok (.ifCond .ne 9, 3) := tX8_family_ok (6, .ifCond .ne 9, 3) (List.mem_of_getElem? (i := 4) rfl)
theorem dX8_family_9 : decode cX8_family 9 = .ok (.aload_n 0, 1) := tX8_family_ok (9, .aload_n 0, 1) (List.mem_of_getElem? (i := 5) rfl)
theorem dX8_family_10 : decode cX8_family 10 = .ok (.iconst 2, 1) := tX8_family_ok (10, .iconst 2, 1) (List.mem_of_getElem? (i := 6) rfl)
theorem dX8_family_11 : decode cX8_family 11 = .ok (.invokevirtual 70, 3) := tX8_family_ok (11, .invokevirtual 70, 3) (List.mem_of_getElem? (i := 7) rfl)
theorem dX8_family_14 : decode cX8_family 14 = .ok (.ireturn, 1) := tX8_family_ok (14, .ireturn, 1) (List.mem_of_getElem? (i := 8) rfl)
theorem dX8_family_15 : decode cX8_family 15 = .ok (.aload_n 0, 1) := tX8_family_ok (15, .aload_n 0, 1) (List.mem_of_getElem? (i := 9) rfl)
theorem dX8_family_16 : decode cX8_family 16 = .ok (.getfield 26, 3) := tX8_family_ok (16, .getfield 26, 3) (List.mem_of_getElem? (i := 10) rfl)
theorem dX8_family_19 : decode cX8_family 19 = .ok (.iload_n 1, 1) := tX8_family_ok (19, .iload_n 1, 1) (List.mem_of_getElem? (i := 11) rfl)
theorem dX8_family_20 : decode cX8_family 20 = .ok (.invokevirtual 269, 3) := tX8_family_ok (20, .invokevirtual 269, 3) (List.mem_of_getElem? (i := 12) rfl)
theorem dX8_family_23 : decode cX8_family 23 = .ok (.aload_n 0, 1) := tX8_family_ok (23, .aload_n 0, 1) (List.mem_of_getElem? (i := 13) rfl)
theorem dX8_family_24 : decode cX8_family 24 = .ok (.invokevirtual 77, 3) := tX8_family_ok (24, .invokevirtual 77, 3) (List.mem_of_getElem? (i := 14) rfl)
theorem dX8_family_27 : decode cX8_family 27 = .ok (.ireturn, 1) := tX8_family_ok (27, .ireturn, 1) (List.mem_of_getElem? (i := 15) rfl)

def tX8_place : List (Nat × Instr × Nat) := [
  (0, .iload_n 3, 1),
  (1, .iload 4, 2),
  (3, .invokestatic 144, 3),
  (6, .ifCond .ne 9, 3),
  (9, .aload_n 0, 1),
  (10, .iconst 2, 1),
  (11, .invokevirtual 70, 3),
  (14, .ireturn, 1),
  (15, .aload_n 0, 1),
  (16, .getfield 26, 3),
  (19, .iload_n 1, 1),
  (20, .invokevirtual 272, 3),
  (23, .ifCond .ne 10, 3),
  (26, .aload_n 0, 1),
  (27, .bipush 8, 2),
  (29, .invokevirtual 70, 3),
  (32, .ireturn, 1),
  (33, .aload_n 0, 1),
  (34, .getfield 26, 3),
  (37, .iload_n 1, 1),
  (38, .iload_n 2, 1),
  (39, .iload_n 3, 1),
  (40, .iload 4, 2),
  (42, .invokevirtual 275, 3),
  (45, .aload_n 0, 1),
  (46, .invokevirtual 77, 3),
  (49, .ireturn, 1)]
set_option maxRecDepth 100000 in
theorem tX8_place_ok : ∀ q ∈ tX8_place, decode cX8_place q.1 = .ok q.2 := by decide +kernel
theorem dX8_place_0 : decode cX8_place 0 = .ok (.iload_n 3, 1) := tX8_place_ok (0, .iload_n 3, 1) (List.mem_of_getElem? (i := 0) rfl)
theorem dX8_place_1 : decode cX8_place 1 = .ok (.iload 4, 2) := tX8_place_ok (1, .iload 4, 2) (List.mem_of_getElem? (i := 1) rfl)
theorem dX8_place_3 : decode cX8_place 3 = .ok (.invokestatic 144, 3) := tX8_place_ok (3, .invokestatic 144, 3) (List.mem_of_getElem? (i := 2) rfl)
theorem dX8_place_6 : decode cX8_place 6 = .ok (.ifCond .ne 9, 3) := tX8_place_ok (6, .ifCond .ne 9, 3) (List.mem_of_getElem? (i := 3) rfl)
theorem dX8_place_9 : decode cX8_place 9 = .ok (.aload_n 0, 1) := tX8_place_ok (9, .aload_n 0, 1) (List.mem_of_getElem? (i := 4) rfl)
theorem dX8_place_10 : decode cX8_place 10 = .ok (.iconst 2, 1) := tX8_place_ok (10, .iconst 2, 1) (List.mem_of_getElem? (i := 5) rfl)
theorem dX8_place_11 : decode cX8_place 11 = .ok (.invokevirtual 70, 3) := tX8_place_ok (11, .invokevirtual 70, 3) (List.mem_of_getElem? (i := 6) rfl)
theorem dX8_place_14 : decode cX8_place 14 = .ok (.ireturn, 1) := tX8_place_ok (14, .ireturn, 1) (List.mem_of_getElem? (i := 7) rfl)
theorem dX8_place_15 : decode cX8_place 15 = .ok (.aload_n 0, 1) := tX8_place_ok (15, .aload_n 0, 1) (List.mem_of_getElem? (i := 8) rfl)
theorem dX8_place_16 : decode cX8_place 16 = .ok (.getfield 26, 3) := tX8_place_ok (16, .getfield 26, 3) (List.mem_of_getElem? (i := 9) rfl)
theorem dX8_place_19 : decode cX8_place 19 = .ok (.iload_n 1, 1) := tX8_place_ok (19, .iload_n 1, 1) (List.mem_of_getElem? (i := 10) rfl)
theorem dX8_place_20 : decode cX8_place 20 = .ok (.invokevirtual 272, 3) := tX8_place_ok (20, .invokevirtual 272, 3) (List.mem_of_getElem? (i := 11) rfl)
theorem dX8_place_23 : decode cX8_place 23 = .ok (.ifCond .ne 10, 3) := tX8_place_ok (23, .ifCond .ne 10, 3) (List.mem_of_getElem? (i := 12) rfl)
theorem dX8_place_26 : decode cX8_place 26 = .ok (.aload_n 0, 1) := tX8_place_ok (26, .aload_n 0, 1) (List.mem_of_getElem? (i := 13) rfl)
theorem dX8_place_27 : decode cX8_place 27 = .ok (.bipush 8, 2) := tX8_place_ok (27, .bipush 8, 2) (List.mem_of_getElem? (i := 14) rfl)
theorem dX8_place_29 : decode cX8_place 29 = .ok (.invokevirtual 70, 3) := tX8_place_ok (29, .invokevirtual 70, 3) (List.mem_of_getElem? (i := 15) rfl)
theorem dX8_place_32 : decode cX8_place 32 = .ok (.ireturn, 1) := tX8_place_ok (32, .ireturn, 1) (List.mem_of_getElem? (i := 16) rfl)
theorem dX8_place_33 : decode cX8_place 33 = .ok (.aload_n 0, 1) := tX8_place_ok (33, .aload_n 0, 1) (List.mem_of_getElem? (i := 17) rfl)
theorem dX8_place_34 : decode cX8_place 34 = .ok (.getfield 26, 3) := tX8_place_ok (34, .getfield 26, 3) (List.mem_of_getElem? (i := 18) rfl)
theorem dX8_place_37 : decode cX8_place 37 = .ok (.iload_n 1, 1) := tX8_place_ok (37, .iload_n 1, 1) (List.mem_of_getElem? (i := 19) rfl)
theorem dX8_place_38 : decode cX8_place 38 = .ok (.iload_n 2, 1) := tX8_place_ok (38, .iload_n 2, 1) (List.mem_of_getElem? (i := 20) rfl)
theorem dX8_place_39 : decode cX8_place 39 = .ok (.iload_n 3, 1) := tX8_place_ok (39, .iload_n 3, 1) (List.mem_of_getElem? (i := 21) rfl)
theorem dX8_place_40 : decode cX8_place 40 = .ok (.iload 4, 2) := tX8_place_ok (40, .iload 4, 2) (List.mem_of_getElem? (i := 22) rfl)
theorem dX8_place_42 : decode cX8_place 42 = .ok (.invokevirtual 275, 3) := tX8_place_ok (42, .invokevirtual 275, 3) (List.mem_of_getElem? (i := 23) rfl)
theorem dX8_place_45 : decode cX8_place 45 = .ok (.aload_n 0, 1) := tX8_place_ok (45, .aload_n 0, 1) (List.mem_of_getElem? (i := 24) rfl)
theorem dX8_place_46 : decode cX8_place 46 = .ok (.invokevirtual 77, 3) := tX8_place_ok (46, .invokevirtual 77, 3) (List.mem_of_getElem? (i := 25) rfl)
theorem dX8_place_49 : decode cX8_place 49 = .ok (.ireturn, 1) := tX8_place_ok (49, .ireturn, 1) (List.mem_of_getElem? (i := 26) rfl)

def tX8_table : List (Nat × Instr × Nat) := [
  (0, .aload_n 0, 1),
  (1, .getfield 26, 3),
  (4, .iload_n 1, 1),
  (5, .invokevirtual 272, 3),
  (8, .ifCond .eq 14, 3),
  (11, .aload_n 0, 1),
  (12, .getfield 26, 3),
  (15, .iload_n 2, 1),
  (16, .invokevirtual 272, 3),
  (19, .ifCond .ne 10, 3),
  (22, .aload_n 0, 1),
  (23, .bipush 8, 2),
  (25, .invokevirtual 88, 3),
  (28, .ireturn, 1),
  (29, .aload_n 0, 1),
  (30, .getfield 26, 3),
  (33, .aload_n 0, 1),
  (34, .getfield 19, 3),
  (37, .iload_n 1, 1),
  (38, .iload_n 2, 1),
  (39, .invokevirtual 279, 3),
  (42, .ifCond .eq 10, 3),
  (45, .aload_n 0, 1),
  (46, .bipush 7, 2),
  (48, .invokevirtual 88, 3),
  (51, .ireturn, 1),
  (52, .aload_n 0, 1),
  (53, .getfield 26, 3),
  (56, .aload_n 0, 1),
  (57, .getfield 19, 3),
  (60, .iload_n 1, 1),
  (61, .iload_n 2, 1),
  (62, .invokevirtual 283, 3),
  (65, .istore_n 3, 1),
  (66, .iload_n 3, 1),
  (67, .sipush 20000, 3),
  (70, .if_icmp .le 12, 3),
  (73, .aload_n 0, 1),
  (74, .bipush 9, 2),
  (76, .invokevirtual 88, 3),
  (79, .goto 8, 3),
  (82, .aload_n 0, 1),
  (83, .iload_n 3, 1),
  (84, .invokevirtual 95, 3),
  (87, .ireturn, 1)]
set_option maxRecDepth 100000 in
theorem tX8_table_ok : ∀ q ∈ tX8_table, decode cX8_table q.1 = .ok q.2 := by decide +kernel
theorem dX8_table_0 : decode cX8_table 0 = .ok (.aload_n 0, 1) := tX8_table_ok (0, .aload_n 0, 1) (List.mem_of_getElem? (i := 0) rfl)
theorem dX8_table_1 : decode cX8_table 1 = .ok (.getfield 26, 3) := tX8_table_ok (1, .getfield 26, 3) (List.mem_of_getElem? (i := 1) rfl)
theorem dX8_table_4 : decode cX8_table 4 = .ok (.iload_n 1, 1) := tX8_table_ok (4, .iload_n 1, 1) (List.mem_of_getElem? (i := 2) rfl)
theorem dX8_table_5 : decode cX8_table 5 = .ok (.invokevirtual 272, 3) := tX8_table_ok (5, .invokevirtual 272, 3) (List.mem_of_getElem? (i := 3) rfl)
theorem dX8_table_8 : decode cX8_table 8 = .ok (.ifCond .eq 14, 3) := tX8_table_ok (8, .ifCond .eq 14, 3) (List.mem_of_getElem? (i := 4) rfl)
theorem dX8_table_11 : decode cX8_table 11 = .ok (.aload_n 0, 1) := tX8_table_ok (11, .aload_n 0, 1) (List.mem_of_getElem? (i := 5) rfl)
theorem dX8_table_12 : decode cX8_table 12 = .ok (.getfield 26, 3) := tX8_table_ok (12, .getfield 26, 3) (List.mem_of_getElem? (i := 6) rfl)
theorem dX8_table_15 : decode cX8_table 15 = .ok (.iload_n 2, 1) := tX8_table_ok (15, .iload_n 2, 1) (List.mem_of_getElem? (i := 7) rfl)
theorem dX8_table_16 : decode cX8_table 16 = .ok (.invokevirtual 272, 3) := tX8_table_ok (16, .invokevirtual 272, 3) (List.mem_of_getElem? (i := 8) rfl)
theorem dX8_table_19 : decode cX8_table 19 = .ok (.ifCond .ne 10, 3) := tX8_table_ok (19, .ifCond .ne 10, 3) (List.mem_of_getElem? (i := 9) rfl)
theorem dX8_table_22 : decode cX8_table 22 = .ok (.aload_n 0, 1) := tX8_table_ok (22, .aload_n 0, 1) (List.mem_of_getElem? (i := 10) rfl)
theorem dX8_table_23 : decode cX8_table 23 = .ok (.bipush 8, 2) := tX8_table_ok (23, .bipush 8, 2) (List.mem_of_getElem? (i := 11) rfl)
theorem dX8_table_25 : decode cX8_table 25 = .ok (.invokevirtual 88, 3) := tX8_table_ok (25, .invokevirtual 88, 3) (List.mem_of_getElem? (i := 12) rfl)
theorem dX8_table_28 : decode cX8_table 28 = .ok (.ireturn, 1) := tX8_table_ok (28, .ireturn, 1) (List.mem_of_getElem? (i := 13) rfl)
theorem dX8_table_29 : decode cX8_table 29 = .ok (.aload_n 0, 1) := tX8_table_ok (29, .aload_n 0, 1) (List.mem_of_getElem? (i := 14) rfl)
theorem dX8_table_30 : decode cX8_table 30 = .ok (.getfield 26, 3) := tX8_table_ok (30, .getfield 26, 3) (List.mem_of_getElem? (i := 15) rfl)
theorem dX8_table_33 : decode cX8_table 33 = .ok (.aload_n 0, 1) := tX8_table_ok (33, .aload_n 0, 1) (List.mem_of_getElem? (i := 16) rfl)
theorem dX8_table_34 : decode cX8_table 34 = .ok (.getfield 19, 3) := tX8_table_ok (34, .getfield 19, 3) (List.mem_of_getElem? (i := 17) rfl)
theorem dX8_table_37 : decode cX8_table 37 = .ok (.iload_n 1, 1) := tX8_table_ok (37, .iload_n 1, 1) (List.mem_of_getElem? (i := 18) rfl)
theorem dX8_table_38 : decode cX8_table 38 = .ok (.iload_n 2, 1) := tX8_table_ok (38, .iload_n 2, 1) (List.mem_of_getElem? (i := 19) rfl)
theorem dX8_table_39 : decode cX8_table 39 = .ok (.invokevirtual 279, 3) := tX8_table_ok (39, .invokevirtual 279, 3) (List.mem_of_getElem? (i := 20) rfl)
theorem dX8_table_42 : decode cX8_table 42 = .ok (.ifCond .eq 10, 3) := tX8_table_ok (42, .ifCond .eq 10, 3) (List.mem_of_getElem? (i := 21) rfl)
theorem dX8_table_45 : decode cX8_table 45 = .ok (.aload_n 0, 1) := tX8_table_ok (45, .aload_n 0, 1) (List.mem_of_getElem? (i := 22) rfl)
theorem dX8_table_46 : decode cX8_table 46 = .ok (.bipush 7, 2) := tX8_table_ok (46, .bipush 7, 2) (List.mem_of_getElem? (i := 23) rfl)
theorem dX8_table_48 : decode cX8_table 48 = .ok (.invokevirtual 88, 3) := tX8_table_ok (48, .invokevirtual 88, 3) (List.mem_of_getElem? (i := 24) rfl)
theorem dX8_table_51 : decode cX8_table 51 = .ok (.ireturn, 1) := tX8_table_ok (51, .ireturn, 1) (List.mem_of_getElem? (i := 25) rfl)
theorem dX8_table_52 : decode cX8_table 52 = .ok (.aload_n 0, 1) := tX8_table_ok (52, .aload_n 0, 1) (List.mem_of_getElem? (i := 26) rfl)
theorem dX8_table_53 : decode cX8_table 53 = .ok (.getfield 26, 3) := tX8_table_ok (53, .getfield 26, 3) (List.mem_of_getElem? (i := 27) rfl)
theorem dX8_table_56 : decode cX8_table 56 = .ok (.aload_n 0, 1) := tX8_table_ok (56, .aload_n 0, 1) (List.mem_of_getElem? (i := 28) rfl)
theorem dX8_table_57 : decode cX8_table 57 = .ok (.getfield 19, 3) := tX8_table_ok (57, .getfield 19, 3) (List.mem_of_getElem? (i := 29) rfl)
theorem dX8_table_60 : decode cX8_table 60 = .ok (.iload_n 1, 1) := tX8_table_ok (60, .iload_n 1, 1) (List.mem_of_getElem? (i := 30) rfl)
theorem dX8_table_61 : decode cX8_table 61 = .ok (.iload_n 2, 1) := tX8_table_ok (61, .iload_n 2, 1) (List.mem_of_getElem? (i := 31) rfl)
theorem dX8_table_62 : decode cX8_table 62 = .ok (.invokevirtual 283, 3) := tX8_table_ok (62, .invokevirtual 283, 3) (List.mem_of_getElem? (i := 32) rfl)
theorem dX8_table_65 : decode cX8_table 65 = .ok (.istore_n 3, 1) := tX8_table_ok (65, .istore_n 3, 1) (List.mem_of_getElem? (i := 33) rfl)
theorem dX8_table_66 : decode cX8_table 66 = .ok (.iload_n 3, 1) := tX8_table_ok (66, .iload_n 3, 1) (List.mem_of_getElem? (i := 34) rfl)
theorem dX8_table_67 : decode cX8_table 67 = .ok (.sipush 20000, 3) := tX8_table_ok (67, .sipush 20000, 3) (List.mem_of_getElem? (i := 35) rfl)
theorem dX8_table_70 : decode cX8_table 70 = .ok (.if_icmp .le 12, 3) := tX8_table_ok (70, .if_icmp .le 12, 3) (List.mem_of_getElem? (i := 36) rfl)
theorem dX8_table_73 : decode cX8_table 73 = .ok (.aload_n 0, 1) := tX8_table_ok (73, .aload_n 0, 1) (List.mem_of_getElem? (i := 37) rfl)
theorem dX8_table_74 : decode cX8_table 74 = .ok (.bipush 9, 2) := tX8_table_ok (74, .bipush 9, 2) (List.mem_of_getElem? (i := 38) rfl)
theorem dX8_table_76 : decode cX8_table 76 = .ok (.invokevirtual 88, 3) := tX8_table_ok (76, .invokevirtual 88, 3) (List.mem_of_getElem? (i := 39) rfl)
theorem dX8_table_79 : decode cX8_table 79 = .ok (.goto 8, 3) := tX8_table_ok (79, .goto 8, 3) (List.mem_of_getElem? (i := 40) rfl)
theorem dX8_table_82 : decode cX8_table 82 = .ok (.aload_n 0, 1) := tX8_table_ok (82, .aload_n 0, 1) (List.mem_of_getElem? (i := 41) rfl)
theorem dX8_table_83 : decode cX8_table 83 = .ok (.iload_n 3, 1) := tX8_table_ok (83, .iload_n 3, 1) (List.mem_of_getElem? (i := 42) rfl)
theorem dX8_table_84 : decode cX8_table 84 = .ok (.invokevirtual 95, 3) := tX8_table_ok (84, .invokevirtual 95, 3) (List.mem_of_getElem? (i := 43) rfl)
theorem dX8_table_87 : decode cX8_table 87 = .ok (.ireturn, 1) := tX8_table_ok (87, .ireturn, 1) (List.mem_of_getElem? (i := 44) rfl)

def tX8_worth : List (Nat × Instr × Nat) := [
  (0, .aload_n 0, 1),
  (1, .getfield 26, 3),
  (4, .iconst 0, 1),
  (5, .invokevirtual 272, 3),
  (8, .ifCond .ne 11, 3),
  (11, .aload_n 0, 1),
  (12, .bipush 8, 2),
  (14, .invokevirtual 88, 3),
  (17, .i2l, 1),
  (18, .lreturn, 1),
  (19, .aload_n 0, 1),
  (20, .getfield 26, 3),
  (23, .aload_n 0, 1),
  (24, .getfield 19, 3),
  (27, .invokevirtual 287, 3),
  (30, .ifCond .eq 11, 3),
  (33, .aload_n 0, 1),
  (34, .bipush 7, 2),
  (36, .invokevirtual 88, 3),
  (39, .i2l, 1),
  (40, .lreturn, 1),
  (41, .aload_n 0, 1),
  (42, .getfield 26, 3),
  (45, .aload_n 0, 1),
  (46, .getfield 19, 3),
  (49, .invokevirtual 291, 3),
  (52, .ifCond .ne 11, 3),
  (55, .aload_n 0, 1),
  (56, .bipush 9, 2),
  (58, .invokevirtual 88, 3),
  (61, .i2l, 1),
  (62, .lreturn, 1),
  (63, .aload_n 0, 1),
  (64, .aload_n 0, 1),
  (65, .getfield 26, 3),
  (68, .invokevirtual 294, 3),
  (71, .invokevirtual 204, 3),
  (74, .lreturn, 1)]
set_option maxRecDepth 100000 in
theorem tX8_worth_ok : ∀ q ∈ tX8_worth, decode cX8_worth q.1 = .ok q.2 := by decide +kernel
theorem dX8_worth_0 : decode cX8_worth 0 = .ok (.aload_n 0, 1) := tX8_worth_ok (0, .aload_n 0, 1) (List.mem_of_getElem? (i := 0) rfl)
theorem dX8_worth_1 : decode cX8_worth 1 = .ok (.getfield 26, 3) := tX8_worth_ok (1, .getfield 26, 3) (List.mem_of_getElem? (i := 1) rfl)
theorem dX8_worth_4 : decode cX8_worth 4 = .ok (.iconst 0, 1) := tX8_worth_ok (4, .iconst 0, 1) (List.mem_of_getElem? (i := 2) rfl)
theorem dX8_worth_5 : decode cX8_worth 5 = .ok (.invokevirtual 272, 3) := tX8_worth_ok (5, .invokevirtual 272, 3) (List.mem_of_getElem? (i := 3) rfl)
theorem dX8_worth_8 : decode cX8_worth 8 = .ok (.ifCond .ne 11, 3) := tX8_worth_ok (8, .ifCond .ne 11, 3) (List.mem_of_getElem? (i := 4) rfl)
theorem dX8_worth_11 : decode cX8_worth 11 = .ok (.aload_n 0, 1) := tX8_worth_ok (11, .aload_n 0, 1) (List.mem_of_getElem? (i := 5) rfl)
theorem dX8_worth_12 : decode cX8_worth 12 = .ok (.bipush 8, 2) := tX8_worth_ok (12, .bipush 8, 2) (List.mem_of_getElem? (i := 6) rfl)
theorem dX8_worth_14 : decode cX8_worth 14 = .ok (.invokevirtual 88, 3) := tX8_worth_ok (14, .invokevirtual 88, 3) (List.mem_of_getElem? (i := 7) rfl)
theorem dX8_worth_17 : decode cX8_worth 17 = .ok (.i2l, 1) := tX8_worth_ok (17, .i2l, 1) (List.mem_of_getElem? (i := 8) rfl)
theorem dX8_worth_18 : decode cX8_worth 18 = .ok (.lreturn, 1) := tX8_worth_ok (18, .lreturn, 1) (List.mem_of_getElem? (i := 9) rfl)
theorem dX8_worth_19 : decode cX8_worth 19 = .ok (.aload_n 0, 1) := tX8_worth_ok (19, .aload_n 0, 1) (List.mem_of_getElem? (i := 10) rfl)
theorem dX8_worth_20 : decode cX8_worth 20 = .ok (.getfield 26, 3) := tX8_worth_ok (20, .getfield 26, 3) (List.mem_of_getElem? (i := 11) rfl)
theorem dX8_worth_23 : decode cX8_worth 23 = .ok (.aload_n 0, 1) := tX8_worth_ok (23, .aload_n 0, 1) (List.mem_of_getElem? (i := 12) rfl)
theorem dX8_worth_24 : decode cX8_worth 24 = .ok (.getfield 19, 3) := tX8_worth_ok (24, .getfield 19, 3) (List.mem_of_getElem? (i := 13) rfl)
theorem dX8_worth_27 : decode cX8_worth 27 = .ok (.invokevirtual 287, 3) := tX8_worth_ok (27, .invokevirtual 287, 3) (List.mem_of_getElem? (i := 14) rfl)
theorem dX8_worth_30 : decode cX8_worth 30 = .ok (.ifCond .eq 11, 3) := tX8_worth_ok (30, .ifCond .eq 11, 3) (List.mem_of_getElem? (i := 15) rfl)
theorem dX8_worth_33 : decode cX8_worth 33 = .ok (.aload_n 0, 1) := tX8_worth_ok (33, .aload_n 0, 1) (List.mem_of_getElem? (i := 16) rfl)
theorem dX8_worth_34 : decode cX8_worth 34 = .ok (.bipush 7, 2) := tX8_worth_ok (34, .bipush 7, 2) (List.mem_of_getElem? (i := 17) rfl)
theorem dX8_worth_36 : decode cX8_worth 36 = .ok (.invokevirtual 88, 3) := tX8_worth_ok (36, .invokevirtual 88, 3) (List.mem_of_getElem? (i := 18) rfl)
theorem dX8_worth_39 : decode cX8_worth 39 = .ok (.i2l, 1) := tX8_worth_ok (39, .i2l, 1) (List.mem_of_getElem? (i := 19) rfl)
theorem dX8_worth_40 : decode cX8_worth 40 = .ok (.lreturn, 1) := tX8_worth_ok (40, .lreturn, 1) (List.mem_of_getElem? (i := 20) rfl)
theorem dX8_worth_41 : decode cX8_worth 41 = .ok (.aload_n 0, 1) := tX8_worth_ok (41, .aload_n 0, 1) (List.mem_of_getElem? (i := 21) rfl)
theorem dX8_worth_42 : decode cX8_worth 42 = .ok (.getfield 26, 3) := tX8_worth_ok (42, .getfield 26, 3) (List.mem_of_getElem? (i := 22) rfl)
theorem dX8_worth_45 : decode cX8_worth 45 = .ok (.aload_n 0, 1) := tX8_worth_ok (45, .aload_n 0, 1) (List.mem_of_getElem? (i := 23) rfl)
theorem dX8_worth_46 : decode cX8_worth 46 = .ok (.getfield 19, 3) := tX8_worth_ok (46, .getfield 19, 3) (List.mem_of_getElem? (i := 24) rfl)
theorem dX8_worth_49 : decode cX8_worth 49 = .ok (.invokevirtual 291, 3) := tX8_worth_ok (49, .invokevirtual 291, 3) (List.mem_of_getElem? (i := 25) rfl)
theorem dX8_worth_52 : decode cX8_worth 52 = .ok (.ifCond .ne 11, 3) := tX8_worth_ok (52, .ifCond .ne 11, 3) (List.mem_of_getElem? (i := 26) rfl)
theorem dX8_worth_55 : decode cX8_worth 55 = .ok (.aload_n 0, 1) := tX8_worth_ok (55, .aload_n 0, 1) (List.mem_of_getElem? (i := 27) rfl)
theorem dX8_worth_56 : decode cX8_worth 56 = .ok (.bipush 9, 2) := tX8_worth_ok (56, .bipush 9, 2) (List.mem_of_getElem? (i := 28) rfl)
theorem dX8_worth_58 : decode cX8_worth 58 = .ok (.invokevirtual 88, 3) := tX8_worth_ok (58, .invokevirtual 88, 3) (List.mem_of_getElem? (i := 29) rfl)
theorem dX8_worth_61 : decode cX8_worth 61 = .ok (.i2l, 1) := tX8_worth_ok (61, .i2l, 1) (List.mem_of_getElem? (i := 30) rfl)
theorem dX8_worth_62 : decode cX8_worth 62 = .ok (.lreturn, 1) := tX8_worth_ok (62, .lreturn, 1) (List.mem_of_getElem? (i := 31) rfl)
theorem dX8_worth_63 : decode cX8_worth 63 = .ok (.aload_n 0, 1) := tX8_worth_ok (63, .aload_n 0, 1) (List.mem_of_getElem? (i := 32) rfl)
theorem dX8_worth_64 : decode cX8_worth 64 = .ok (.aload_n 0, 1) := tX8_worth_ok (64, .aload_n 0, 1) (List.mem_of_getElem? (i := 33) rfl)
theorem dX8_worth_65 : decode cX8_worth 65 = .ok (.getfield 26, 3) := tX8_worth_ok (65, .getfield 26, 3) (List.mem_of_getElem? (i := 34) rfl)
theorem dX8_worth_68 : decode cX8_worth 68 = .ok (.invokevirtual 294, 3) := tX8_worth_ok (68, .invokevirtual 294, 3) (List.mem_of_getElem? (i := 35) rfl)
theorem dX8_worth_71 : decode cX8_worth 71 = .ok (.invokevirtual 204, 3) := tX8_worth_ok (71, .invokevirtual 204, 3) (List.mem_of_getElem? (i := 36) rfl)
theorem dX8_worth_74 : decode cX8_worth 74 = .ok (.lreturn, 1) := tX8_worth_ok (74, .lreturn, 1) (List.mem_of_getElem? (i := 37) rfl)

def tX8_boxes : List (Nat × Instr × Nat) := [
  (0, .iload_n 1, 1),
  (1, .iconst 0, 1),
  (2, .bipush 6, 2),
  (4, .invokestatic 66, 3),
  (7, .ifCond .eq 23, 3),
  (10, .iload_n 2, 1),
  (11, .iconst 0, 1),
  (12, .bipush 6, 2),
  (14, .invokestatic 66, 3),
  (17, .ifCond .eq 13, 3),
  (20, .iload_n 3, 1),
  (21, .iconst 0, 1),
  (22, .bipush 6, 2),
  (24, .invokestatic 66, 3),
  (27, .ifCond .ne 10, 3),
  (30, .aload_n 0, 1),
  (31, .iconst 2, 1),
  (32, .invokevirtual 88, 3),
  (35, .i2l, 1),
  (36, .lreturn, 1),
  (37, .aload_n 0, 1),
  (38, .aload_n 0, 1),
  (39, .iload_n 1, 1),
  (40, .iload_n 2, 1),
  (41, .iload_n 3, 1),
  (42, .invokevirtual 298, 3),
  (45, .invokevirtual 204, 3),
  (48, .lreturn, 1)]
set_option maxRecDepth 100000 in
theorem tX8_boxes_ok : ∀ q ∈ tX8_boxes, decode cX8_boxes q.1 = .ok q.2 := by decide +kernel
theorem dX8_boxes_0 : decode cX8_boxes 0 = .ok (.iload_n 1, 1) := tX8_boxes_ok (0, .iload_n 1, 1) (List.mem_of_getElem? (i := 0) rfl)
theorem dX8_boxes_1 : decode cX8_boxes 1 = .ok (.iconst 0, 1) := tX8_boxes_ok (1, .iconst 0, 1) (List.mem_of_getElem? (i := 1) rfl)
theorem dX8_boxes_2 : decode cX8_boxes 2 = .ok (.bipush 6, 2) := tX8_boxes_ok (2, .bipush 6, 2) (List.mem_of_getElem? (i := 2) rfl)
theorem dX8_boxes_4 : decode cX8_boxes 4 = .ok (.invokestatic 66, 3) := tX8_boxes_ok (4, .invokestatic 66, 3) (List.mem_of_getElem? (i := 3) rfl)
theorem dX8_boxes_7 : decode cX8_boxes 7 = .ok (.ifCond .eq 23, 3) := tX8_boxes_ok (7, .ifCond .eq 23, 3) (List.mem_of_getElem? (i := 4) rfl)
theorem dX8_boxes_10 : decode cX8_boxes 10 = .ok (.iload_n 2, 1) := tX8_boxes_ok (10, .iload_n 2, 1) (List.mem_of_getElem? (i := 5) rfl)
theorem dX8_boxes_11 : decode cX8_boxes 11 = .ok (.iconst 0, 1) := tX8_boxes_ok (11, .iconst 0, 1) (List.mem_of_getElem? (i := 6) rfl)
theorem dX8_boxes_12 : decode cX8_boxes 12 = .ok (.bipush 6, 2) := tX8_boxes_ok (12, .bipush 6, 2) (List.mem_of_getElem? (i := 7) rfl)
theorem dX8_boxes_14 : decode cX8_boxes 14 = .ok (.invokestatic 66, 3) := tX8_boxes_ok (14, .invokestatic 66, 3) (List.mem_of_getElem? (i := 8) rfl)
theorem dX8_boxes_17 : decode cX8_boxes 17 = .ok (.ifCond .eq 13, 3) := tX8_boxes_ok (17, .ifCond .eq 13, 3) (List.mem_of_getElem? (i := 9) rfl)
theorem dX8_boxes_20 : decode cX8_boxes 20 = .ok (.iload_n 3, 1) := tX8_boxes_ok (20, .iload_n 3, 1) (List.mem_of_getElem? (i := 10) rfl)
theorem dX8_boxes_21 : decode cX8_boxes 21 = .ok (.iconst 0, 1) := tX8_boxes_ok (21, .iconst 0, 1) (List.mem_of_getElem? (i := 11) rfl)
theorem dX8_boxes_22 : decode cX8_boxes 22 = .ok (.bipush 6, 2) := tX8_boxes_ok (22, .bipush 6, 2) (List.mem_of_getElem? (i := 12) rfl)
theorem dX8_boxes_24 : decode cX8_boxes 24 = .ok (.invokestatic 66, 3) := tX8_boxes_ok (24, .invokestatic 66, 3) (List.mem_of_getElem? (i := 13) rfl)
theorem dX8_boxes_27 : decode cX8_boxes 27 = .ok (.ifCond .ne 10, 3) := tX8_boxes_ok (27, .ifCond .ne 10, 3) (List.mem_of_getElem? (i := 14) rfl)
theorem dX8_boxes_30 : decode cX8_boxes 30 = .ok (.aload_n 0, 1) := tX8_boxes_ok (30, .aload_n 0, 1) (List.mem_of_getElem? (i := 15) rfl)
theorem dX8_boxes_31 : decode cX8_boxes 31 = .ok (.iconst 2, 1) := tX8_boxes_ok (31, .iconst 2, 1) (List.mem_of_getElem? (i := 16) rfl)
theorem dX8_boxes_32 : decode cX8_boxes 32 = .ok (.invokevirtual 88, 3) := tX8_boxes_ok (32, .invokevirtual 88, 3) (List.mem_of_getElem? (i := 17) rfl)
theorem dX8_boxes_35 : decode cX8_boxes 35 = .ok (.i2l, 1) := tX8_boxes_ok (35, .i2l, 1) (List.mem_of_getElem? (i := 18) rfl)
theorem dX8_boxes_36 : decode cX8_boxes 36 = .ok (.lreturn, 1) := tX8_boxes_ok (36, .lreturn, 1) (List.mem_of_getElem? (i := 19) rfl)
theorem dX8_boxes_37 : decode cX8_boxes 37 = .ok (.aload_n 0, 1) := tX8_boxes_ok (37, .aload_n 0, 1) (List.mem_of_getElem? (i := 20) rfl)
theorem dX8_boxes_38 : decode cX8_boxes 38 = .ok (.aload_n 0, 1) := tX8_boxes_ok (38, .aload_n 0, 1) (List.mem_of_getElem? (i := 21) rfl)
theorem dX8_boxes_39 : decode cX8_boxes 39 = .ok (.iload_n 1, 1) := tX8_boxes_ok (39, .iload_n 1, 1) (List.mem_of_getElem? (i := 22) rfl)
theorem dX8_boxes_40 : decode cX8_boxes 40 = .ok (.iload_n 2, 1) := tX8_boxes_ok (40, .iload_n 2, 1) (List.mem_of_getElem? (i := 23) rfl)
theorem dX8_boxes_41 : decode cX8_boxes 41 = .ok (.iload_n 3, 1) := tX8_boxes_ok (41, .iload_n 3, 1) (List.mem_of_getElem? (i := 24) rfl)
theorem dX8_boxes_42 : decode cX8_boxes 42 = .ok (.invokevirtual 298, 3) := tX8_boxes_ok (42, .invokevirtual 298, 3) (List.mem_of_getElem? (i := 25) rfl)
theorem dX8_boxes_45 : decode cX8_boxes 45 = .ok (.invokevirtual 204, 3) := tX8_boxes_ok (45, .invokevirtual 204, 3) (List.mem_of_getElem? (i := 26) rfl)
theorem dX8_boxes_48 : decode cX8_boxes 48 = .ok (.lreturn, 1) := tX8_boxes_ok (48, .lreturn, 1) (List.mem_of_getElem? (i := 27) rfl)

def tX8_brackets : List (Nat × Instr × Nat) := [
  (0, .iload_n 1, 1),
  (1, .iconst 0, 1),
  (2, .bipush 30, 2),
  (4, .invokestatic 66, 3),
  (7, .ifCond .ne 9, 3),
  (10, .aload_n 0, 1),
  (11, .iconst 2, 1),
  (12, .invokevirtual 88, 3),
  (15, .ireturn, 1),
  (16, .lload_n 2, 1),
  (17, .lconst 0, 1),
  (18, .lcmp, 1),
  (19, .ifCond .lt 19, 3),
  (22, .lload_n 2, 1),
  (23, .aload_n 0, 1),
  (24, .getfield 47, 3),
  (27, .iconst 2, 1),
  (28, .iload_n 1, 1),
  (29, .imul, 1),
  (30, .iconst 0, 1),
  (31, .invokevirtual 301, 3),
  (34, .lcmp, 1),
  (35, .ifCond .lt 10, 3),
  (38, .aload_n 0, 1),
  (39, .bipush 8, 2),
  (41, .invokevirtual 88, 3),
  (44, .ireturn, 1),
  (45, .aload_n 0, 1),
  (46, .getfield 47, 3),
  (49, .iload_n 1, 1),
  (50, .lload_n 2, 1),
  (51, .aload_n 0, 1),
  (52, .getfield 51, 3),
  (55, .invokevirtual 304, 3),
  (58, .aload_n 0, 1),
  (59, .iconst 2, 1),
  (60, .iload_n 1, 1),
  (61, .imul, 1),
  (62, .putfield 308, 3),
  (65, .aload_n 0, 1),
  (66, .aload_n 0, 1),
  (67, .getfield 308, 3),
  (70, .invokevirtual 95, 3),
  (73, .ireturn, 1)]
set_option maxRecDepth 100000 in
theorem tX8_brackets_ok : ∀ q ∈ tX8_brackets, decode cX8_brackets q.1 = .ok q.2 := by decide +kernel
theorem dX8_brackets_0 : decode cX8_brackets 0 = .ok (.iload_n 1, 1) := tX8_brackets_ok (0, .iload_n 1, 1) (List.mem_of_getElem? (i := 0) rfl)
theorem dX8_brackets_1 : decode cX8_brackets 1 = .ok (.iconst 0, 1) := tX8_brackets_ok (1, .iconst 0, 1) (List.mem_of_getElem? (i := 1) rfl)
theorem dX8_brackets_2 : decode cX8_brackets 2 = .ok (.bipush 30, 2) := tX8_brackets_ok (2, .bipush 30, 2) (List.mem_of_getElem? (i := 2) rfl)
theorem dX8_brackets_4 : decode cX8_brackets 4 = .ok (.invokestatic 66, 3) := tX8_brackets_ok (4, .invokestatic 66, 3) (List.mem_of_getElem? (i := 3) rfl)
theorem dX8_brackets_7 : decode cX8_brackets 7 = .ok (.ifCond .ne 9, 3) := tX8_brackets_ok (7, .ifCond .ne 9, 3) (List.mem_of_getElem? (i := 4) rfl)
theorem dX8_brackets_10 : decode cX8_brackets 10 = .ok (.aload_n 0, 1) := tX8_brackets_ok (10, .aload_n 0, 1) (List.mem_of_getElem? (i := 5) rfl)
theorem dX8_brackets_11 : decode cX8_brackets 11 = .ok (.iconst 2, 1) := tX8_brackets_ok (11, .iconst 2, 1) (List.mem_of_getElem? (i := 6) rfl)
theorem dX8_brackets_12 : decode cX8_brackets 12 = .ok (.invokevirtual 88, 3) := tX8_brackets_ok (12, .invokevirtual 88, 3) (List.mem_of_getElem? (i := 7) rfl)
theorem dX8_brackets_15 : decode cX8_brackets 15 = .ok (.ireturn, 1) := tX8_brackets_ok (15, .ireturn, 1) (List.mem_of_getElem? (i := 8) rfl)
theorem dX8_brackets_16 : decode cX8_brackets 16 = .ok (.lload_n 2, 1) := tX8_brackets_ok (16, .lload_n 2, 1) (List.mem_of_getElem? (i := 9) rfl)
theorem dX8_brackets_17 : decode cX8_brackets 17 = .ok (.lconst 0, 1) := tX8_brackets_ok (17, .lconst 0, 1) (List.mem_of_getElem? (i := 10) rfl)
theorem dX8_brackets_18 : decode cX8_brackets 18 = .ok (.lcmp, 1) := tX8_brackets_ok (18, .lcmp, 1) (List.mem_of_getElem? (i := 11) rfl)
theorem dX8_brackets_19 : decode cX8_brackets 19 = .ok (.ifCond .lt 19, 3) := tX8_brackets_ok (19, .ifCond .lt 19, 3) (List.mem_of_getElem? (i := 12) rfl)
theorem dX8_brackets_22 : decode cX8_brackets 22 = .ok (.lload_n 2, 1) := tX8_brackets_ok (22, .lload_n 2, 1) (List.mem_of_getElem? (i := 13) rfl)
theorem dX8_brackets_23 : decode cX8_brackets 23 = .ok (.aload_n 0, 1) := tX8_brackets_ok (23, .aload_n 0, 1) (List.mem_of_getElem? (i := 14) rfl)
theorem dX8_brackets_24 : decode cX8_brackets 24 = .ok (.getfield 47, 3) := tX8_brackets_ok (24, .getfield 47, 3) (List.mem_of_getElem? (i := 15) rfl)
theorem dX8_brackets_27 : decode cX8_brackets 27 = .ok (.iconst 2, 1) := tX8_brackets_ok (27, .iconst 2, 1) (List.mem_of_getElem? (i := 16) rfl)
theorem dX8_brackets_28 : decode cX8_brackets 28 = .ok (.iload_n 1, 1) := tX8_brackets_ok (28, .iload_n 1, 1) (List.mem_of_getElem? (i := 17) rfl)
theorem dX8_brackets_29 : decode cX8_brackets 29 = .ok (.imul, 1) := tX8_brackets_ok (29, .imul, 1) (List.mem_of_getElem? (i := 18) rfl)
theorem dX8_brackets_30 : decode cX8_brackets 30 = .ok (.iconst 0, 1) := tX8_brackets_ok (30, .iconst 0, 1) (List.mem_of_getElem? (i := 19) rfl)
theorem dX8_brackets_31 : decode cX8_brackets 31 = .ok (.invokevirtual 301, 3) := tX8_brackets_ok (31, .invokevirtual 301, 3) (List.mem_of_getElem? (i := 20) rfl)
theorem dX8_brackets_34 : decode cX8_brackets 34 = .ok (.lcmp, 1) := tX8_brackets_ok (34, .lcmp, 1) (List.mem_of_getElem? (i := 21) rfl)
theorem dX8_brackets_35 : decode cX8_brackets 35 = .ok (.ifCond .lt 10, 3) := tX8_brackets_ok (35, .ifCond .lt 10, 3) (List.mem_of_getElem? (i := 22) rfl)
theorem dX8_brackets_38 : decode cX8_brackets 38 = .ok (.aload_n 0, 1) := tX8_brackets_ok (38, .aload_n 0, 1) (List.mem_of_getElem? (i := 23) rfl)
theorem dX8_brackets_39 : decode cX8_brackets 39 = .ok (.bipush 8, 2) := tX8_brackets_ok (39, .bipush 8, 2) (List.mem_of_getElem? (i := 24) rfl)
theorem dX8_brackets_41 : decode cX8_brackets 41 = .ok (.invokevirtual 88, 3) := tX8_brackets_ok (41, .invokevirtual 88, 3) (List.mem_of_getElem? (i := 25) rfl)
theorem dX8_brackets_44 : decode cX8_brackets 44 = .ok (.ireturn, 1) := tX8_brackets_ok (44, .ireturn, 1) (List.mem_of_getElem? (i := 26) rfl)
theorem dX8_brackets_45 : decode cX8_brackets 45 = .ok (.aload_n 0, 1) := tX8_brackets_ok (45, .aload_n 0, 1) (List.mem_of_getElem? (i := 27) rfl)
theorem dX8_brackets_46 : decode cX8_brackets 46 = .ok (.getfield 47, 3) := tX8_brackets_ok (46, .getfield 47, 3) (List.mem_of_getElem? (i := 28) rfl)
theorem dX8_brackets_49 : decode cX8_brackets 49 = .ok (.iload_n 1, 1) := tX8_brackets_ok (49, .iload_n 1, 1) (List.mem_of_getElem? (i := 29) rfl)
theorem dX8_brackets_50 : decode cX8_brackets 50 = .ok (.lload_n 2, 1) := tX8_brackets_ok (50, .lload_n 2, 1) (List.mem_of_getElem? (i := 30) rfl)
theorem dX8_brackets_51 : decode cX8_brackets 51 = .ok (.aload_n 0, 1) := tX8_brackets_ok (51, .aload_n 0, 1) (List.mem_of_getElem? (i := 31) rfl)
theorem dX8_brackets_52 : decode cX8_brackets 52 = .ok (.getfield 51, 3) := tX8_brackets_ok (52, .getfield 51, 3) (List.mem_of_getElem? (i := 32) rfl)
theorem dX8_brackets_55 : decode cX8_brackets 55 = .ok (.invokevirtual 304, 3) := tX8_brackets_ok (55, .invokevirtual 304, 3) (List.mem_of_getElem? (i := 33) rfl)
theorem dX8_brackets_58 : decode cX8_brackets 58 = .ok (.aload_n 0, 1) := tX8_brackets_ok (58, .aload_n 0, 1) (List.mem_of_getElem? (i := 34) rfl)
theorem dX8_brackets_59 : decode cX8_brackets 59 = .ok (.iconst 2, 1) := tX8_brackets_ok (59, .iconst 2, 1) (List.mem_of_getElem? (i := 35) rfl)
theorem dX8_brackets_60 : decode cX8_brackets 60 = .ok (.iload_n 1, 1) := tX8_brackets_ok (60, .iload_n 1, 1) (List.mem_of_getElem? (i := 36) rfl)
theorem dX8_brackets_61 : decode cX8_brackets 61 = .ok (.imul, 1) := tX8_brackets_ok (61, .imul, 1) (List.mem_of_getElem? (i := 37) rfl)
theorem dX8_brackets_62 : decode cX8_brackets 62 = .ok (.putfield 308, 3) := tX8_brackets_ok (62, .putfield 308, 3) (List.mem_of_getElem? (i := 38) rfl)
theorem dX8_brackets_65 : decode cX8_brackets 65 = .ok (.aload_n 0, 1) := tX8_brackets_ok (65, .aload_n 0, 1) (List.mem_of_getElem? (i := 39) rfl)
theorem dX8_brackets_66 : decode cX8_brackets 66 = .ok (.aload_n 0, 1) := tX8_brackets_ok (66, .aload_n 0, 1) (List.mem_of_getElem? (i := 40) rfl)
theorem dX8_brackets_67 : decode cX8_brackets 67 = .ok (.getfield 308, 3) := tX8_brackets_ok (67, .getfield 308, 3) (List.mem_of_getElem? (i := 41) rfl)
theorem dX8_brackets_70 : decode cX8_brackets 70 = .ok (.invokevirtual 95, 3) := tX8_brackets_ok (70, .invokevirtual 95, 3) (List.mem_of_getElem? (i := 42) rfl)
theorem dX8_brackets_73 : decode cX8_brackets 73 = .ok (.ireturn, 1) := tX8_brackets_ok (73, .ireturn, 1) (List.mem_of_getElem? (i := 43) rfl)

def tX8_order : List (Nat × Instr × Nat) := [
  (0, .iload_n 1, 1),
  (1, .invokestatic 62, 3),
  (4, .ifCond .eq 16, 3),
  (7, .iload_n 2, 1),
  (8, .iconst 1, 1),
  (9, .iand, 1),
  (10, .ifCond .eq 10, 3),
  (13, .aload_n 0, 1),
  (14, .iconst 2, 1),
  (15, .invokevirtual 88, 3),
  (18, .i2l, 1),
  (19, .lreturn, 1),
  (20, .aload_n 0, 1),
  (21, .iload_n 1, 1),
  (22, .iload_n 2, 1),
  (23, .bipush 60, 2),
  (25, .invokevirtual 227, 3),
  (28, .istore_n 3, 1),
  (29, .iload_n 3, 1),
  (30, .ifCond .eq 10, 3),
  (33, .aload_n 0, 1),
  (34, .iload_n 3, 1),
  (35, .invokevirtual 88, 3),
  (38, .i2l, 1),
  (39, .lreturn, 1),
  (40, .aload_n 0, 1),
  (41, .getfield 47, 3),
  (44, .aload_n 0, 1),
  (45, .getfield 12, 3),
  (48, .iload_n 1, 1),
  (49, .iload_n 2, 1),
  (50, .invokevirtual 311, 3),
  (53, .lstore 4, 2),
  (55, .lload 4, 2),
  (57, .lconst 0, 1),
  (58, .lcmp, 1),
  (59, .ifCond .ge 13, 3),
  (62, .aload_n 0, 1),
  (63, .bipush 8, 2),
  (65, .invokevirtual 88, 3),
  (68, .i2l, 1),
  (69, .goto 9, 3),
  (72, .aload_n 0, 1),
  (73, .lload 4, 2),
  (75, .invokevirtual 204, 3),
  (78, .lreturn, 1)]
set_option maxRecDepth 100000 in
theorem tX8_order_ok : ∀ q ∈ tX8_order, decode cX8_order q.1 = .ok q.2 := by decide +kernel
theorem dX8_order_0 : decode cX8_order 0 = .ok (.iload_n 1, 1) := tX8_order_ok (0, .iload_n 1, 1) (List.mem_of_getElem? (i := 0) rfl)
theorem dX8_order_1 : decode cX8_order 1 = .ok (.invokestatic 62, 3) := tX8_order_ok (1, .invokestatic 62, 3) (List.mem_of_getElem? (i := 1) rfl)
theorem dX8_order_4 : decode cX8_order 4 = .ok (.ifCond .eq 16, 3) := tX8_order_ok (4, .ifCond .eq 16, 3) (List.mem_of_getElem? (i := 2) rfl)
theorem dX8_order_7 : decode cX8_order 7 = .ok (.iload_n 2, 1) := tX8_order_ok (7, .iload_n 2, 1) (List.mem_of_getElem? (i := 3) rfl)
theorem dX8_order_8 : decode cX8_order 8 = .ok (.iconst 1, 1) := tX8_order_ok (8, .iconst 1, 1) (List.mem_of_getElem? (i := 4) rfl)
theorem dX8_order_9 : decode cX8_order 9 = .ok (.iand, 1) := tX8_order_ok (9, .iand, 1) (List.mem_of_getElem? (i := 5) rfl)
theorem dX8_order_10 : decode cX8_order 10 = .ok (.ifCond .eq 10, 3) := tX8_order_ok (10, .ifCond .eq 10, 3) (List.mem_of_getElem? (i := 6) rfl)
theorem dX8_order_13 : decode cX8_order 13 = .ok (.aload_n 0, 1) := tX8_order_ok (13, .aload_n 0, 1) (List.mem_of_getElem? (i := 7) rfl)
theorem dX8_order_14 : decode cX8_order 14 = .ok (.iconst 2, 1) := tX8_order_ok (14, .iconst 2, 1) (List.mem_of_getElem? (i := 8) rfl)
theorem dX8_order_15 : decode cX8_order 15 = .ok (.invokevirtual 88, 3) := tX8_order_ok (15, .invokevirtual 88, 3) (List.mem_of_getElem? (i := 9) rfl)
theorem dX8_order_18 : decode cX8_order 18 = .ok (.i2l, 1) := tX8_order_ok (18, .i2l, 1) (List.mem_of_getElem? (i := 10) rfl)
theorem dX8_order_19 : decode cX8_order 19 = .ok (.lreturn, 1) := tX8_order_ok (19, .lreturn, 1) (List.mem_of_getElem? (i := 11) rfl)
theorem dX8_order_20 : decode cX8_order 20 = .ok (.aload_n 0, 1) := tX8_order_ok (20, .aload_n 0, 1) (List.mem_of_getElem? (i := 12) rfl)
theorem dX8_order_21 : decode cX8_order 21 = .ok (.iload_n 1, 1) := tX8_order_ok (21, .iload_n 1, 1) (List.mem_of_getElem? (i := 13) rfl)
theorem dX8_order_22 : decode cX8_order 22 = .ok (.iload_n 2, 1) := tX8_order_ok (22, .iload_n 2, 1) (List.mem_of_getElem? (i := 14) rfl)
theorem dX8_order_23 : decode cX8_order 23 = .ok (.bipush 60, 2) := tX8_order_ok (23, .bipush 60, 2) (List.mem_of_getElem? (i := 15) rfl)
theorem dX8_order_25 : decode cX8_order 25 = .ok (.invokevirtual 227, 3) := tX8_order_ok (25, .invokevirtual 227, 3) (List.mem_of_getElem? (i := 16) rfl)
theorem dX8_order_28 : decode cX8_order 28 = .ok (.istore_n 3, 1) := tX8_order_ok (28, .istore_n 3, 1) (List.mem_of_getElem? (i := 17) rfl)
theorem dX8_order_29 : decode cX8_order 29 = .ok (.iload_n 3, 1) := tX8_order_ok (29, .iload_n 3, 1) (List.mem_of_getElem? (i := 18) rfl)
theorem dX8_order_30 : decode cX8_order 30 = .ok (.ifCond .eq 10, 3) := tX8_order_ok (30, .ifCond .eq 10, 3) (List.mem_of_getElem? (i := 19) rfl)
theorem dX8_order_33 : decode cX8_order 33 = .ok (.aload_n 0, 1) := tX8_order_ok (33, .aload_n 0, 1) (List.mem_of_getElem? (i := 20) rfl)
theorem dX8_order_34 : decode cX8_order 34 = .ok (.iload_n 3, 1) := tX8_order_ok (34, .iload_n 3, 1) (List.mem_of_getElem? (i := 21) rfl)
theorem dX8_order_35 : decode cX8_order 35 = .ok (.invokevirtual 88, 3) := tX8_order_ok (35, .invokevirtual 88, 3) (List.mem_of_getElem? (i := 22) rfl)
theorem dX8_order_38 : decode cX8_order 38 = .ok (.i2l, 1) := tX8_order_ok (38, .i2l, 1) (List.mem_of_getElem? (i := 23) rfl)
theorem dX8_order_39 : decode cX8_order 39 = .ok (.lreturn, 1) := tX8_order_ok (39, .lreturn, 1) (List.mem_of_getElem? (i := 24) rfl)
theorem dX8_order_40 : decode cX8_order 40 = .ok (.aload_n 0, 1) := tX8_order_ok (40, .aload_n 0, 1) (List.mem_of_getElem? (i := 25) rfl)
theorem dX8_order_41 : decode cX8_order 41 = .ok (.getfield 47, 3) := tX8_order_ok (41, .getfield 47, 3) (List.mem_of_getElem? (i := 26) rfl)
theorem dX8_order_44 : decode cX8_order 44 = .ok (.aload_n 0, 1) := tX8_order_ok (44, .aload_n 0, 1) (List.mem_of_getElem? (i := 27) rfl)
theorem dX8_order_45 : decode cX8_order 45 = .ok (.getfield 12, 3) := tX8_order_ok (45, .getfield 12, 3) (List.mem_of_getElem? (i := 28) rfl)
theorem dX8_order_48 : decode cX8_order 48 = .ok (.iload_n 1, 1) := tX8_order_ok (48, .iload_n 1, 1) (List.mem_of_getElem? (i := 29) rfl)
theorem dX8_order_49 : decode cX8_order 49 = .ok (.iload_n 2, 1) := tX8_order_ok (49, .iload_n 2, 1) (List.mem_of_getElem? (i := 30) rfl)
theorem dX8_order_50 : decode cX8_order 50 = .ok (.invokevirtual 311, 3) := tX8_order_ok (50, .invokevirtual 311, 3) (List.mem_of_getElem? (i := 31) rfl)
theorem dX8_order_53 : decode cX8_order 53 = .ok (.lstore 4, 2) := tX8_order_ok (53, .lstore 4, 2) (List.mem_of_getElem? (i := 32) rfl)
theorem dX8_order_55 : decode cX8_order 55 = .ok (.lload 4, 2) := tX8_order_ok (55, .lload 4, 2) (List.mem_of_getElem? (i := 33) rfl)
theorem dX8_order_57 : decode cX8_order 57 = .ok (.lconst 0, 1) := tX8_order_ok (57, .lconst 0, 1) (List.mem_of_getElem? (i := 34) rfl)
theorem dX8_order_58 : decode cX8_order 58 = .ok (.lcmp, 1) := tX8_order_ok (58, .lcmp, 1) (List.mem_of_getElem? (i := 35) rfl)
theorem dX8_order_59 : decode cX8_order 59 = .ok (.ifCond .ge 13, 3) := tX8_order_ok (59, .ifCond .ge 13, 3) (List.mem_of_getElem? (i := 36) rfl)
theorem dX8_order_62 : decode cX8_order 62 = .ok (.aload_n 0, 1) := tX8_order_ok (62, .aload_n 0, 1) (List.mem_of_getElem? (i := 37) rfl)
theorem dX8_order_63 : decode cX8_order 63 = .ok (.bipush 8, 2) := tX8_order_ok (63, .bipush 8, 2) (List.mem_of_getElem? (i := 38) rfl)
theorem dX8_order_65 : decode cX8_order 65 = .ok (.invokevirtual 88, 3) := tX8_order_ok (65, .invokevirtual 88, 3) (List.mem_of_getElem? (i := 39) rfl)
theorem dX8_order_68 : decode cX8_order 68 = .ok (.i2l, 1) := tX8_order_ok (68, .i2l, 1) (List.mem_of_getElem? (i := 40) rfl)
theorem dX8_order_69 : decode cX8_order 69 = .ok (.goto 9, 3) := tX8_order_ok (69, .goto 9, 3) (List.mem_of_getElem? (i := 41) rfl)
theorem dX8_order_72 : decode cX8_order 72 = .ok (.aload_n 0, 1) := tX8_order_ok (72, .aload_n 0, 1) (List.mem_of_getElem? (i := 42) rfl)
theorem dX8_order_73 : decode cX8_order 73 = .ok (.lload 4, 2) := tX8_order_ok (73, .lload 4, 2) (List.mem_of_getElem? (i := 43) rfl)
theorem dX8_order_75 : decode cX8_order 75 = .ok (.invokevirtual 204, 3) := tX8_order_ok (75, .invokevirtual 204, 3) (List.mem_of_getElem? (i := 44) rfl)
theorem dX8_order_78 : decode cX8_order 78 = .ok (.lreturn, 1) := tX8_order_ok (78, .lreturn, 1) (List.mem_of_getElem? (i := 45) rfl)

def tX8_far : List (Nat × Instr × Nat) := [
  (0, .lload_n 1, 1),
  (1, .lconst 0, 1),
  (2, .lcmp, 1),
  (3, .ifCond .ge 9, 3),
  (6, .aload_n 0, 1),
  (7, .iconst 2, 1),
  (8, .invokevirtual 88, 3),
  (11, .ireturn, 1),
  (12, .aload_n 0, 1),
  (13, .getfield 19, 3),
  (16, .invokevirtual 315, 3),
  (19, .ifCond .ne 10, 3),
  (22, .aload_n 0, 1),
  (23, .bipush 7, 2),
  (25, .invokevirtual 88, 3),
  (28, .ireturn, 1),
  (29, .aload_n 0, 1),
  (30, .aload_n 0, 1),
  (31, .getfield 40, 3),
  (34, .aload_n 0, 1),
  (35, .getfield 19, 3),
  (38, .lload_n 1, 1),
  (39, .invokevirtual 318, 3),
  (42, .invokevirtual 95, 3),
  (45, .ireturn, 1)]
set_option maxRecDepth 100000 in
theorem tX8_far_ok : ∀ q ∈ tX8_far, decode cX8_far q.1 = .ok q.2 := by decide +kernel
theorem dX8_far_0 : decode cX8_far 0 = .ok (.lload_n 1, 1) := tX8_far_ok (0, .lload_n 1, 1) (List.mem_of_getElem? (i := 0) rfl)
theorem dX8_far_1 : decode cX8_far 1 = .ok (.lconst 0, 1) := tX8_far_ok (1, .lconst 0, 1) (List.mem_of_getElem? (i := 1) rfl)
theorem dX8_far_2 : decode cX8_far 2 = .ok (.lcmp, 1) := tX8_far_ok (2, .lcmp, 1) (List.mem_of_getElem? (i := 2) rfl)
theorem dX8_far_3 : decode cX8_far 3 = .ok (.ifCond .ge 9, 3) := tX8_far_ok (3, .ifCond .ge 9, 3) (List.mem_of_getElem? (i := 3) rfl)
theorem dX8_far_6 : decode cX8_far 6 = .ok (.aload_n 0, 1) := tX8_far_ok (6, .aload_n 0, 1) (List.mem_of_getElem? (i := 4) rfl)
theorem dX8_far_7 : decode cX8_far 7 = .ok (.iconst 2, 1) := tX8_far_ok (7, .iconst 2, 1) (List.mem_of_getElem? (i := 5) rfl)
theorem dX8_far_8 : decode cX8_far 8 = .ok (.invokevirtual 88, 3) := tX8_far_ok (8, .invokevirtual 88, 3) (List.mem_of_getElem? (i := 6) rfl)
theorem dX8_far_11 : decode cX8_far 11 = .ok (.ireturn, 1) := tX8_far_ok (11, .ireturn, 1) (List.mem_of_getElem? (i := 7) rfl)
theorem dX8_far_12 : decode cX8_far 12 = .ok (.aload_n 0, 1) := tX8_far_ok (12, .aload_n 0, 1) (List.mem_of_getElem? (i := 8) rfl)
theorem dX8_far_13 : decode cX8_far 13 = .ok (.getfield 19, 3) := tX8_far_ok (13, .getfield 19, 3) (List.mem_of_getElem? (i := 9) rfl)
theorem dX8_far_16 : decode cX8_far 16 = .ok (.invokevirtual 315, 3) := tX8_far_ok (16, .invokevirtual 315, 3) (List.mem_of_getElem? (i := 10) rfl)
theorem dX8_far_19 : decode cX8_far 19 = .ok (.ifCond .ne 10, 3) := tX8_far_ok (19, .ifCond .ne 10, 3) (List.mem_of_getElem? (i := 11) rfl)
theorem dX8_far_22 : decode cX8_far 22 = .ok (.aload_n 0, 1) := tX8_far_ok (22, .aload_n 0, 1) (List.mem_of_getElem? (i := 12) rfl)
theorem dX8_far_23 : decode cX8_far 23 = .ok (.bipush 7, 2) := tX8_far_ok (23, .bipush 7, 2) (List.mem_of_getElem? (i := 13) rfl)
theorem dX8_far_25 : decode cX8_far 25 = .ok (.invokevirtual 88, 3) := tX8_far_ok (25, .invokevirtual 88, 3) (List.mem_of_getElem? (i := 14) rfl)
theorem dX8_far_28 : decode cX8_far 28 = .ok (.ireturn, 1) := tX8_far_ok (28, .ireturn, 1) (List.mem_of_getElem? (i := 15) rfl)
theorem dX8_far_29 : decode cX8_far 29 = .ok (.aload_n 0, 1) := tX8_far_ok (29, .aload_n 0, 1) (List.mem_of_getElem? (i := 16) rfl)
theorem dX8_far_30 : decode cX8_far 30 = .ok (.aload_n 0, 1) := tX8_far_ok (30, .aload_n 0, 1) (List.mem_of_getElem? (i := 17) rfl)
theorem dX8_far_31 : decode cX8_far 31 = .ok (.getfield 40, 3) := tX8_far_ok (31, .getfield 40, 3) (List.mem_of_getElem? (i := 18) rfl)
theorem dX8_far_34 : decode cX8_far 34 = .ok (.aload_n 0, 1) := tX8_far_ok (34, .aload_n 0, 1) (List.mem_of_getElem? (i := 19) rfl)
theorem dX8_far_35 : decode cX8_far 35 = .ok (.getfield 19, 3) := tX8_far_ok (35, .getfield 19, 3) (List.mem_of_getElem? (i := 20) rfl)
theorem dX8_far_38 : decode cX8_far 38 = .ok (.lload_n 1, 1) := tX8_far_ok (38, .lload_n 1, 1) (List.mem_of_getElem? (i := 21) rfl)
theorem dX8_far_39 : decode cX8_far 39 = .ok (.invokevirtual 318, 3) := tX8_far_ok (39, .invokevirtual 318, 3) (List.mem_of_getElem? (i := 22) rfl)
theorem dX8_far_42 : decode cX8_far 42 = .ok (.invokevirtual 95, 3) := tX8_far_ok (42, .invokevirtual 95, 3) (List.mem_of_getElem? (i := 23) rfl)
theorem dX8_far_45 : decode cX8_far 45 = .ok (.ireturn, 1) := tX8_far_ok (45, .ireturn, 1) (List.mem_of_getElem? (i := 24) rfl)

def tX8_rule : List (Nat × Instr × Nat) := [
  (0, .aload_n 0, 1),
  (1, .getfield 19, 3),
  (4, .invokevirtual 315, 3),
  (7, .ifCond .ne 10, 3),
  (10, .aload_n 0, 1),
  (11, .bipush 7, 2),
  (13, .invokevirtual 88, 3),
  (16, .ireturn, 1),
  (17, .aload_n 0, 1),
  (18, .aload_n 0, 1),
  (19, .getfield 40, 3),
  (22, .aload_n 0, 1),
  (23, .getfield 19, 3),
  (26, .invokevirtual 322, 3),
  (29, .invokevirtual 95, 3),
  (32, .ireturn, 1)]
set_option maxRecDepth 100000 in
theorem tX8_rule_ok : ∀ q ∈ tX8_rule, decode cX8_rule q.1 = .ok q.2 := by decide +kernel
theorem dX8_rule_0 : decode cX8_rule 0 = .ok (.aload_n 0, 1) := tX8_rule_ok (0, .aload_n 0, 1) (List.mem_of_getElem? (i := 0) rfl)
theorem dX8_rule_1 : decode cX8_rule 1 = .ok (.getfield 19, 3) := tX8_rule_ok (1, .getfield 19, 3) (List.mem_of_getElem? (i := 1) rfl)
theorem dX8_rule_4 : decode cX8_rule 4 = .ok (.invokevirtual 315, 3) := tX8_rule_ok (4, .invokevirtual 315, 3) (List.mem_of_getElem? (i := 2) rfl)
theorem dX8_rule_7 : decode cX8_rule 7 = .ok (.ifCond .ne 10, 3) := tX8_rule_ok (7, .ifCond .ne 10, 3) (List.mem_of_getElem? (i := 3) rfl)
theorem dX8_rule_10 : decode cX8_rule 10 = .ok (.aload_n 0, 1) := tX8_rule_ok (10, .aload_n 0, 1) (List.mem_of_getElem? (i := 4) rfl)
theorem dX8_rule_11 : decode cX8_rule 11 = .ok (.bipush 7, 2) := tX8_rule_ok (11, .bipush 7, 2) (List.mem_of_getElem? (i := 5) rfl)
theorem dX8_rule_13 : decode cX8_rule 13 = .ok (.invokevirtual 88, 3) := tX8_rule_ok (13, .invokevirtual 88, 3) (List.mem_of_getElem? (i := 6) rfl)
theorem dX8_rule_16 : decode cX8_rule 16 = .ok (.ireturn, 1) := tX8_rule_ok (16, .ireturn, 1) (List.mem_of_getElem? (i := 7) rfl)
theorem dX8_rule_17 : decode cX8_rule 17 = .ok (.aload_n 0, 1) := tX8_rule_ok (17, .aload_n 0, 1) (List.mem_of_getElem? (i := 8) rfl)
theorem dX8_rule_18 : decode cX8_rule 18 = .ok (.aload_n 0, 1) := tX8_rule_ok (18, .aload_n 0, 1) (List.mem_of_getElem? (i := 9) rfl)
theorem dX8_rule_19 : decode cX8_rule 19 = .ok (.getfield 40, 3) := tX8_rule_ok (19, .getfield 40, 3) (List.mem_of_getElem? (i := 10) rfl)
theorem dX8_rule_22 : decode cX8_rule 22 = .ok (.aload_n 0, 1) := tX8_rule_ok (22, .aload_n 0, 1) (List.mem_of_getElem? (i := 11) rfl)
theorem dX8_rule_23 : decode cX8_rule 23 = .ok (.getfield 19, 3) := tX8_rule_ok (23, .getfield 19, 3) (List.mem_of_getElem? (i := 12) rfl)
theorem dX8_rule_26 : decode cX8_rule 26 = .ok (.invokevirtual 322, 3) := tX8_rule_ok (26, .invokevirtual 322, 3) (List.mem_of_getElem? (i := 13) rfl)
theorem dX8_rule_29 : decode cX8_rule 29 = .ok (.invokevirtual 95, 3) := tX8_rule_ok (29, .invokevirtual 95, 3) (List.mem_of_getElem? (i := 14) rfl)
theorem dX8_rule_32 : decode cX8_rule 32 = .ok (.ireturn, 1) := tX8_rule_ok (32, .ireturn, 1) (List.mem_of_getElem? (i := 15) rfl)

def tX8_part : List (Nat × Instr × Nat) := [
  (0, .aload_n 0, 1),
  (1, .getfield 40, 3),
  (4, .iload_n 1, 1),
  (5, .invokevirtual 326, 3),
  (8, .ifCond .ne 10, 3),
  (11, .aload_n 0, 1),
  (12, .bipush 8, 2),
  (14, .invokevirtual 88, 3),
  (17, .ireturn, 1),
  (18, .aload_n 0, 1),
  (19, .aload_n 0, 1),
  (20, .getfield 40, 3),
  (23, .iload_n 1, 1),
  (24, .invokevirtual 329, 3),
  (27, .invokevirtual 95, 3),
  (30, .ireturn, 1)]
set_option maxRecDepth 100000 in
theorem tX8_part_ok : ∀ q ∈ tX8_part, decode cX8_part q.1 = .ok q.2 := by decide +kernel
theorem dX8_part_0 : decode cX8_part 0 = .ok (.aload_n 0, 1) := tX8_part_ok (0, .aload_n 0, 1) (List.mem_of_getElem? (i := 0) rfl)
theorem dX8_part_1 : decode cX8_part 1 = .ok (.getfield 40, 3) := tX8_part_ok (1, .getfield 40, 3) (List.mem_of_getElem? (i := 1) rfl)
theorem dX8_part_4 : decode cX8_part 4 = .ok (.iload_n 1, 1) := tX8_part_ok (4, .iload_n 1, 1) (List.mem_of_getElem? (i := 2) rfl)
theorem dX8_part_5 : decode cX8_part 5 = .ok (.invokevirtual 326, 3) := tX8_part_ok (5, .invokevirtual 326, 3) (List.mem_of_getElem? (i := 3) rfl)
theorem dX8_part_8 : decode cX8_part 8 = .ok (.ifCond .ne 10, 3) := tX8_part_ok (8, .ifCond .ne 10, 3) (List.mem_of_getElem? (i := 4) rfl)
theorem dX8_part_11 : decode cX8_part 11 = .ok (.aload_n 0, 1) := tX8_part_ok (11, .aload_n 0, 1) (List.mem_of_getElem? (i := 5) rfl)
theorem dX8_part_12 : decode cX8_part 12 = .ok (.bipush 8, 2) := tX8_part_ok (12, .bipush 8, 2) (List.mem_of_getElem? (i := 6) rfl)
theorem dX8_part_14 : decode cX8_part 14 = .ok (.invokevirtual 88, 3) := tX8_part_ok (14, .invokevirtual 88, 3) (List.mem_of_getElem? (i := 7) rfl)
theorem dX8_part_17 : decode cX8_part 17 = .ok (.ireturn, 1) := tX8_part_ok (17, .ireturn, 1) (List.mem_of_getElem? (i := 8) rfl)
theorem dX8_part_18 : decode cX8_part 18 = .ok (.aload_n 0, 1) := tX8_part_ok (18, .aload_n 0, 1) (List.mem_of_getElem? (i := 9) rfl)
theorem dX8_part_19 : decode cX8_part 19 = .ok (.aload_n 0, 1) := tX8_part_ok (19, .aload_n 0, 1) (List.mem_of_getElem? (i := 10) rfl)
theorem dX8_part_20 : decode cX8_part 20 = .ok (.getfield 40, 3) := tX8_part_ok (20, .getfield 40, 3) (List.mem_of_getElem? (i := 11) rfl)
theorem dX8_part_23 : decode cX8_part 23 = .ok (.iload_n 1, 1) := tX8_part_ok (23, .iload_n 1, 1) (List.mem_of_getElem? (i := 12) rfl)
theorem dX8_part_24 : decode cX8_part 24 = .ok (.invokevirtual 329, 3) := tX8_part_ok (24, .invokevirtual 329, 3) (List.mem_of_getElem? (i := 13) rfl)
theorem dX8_part_27 : decode cX8_part 27 = .ok (.invokevirtual 95, 3) := tX8_part_ok (27, .invokevirtual 95, 3) (List.mem_of_getElem? (i := 14) rfl)
theorem dX8_part_30 : decode cX8_part 30 = .ok (.ireturn, 1) := tX8_part_ok (30, .ireturn, 1) (List.mem_of_getElem? (i := 15) rfl)

def tX8_out : List (Nat × Instr × Nat) := [
  (0, .iload_n 1, 1),
  (1, .ifCond .lt 17, 3),
  (4, .iload_n 1, 1),
  (5, .aload_n 0, 1),
  (6, .getfield 308, 3),
  (9, .if_icmp .ge 9, 3),
  (12, .iload_n 1, 1),
  (13, .bipush 60, 2),
  (15, .if_icmp .lt 11, 3),
  (18, .new 332, 3),
  (21, .dup, 1),
  (22, .invokespecial 334, 3),
  (25, .athrow, 1),
  (26, .aload_n 0, 1),
  (27, .getfield 51, 3),
  (30, .iload_n 1, 1),
  (31, .iaload, 1),
  (32, .ireturn, 1)]
set_option maxRecDepth 100000 in
theorem tX8_out_ok : ∀ q ∈ tX8_out, decode cX8_out q.1 = .ok q.2 := by decide +kernel
theorem dX8_out_0 : decode cX8_out 0 = .ok (.iload_n 1, 1) := tX8_out_ok (0, .iload_n 1, 1) (List.mem_of_getElem? (i := 0) rfl)
theorem dX8_out_1 : decode cX8_out 1 = .ok (.ifCond .lt 17, 3) := tX8_out_ok (1, .ifCond .lt 17, 3) (List.mem_of_getElem? (i := 1) rfl)
theorem dX8_out_4 : decode cX8_out 4 = .ok (.iload_n 1, 1) := tX8_out_ok (4, .iload_n 1, 1) (List.mem_of_getElem? (i := 2) rfl)
theorem dX8_out_5 : decode cX8_out 5 = .ok (.aload_n 0, 1) := tX8_out_ok (5, .aload_n 0, 1) (List.mem_of_getElem? (i := 3) rfl)
theorem dX8_out_6 : decode cX8_out 6 = .ok (.getfield 308, 3) := tX8_out_ok (6, .getfield 308, 3) (List.mem_of_getElem? (i := 4) rfl)
theorem dX8_out_9 : decode cX8_out 9 = .ok (.if_icmp .ge 9, 3) := tX8_out_ok (9, .if_icmp .ge 9, 3) (List.mem_of_getElem? (i := 5) rfl)
theorem dX8_out_12 : decode cX8_out 12 = .ok (.iload_n 1, 1) := tX8_out_ok (12, .iload_n 1, 1) (List.mem_of_getElem? (i := 6) rfl)
theorem dX8_out_13 : decode cX8_out 13 = .ok (.bipush 60, 2) := tX8_out_ok (13, .bipush 60, 2) (List.mem_of_getElem? (i := 7) rfl)
theorem dX8_out_15 : decode cX8_out 15 = .ok (.if_icmp .lt 11, 3) := tX8_out_ok (15, .if_icmp .lt 11, 3) (List.mem_of_getElem? (i := 8) rfl)
theorem dX8_out_18 : decode cX8_out 18 = .ok (.new 332, 3) := tX8_out_ok (18, .new 332, 3) (List.mem_of_getElem? (i := 9) rfl)
theorem dX8_out_21 : decode cX8_out 21 = .ok (.dup, 1) := tX8_out_ok (21, .dup, 1) (List.mem_of_getElem? (i := 10) rfl)
theorem dX8_out_22 : decode cX8_out 22 = .ok (.invokespecial 334, 3) := tX8_out_ok (22, .invokespecial 334, 3) (List.mem_of_getElem? (i := 11) rfl)
theorem dX8_out_25 : decode cX8_out 25 = .ok (.athrow, 1) := tX8_out_ok (25, .athrow, 1) (List.mem_of_getElem? (i := 12) rfl)
theorem dX8_out_26 : decode cX8_out 26 = .ok (.aload_n 0, 1) := tX8_out_ok (26, .aload_n 0, 1) (List.mem_of_getElem? (i := 13) rfl)
theorem dX8_out_27 : decode cX8_out 27 = .ok (.getfield 51, 3) := tX8_out_ok (27, .getfield 51, 3) (List.mem_of_getElem? (i := 14) rfl)
theorem dX8_out_30 : decode cX8_out 30 = .ok (.iload_n 1, 1) := tX8_out_ok (30, .iload_n 1, 1) (List.mem_of_getElem? (i := 15) rfl)
theorem dX8_out_31 : decode cX8_out 31 = .ok (.iaload, 1) := tX8_out_ok (31, .iaload, 1) (List.mem_of_getElem? (i := 16) rfl)
theorem dX8_out_32 : decode cX8_out 32 = .ok (.ireturn, 1) := tX8_out_ok (32, .ireturn, 1) (List.mem_of_getElem? (i := 17) rfl)

def tX8_denied : List (Nat × Instr × Nat) := [
  (0, .aload_n 0, 1),
  (1, .iload_n 1, 1),
  (2, .putfield 58, 3),
  (5, .iconst 0, 1),
  (6, .ireturn, 1)]
set_option maxRecDepth 100000 in
theorem tX8_denied_ok : ∀ q ∈ tX8_denied, decode cX8_denied q.1 = .ok q.2 := by decide +kernel
theorem dX8_denied_0 : decode cX8_denied 0 = .ok (.aload_n 0, 1) := tX8_denied_ok (0, .aload_n 0, 1) (List.mem_of_getElem? (i := 0) rfl)
theorem dX8_denied_1 : decode cX8_denied 1 = .ok (.iload_n 1, 1) := tX8_denied_ok (1, .iload_n 1, 1) (List.mem_of_getElem? (i := 1) rfl)
theorem dX8_denied_2 : decode cX8_denied 2 = .ok (.putfield 58, 3) := tX8_denied_ok (2, .putfield 58, 3) (List.mem_of_getElem? (i := 2) rfl)
theorem dX8_denied_5 : decode cX8_denied 5 = .ok (.iconst 0, 1) := tX8_denied_ok (5, .iconst 0, 1) (List.mem_of_getElem? (i := 3) rfl)
theorem dX8_denied_6 : decode cX8_denied 6 = .ok (.ireturn, 1) := tX8_denied_ok (6, .ireturn, 1) (List.mem_of_getElem? (i := 4) rfl)

def tX8_refused : List (Nat × Instr × Nat) := [
  (0, .aload_n 0, 1),
  (1, .iload_n 1, 1),
  (2, .putfield 58, 3),
  (5, .iconst (-1), 1),
  (6, .ireturn, 1)]
set_option maxRecDepth 100000 in
theorem tX8_refused_ok : ∀ q ∈ tX8_refused, decode cX8_refused q.1 = .ok q.2 := by decide +kernel
theorem dX8_refused_0 : decode cX8_refused 0 = .ok (.aload_n 0, 1) := tX8_refused_ok (0, .aload_n 0, 1) (List.mem_of_getElem? (i := 0) rfl)
theorem dX8_refused_1 : decode cX8_refused 1 = .ok (.iload_n 1, 1) := tX8_refused_ok (1, .iload_n 1, 1) (List.mem_of_getElem? (i := 1) rfl)
theorem dX8_refused_2 : decode cX8_refused 2 = .ok (.putfield 58, 3) := tX8_refused_ok (2, .putfield 58, 3) (List.mem_of_getElem? (i := 2) rfl)
theorem dX8_refused_5 : decode cX8_refused 5 = .ok (.iconst (-1), 1) := tX8_refused_ok (5, .iconst (-1), 1) (List.mem_of_getElem? (i := 3) rfl)
theorem dX8_refused_6 : decode cX8_refused 6 = .ok (.ireturn, 1) := tX8_refused_ok (6, .ireturn, 1) (List.mem_of_getElem? (i := 4) rfl)

def tX8_granted : List (Nat × Instr × Nat) := [
  (0, .aload_n 0, 1),
  (1, .iconst 0, 1),
  (2, .putfield 58, 3),
  (5, .iconst 1, 1),
  (6, .ireturn, 1)]
set_option maxRecDepth 100000 in
theorem tX8_granted_ok : ∀ q ∈ tX8_granted, decode cX8_granted q.1 = .ok q.2 := by decide +kernel
theorem dX8_granted_0 : decode cX8_granted 0 = .ok (.aload_n 0, 1) := tX8_granted_ok (0, .aload_n 0, 1) (List.mem_of_getElem? (i := 0) rfl)
theorem dX8_granted_1 : decode cX8_granted 1 = .ok (.iconst 0, 1) := tX8_granted_ok (1, .iconst 0, 1) (List.mem_of_getElem? (i := 1) rfl)
theorem dX8_granted_2 : decode cX8_granted 2 = .ok (.putfield 58, 3) := tX8_granted_ok (2, .putfield 58, 3) (List.mem_of_getElem? (i := 2) rfl)
theorem dX8_granted_5 : decode cX8_granted 5 = .ok (.iconst 1, 1) := tX8_granted_ok (5, .iconst 1, 1) (List.mem_of_getElem? (i := 3) rfl)
theorem dX8_granted_6 : decode cX8_granted 6 = .ok (.ireturn, 1) := tX8_granted_ok (6, .ireturn, 1) (List.mem_of_getElem? (i := 4) rfl)

def tX8_given : List (Nat × Instr × Nat) := [
  (0, .aload_n 0, 1),
  (1, .iconst 0, 1),
  (2, .putfield 58, 3),
  (5, .iload_n 1, 1),
  (6, .ireturn, 1)]
set_option maxRecDepth 100000 in
theorem tX8_given_ok : ∀ q ∈ tX8_given, decode cX8_given q.1 = .ok q.2 := by decide +kernel
theorem dX8_given_0 : decode cX8_given 0 = .ok (.aload_n 0, 1) := tX8_given_ok (0, .aload_n 0, 1) (List.mem_of_getElem? (i := 0) rfl)
theorem dX8_given_1 : decode cX8_given 1 = .ok (.iconst 0, 1) := tX8_given_ok (1, .iconst 0, 1) (List.mem_of_getElem? (i := 1) rfl)
theorem dX8_given_2 : decode cX8_given 2 = .ok (.putfield 58, 3) := tX8_given_ok (2, .putfield 58, 3) (List.mem_of_getElem? (i := 2) rfl)
theorem dX8_given_5 : decode cX8_given 5 = .ok (.iload_n 1, 1) := tX8_given_ok (5, .iload_n 1, 1) (List.mem_of_getElem? (i := 3) rfl)
theorem dX8_given_6 : decode cX8_given 6 = .ok (.ireturn, 1) := tX8_given_ok (6, .ireturn, 1) (List.mem_of_getElem? (i := 4) rfl)

def tX8_givenLong : List (Nat × Instr × Nat) := [
  (0, .aload_n 0, 1),
  (1, .iconst 0, 1),
  (2, .putfield 58, 3),
  (5, .lload_n 1, 1),
  (6, .lreturn, 1)]
set_option maxRecDepth 100000 in
theorem tX8_givenLong_ok : ∀ q ∈ tX8_givenLong, decode cX8_givenLong q.1 = .ok q.2 := by decide +kernel
theorem dX8_givenLong_0 : decode cX8_givenLong 0 = .ok (.aload_n 0, 1) := tX8_givenLong_ok (0, .aload_n 0, 1) (List.mem_of_getElem? (i := 0) rfl)
theorem dX8_givenLong_1 : decode cX8_givenLong 1 = .ok (.iconst 0, 1) := tX8_givenLong_ok (1, .iconst 0, 1) (List.mem_of_getElem? (i := 1) rfl)
theorem dX8_givenLong_2 : decode cX8_givenLong 2 = .ok (.putfield 58, 3) := tX8_givenLong_ok (2, .putfield 58, 3) (List.mem_of_getElem? (i := 2) rfl)
theorem dX8_givenLong_5 : decode cX8_givenLong 5 = .ok (.lload_n 1, 1) := tX8_givenLong_ok (5, .lload_n 1, 1) (List.mem_of_getElem? (i := 3) rfl)
theorem dX8_givenLong_6 : decode cX8_givenLong 6 = .ok (.lreturn, 1) := tX8_givenLong_ok (6, .lreturn, 1) (List.mem_of_getElem? (i := 4) rfl)

def tX8_givenUnlessGreat : List (Nat × Instr × Nat) := [
  (0, .lload_n 1, 1),
  (1, .ldc2_w 221, 3),
  (4, .lcmp, 1),
  (5, .ifCond .lt 13, 3),
  (8, .aload_n 0, 1),
  (9, .bipush 9, 2),
  (11, .invokevirtual 88, 3),
  (14, .i2l, 1),
  (15, .goto 8, 3),
  (18, .aload_n 0, 1),
  (19, .lload_n 1, 1),
  (20, .invokevirtual 204, 3),
  (23, .lreturn, 1)]
set_option maxRecDepth 100000 in
theorem tX8_givenUnlessGreat_ok : ∀ q ∈ tX8_givenUnlessGreat, decode cX8_givenUnlessGreat q.1 = .ok q.2 := by decide +kernel
theorem dX8_givenUnlessGreat_0 : decode cX8_givenUnlessGreat 0 = .ok (.lload_n 1, 1) := tX8_givenUnlessGreat_ok (0, .lload_n 1, 1) (List.mem_of_getElem? (i := 0) rfl)
theorem dX8_givenUnlessGreat_1 : decode cX8_givenUnlessGreat 1 = .ok (.ldc2_w 221, 3) := tX8_givenUnlessGreat_ok (1, .ldc2_w 221, 3) (List.mem_of_getElem? (i := 1) rfl)
theorem dX8_givenUnlessGreat_4 : decode cX8_givenUnlessGreat 4 = .ok (.lcmp, 1) := tX8_givenUnlessGreat_ok (4, .lcmp, 1) (List.mem_of_getElem? (i := 2) rfl)
theorem dX8_givenUnlessGreat_5 : decode cX8_givenUnlessGreat 5 = .ok (.ifCond .lt 13, 3) := tX8_givenUnlessGreat_ok (5, .ifCond .lt 13, 3) (List.mem_of_getElem? (i := 3) rfl)
theorem dX8_givenUnlessGreat_8 : decode cX8_givenUnlessGreat 8 = .ok (.aload_n 0, 1) := tX8_givenUnlessGreat_ok (8, .aload_n 0, 1) (List.mem_of_getElem? (i := 4) rfl)
theorem dX8_givenUnlessGreat_9 : decode cX8_givenUnlessGreat 9 = .ok (.bipush 9, 2) := tX8_givenUnlessGreat_ok (9, .bipush 9, 2) (List.mem_of_getElem? (i := 5) rfl)
theorem dX8_givenUnlessGreat_11 : decode cX8_givenUnlessGreat 11 = .ok (.invokevirtual 88, 3) := tX8_givenUnlessGreat_ok (11, .invokevirtual 88, 3) (List.mem_of_getElem? (i := 6) rfl)
theorem dX8_givenUnlessGreat_14 : decode cX8_givenUnlessGreat 14 = .ok (.i2l, 1) := tX8_givenUnlessGreat_ok (14, .i2l, 1) (List.mem_of_getElem? (i := 7) rfl)
theorem dX8_givenUnlessGreat_15 : decode cX8_givenUnlessGreat 15 = .ok (.goto 8, 3) := tX8_givenUnlessGreat_ok (15, .goto 8, 3) (List.mem_of_getElem? (i := 8) rfl)
theorem dX8_givenUnlessGreat_18 : decode cX8_givenUnlessGreat 18 = .ok (.aload_n 0, 1) := tX8_givenUnlessGreat_ok (18, .aload_n 0, 1) (List.mem_of_getElem? (i := 9) rfl)
theorem dX8_givenUnlessGreat_19 : decode cX8_givenUnlessGreat 19 = .ok (.lload_n 1, 1) := tX8_givenUnlessGreat_ok (19, .lload_n 1, 1) (List.mem_of_getElem? (i := 10) rfl)
theorem dX8_givenUnlessGreat_20 : decode cX8_givenUnlessGreat 20 = .ok (.invokevirtual 204, 3) := tX8_givenUnlessGreat_ok (20, .invokevirtual 204, 3) (List.mem_of_getElem? (i := 11) rfl)
theorem dX8_givenUnlessGreat_23 : decode cX8_givenUnlessGreat 23 = .ok (.lreturn, 1) := tX8_givenUnlessGreat_ok (23, .lreturn, 1) (List.mem_of_getElem? (i := 12) rfl)

def tX8_within : List (Nat × Instr × Nat) := [
  (0, .iload_n 0, 1),
  (1, .iload_n 1, 1),
  (2, .if_icmp .lt 12, 3),
  (5, .iload_n 0, 1),
  (6, .iload_n 2, 1),
  (7, .if_icmp .gt 7, 3),
  (10, .iconst 1, 1),
  (11, .goto 4, 3),
  (14, .iconst 0, 1),
  (15, .ireturn, 1)]
set_option maxRecDepth 100000 in
theorem tX8_within_ok : ∀ q ∈ tX8_within, decode cX8_within q.1 = .ok q.2 := by decide +kernel
theorem dX8_within_0 : decode cX8_within 0 = .ok (.iload_n 0, 1) := tX8_within_ok (0, .iload_n 0, 1) (List.mem_of_getElem? (i := 0) rfl)
theorem dX8_within_1 : decode cX8_within 1 = .ok (.iload_n 1, 1) := tX8_within_ok (1, .iload_n 1, 1) (List.mem_of_getElem? (i := 1) rfl)
theorem dX8_within_2 : decode cX8_within 2 = .ok (.if_icmp .lt 12, 3) := tX8_within_ok (2, .if_icmp .lt 12, 3) (List.mem_of_getElem? (i := 2) rfl)
theorem dX8_within_5 : decode cX8_within 5 = .ok (.iload_n 0, 1) := tX8_within_ok (5, .iload_n 0, 1) (List.mem_of_getElem? (i := 3) rfl)
theorem dX8_within_6 : decode cX8_within 6 = .ok (.iload_n 2, 1) := tX8_within_ok (6, .iload_n 2, 1) (List.mem_of_getElem? (i := 4) rfl)
theorem dX8_within_7 : decode cX8_within 7 = .ok (.if_icmp .gt 7, 3) := tX8_within_ok (7, .if_icmp .gt 7, 3) (List.mem_of_getElem? (i := 5) rfl)
theorem dX8_within_10 : decode cX8_within 10 = .ok (.iconst 1, 1) := tX8_within_ok (10, .iconst 1, 1) (List.mem_of_getElem? (i := 6) rfl)
theorem dX8_within_11 : decode cX8_within 11 = .ok (.goto 4, 3) := tX8_within_ok (11, .goto 4, 3) (List.mem_of_getElem? (i := 7) rfl)
theorem dX8_within_14 : decode cX8_within 14 = .ok (.iconst 0, 1) := tX8_within_ok (14, .iconst 0, 1) (List.mem_of_getElem? (i := 8) rfl)
theorem dX8_within_15 : decode cX8_within 15 = .ok (.ireturn, 1) := tX8_within_ok (15, .ireturn, 1) (List.mem_of_getElem? (i := 9) rfl)

def tX8_sheetFault : List (Nat × Instr × Nat) := [
  (0, .iload_n 1, 1),
  (1, .invokestatic 62, 3),
  (4, .ifCond .ne 5, 3),
  (7, .iconst 1, 1),
  (8, .ireturn, 1),
  (9, .aload_n 0, 1),
  (10, .getfield 12, 3),
  (13, .iload_n 1, 1),
  (14, .invokevirtual 98, 3),
  (17, .ifCond .eq 7, 3),
  (20, .iconst 3, 1),
  (21, .goto 4, 3),
  (24, .iconst 0, 1),
  (25, .ireturn, 1)]
set_option maxRecDepth 100000 in
theorem tX8_sheetFault_ok : ∀ q ∈ tX8_sheetFault, decode cX8_sheetFault q.1 = .ok q.2 := by decide +kernel
theorem dX8_sheetFault_0 : decode cX8_sheetFault 0 = .ok (.iload_n 1, 1) := tX8_sheetFault_ok (0, .iload_n 1, 1) (List.mem_of_getElem? (i := 0) rfl)
theorem dX8_sheetFault_1 : decode cX8_sheetFault 1 = .ok (.invokestatic 62, 3) := tX8_sheetFault_ok (1, .invokestatic 62, 3) (List.mem_of_getElem? (i := 1) rfl)
theorem dX8_sheetFault_4 : decode cX8_sheetFault 4 = .ok (.ifCond .ne 5, 3) := tX8_sheetFault_ok (4, .ifCond .ne 5, 3) (List.mem_of_getElem? (i := 2) rfl)
theorem dX8_sheetFault_7 : decode cX8_sheetFault 7 = .ok (.iconst 1, 1) := tX8_sheetFault_ok (7, .iconst 1, 1) (List.mem_of_getElem? (i := 3) rfl)
theorem dX8_sheetFault_8 : decode cX8_sheetFault 8 = .ok (.ireturn, 1) := tX8_sheetFault_ok (8, .ireturn, 1) (List.mem_of_getElem? (i := 4) rfl)
theorem dX8_sheetFault_9 : decode cX8_sheetFault 9 = .ok (.aload_n 0, 1) := tX8_sheetFault_ok (9, .aload_n 0, 1) (List.mem_of_getElem? (i := 5) rfl)
theorem dX8_sheetFault_10 : decode cX8_sheetFault 10 = .ok (.getfield 12, 3) := tX8_sheetFault_ok (10, .getfield 12, 3) (List.mem_of_getElem? (i := 6) rfl)
theorem dX8_sheetFault_13 : decode cX8_sheetFault 13 = .ok (.iload_n 1, 1) := tX8_sheetFault_ok (13, .iload_n 1, 1) (List.mem_of_getElem? (i := 7) rfl)
theorem dX8_sheetFault_14 : decode cX8_sheetFault 14 = .ok (.invokevirtual 98, 3) := tX8_sheetFault_ok (14, .invokevirtual 98, 3) (List.mem_of_getElem? (i := 8) rfl)
theorem dX8_sheetFault_17 : decode cX8_sheetFault 17 = .ok (.ifCond .eq 7, 3) := tX8_sheetFault_ok (17, .ifCond .eq 7, 3) (List.mem_of_getElem? (i := 9) rfl)
theorem dX8_sheetFault_20 : decode cX8_sheetFault 20 = .ok (.iconst 3, 1) := tX8_sheetFault_ok (20, .iconst 3, 1) (List.mem_of_getElem? (i := 10) rfl)
theorem dX8_sheetFault_21 : decode cX8_sheetFault 21 = .ok (.goto 4, 3) := tX8_sheetFault_ok (21, .goto 4, 3) (List.mem_of_getElem? (i := 11) rfl)
theorem dX8_sheetFault_24 : decode cX8_sheetFault 24 = .ok (.iconst 0, 1) := tX8_sheetFault_ok (24, .iconst 0, 1) (List.mem_of_getElem? (i := 12) rfl)
theorem dX8_sheetFault_25 : decode cX8_sheetFault 25 = .ok (.ireturn, 1) := tX8_sheetFault_ok (25, .ireturn, 1) (List.mem_of_getElem? (i := 13) rfl)

def tX8_placeFault : List (Nat × Instr × Nat) := [
  (0, .aload_n 0, 1),
  (1, .iload_n 1, 1),
  (2, .invokevirtual 111, 3),
  (5, .istore_n 3, 1),
  (6, .iload_n 3, 1),
  (7, .ifCond .eq 5, 3),
  (10, .iload_n 3, 1),
  (11, .ireturn, 1),
  (12, .aload_n 0, 1),
  (13, .getfield 12, 3),
  (16, .iload_n 1, 1),
  (17, .iload_n 2, 1),
  (18, .iconst 1, 1),
  (19, .invokevirtual 104, 3),
  (22, .ifCond .eq 7, 3),
  (25, .iconst 0, 1),
  (26, .goto 4, 3),
  (29, .iconst 4, 1),
  (30, .ireturn, 1)]
set_option maxRecDepth 100000 in
theorem tX8_placeFault_ok : ∀ q ∈ tX8_placeFault, decode cX8_placeFault q.1 = .ok q.2 := by decide +kernel
theorem dX8_placeFault_0 : decode cX8_placeFault 0 = .ok (.aload_n 0, 1) := tX8_placeFault_ok (0, .aload_n 0, 1) (List.mem_of_getElem? (i := 0) rfl)
theorem dX8_placeFault_1 : decode cX8_placeFault 1 = .ok (.iload_n 1, 1) := tX8_placeFault_ok (1, .iload_n 1, 1) (List.mem_of_getElem? (i := 1) rfl)
theorem dX8_placeFault_2 : decode cX8_placeFault 2 = .ok (.invokevirtual 111, 3) := tX8_placeFault_ok (2, .invokevirtual 111, 3) (List.mem_of_getElem? (i := 2) rfl)
theorem dX8_placeFault_5 : decode cX8_placeFault 5 = .ok (.istore_n 3, 1) := tX8_placeFault_ok (5, .istore_n 3, 1) (List.mem_of_getElem? (i := 3) rfl)
theorem dX8_placeFault_6 : decode cX8_placeFault 6 = .ok (.iload_n 3, 1) := tX8_placeFault_ok (6, .iload_n 3, 1) (List.mem_of_getElem? (i := 4) rfl)
theorem dX8_placeFault_7 : decode cX8_placeFault 7 = .ok (.ifCond .eq 5, 3) := tX8_placeFault_ok (7, .ifCond .eq 5, 3) (List.mem_of_getElem? (i := 5) rfl)
theorem dX8_placeFault_10 : decode cX8_placeFault 10 = .ok (.iload_n 3, 1) := tX8_placeFault_ok (10, .iload_n 3, 1) (List.mem_of_getElem? (i := 6) rfl)
theorem dX8_placeFault_11 : decode cX8_placeFault 11 = .ok (.ireturn, 1) := tX8_placeFault_ok (11, .ireturn, 1) (List.mem_of_getElem? (i := 7) rfl)
theorem dX8_placeFault_12 : decode cX8_placeFault 12 = .ok (.aload_n 0, 1) := tX8_placeFault_ok (12, .aload_n 0, 1) (List.mem_of_getElem? (i := 8) rfl)
theorem dX8_placeFault_13 : decode cX8_placeFault 13 = .ok (.getfield 12, 3) := tX8_placeFault_ok (13, .getfield 12, 3) (List.mem_of_getElem? (i := 9) rfl)
theorem dX8_placeFault_16 : decode cX8_placeFault 16 = .ok (.iload_n 1, 1) := tX8_placeFault_ok (16, .iload_n 1, 1) (List.mem_of_getElem? (i := 10) rfl)
theorem dX8_placeFault_17 : decode cX8_placeFault 17 = .ok (.iload_n 2, 1) := tX8_placeFault_ok (17, .iload_n 2, 1) (List.mem_of_getElem? (i := 11) rfl)
theorem dX8_placeFault_18 : decode cX8_placeFault 18 = .ok (.iconst 1, 1) := tX8_placeFault_ok (18, .iconst 1, 1) (List.mem_of_getElem? (i := 12) rfl)
theorem dX8_placeFault_19 : decode cX8_placeFault 19 = .ok (.invokevirtual 104, 3) := tX8_placeFault_ok (19, .invokevirtual 104, 3) (List.mem_of_getElem? (i := 13) rfl)
theorem dX8_placeFault_22 : decode cX8_placeFault 22 = .ok (.ifCond .eq 7, 3) := tX8_placeFault_ok (22, .ifCond .eq 7, 3) (List.mem_of_getElem? (i := 14) rfl)
theorem dX8_placeFault_25 : decode cX8_placeFault 25 = .ok (.iconst 0, 1) := tX8_placeFault_ok (25, .iconst 0, 1) (List.mem_of_getElem? (i := 15) rfl)
theorem dX8_placeFault_26 : decode cX8_placeFault 26 = .ok (.goto 4, 3) := tX8_placeFault_ok (26, .goto 4, 3) (List.mem_of_getElem? (i := 16) rfl)
theorem dX8_placeFault_29 : decode cX8_placeFault 29 = .ok (.iconst 4, 1) := tX8_placeFault_ok (29, .iconst 4, 1) (List.mem_of_getElem? (i := 17) rfl)
theorem dX8_placeFault_30 : decode cX8_placeFault 30 = .ok (.ireturn, 1) := tX8_placeFault_ok (30, .ireturn, 1) (List.mem_of_getElem? (i := 18) rfl)

def tX8_rowFault : List (Nat × Instr × Nat) := [
  (0, .iload_n 1, 1),
  (1, .invokestatic 62, 3),
  (4, .ifCond .ne 5, 3),
  (7, .iconst 1, 1),
  (8, .ireturn, 1),
  (9, .iload_n 2, 1),
  (10, .iconst 0, 1),
  (11, .iload_n 3, 1),
  (12, .invokestatic 66, 3),
  (15, .ifCond .ne 5, 3),
  (18, .iconst 2, 1),
  (19, .ireturn, 1),
  (20, .aload_n 0, 1),
  (21, .getfield 12, 3),
  (24, .iload_n 1, 1),
  (25, .invokevirtual 98, 3),
  (28, .ifCond .eq 5, 3),
  (31, .iconst 3, 1),
  (32, .ireturn, 1),
  (33, .aload_n 0, 1),
  (34, .getfield 12, 3),
  (37, .iload_n 1, 1),
  (38, .iconst 0, 1),
  (39, .iload_n 2, 1),
  (40, .invokevirtual 104, 3),
  (43, .ifCond .eq 7, 3),
  (46, .iconst 0, 1),
  (47, .goto 4, 3),
  (50, .iconst 4, 1),
  (51, .ireturn, 1)]
set_option maxRecDepth 100000 in
theorem tX8_rowFault_ok : ∀ q ∈ tX8_rowFault, decode cX8_rowFault q.1 = .ok q.2 := by decide +kernel
theorem dX8_rowFault_0 : decode cX8_rowFault 0 = .ok (.iload_n 1, 1) := tX8_rowFault_ok (0, .iload_n 1, 1) (List.mem_of_getElem? (i := 0) rfl)
theorem dX8_rowFault_1 : decode cX8_rowFault 1 = .ok (.invokestatic 62, 3) := tX8_rowFault_ok (1, .invokestatic 62, 3) (List.mem_of_getElem? (i := 1) rfl)
theorem dX8_rowFault_4 : decode cX8_rowFault 4 = .ok (.ifCond .ne 5, 3) := tX8_rowFault_ok (4, .ifCond .ne 5, 3) (List.mem_of_getElem? (i := 2) rfl)
theorem dX8_rowFault_7 : decode cX8_rowFault 7 = .ok (.iconst 1, 1) := tX8_rowFault_ok (7, .iconst 1, 1) (List.mem_of_getElem? (i := 3) rfl)
theorem dX8_rowFault_8 : decode cX8_rowFault 8 = .ok (.ireturn, 1) := tX8_rowFault_ok (8, .ireturn, 1) (List.mem_of_getElem? (i := 4) rfl)
theorem dX8_rowFault_9 : decode cX8_rowFault 9 = .ok (.iload_n 2, 1) := tX8_rowFault_ok (9, .iload_n 2, 1) (List.mem_of_getElem? (i := 5) rfl)
theorem dX8_rowFault_10 : decode cX8_rowFault 10 = .ok (.iconst 0, 1) := tX8_rowFault_ok (10, .iconst 0, 1) (List.mem_of_getElem? (i := 6) rfl)
theorem dX8_rowFault_11 : decode cX8_rowFault 11 = .ok (.iload_n 3, 1) := tX8_rowFault_ok (11, .iload_n 3, 1) (List.mem_of_getElem? (i := 7) rfl)
theorem dX8_rowFault_12 : decode cX8_rowFault 12 = .ok (.invokestatic 66, 3) := tX8_rowFault_ok (12, .invokestatic 66, 3) (List.mem_of_getElem? (i := 8) rfl)
theorem dX8_rowFault_15 : decode cX8_rowFault 15 = .ok (.ifCond .ne 5, 3) := tX8_rowFault_ok (15, .ifCond .ne 5, 3) (List.mem_of_getElem? (i := 9) rfl)
theorem dX8_rowFault_18 : decode cX8_rowFault 18 = .ok (.iconst 2, 1) := tX8_rowFault_ok (18, .iconst 2, 1) (List.mem_of_getElem? (i := 10) rfl)
theorem dX8_rowFault_19 : decode cX8_rowFault 19 = .ok (.ireturn, 1) := tX8_rowFault_ok (19, .ireturn, 1) (List.mem_of_getElem? (i := 11) rfl)
theorem dX8_rowFault_20 : decode cX8_rowFault 20 = .ok (.aload_n 0, 1) := tX8_rowFault_ok (20, .aload_n 0, 1) (List.mem_of_getElem? (i := 12) rfl)
theorem dX8_rowFault_21 : decode cX8_rowFault 21 = .ok (.getfield 12, 3) := tX8_rowFault_ok (21, .getfield 12, 3) (List.mem_of_getElem? (i := 13) rfl)
theorem dX8_rowFault_24 : decode cX8_rowFault 24 = .ok (.iload_n 1, 1) := tX8_rowFault_ok (24, .iload_n 1, 1) (List.mem_of_getElem? (i := 14) rfl)
theorem dX8_rowFault_25 : decode cX8_rowFault 25 = .ok (.invokevirtual 98, 3) := tX8_rowFault_ok (25, .invokevirtual 98, 3) (List.mem_of_getElem? (i := 15) rfl)
theorem dX8_rowFault_28 : decode cX8_rowFault 28 = .ok (.ifCond .eq 5, 3) := tX8_rowFault_ok (28, .ifCond .eq 5, 3) (List.mem_of_getElem? (i := 16) rfl)
theorem dX8_rowFault_31 : decode cX8_rowFault 31 = .ok (.iconst 3, 1) := tX8_rowFault_ok (31, .iconst 3, 1) (List.mem_of_getElem? (i := 17) rfl)
theorem dX8_rowFault_32 : decode cX8_rowFault 32 = .ok (.ireturn, 1) := tX8_rowFault_ok (32, .ireturn, 1) (List.mem_of_getElem? (i := 18) rfl)
theorem dX8_rowFault_33 : decode cX8_rowFault 33 = .ok (.aload_n 0, 1) := tX8_rowFault_ok (33, .aload_n 0, 1) (List.mem_of_getElem? (i := 19) rfl)
theorem dX8_rowFault_34 : decode cX8_rowFault 34 = .ok (.getfield 12, 3) := tX8_rowFault_ok (34, .getfield 12, 3) (List.mem_of_getElem? (i := 20) rfl)
theorem dX8_rowFault_37 : decode cX8_rowFault 37 = .ok (.iload_n 1, 1) := tX8_rowFault_ok (37, .iload_n 1, 1) (List.mem_of_getElem? (i := 21) rfl)
theorem dX8_rowFault_38 : decode cX8_rowFault 38 = .ok (.iconst 0, 1) := tX8_rowFault_ok (38, .iconst 0, 1) (List.mem_of_getElem? (i := 22) rfl)
theorem dX8_rowFault_39 : decode cX8_rowFault 39 = .ok (.iload_n 2, 1) := tX8_rowFault_ok (39, .iload_n 2, 1) (List.mem_of_getElem? (i := 23) rfl)
theorem dX8_rowFault_40 : decode cX8_rowFault 40 = .ok (.invokevirtual 104, 3) := tX8_rowFault_ok (40, .invokevirtual 104, 3) (List.mem_of_getElem? (i := 24) rfl)
theorem dX8_rowFault_43 : decode cX8_rowFault 43 = .ok (.ifCond .eq 7, 3) := tX8_rowFault_ok (43, .ifCond .eq 7, 3) (List.mem_of_getElem? (i := 25) rfl)
theorem dX8_rowFault_46 : decode cX8_rowFault 46 = .ok (.iconst 0, 1) := tX8_rowFault_ok (46, .iconst 0, 1) (List.mem_of_getElem? (i := 26) rfl)
theorem dX8_rowFault_47 : decode cX8_rowFault 47 = .ok (.goto 4, 3) := tX8_rowFault_ok (47, .goto 4, 3) (List.mem_of_getElem? (i := 27) rfl)
theorem dX8_rowFault_50 : decode cX8_rowFault 50 = .ok (.iconst 4, 1) := tX8_rowFault_ok (50, .iconst 4, 1) (List.mem_of_getElem? (i := 28) rfl)
theorem dX8_rowFault_51 : decode cX8_rowFault 51 = .ok (.ireturn, 1) := tX8_rowFault_ok (51, .ireturn, 1) (List.mem_of_getElem? (i := 29) rfl)

def tX8_walkFault : List (Nat × Instr × Nat) := [
  (0, .iload_n 1, 1),
  (1, .iconst 0, 1),
  (2, .iload_n 2, 1),
  (3, .invokestatic 66, 3),
  (6, .ifCond .ne 5, 3),
  (9, .iconst 2, 1),
  (10, .ireturn, 1),
  (11, .aload_n 0, 1),
  (12, .getfield 19, 3),
  (15, .invokevirtual 198, 3),
  (18, .ifCond .eq 7, 3),
  (21, .iconst 0, 1),
  (22, .goto 5, 3),
  (25, .bipush 7, 2),
  (27, .ireturn, 1)]
set_option maxRecDepth 100000 in
theorem tX8_walkFault_ok : ∀ q ∈ tX8_walkFault, decode cX8_walkFault q.1 = .ok q.2 := by decide +kernel
theorem dX8_walkFault_0 : decode cX8_walkFault 0 = .ok (.iload_n 1, 1) := tX8_walkFault_ok (0, .iload_n 1, 1) (List.mem_of_getElem? (i := 0) rfl)
theorem dX8_walkFault_1 : decode cX8_walkFault 1 = .ok (.iconst 0, 1) := tX8_walkFault_ok (1, .iconst 0, 1) (List.mem_of_getElem? (i := 1) rfl)
theorem dX8_walkFault_2 : decode cX8_walkFault 2 = .ok (.iload_n 2, 1) := tX8_walkFault_ok (2, .iload_n 2, 1) (List.mem_of_getElem? (i := 2) rfl)
theorem dX8_walkFault_3 : decode cX8_walkFault 3 = .ok (.invokestatic 66, 3) := tX8_walkFault_ok (3, .invokestatic 66, 3) (List.mem_of_getElem? (i := 3) rfl)
theorem dX8_walkFault_6 : decode cX8_walkFault 6 = .ok (.ifCond .ne 5, 3) := tX8_walkFault_ok (6, .ifCond .ne 5, 3) (List.mem_of_getElem? (i := 4) rfl)
theorem dX8_walkFault_9 : decode cX8_walkFault 9 = .ok (.iconst 2, 1) := tX8_walkFault_ok (9, .iconst 2, 1) (List.mem_of_getElem? (i := 5) rfl)
theorem dX8_walkFault_10 : decode cX8_walkFault 10 = .ok (.ireturn, 1) := tX8_walkFault_ok (10, .ireturn, 1) (List.mem_of_getElem? (i := 6) rfl)
theorem dX8_walkFault_11 : decode cX8_walkFault 11 = .ok (.aload_n 0, 1) := tX8_walkFault_ok (11, .aload_n 0, 1) (List.mem_of_getElem? (i := 7) rfl)
theorem dX8_walkFault_12 : decode cX8_walkFault 12 = .ok (.getfield 19, 3) := tX8_walkFault_ok (12, .getfield 19, 3) (List.mem_of_getElem? (i := 8) rfl)
theorem dX8_walkFault_15 : decode cX8_walkFault 15 = .ok (.invokevirtual 198, 3) := tX8_walkFault_ok (15, .invokevirtual 198, 3) (List.mem_of_getElem? (i := 9) rfl)
theorem dX8_walkFault_18 : decode cX8_walkFault 18 = .ok (.ifCond .eq 7, 3) := tX8_walkFault_ok (18, .ifCond .eq 7, 3) (List.mem_of_getElem? (i := 10) rfl)
theorem dX8_walkFault_21 : decode cX8_walkFault 21 = .ok (.iconst 0, 1) := tX8_walkFault_ok (21, .iconst 0, 1) (List.mem_of_getElem? (i := 11) rfl)
theorem dX8_walkFault_22 : decode cX8_walkFault 22 = .ok (.goto 5, 3) := tX8_walkFault_ok (22, .goto 5, 3) (List.mem_of_getElem? (i := 12) rfl)
theorem dX8_walkFault_25 : decode cX8_walkFault 25 = .ok (.bipush 7, 2) := tX8_walkFault_ok (25, .bipush 7, 2) (List.mem_of_getElem? (i := 13) rfl)
theorem dX8_walkFault_27 : decode cX8_walkFault 27 = .ok (.ireturn, 1) := tX8_walkFault_ok (27, .ireturn, 1) (List.mem_of_getElem? (i := 14) rfl)

def tX8_weighFault : List (Nat × Instr × Nat) := [
  (0, .iload_n 1, 1),
  (1, .iconst 0, 1),
  (2, .iconst 3, 1),
  (3, .invokestatic 66, 3),
  (6, .ifCond .eq 13, 3),
  (9, .iload_n 2, 1),
  (10, .iconst 0, 1),
  (11, .bipush 14, 2),
  (13, .invokestatic 66, 3),
  (16, .ifCond .ne 5, 3),
  (19, .iconst 2, 1),
  (20, .ireturn, 1),
  (21, .iload_n 1, 1),
  (22, .iconst 2, 1),
  (23, .if_icmp .ne 20, 3),
  (26, .aload_n 0, 1),
  (27, .getfield 19, 3),
  (30, .getfield 241, 3),
  (33, .iconst 1, 1),
  (34, .iconst 3, 1),
  (35, .invokestatic 66, 3),
  (38, .ifCond .ne 5, 3),
  (41, .iconst 5, 1),
  (42, .ireturn, 1),
  (43, .aload_n 0, 1),
  (44, .getfield 19, 3),
  (47, .invokevirtual 198, 3),
  (50, .ifCond .eq 7, 3),
  (53, .iconst 0, 1),
  (54, .goto 5, 3),
  (57, .bipush 7, 2),
  (59, .ireturn, 1)]
set_option maxRecDepth 100000 in
theorem tX8_weighFault_ok : ∀ q ∈ tX8_weighFault, decode cX8_weighFault q.1 = .ok q.2 := by decide +kernel
theorem dX8_weighFault_0 : decode cX8_weighFault 0 = .ok (.iload_n 1, 1) := tX8_weighFault_ok (0, .iload_n 1, 1) (List.mem_of_getElem? (i := 0) rfl)
theorem dX8_weighFault_1 : decode cX8_weighFault 1 = .ok (.iconst 0, 1) := tX8_weighFault_ok (1, .iconst 0, 1) (List.mem_of_getElem? (i := 1) rfl)
theorem dX8_weighFault_2 : decode cX8_weighFault 2 = .ok (.iconst 3, 1) := tX8_weighFault_ok (2, .iconst 3, 1) (List.mem_of_getElem? (i := 2) rfl)
theorem dX8_weighFault_3 : decode cX8_weighFault 3 = .ok (.invokestatic 66, 3) := tX8_weighFault_ok (3, .invokestatic 66, 3) (List.mem_of_getElem? (i := 3) rfl)
theorem dX8_weighFault_6 : decode cX8_weighFault 6 = .ok (.ifCond .eq 13, 3) := tX8_weighFault_ok (6, .ifCond .eq 13, 3) (List.mem_of_getElem? (i := 4) rfl)
theorem dX8_weighFault_9 : decode cX8_weighFault 9 = .ok (.iload_n 2, 1) := tX8_weighFault_ok (9, .iload_n 2, 1) (List.mem_of_getElem? (i := 5) rfl)
theorem dX8_weighFault_10 : decode cX8_weighFault 10 = .ok (.iconst 0, 1) := tX8_weighFault_ok (10, .iconst 0, 1) (List.mem_of_getElem? (i := 6) rfl)
theorem dX8_weighFault_11 : decode cX8_weighFault 11 = .ok (.bipush 14, 2) := tX8_weighFault_ok (11, .bipush 14, 2) (List.mem_of_getElem? (i := 7) rfl)
theorem dX8_weighFault_13 : decode cX8_weighFault 13 = .ok (.invokestatic 66, 3) := tX8_weighFault_ok (13, .invokestatic 66, 3) (List.mem_of_getElem? (i := 8) rfl)
theorem dX8_weighFault_16 : decode cX8_weighFault 16 = .ok (.ifCond .ne 5, 3) := tX8_weighFault_ok (16, .ifCond .ne 5, 3) (List.mem_of_getElem? (i := 9) rfl)
theorem dX8_weighFault_19 : decode cX8_weighFault 19 = .ok (.iconst 2, 1) := tX8_weighFault_ok (19, .iconst 2, 1) (List.mem_of_getElem? (i := 10) rfl)
theorem dX8_weighFault_20 : decode cX8_weighFault 20 = .ok (.ireturn, 1) := tX8_weighFault_ok (20, .ireturn, 1) (List.mem_of_getElem? (i := 11) rfl)
theorem dX8_weighFault_21 : decode cX8_weighFault 21 = .ok (.iload_n 1, 1) := tX8_weighFault_ok (21, .iload_n 1, 1) (List.mem_of_getElem? (i := 12) rfl)
theorem dX8_weighFault_22 : decode cX8_weighFault 22 = .ok (.iconst 2, 1) := tX8_weighFault_ok (22, .iconst 2, 1) (List.mem_of_getElem? (i := 13) rfl)
theorem dX8_weighFault_23 : decode cX8_weighFault 23 = .ok (.if_icmp .ne 20, 3) := tX8_weighFault_ok (23, .if_icmp .ne 20, 3) (List.mem_of_getElem? (i := 14) rfl)
theorem dX8_weighFault_26 : decode cX8_weighFault 26 = .ok (.aload_n 0, 1) := tX8_weighFault_ok (26, .aload_n 0, 1) (List.mem_of_getElem? (i := 15) rfl)
theorem dX8_weighFault_27 : decode cX8_weighFault 27 = .ok (.getfield 19, 3) := tX8_weighFault_ok (27, .getfield 19, 3) (List.mem_of_getElem? (i := 16) rfl)
theorem dX8_weighFault_30 : decode cX8_weighFault 30 = .ok (.getfield 241, 3) := tX8_weighFault_ok (30, .getfield 241, 3) (List.mem_of_getElem? (i := 17) rfl)
theorem dX8_weighFault_33 : decode cX8_weighFault 33 = .ok (.iconst 1, 1) := tX8_weighFault_ok (33, .iconst 1, 1) (List.mem_of_getElem? (i := 18) rfl)
theorem dX8_weighFault_34 : decode cX8_weighFault 34 = .ok (.iconst 3, 1) := tX8_weighFault_ok (34, .iconst 3, 1) (List.mem_of_getElem? (i := 19) rfl)
theorem dX8_weighFault_35 : decode cX8_weighFault 35 = .ok (.invokestatic 66, 3) := tX8_weighFault_ok (35, .invokestatic 66, 3) (List.mem_of_getElem? (i := 20) rfl)
theorem dX8_weighFault_38 : decode cX8_weighFault 38 = .ok (.ifCond .ne 5, 3) := tX8_weighFault_ok (38, .ifCond .ne 5, 3) (List.mem_of_getElem? (i := 21) rfl)
theorem dX8_weighFault_41 : decode cX8_weighFault 41 = .ok (.iconst 5, 1) := tX8_weighFault_ok (41, .iconst 5, 1) (List.mem_of_getElem? (i := 22) rfl)
theorem dX8_weighFault_42 : decode cX8_weighFault 42 = .ok (.ireturn, 1) := tX8_weighFault_ok (42, .ireturn, 1) (List.mem_of_getElem? (i := 23) rfl)
theorem dX8_weighFault_43 : decode cX8_weighFault 43 = .ok (.aload_n 0, 1) := tX8_weighFault_ok (43, .aload_n 0, 1) (List.mem_of_getElem? (i := 24) rfl)
theorem dX8_weighFault_44 : decode cX8_weighFault 44 = .ok (.getfield 19, 3) := tX8_weighFault_ok (44, .getfield 19, 3) (List.mem_of_getElem? (i := 25) rfl)
theorem dX8_weighFault_47 : decode cX8_weighFault 47 = .ok (.invokevirtual 198, 3) := tX8_weighFault_ok (47, .invokevirtual 198, 3) (List.mem_of_getElem? (i := 26) rfl)
theorem dX8_weighFault_50 : decode cX8_weighFault 50 = .ok (.ifCond .eq 7, 3) := tX8_weighFault_ok (50, .ifCond .eq 7, 3) (List.mem_of_getElem? (i := 27) rfl)
theorem dX8_weighFault_53 : decode cX8_weighFault 53 = .ok (.iconst 0, 1) := tX8_weighFault_ok (53, .iconst 0, 1) (List.mem_of_getElem? (i := 28) rfl)
theorem dX8_weighFault_54 : decode cX8_weighFault 54 = .ok (.goto 5, 3) := tX8_weighFault_ok (54, .goto 5, 3) (List.mem_of_getElem? (i := 29) rfl)
theorem dX8_weighFault_57 : decode cX8_weighFault 57 = .ok (.bipush 7, 2) := tX8_weighFault_ok (57, .bipush 7, 2) (List.mem_of_getElem? (i := 30) rfl)
theorem dX8_weighFault_59 : decode cX8_weighFault 59 = .ok (.ireturn, 1) := tX8_weighFault_ok (59, .ireturn, 1) (List.mem_of_getElem? (i := 31) rfl)

def tX8_comingFault : List (Nat × Instr × Nat) := [
  (0, .iload_n 1, 1),
  (1, .iconst 1, 1),
  (2, .bipush 60, 2),
  (4, .invokestatic 66, 3),
  (7, .ifCond .ne 5, 3),
  (10, .iconst 2, 1),
  (11, .ireturn, 1),
  (12, .aload_n 0, 1),
  (13, .getfield 19, 3),
  (16, .invokevirtual 335, 3),
  (19, .ifCond .eq 5, 3),
  (22, .iconst 5, 1),
  (23, .ireturn, 1),
  (24, .aload_n 0, 1),
  (25, .getfield 19, 3),
  (28, .getfield 157, 3),
  (31, .ifCond .gt 8, 3),
  (34, .bipush 7, 2),
  (36, .goto 4, 3),
  (39, .iconst 0, 1),
  (40, .ireturn, 1)]
set_option maxRecDepth 100000 in
theorem tX8_comingFault_ok : ∀ q ∈ tX8_comingFault, decode cX8_comingFault q.1 = .ok q.2 := by decide +kernel
theorem dX8_comingFault_0 : decode cX8_comingFault 0 = .ok (.iload_n 1, 1) := tX8_comingFault_ok (0, .iload_n 1, 1) (List.mem_of_getElem? (i := 0) rfl)
theorem dX8_comingFault_1 : decode cX8_comingFault 1 = .ok (.iconst 1, 1) := tX8_comingFault_ok (1, .iconst 1, 1) (List.mem_of_getElem? (i := 1) rfl)
theorem dX8_comingFault_2 : decode cX8_comingFault 2 = .ok (.bipush 60, 2) := tX8_comingFault_ok (2, .bipush 60, 2) (List.mem_of_getElem? (i := 2) rfl)
theorem dX8_comingFault_4 : decode cX8_comingFault 4 = .ok (.invokestatic 66, 3) := tX8_comingFault_ok (4, .invokestatic 66, 3) (List.mem_of_getElem? (i := 3) rfl)
theorem dX8_comingFault_7 : decode cX8_comingFault 7 = .ok (.ifCond .ne 5, 3) := tX8_comingFault_ok (7, .ifCond .ne 5, 3) (List.mem_of_getElem? (i := 4) rfl)
theorem dX8_comingFault_10 : decode cX8_comingFault 10 = .ok (.iconst 2, 1) := tX8_comingFault_ok (10, .iconst 2, 1) (List.mem_of_getElem? (i := 5) rfl)
theorem dX8_comingFault_11 : decode cX8_comingFault 11 = .ok (.ireturn, 1) := tX8_comingFault_ok (11, .ireturn, 1) (List.mem_of_getElem? (i := 6) rfl)
theorem dX8_comingFault_12 : decode cX8_comingFault 12 = .ok (.aload_n 0, 1) := tX8_comingFault_ok (12, .aload_n 0, 1) (List.mem_of_getElem? (i := 7) rfl)
theorem dX8_comingFault_13 : decode cX8_comingFault 13 = .ok (.getfield 19, 3) := tX8_comingFault_ok (13, .getfield 19, 3) (List.mem_of_getElem? (i := 8) rfl)
theorem dX8_comingFault_16 : decode cX8_comingFault 16 = .ok (.invokevirtual 335, 3) := tX8_comingFault_ok (16, .invokevirtual 335, 3) (List.mem_of_getElem? (i := 9) rfl)
theorem dX8_comingFault_19 : decode cX8_comingFault 19 = .ok (.ifCond .eq 5, 3) := tX8_comingFault_ok (19, .ifCond .eq 5, 3) (List.mem_of_getElem? (i := 10) rfl)
theorem dX8_comingFault_22 : decode cX8_comingFault 22 = .ok (.iconst 5, 1) := tX8_comingFault_ok (22, .iconst 5, 1) (List.mem_of_getElem? (i := 11) rfl)
theorem dX8_comingFault_23 : decode cX8_comingFault 23 = .ok (.ireturn, 1) := tX8_comingFault_ok (23, .ireturn, 1) (List.mem_of_getElem? (i := 12) rfl)
theorem dX8_comingFault_24 : decode cX8_comingFault 24 = .ok (.aload_n 0, 1) := tX8_comingFault_ok (24, .aload_n 0, 1) (List.mem_of_getElem? (i := 13) rfl)
theorem dX8_comingFault_25 : decode cX8_comingFault 25 = .ok (.getfield 19, 3) := tX8_comingFault_ok (25, .getfield 19, 3) (List.mem_of_getElem? (i := 14) rfl)
theorem dX8_comingFault_28 : decode cX8_comingFault 28 = .ok (.getfield 157, 3) := tX8_comingFault_ok (28, .getfield 157, 3) (List.mem_of_getElem? (i := 15) rfl)
theorem dX8_comingFault_31 : decode cX8_comingFault 31 = .ok (.ifCond .gt 8, 3) := tX8_comingFault_ok (31, .ifCond .gt 8, 3) (List.mem_of_getElem? (i := 16) rfl)
theorem dX8_comingFault_34 : decode cX8_comingFault 34 = .ok (.bipush 7, 2) := tX8_comingFault_ok (34, .bipush 7, 2) (List.mem_of_getElem? (i := 17) rfl)
theorem dX8_comingFault_36 : decode cX8_comingFault 36 = .ok (.goto 4, 3) := tX8_comingFault_ok (36, .goto 4, 3) (List.mem_of_getElem? (i := 18) rfl)
theorem dX8_comingFault_39 : decode cX8_comingFault 39 = .ok (.iconst 0, 1) := tX8_comingFault_ok (39, .iconst 0, 1) (List.mem_of_getElem? (i := 19) rfl)
theorem dX8_comingFault_40 : decode cX8_comingFault 40 = .ok (.ireturn, 1) := tX8_comingFault_ok (40, .ireturn, 1) (List.mem_of_getElem? (i := 20) rfl)

def tX8_areSteps : List (Nat × Instr × Nat) := [
  (0, .iconst 0, 1),
  (1, .istore_n 3, 1),
  (2, .iload_n 3, 1),
  (3, .iload_n 2, 1),
  (4, .if_icmp .ge 124, 3),
  (7, .aload_n 0, 1),
  (8, .getfield 12, 3),
  (11, .iload_n 1, 1),
  (12, .iconst 2, 1),
  (13, .iload_n 3, 1),
  (14, .imul, 1),
  (15, .invokevirtual 92, 3),
  (18, .istore 4, 2),
  (20, .aload_n 0, 1),
  (21, .getfield 12, 3),
  (24, .iload_n 1, 1),
  (25, .iconst 2, 1),
  (26, .iload_n 3, 1),
  (27, .imul, 1),
  (28, .iconst 1, 1),
  (29, .iadd, 1),
  (30, .invokevirtual 92, 3),
  (33, .istore 5, 2),
  (35, .iload 4, 2),
  (37, .bipush (-3), 2),
  (39, .iconst 3, 1),
  (40, .invokestatic 66, 3),
  (43, .ifCond .eq 24, 3),
  (46, .iload 5, 2),
  (48, .bipush (-3), 2),
  (50, .iconst 3, 1),
  (51, .invokestatic 66, 3),
  (54, .ifCond .eq 13, 3),
  (57, .iload 4, 2),
  (59, .ifCond .ne 10, 3),
  (62, .iload 5, 2),
  (64, .ifCond .ne 5, 3),
  (67, .iconst 0, 1),
  (68, .ireturn, 1),
  (69, .iconst 0, 1),
  (70, .istore 6, 2),
  (72, .iload 6, 2),
  (74, .iload_n 3, 1),
  (75, .if_icmp .ge 47, 3),
  (78, .aload_n 0, 1),
  (79, .getfield 12, 3),
  (82, .iload_n 1, 1),
  (83, .iconst 2, 1),
  (84, .iload 6, 2),
  (86, .imul, 1),
  (87, .invokevirtual 92, 3),
  (90, .iload 4, 2),
  (92, .if_icmp .ne 24, 3),
  (95, .aload_n 0, 1),
  (96, .getfield 12, 3),
  (99, .iload_n 1, 1),
  (100, .iconst 2, 1),
  (101, .iload 6, 2),
  (103, .imul, 1),
  (104, .iconst 1, 1),
  (105, .iadd, 1),
  (106, .invokevirtual 92, 3),
  (109, .iload 5, 2),
  (111, .if_icmp .ne 5, 3),
  (114, .iconst 0, 1),
  (115, .ireturn, 1),
  (116, .iinc 6 1, 3),
  (119, .goto (-47), 3),
  (122, .iinc 3 1, 3),
  (125, .goto (-123), 3),
  (128, .iconst 1, 1),
  (129, .ireturn, 1)]
set_option maxRecDepth 100000 in
theorem tX8_areSteps_ok : ∀ q ∈ tX8_areSteps, decode cX8_areSteps q.1 = .ok q.2 := by decide +kernel
theorem dX8_areSteps_0 : decode cX8_areSteps 0 = .ok (.iconst 0, 1) := tX8_areSteps_ok (0, .iconst 0, 1) (List.mem_of_getElem? (i := 0) rfl)
theorem dX8_areSteps_1 : decode cX8_areSteps 1 = .ok (.istore_n 3, 1) := tX8_areSteps_ok (1, .istore_n 3, 1) (List.mem_of_getElem? (i := 1) rfl)
theorem dX8_areSteps_2 : decode cX8_areSteps 2 = .ok (.iload_n 3, 1) := tX8_areSteps_ok (2, .iload_n 3, 1) (List.mem_of_getElem? (i := 2) rfl)
theorem dX8_areSteps_3 : decode cX8_areSteps 3 = .ok (.iload_n 2, 1) := tX8_areSteps_ok (3, .iload_n 2, 1) (List.mem_of_getElem? (i := 3) rfl)
theorem dX8_areSteps_4 : decode cX8_areSteps 4 = .ok (.if_icmp .ge 124, 3) := tX8_areSteps_ok (4, .if_icmp .ge 124, 3) (List.mem_of_getElem? (i := 4) rfl)
theorem dX8_areSteps_7 : decode cX8_areSteps 7 = .ok (.aload_n 0, 1) := tX8_areSteps_ok (7, .aload_n 0, 1) (List.mem_of_getElem? (i := 5) rfl)
theorem dX8_areSteps_8 : decode cX8_areSteps 8 = .ok (.getfield 12, 3) := tX8_areSteps_ok (8, .getfield 12, 3) (List.mem_of_getElem? (i := 6) rfl)
theorem dX8_areSteps_11 : decode cX8_areSteps 11 = .ok (.iload_n 1, 1) := tX8_areSteps_ok (11, .iload_n 1, 1) (List.mem_of_getElem? (i := 7) rfl)
theorem dX8_areSteps_12 : decode cX8_areSteps 12 = .ok (.iconst 2, 1) := tX8_areSteps_ok (12, .iconst 2, 1) (List.mem_of_getElem? (i := 8) rfl)
theorem dX8_areSteps_13 : decode cX8_areSteps 13 = .ok (.iload_n 3, 1) := tX8_areSteps_ok (13, .iload_n 3, 1) (List.mem_of_getElem? (i := 9) rfl)
theorem dX8_areSteps_14 : decode cX8_areSteps 14 = .ok (.imul, 1) := tX8_areSteps_ok (14, .imul, 1) (List.mem_of_getElem? (i := 10) rfl)
theorem dX8_areSteps_15 : decode cX8_areSteps 15 = .ok (.invokevirtual 92, 3) := tX8_areSteps_ok (15, .invokevirtual 92, 3) (List.mem_of_getElem? (i := 11) rfl)
theorem dX8_areSteps_18 : decode cX8_areSteps 18 = .ok (.istore 4, 2) := tX8_areSteps_ok (18, .istore 4, 2) (List.mem_of_getElem? (i := 12) rfl)
theorem dX8_areSteps_20 : decode cX8_areSteps 20 = .ok (.aload_n 0, 1) := tX8_areSteps_ok (20, .aload_n 0, 1) (List.mem_of_getElem? (i := 13) rfl)
theorem dX8_areSteps_21 : decode cX8_areSteps 21 = .ok (.getfield 12, 3) := tX8_areSteps_ok (21, .getfield 12, 3) (List.mem_of_getElem? (i := 14) rfl)
theorem dX8_areSteps_24 : decode cX8_areSteps 24 = .ok (.iload_n 1, 1) := tX8_areSteps_ok (24, .iload_n 1, 1) (List.mem_of_getElem? (i := 15) rfl)
theorem dX8_areSteps_25 : decode cX8_areSteps 25 = .ok (.iconst 2, 1) := tX8_areSteps_ok (25, .iconst 2, 1) (List.mem_of_getElem? (i := 16) rfl)
theorem dX8_areSteps_26 : decode cX8_areSteps 26 = .ok (.iload_n 3, 1) := tX8_areSteps_ok (26, .iload_n 3, 1) (List.mem_of_getElem? (i := 17) rfl)
theorem dX8_areSteps_27 : decode cX8_areSteps 27 = .ok (.imul, 1) := tX8_areSteps_ok (27, .imul, 1) (List.mem_of_getElem? (i := 18) rfl)
theorem dX8_areSteps_28 : decode cX8_areSteps 28 = .ok (.iconst 1, 1) := tX8_areSteps_ok (28, .iconst 1, 1) (List.mem_of_getElem? (i := 19) rfl)
theorem dX8_areSteps_29 : decode cX8_areSteps 29 = .ok (.iadd, 1) := tX8_areSteps_ok (29, .iadd, 1) (List.mem_of_getElem? (i := 20) rfl)
theorem dX8_areSteps_30 : decode cX8_areSteps 30 = .ok (.invokevirtual 92, 3) := tX8_areSteps_ok (30, .invokevirtual 92, 3) (List.mem_of_getElem? (i := 21) rfl)
theorem dX8_areSteps_33 : decode cX8_areSteps 33 = .ok (.istore 5, 2) := tX8_areSteps_ok (33, .istore 5, 2) (List.mem_of_getElem? (i := 22) rfl)
theorem dX8_areSteps_35 : decode cX8_areSteps 35 = .ok (.iload 4, 2) := tX8_areSteps_ok (35, .iload 4, 2) (List.mem_of_getElem? (i := 23) rfl)
theorem dX8_areSteps_37 : decode cX8_areSteps 37 = .ok (.bipush (-3), 2) := tX8_areSteps_ok (37, .bipush (-3), 2) (List.mem_of_getElem? (i := 24) rfl)
theorem dX8_areSteps_39 : decode cX8_areSteps 39 = .ok (.iconst 3, 1) := tX8_areSteps_ok (39, .iconst 3, 1) (List.mem_of_getElem? (i := 25) rfl)
theorem dX8_areSteps_40 : decode cX8_areSteps 40 = .ok (.invokestatic 66, 3) := tX8_areSteps_ok (40, .invokestatic 66, 3) (List.mem_of_getElem? (i := 26) rfl)
theorem dX8_areSteps_43 : decode cX8_areSteps 43 = .ok (.ifCond .eq 24, 3) := tX8_areSteps_ok (43, .ifCond .eq 24, 3) (List.mem_of_getElem? (i := 27) rfl)
theorem dX8_areSteps_46 : decode cX8_areSteps 46 = .ok (.iload 5, 2) := tX8_areSteps_ok (46, .iload 5, 2) (List.mem_of_getElem? (i := 28) rfl)
theorem dX8_areSteps_48 : decode cX8_areSteps 48 = .ok (.bipush (-3), 2) := tX8_areSteps_ok (48, .bipush (-3), 2) (List.mem_of_getElem? (i := 29) rfl)
theorem dX8_areSteps_50 : decode cX8_areSteps 50 = .ok (.iconst 3, 1) := tX8_areSteps_ok (50, .iconst 3, 1) (List.mem_of_getElem? (i := 30) rfl)
theorem dX8_areSteps_51 : decode cX8_areSteps 51 = .ok (.invokestatic 66, 3) := tX8_areSteps_ok (51, .invokestatic 66, 3) (List.mem_of_getElem? (i := 31) rfl)
theorem dX8_areSteps_54 : decode cX8_areSteps 54 = .ok (.ifCond .eq 13, 3) := tX8_areSteps_ok (54, .ifCond .eq 13, 3) (List.mem_of_getElem? (i := 32) rfl)
theorem dX8_areSteps_57 : decode cX8_areSteps 57 = .ok (.iload 4, 2) := tX8_areSteps_ok (57, .iload 4, 2) (List.mem_of_getElem? (i := 33) rfl)
theorem dX8_areSteps_59 : decode cX8_areSteps 59 = .ok (.ifCond .ne 10, 3) := tX8_areSteps_ok (59, .ifCond .ne 10, 3) (List.mem_of_getElem? (i := 34) rfl)
theorem dX8_areSteps_62 : decode cX8_areSteps 62 = .ok (.iload 5, 2) := tX8_areSteps_ok (62, .iload 5, 2) (List.mem_of_getElem? (i := 35) rfl)
theorem dX8_areSteps_64 : decode cX8_areSteps 64 = .ok (.ifCond .ne 5, 3) := tX8_areSteps_ok (64, .ifCond .ne 5, 3) (List.mem_of_getElem? (i := 36) rfl)
theorem dX8_areSteps_67 : decode cX8_areSteps 67 = .ok (.iconst 0, 1) := tX8_areSteps_ok (67, .iconst 0, 1) (List.mem_of_getElem? (i := 37) rfl)
theorem dX8_areSteps_68 : decode cX8_areSteps 68 = .ok (.ireturn, 1) := tX8_areSteps_ok (68, .ireturn, 1) (List.mem_of_getElem? (i := 38) rfl)
theorem dX8_areSteps_69 : decode cX8_areSteps 69 = .ok (.iconst 0, 1) := tX8_areSteps_ok (69, .iconst 0, 1) (List.mem_of_getElem? (i := 39) rfl)
theorem dX8_areSteps_70 : decode cX8_areSteps 70 = .ok (.istore 6, 2) := tX8_areSteps_ok (70, .istore 6, 2) (List.mem_of_getElem? (i := 40) rfl)
theorem dX8_areSteps_72 : decode cX8_areSteps 72 = .ok (.iload 6, 2) := tX8_areSteps_ok (72, .iload 6, 2) (List.mem_of_getElem? (i := 41) rfl)
theorem dX8_areSteps_74 : decode cX8_areSteps 74 = .ok (.iload_n 3, 1) := tX8_areSteps_ok (74, .iload_n 3, 1) (List.mem_of_getElem? (i := 42) rfl)
theorem dX8_areSteps_75 : decode cX8_areSteps 75 = .ok (.if_icmp .ge 47, 3) := tX8_areSteps_ok (75, .if_icmp .ge 47, 3) (List.mem_of_getElem? (i := 43) rfl)
theorem dX8_areSteps_78 : decode cX8_areSteps 78 = .ok (.aload_n 0, 1) := tX8_areSteps_ok (78, .aload_n 0, 1) (List.mem_of_getElem? (i := 44) rfl)
theorem dX8_areSteps_79 : decode cX8_areSteps 79 = .ok (.getfield 12, 3) := tX8_areSteps_ok (79, .getfield 12, 3) (List.mem_of_getElem? (i := 45) rfl)
theorem dX8_areSteps_82 : decode cX8_areSteps 82 = .ok (.iload_n 1, 1) := tX8_areSteps_ok (82, .iload_n 1, 1) (List.mem_of_getElem? (i := 46) rfl)
theorem dX8_areSteps_83 : decode cX8_areSteps 83 = .ok (.iconst 2, 1) := tX8_areSteps_ok (83, .iconst 2, 1) (List.mem_of_getElem? (i := 47) rfl)
theorem dX8_areSteps_84 : decode cX8_areSteps 84 = .ok (.iload 6, 2) := tX8_areSteps_ok (84, .iload 6, 2) (List.mem_of_getElem? (i := 48) rfl)
theorem dX8_areSteps_86 : decode cX8_areSteps 86 = .ok (.imul, 1) := tX8_areSteps_ok (86, .imul, 1) (List.mem_of_getElem? (i := 49) rfl)
theorem dX8_areSteps_87 : decode cX8_areSteps 87 = .ok (.invokevirtual 92, 3) := tX8_areSteps_ok (87, .invokevirtual 92, 3) (List.mem_of_getElem? (i := 50) rfl)
theorem dX8_areSteps_90 : decode cX8_areSteps 90 = .ok (.iload 4, 2) := tX8_areSteps_ok (90, .iload 4, 2) (List.mem_of_getElem? (i := 51) rfl)
theorem dX8_areSteps_92 : decode cX8_areSteps 92 = .ok (.if_icmp .ne 24, 3) := tX8_areSteps_ok (92, .if_icmp .ne 24, 3) (List.mem_of_getElem? (i := 52) rfl)
theorem dX8_areSteps_95 : decode cX8_areSteps 95 = .ok (.aload_n 0, 1) := tX8_areSteps_ok (95, .aload_n 0, 1) (List.mem_of_getElem? (i := 53) rfl)
theorem dX8_areSteps_96 : decode cX8_areSteps 96 = .ok (.getfield 12, 3) := tX8_areSteps_ok (96, .getfield 12, 3) (List.mem_of_getElem? (i := 54) rfl)
theorem dX8_areSteps_99 : decode cX8_areSteps 99 = .ok (.iload_n 1, 1) := tX8_areSteps_ok (99, .iload_n 1, 1) (List.mem_of_getElem? (i := 55) rfl)
theorem dX8_areSteps_100 : decode cX8_areSteps 100 = .ok (.iconst 2, 1) := tX8_areSteps_ok (100, .iconst 2, 1) (List.mem_of_getElem? (i := 56) rfl)
theorem dX8_areSteps_101 : decode cX8_areSteps 101 = .ok (.iload 6, 2) := tX8_areSteps_ok (101, .iload 6, 2) (List.mem_of_getElem? (i := 57) rfl)
theorem dX8_areSteps_103 : decode cX8_areSteps 103 = .ok (.imul, 1) := tX8_areSteps_ok (103, .imul, 1) (List.mem_of_getElem? (i := 58) rfl)
theorem dX8_areSteps_104 : decode cX8_areSteps 104 = .ok (.iconst 1, 1) := tX8_areSteps_ok (104, .iconst 1, 1) (List.mem_of_getElem? (i := 59) rfl)
theorem dX8_areSteps_105 : decode cX8_areSteps 105 = .ok (.iadd, 1) := tX8_areSteps_ok (105, .iadd, 1) (List.mem_of_getElem? (i := 60) rfl)
theorem dX8_areSteps_106 : decode cX8_areSteps 106 = .ok (.invokevirtual 92, 3) := tX8_areSteps_ok (106, .invokevirtual 92, 3) (List.mem_of_getElem? (i := 61) rfl)
theorem dX8_areSteps_109 : decode cX8_areSteps 109 = .ok (.iload 5, 2) := tX8_areSteps_ok (109, .iload 5, 2) (List.mem_of_getElem? (i := 62) rfl)
theorem dX8_areSteps_111 : decode cX8_areSteps 111 = .ok (.if_icmp .ne 5, 3) := tX8_areSteps_ok (111, .if_icmp .ne 5, 3) (List.mem_of_getElem? (i := 63) rfl)
theorem dX8_areSteps_114 : decode cX8_areSteps 114 = .ok (.iconst 0, 1) := tX8_areSteps_ok (114, .iconst 0, 1) (List.mem_of_getElem? (i := 64) rfl)
theorem dX8_areSteps_115 : decode cX8_areSteps 115 = .ok (.ireturn, 1) := tX8_areSteps_ok (115, .ireturn, 1) (List.mem_of_getElem? (i := 65) rfl)
theorem dX8_areSteps_116 : decode cX8_areSteps 116 = .ok (.iinc 6 1, 3) := tX8_areSteps_ok (116, .iinc 6 1, 3) (List.mem_of_getElem? (i := 66) rfl)
theorem dX8_areSteps_119 : decode cX8_areSteps 119 = .ok (.goto (-47), 3) := tX8_areSteps_ok (119, .goto (-47), 3) (List.mem_of_getElem? (i := 67) rfl)
theorem dX8_areSteps_122 : decode cX8_areSteps 122 = .ok (.iinc 3 1, 3) := tX8_areSteps_ok (122, .iinc 3 1, 3) (List.mem_of_getElem? (i := 68) rfl)
theorem dX8_areSteps_125 : decode cX8_areSteps 125 = .ok (.goto (-123), 3) := tX8_areSteps_ok (125, .goto (-123), 3) (List.mem_of_getElem? (i := 69) rfl)
theorem dX8_areSteps_128 : decode cX8_areSteps 128 = .ok (.iconst 1, 1) := tX8_areSteps_ok (128, .iconst 1, 1) (List.mem_of_getElem? (i := 70) rfl)
theorem dX8_areSteps_129 : decode cX8_areSteps 129 = .ok (.ireturn, 1) := tX8_areSteps_ok (129, .ireturn, 1) (List.mem_of_getElem? (i := 71) rfl)

def tX8_waysKept : List (Nat × Instr × Nat) := [
  (0, .aload_n 0, 1),
  (1, .getfield 338, 3),
  (4, .ifnonnull 18, 3),
  (7, .aload_n 0, 1),
  (8, .new 181, 3),
  (11, .dup, 1),
  (12, .aload_n 0, 1),
  (13, .getfield 19, 3),
  (16, .invokespecial 342, 3),
  (19, .putfield 338, 3),
  (22, .aload_n 0, 1),
  (23, .getfield 338, 3),
  (26, .areturn, 1)]
set_option maxRecDepth 100000 in
theorem tX8_waysKept_ok : ∀ q ∈ tX8_waysKept, decode cX8_waysKept q.1 = .ok q.2 := by decide +kernel
theorem dX8_waysKept_0 : decode cX8_waysKept 0 = .ok (.aload_n 0, 1) := tX8_waysKept_ok (0, .aload_n 0, 1) (List.mem_of_getElem? (i := 0) rfl)
theorem dX8_waysKept_1 : decode cX8_waysKept 1 = .ok (.getfield 338, 3) := tX8_waysKept_ok (1, .getfield 338, 3) (List.mem_of_getElem? (i := 1) rfl)
theorem dX8_waysKept_4 : decode cX8_waysKept 4 = .ok (.ifnonnull 18, 3) := tX8_waysKept_ok (4, .ifnonnull 18, 3) (List.mem_of_getElem? (i := 2) rfl)
theorem dX8_waysKept_7 : decode cX8_waysKept 7 = .ok (.aload_n 0, 1) := tX8_waysKept_ok (7, .aload_n 0, 1) (List.mem_of_getElem? (i := 3) rfl)
theorem dX8_waysKept_8 : decode cX8_waysKept 8 = .ok (.new 181, 3) := tX8_waysKept_ok (8, .new 181, 3) (List.mem_of_getElem? (i := 4) rfl)
theorem dX8_waysKept_11 : decode cX8_waysKept 11 = .ok (.dup, 1) := tX8_waysKept_ok (11, .dup, 1) (List.mem_of_getElem? (i := 5) rfl)
theorem dX8_waysKept_12 : decode cX8_waysKept 12 = .ok (.aload_n 0, 1) := tX8_waysKept_ok (12, .aload_n 0, 1) (List.mem_of_getElem? (i := 6) rfl)
theorem dX8_waysKept_13 : decode cX8_waysKept 13 = .ok (.getfield 19, 3) := tX8_waysKept_ok (13, .getfield 19, 3) (List.mem_of_getElem? (i := 7) rfl)
theorem dX8_waysKept_16 : decode cX8_waysKept 16 = .ok (.invokespecial 342, 3) := tX8_waysKept_ok (16, .invokespecial 342, 3) (List.mem_of_getElem? (i := 8) rfl)
theorem dX8_waysKept_19 : decode cX8_waysKept 19 = .ok (.putfield 338, 3) := tX8_waysKept_ok (19, .putfield 338, 3) (List.mem_of_getElem? (i := 9) rfl)
theorem dX8_waysKept_22 : decode cX8_waysKept 22 = .ok (.aload_n 0, 1) := tX8_waysKept_ok (22, .aload_n 0, 1) (List.mem_of_getElem? (i := 10) rfl)
theorem dX8_waysKept_23 : decode cX8_waysKept 23 = .ok (.getfield 338, 3) := tX8_waysKept_ok (23, .getfield 338, 3) (List.mem_of_getElem? (i := 11) rfl)
theorem dX8_waysKept_26 : decode cX8_waysKept 26 = .ok (.areturn, 1) := tX8_waysKept_ok (26, .areturn, 1) (List.mem_of_getElem? (i := 12) rfl)

def tX8_waysFor : List (Nat × Instr × Nat) := [
  (0, .aload_n 0, 1),
  (1, .invokevirtual 190, 3),
  (4, .astore_n 2, 1),
  (5, .aload_n 2, 1),
  (6, .iload_n 1, 1),
  (7, .invokevirtual 345, 3),
  (10, .aload_n 2, 1),
  (11, .areturn, 1)]
set_option maxRecDepth 100000 in
theorem tX8_waysFor_ok : ∀ q ∈ tX8_waysFor, decode cX8_waysFor q.1 = .ok q.2 := by decide +kernel
theorem dX8_waysFor_0 : decode cX8_waysFor 0 = .ok (.aload_n 0, 1) := tX8_waysFor_ok (0, .aload_n 0, 1) (List.mem_of_getElem? (i := 0) rfl)
theorem dX8_waysFor_1 : decode cX8_waysFor 1 = .ok (.invokevirtual 190, 3) := tX8_waysFor_ok (1, .invokevirtual 190, 3) (List.mem_of_getElem? (i := 1) rfl)
theorem dX8_waysFor_4 : decode cX8_waysFor 4 = .ok (.astore_n 2, 1) := tX8_waysFor_ok (4, .astore_n 2, 1) (List.mem_of_getElem? (i := 2) rfl)
theorem dX8_waysFor_5 : decode cX8_waysFor 5 = .ok (.aload_n 2, 1) := tX8_waysFor_ok (5, .aload_n 2, 1) (List.mem_of_getElem? (i := 3) rfl)
theorem dX8_waysFor_6 : decode cX8_waysFor 6 = .ok (.iload_n 1, 1) := tX8_waysFor_ok (6, .iload_n 1, 1) (List.mem_of_getElem? (i := 4) rfl)
theorem dX8_waysFor_7 : decode cX8_waysFor 7 = .ok (.invokevirtual 345, 3) := tX8_waysFor_ok (7, .invokevirtual 345, 3) (List.mem_of_getElem? (i := 5) rfl)
theorem dX8_waysFor_10 : decode cX8_waysFor 10 = .ok (.aload_n 2, 1) := tX8_waysFor_ok (10, .aload_n 2, 1) (List.mem_of_getElem? (i := 6) rfl)
theorem dX8_waysFor_11 : decode cX8_waysFor 11 = .ok (.areturn, 1) := tX8_waysFor_ok (11, .areturn, 1) (List.mem_of_getElem? (i := 7) rfl)

def tX8_forgetWays : List (Nat × Instr × Nat) := [
  (0, .aload_n 0, 1),
  (1, .getfield 338, 3),
  (4, .ifnull 10, 3),
  (7, .aload_n 0, 1),
  (8, .getfield 338, 3),
  (11, .invokevirtual 348, 3),
  (14, .return_, 1)]
set_option maxRecDepth 100000 in
theorem tX8_forgetWays_ok : ∀ q ∈ tX8_forgetWays, decode cX8_forgetWays q.1 = .ok q.2 := by decide +kernel
theorem dX8_forgetWays_0 : decode cX8_forgetWays 0 = .ok (.aload_n 0, 1) := tX8_forgetWays_ok (0, .aload_n 0, 1) (List.mem_of_getElem? (i := 0) rfl)
theorem dX8_forgetWays_1 : decode cX8_forgetWays 1 = .ok (.getfield 338, 3) := tX8_forgetWays_ok (1, .getfield 338, 3) (List.mem_of_getElem? (i := 1) rfl)
theorem dX8_forgetWays_4 : decode cX8_forgetWays 4 = .ok (.ifnull 10, 3) := tX8_forgetWays_ok (4, .ifnull 10, 3) (List.mem_of_getElem? (i := 2) rfl)
theorem dX8_forgetWays_7 : decode cX8_forgetWays 7 = .ok (.aload_n 0, 1) := tX8_forgetWays_ok (7, .aload_n 0, 1) (List.mem_of_getElem? (i := 3) rfl)
theorem dX8_forgetWays_8 : decode cX8_forgetWays 8 = .ok (.getfield 338, 3) := tX8_forgetWays_ok (8, .getfield 338, 3) (List.mem_of_getElem? (i := 4) rfl)
theorem dX8_forgetWays_11 : decode cX8_forgetWays 11 = .ok (.invokevirtual 348, 3) := tX8_forgetWays_ok (11, .invokevirtual 348, 3) (List.mem_of_getElem? (i := 5) rfl)
theorem dX8_forgetWays_14 : decode cX8_forgetWays 14 = .ok (.return_, 1) := tX8_forgetWays_ok (14, .return_, 1) (List.mem_of_getElem? (i := 6) rfl)

def tX8_weigherKept : List (Nat × Instr × Nat) := [
  (0, .aload_n 0, 1),
  (1, .getfield 351, 3),
  (4, .ifnonnull 22, 3),
  (7, .aload_n 0, 1),
  (8, .new 212, 3),
  (11, .dup, 1),
  (12, .aload_n 0, 1),
  (13, .getfield 19, 3),
  (16, .aload_n 0, 1),
  (17, .invokevirtual 190, 3),
  (20, .invokespecial 355, 3),
  (23, .putfield 351, 3),
  (26, .aload_n 0, 1),
  (27, .getfield 351, 3),
  (30, .areturn, 1)]
set_option maxRecDepth 100000 in
theorem tX8_weigherKept_ok : ∀ q ∈ tX8_weigherKept, decode cX8_weigherKept q.1 = .ok q.2 := by decide +kernel
theorem dX8_weigherKept_0 : decode cX8_weigherKept 0 = .ok (.aload_n 0, 1) := tX8_weigherKept_ok (0, .aload_n 0, 1) (List.mem_of_getElem? (i := 0) rfl)
theorem dX8_weigherKept_1 : decode cX8_weigherKept 1 = .ok (.getfield 351, 3) := tX8_weigherKept_ok (1, .getfield 351, 3) (List.mem_of_getElem? (i := 1) rfl)
theorem dX8_weigherKept_4 : decode cX8_weigherKept 4 = .ok (.ifnonnull 22, 3) := tX8_weigherKept_ok (4, .ifnonnull 22, 3) (List.mem_of_getElem? (i := 2) rfl)
theorem dX8_weigherKept_7 : decode cX8_weigherKept 7 = .ok (.aload_n 0, 1) := tX8_weigherKept_ok (7, .aload_n 0, 1) (List.mem_of_getElem? (i := 3) rfl)
theorem dX8_weigherKept_8 : decode cX8_weigherKept 8 = .ok (.new 212, 3) := tX8_weigherKept_ok (8, .new 212, 3) (List.mem_of_getElem? (i := 4) rfl)
theorem dX8_weigherKept_11 : decode cX8_weigherKept 11 = .ok (.dup, 1) := tX8_weigherKept_ok (11, .dup, 1) (List.mem_of_getElem? (i := 5) rfl)
theorem dX8_weigherKept_12 : decode cX8_weigherKept 12 = .ok (.aload_n 0, 1) := tX8_weigherKept_ok (12, .aload_n 0, 1) (List.mem_of_getElem? (i := 6) rfl)
theorem dX8_weigherKept_13 : decode cX8_weigherKept 13 = .ok (.getfield 19, 3) := tX8_weigherKept_ok (13, .getfield 19, 3) (List.mem_of_getElem? (i := 7) rfl)
theorem dX8_weigherKept_16 : decode cX8_weigherKept 16 = .ok (.aload_n 0, 1) := tX8_weigherKept_ok (16, .aload_n 0, 1) (List.mem_of_getElem? (i := 8) rfl)
theorem dX8_weigherKept_17 : decode cX8_weigherKept 17 = .ok (.invokevirtual 190, 3) := tX8_weigherKept_ok (17, .invokevirtual 190, 3) (List.mem_of_getElem? (i := 9) rfl)
theorem dX8_weigherKept_20 : decode cX8_weigherKept 20 = .ok (.invokespecial 355, 3) := tX8_weigherKept_ok (20, .invokespecial 355, 3) (List.mem_of_getElem? (i := 10) rfl)
theorem dX8_weigherKept_23 : decode cX8_weigherKept 23 = .ok (.putfield 351, 3) := tX8_weigherKept_ok (23, .putfield 351, 3) (List.mem_of_getElem? (i := 11) rfl)
theorem dX8_weigherKept_26 : decode cX8_weigherKept 26 = .ok (.aload_n 0, 1) := tX8_weigherKept_ok (26, .aload_n 0, 1) (List.mem_of_getElem? (i := 12) rfl)
theorem dX8_weigherKept_27 : decode cX8_weigherKept 27 = .ok (.getfield 351, 3) := tX8_weigherKept_ok (27, .getfield 351, 3) (List.mem_of_getElem? (i := 13) rfl)
theorem dX8_weigherKept_30 : decode cX8_weigherKept 30 = .ok (.areturn, 1) := tX8_weigherKept_ok (30, .areturn, 1) (List.mem_of_getElem? (i := 14) rfl)

def tX8_isWalk : List (Nat × Instr × Nat) := [
  (0, .aload_n 0, 1),
  (1, .getfield 19, 3),
  (4, .invokevirtual 176, 3),
  (7, .istore_n 3, 1),
  (8, .iconst 0, 1),
  (9, .istore 4, 2),
  (11, .iload 4, 2),
  (13, .iload_n 2, 1),
  (14, .if_icmp .ge 52, 3),
  (17, .aload_n 0, 1),
  (18, .getfield 12, 3),
  (21, .iload_n 1, 1),
  (22, .iload 4, 2),
  (24, .invokevirtual 92, 3),
  (27, .istore 5, 2),
  (29, .aload_n 0, 1),
  (30, .getfield 19, 3),
  (33, .iload 5, 2),
  (35, .invokevirtual 128, 3),
  (38, .ifCond .ne 5, 3),
  (41, .iconst 0, 1),
  (42, .ireturn, 1),
  (43, .aload_n 0, 1),
  (44, .getfield 19, 3),
  (47, .iload_n 3, 1),
  (48, .iload 5, 2),
  (50, .invokevirtual 358, 3),
  (53, .istore_n 3, 1),
  (54, .iload_n 3, 1),
  (55, .ifCond .ge 5, 3),
  (58, .iconst 0, 1),
  (59, .ireturn, 1),
  (60, .iinc 4 1, 3),
  (63, .goto (-52), 3),
  (66, .iload_n 3, 1),
  (67, .aload_n 0, 1),
  (68, .getfield 19, 3),
  (71, .invokevirtual 361, 3),
  (74, .if_icmp .ne 7, 3),
  (77, .iconst 1, 1),
  (78, .goto 4, 3),
  (81, .iconst 0, 1),
  (82, .ireturn, 1)]
set_option maxRecDepth 100000 in
theorem tX8_isWalk_ok : ∀ q ∈ tX8_isWalk, decode cX8_isWalk q.1 = .ok q.2 := by decide +kernel
theorem dX8_isWalk_0 : decode cX8_isWalk 0 = .ok (.aload_n 0, 1) := tX8_isWalk_ok (0, .aload_n 0, 1) (List.mem_of_getElem? (i := 0) rfl)
theorem dX8_isWalk_1 : decode cX8_isWalk 1 = .ok (.getfield 19, 3) := tX8_isWalk_ok (1, .getfield 19, 3) (List.mem_of_getElem? (i := 1) rfl)
theorem dX8_isWalk_4 : decode cX8_isWalk 4 = .ok (.invokevirtual 176, 3) := tX8_isWalk_ok (4, .invokevirtual 176, 3) (List.mem_of_getElem? (i := 2) rfl)
theorem dX8_isWalk_7 : decode cX8_isWalk 7 = .ok (.istore_n 3, 1) := tX8_isWalk_ok (7, .istore_n 3, 1) (List.mem_of_getElem? (i := 3) rfl)
theorem dX8_isWalk_8 : decode cX8_isWalk 8 = .ok (.iconst 0, 1) := tX8_isWalk_ok (8, .iconst 0, 1) (List.mem_of_getElem? (i := 4) rfl)
theorem dX8_isWalk_9 : decode cX8_isWalk 9 = .ok (.istore 4, 2) := tX8_isWalk_ok (9, .istore 4, 2) (List.mem_of_getElem? (i := 5) rfl)
theorem dX8_isWalk_11 : decode cX8_isWalk 11 = .ok (.iload 4, 2) := tX8_isWalk_ok (11, .iload 4, 2) (List.mem_of_getElem? (i := 6) rfl)
theorem dX8_isWalk_13 : decode cX8_isWalk 13 = .ok (.iload_n 2, 1) := tX8_isWalk_ok (13, .iload_n 2, 1) (List.mem_of_getElem? (i := 7) rfl)
theorem dX8_isWalk_14 : decode cX8_isWalk 14 = .ok (.if_icmp .ge 52, 3) := tX8_isWalk_ok (14, .if_icmp .ge 52, 3) (List.mem_of_getElem? (i := 8) rfl)
theorem dX8_isWalk_17 : decode cX8_isWalk 17 = .ok (.aload_n 0, 1) := tX8_isWalk_ok (17, .aload_n 0, 1) (List.mem_of_getElem? (i := 9) rfl)
theorem dX8_isWalk_18 : decode cX8_isWalk 18 = .ok (.getfield 12, 3) := tX8_isWalk_ok (18, .getfield 12, 3) (List.mem_of_getElem? (i := 10) rfl)
theorem dX8_isWalk_21 : decode cX8_isWalk 21 = .ok (.iload_n 1, 1) := tX8_isWalk_ok (21, .iload_n 1, 1) (List.mem_of_getElem? (i := 11) rfl)
theorem dX8_isWalk_22 : decode cX8_isWalk 22 = .ok (.iload 4, 2) := tX8_isWalk_ok (22, .iload 4, 2) (List.mem_of_getElem? (i := 12) rfl)
theorem dX8_isWalk_24 : decode cX8_isWalk 24 = .ok (.invokevirtual 92, 3) := tX8_isWalk_ok (24, .invokevirtual 92, 3) (List.mem_of_getElem? (i := 13) rfl)
theorem dX8_isWalk_27 : decode cX8_isWalk 27 = .ok (.istore 5, 2) := tX8_isWalk_ok (27, .istore 5, 2) (List.mem_of_getElem? (i := 14) rfl)
theorem dX8_isWalk_29 : decode cX8_isWalk 29 = .ok (.aload_n 0, 1) := tX8_isWalk_ok (29, .aload_n 0, 1) (List.mem_of_getElem? (i := 15) rfl)
theorem dX8_isWalk_30 : decode cX8_isWalk 30 = .ok (.getfield 19, 3) := tX8_isWalk_ok (30, .getfield 19, 3) (List.mem_of_getElem? (i := 16) rfl)
theorem dX8_isWalk_33 : decode cX8_isWalk 33 = .ok (.iload 5, 2) := tX8_isWalk_ok (33, .iload 5, 2) (List.mem_of_getElem? (i := 17) rfl)
theorem dX8_isWalk_35 : decode cX8_isWalk 35 = .ok (.invokevirtual 128, 3) := tX8_isWalk_ok (35, .invokevirtual 128, 3) (List.mem_of_getElem? (i := 18) rfl)
theorem dX8_isWalk_38 : decode cX8_isWalk 38 = .ok (.ifCond .ne 5, 3) := tX8_isWalk_ok (38, .ifCond .ne 5, 3) (List.mem_of_getElem? (i := 19) rfl)
theorem dX8_isWalk_41 : decode cX8_isWalk 41 = .ok (.iconst 0, 1) := tX8_isWalk_ok (41, .iconst 0, 1) (List.mem_of_getElem? (i := 20) rfl)
theorem dX8_isWalk_42 : decode cX8_isWalk 42 = .ok (.ireturn, 1) := tX8_isWalk_ok (42, .ireturn, 1) (List.mem_of_getElem? (i := 21) rfl)
theorem dX8_isWalk_43 : decode cX8_isWalk 43 = .ok (.aload_n 0, 1) := tX8_isWalk_ok (43, .aload_n 0, 1) (List.mem_of_getElem? (i := 22) rfl)
theorem dX8_isWalk_44 : decode cX8_isWalk 44 = .ok (.getfield 19, 3) := tX8_isWalk_ok (44, .getfield 19, 3) (List.mem_of_getElem? (i := 23) rfl)
theorem dX8_isWalk_47 : decode cX8_isWalk 47 = .ok (.iload_n 3, 1) := tX8_isWalk_ok (47, .iload_n 3, 1) (List.mem_of_getElem? (i := 24) rfl)
theorem dX8_isWalk_48 : decode cX8_isWalk 48 = .ok (.iload 5, 2) := tX8_isWalk_ok (48, .iload 5, 2) (List.mem_of_getElem? (i := 25) rfl)
theorem dX8_isWalk_50 : decode cX8_isWalk 50 = .ok (.invokevirtual 358, 3) := tX8_isWalk_ok (50, .invokevirtual 358, 3) (List.mem_of_getElem? (i := 26) rfl)
theorem dX8_isWalk_53 : decode cX8_isWalk 53 = .ok (.istore_n 3, 1) := tX8_isWalk_ok (53, .istore_n 3, 1) (List.mem_of_getElem? (i := 27) rfl)
theorem dX8_isWalk_54 : decode cX8_isWalk 54 = .ok (.iload_n 3, 1) := tX8_isWalk_ok (54, .iload_n 3, 1) (List.mem_of_getElem? (i := 28) rfl)
theorem dX8_isWalk_55 : decode cX8_isWalk 55 = .ok (.ifCond .ge 5, 3) := tX8_isWalk_ok (55, .ifCond .ge 5, 3) (List.mem_of_getElem? (i := 29) rfl)
theorem dX8_isWalk_58 : decode cX8_isWalk 58 = .ok (.iconst 0, 1) := tX8_isWalk_ok (58, .iconst 0, 1) (List.mem_of_getElem? (i := 30) rfl)
theorem dX8_isWalk_59 : decode cX8_isWalk 59 = .ok (.ireturn, 1) := tX8_isWalk_ok (59, .ireturn, 1) (List.mem_of_getElem? (i := 31) rfl)
theorem dX8_isWalk_60 : decode cX8_isWalk 60 = .ok (.iinc 4 1, 3) := tX8_isWalk_ok (60, .iinc 4 1, 3) (List.mem_of_getElem? (i := 32) rfl)
theorem dX8_isWalk_63 : decode cX8_isWalk 63 = .ok (.goto (-52), 3) := tX8_isWalk_ok (63, .goto (-52), 3) (List.mem_of_getElem? (i := 33) rfl)
theorem dX8_isWalk_66 : decode cX8_isWalk 66 = .ok (.iload_n 3, 1) := tX8_isWalk_ok (66, .iload_n 3, 1) (List.mem_of_getElem? (i := 34) rfl)
theorem dX8_isWalk_67 : decode cX8_isWalk 67 = .ok (.aload_n 0, 1) := tX8_isWalk_ok (67, .aload_n 0, 1) (List.mem_of_getElem? (i := 35) rfl)
theorem dX8_isWalk_68 : decode cX8_isWalk 68 = .ok (.getfield 19, 3) := tX8_isWalk_ok (68, .getfield 19, 3) (List.mem_of_getElem? (i := 36) rfl)
theorem dX8_isWalk_71 : decode cX8_isWalk 71 = .ok (.invokevirtual 361, 3) := tX8_isWalk_ok (71, .invokevirtual 361, 3) (List.mem_of_getElem? (i := 37) rfl)
theorem dX8_isWalk_74 : decode cX8_isWalk 74 = .ok (.if_icmp .ne 7, 3) := tX8_isWalk_ok (74, .if_icmp .ne 7, 3) (List.mem_of_getElem? (i := 38) rfl)
theorem dX8_isWalk_77 : decode cX8_isWalk 77 = .ok (.iconst 1, 1) := tX8_isWalk_ok (77, .iconst 1, 1) (List.mem_of_getElem? (i := 39) rfl)
theorem dX8_isWalk_78 : decode cX8_isWalk 78 = .ok (.goto 4, 3) := tX8_isWalk_ok (78, .goto 4, 3) (List.mem_of_getElem? (i := 40) rfl)
theorem dX8_isWalk_81 : decode cX8_isWalk 81 = .ok (.iconst 0, 1) := tX8_isWalk_ok (81, .iconst 0, 1) (List.mem_of_getElem? (i := 41) rfl)
theorem dX8_isWalk_82 : decode cX8_isWalk 82 = .ok (.ireturn, 1) := tX8_isWalk_ok (82, .ireturn, 1) (List.mem_of_getElem? (i := 42) rfl)
