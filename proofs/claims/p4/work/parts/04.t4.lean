def tX9_areOpen : List (Nat × Instr × Nat) := [
  (0, .aload_n 0, 1),
  (1, .aload_n 0, 1),
  (2, .getfield 161, 3),
  (5, .aload_n 0, 1),
  (6, .getfield 164, 3),
  (9, .invokevirtual 153, 3),
  (12, .ifCond .eq 22, 3),
  (15, .aload_n 0, 1),
  (16, .aload_n 0, 1),
  (17, .getfield 167, 3),
  (20, .aload_n 0, 1),
  (21, .getfield 170, 3),
  (24, .invokevirtual 153, 3),
  (27, .ifCond .eq 7, 3),
  (30, .iconst 1, 1),
  (31, .goto 4, 3),
  (34, .iconst 0, 1),
  (35, .ireturn, 1)]
set_option maxRecDepth 100000 in
theorem tX9_areOpen_ok : ∀ q ∈ tX9_areOpen, decode cX9_areOpen q.1 = .ok q.2 := by decide +kernel
theorem dX9_areOpen_0 : decode cX9_areOpen 0 = .ok (.aload_n 0, 1) := tX9_areOpen_ok (0, .aload_n 0, 1) (List.mem_of_getElem? (i := 0) rfl)
theorem dX9_areOpen_1 : decode cX9_areOpen 1 = .ok (.aload_n 0, 1) := tX9_areOpen_ok (1, .aload_n 0, 1) (List.mem_of_getElem? (i := 1) rfl)
theorem dX9_areOpen_2 : decode cX9_areOpen 2 = .ok (.getfield 161, 3) := tX9_areOpen_ok (2, .getfield 161, 3) (List.mem_of_getElem? (i := 2) rfl)
theorem dX9_areOpen_5 : decode cX9_areOpen 5 = .ok (.aload_n 0, 1) := tX9_areOpen_ok (5, .aload_n 0, 1) (List.mem_of_getElem? (i := 3) rfl)
theorem dX9_areOpen_6 : decode cX9_areOpen 6 = .ok (.getfield 164, 3) := tX9_areOpen_ok (6, .getfield 164, 3) (List.mem_of_getElem? (i := 4) rfl)
theorem dX9_areOpen_9 : decode cX9_areOpen 9 = .ok (.invokevirtual 153, 3) := tX9_areOpen_ok (9, .invokevirtual 153, 3) (List.mem_of_getElem? (i := 5) rfl)
theorem dX9_areOpen_12 : decode cX9_areOpen 12 = .ok (.ifCond .eq 22, 3) := tX9_areOpen_ok (12, .ifCond .eq 22, 3) (List.mem_of_getElem? (i := 6) rfl)
theorem dX9_areOpen_15 : decode cX9_areOpen 15 = .ok (.aload_n 0, 1) := tX9_areOpen_ok (15, .aload_n 0, 1) (List.mem_of_getElem? (i := 7) rfl)
theorem dX9_areOpen_16 : decode cX9_areOpen 16 = .ok (.aload_n 0, 1) := tX9_areOpen_ok (16, .aload_n 0, 1) (List.mem_of_getElem? (i := 8) rfl)
theorem dX9_areOpen_17 : decode cX9_areOpen 17 = .ok (.getfield 167, 3) := tX9_areOpen_ok (17, .getfield 167, 3) (List.mem_of_getElem? (i := 9) rfl)
theorem dX9_areOpen_20 : decode cX9_areOpen 20 = .ok (.aload_n 0, 1) := tX9_areOpen_ok (20, .aload_n 0, 1) (List.mem_of_getElem? (i := 10) rfl)
theorem dX9_areOpen_21 : decode cX9_areOpen 21 = .ok (.getfield 170, 3) := tX9_areOpen_ok (21, .getfield 170, 3) (List.mem_of_getElem? (i := 11) rfl)
theorem dX9_areOpen_24 : decode cX9_areOpen 24 = .ok (.invokevirtual 153, 3) := tX9_areOpen_ok (24, .invokevirtual 153, 3) (List.mem_of_getElem? (i := 12) rfl)
theorem dX9_areOpen_27 : decode cX9_areOpen 27 = .ok (.ifCond .eq 7, 3) := tX9_areOpen_ok (27, .ifCond .eq 7, 3) (List.mem_of_getElem? (i := 13) rfl)
theorem dX9_areOpen_30 : decode cX9_areOpen 30 = .ok (.iconst 1, 1) := tX9_areOpen_ok (30, .iconst 1, 1) (List.mem_of_getElem? (i := 14) rfl)
theorem dX9_areOpen_31 : decode cX9_areOpen 31 = .ok (.goto 4, 3) := tX9_areOpen_ok (31, .goto 4, 3) (List.mem_of_getElem? (i := 15) rfl)
theorem dX9_areOpen_34 : decode cX9_areOpen 34 = .ok (.iconst 0, 1) := tX9_areOpen_ok (34, .iconst 0, 1) (List.mem_of_getElem? (i := 16) rfl)
theorem dX9_areOpen_35 : decode cX9_areOpen 35 = .ok (.ireturn, 1) := tX9_areOpen_ok (35, .ireturn, 1) (List.mem_of_getElem? (i := 17) rfl)

def tX9_countOf : List (Nat × Instr × Nat) := [
  (0, .aload_n 0, 1),
  (1, .iload_n 1, 1),
  (2, .iconst 0, 1),
  (3, .invokevirtual 182, 3),
  (6, .aload_n 0, 1),
  (7, .getfield 43, 3),
  (10, .sipush 3721, 3),
  (13, .iload_n 1, 1),
  (14, .imul, 1),
  (15, .aload_n 0, 1),
  (16, .getfield 161, 3),
  (19, .aload_n 0, 1),
  (20, .getfield 164, 3),
  (23, .invokestatic 144, 3),
  (26, .iadd, 1),
  (27, .laload, 1),
  (28, .lreturn, 1)]
set_option maxRecDepth 100000 in
theorem tX9_countOf_ok : ∀ q ∈ tX9_countOf, decode cX9_countOf q.1 = .ok q.2 := by decide +kernel
theorem dX9_countOf_0 : decode cX9_countOf 0 = .ok (.aload_n 0, 1) := tX9_countOf_ok (0, .aload_n 0, 1) (List.mem_of_getElem? (i := 0) rfl)
theorem dX9_countOf_1 : decode cX9_countOf 1 = .ok (.iload_n 1, 1) := tX9_countOf_ok (1, .iload_n 1, 1) (List.mem_of_getElem? (i := 1) rfl)
theorem dX9_countOf_2 : decode cX9_countOf 2 = .ok (.iconst 0, 1) := tX9_countOf_ok (2, .iconst 0, 1) (List.mem_of_getElem? (i := 2) rfl)
theorem dX9_countOf_3 : decode cX9_countOf 3 = .ok (.invokevirtual 182, 3) := tX9_countOf_ok (3, .invokevirtual 182, 3) (List.mem_of_getElem? (i := 3) rfl)
theorem dX9_countOf_6 : decode cX9_countOf 6 = .ok (.aload_n 0, 1) := tX9_countOf_ok (6, .aload_n 0, 1) (List.mem_of_getElem? (i := 4) rfl)
theorem dX9_countOf_7 : decode cX9_countOf 7 = .ok (.getfield 43, 3) := tX9_countOf_ok (7, .getfield 43, 3) (List.mem_of_getElem? (i := 5) rfl)
theorem dX9_countOf_10 : decode cX9_countOf 10 = .ok (.sipush 3721, 3) := tX9_countOf_ok (10, .sipush 3721, 3) (List.mem_of_getElem? (i := 6) rfl)
theorem dX9_countOf_13 : decode cX9_countOf 13 = .ok (.iload_n 1, 1) := tX9_countOf_ok (13, .iload_n 1, 1) (List.mem_of_getElem? (i := 7) rfl)
theorem dX9_countOf_14 : decode cX9_countOf 14 = .ok (.imul, 1) := tX9_countOf_ok (14, .imul, 1) (List.mem_of_getElem? (i := 8) rfl)
theorem dX9_countOf_15 : decode cX9_countOf 15 = .ok (.aload_n 0, 1) := tX9_countOf_ok (15, .aload_n 0, 1) (List.mem_of_getElem? (i := 9) rfl)
theorem dX9_countOf_16 : decode cX9_countOf 16 = .ok (.getfield 161, 3) := tX9_countOf_ok (16, .getfield 161, 3) (List.mem_of_getElem? (i := 10) rfl)
theorem dX9_countOf_19 : decode cX9_countOf 19 = .ok (.aload_n 0, 1) := tX9_countOf_ok (19, .aload_n 0, 1) (List.mem_of_getElem? (i := 11) rfl)
theorem dX9_countOf_20 : decode cX9_countOf 20 = .ok (.getfield 164, 3) := tX9_countOf_ok (20, .getfield 164, 3) (List.mem_of_getElem? (i := 12) rfl)
theorem dX9_countOf_23 : decode cX9_countOf 23 = .ok (.invokestatic 144, 3) := tX9_countOf_ok (23, .invokestatic 144, 3) (List.mem_of_getElem? (i := 13) rfl)
theorem dX9_countOf_26 : decode cX9_countOf 26 = .ok (.iadd, 1) := tX9_countOf_ok (26, .iadd, 1) (List.mem_of_getElem? (i := 14) rfl)
theorem dX9_countOf_27 : decode cX9_countOf 27 = .ok (.laload, 1) := tX9_countOf_ok (27, .laload, 1) (List.mem_of_getElem? (i := 15) rfl)
theorem dX9_countOf_28 : decode cX9_countOf 28 = .ok (.lreturn, 1) := tX9_countOf_ok (28, .lreturn, 1) (List.mem_of_getElem? (i := 16) rfl)

def tX9_count : List (Nat × Instr × Nat) := [
  (0, .aload_n 0, 1),
  (1, .iconst 0, 1),
  (2, .putfield 112, 3),
  (5, .aload_n 0, 1),
  (6, .iconst 0, 1),
  (7, .putfield 115, 3),
  (10, .iload_n 1, 1),
  (11, .ifCond .lt 9, 3),
  (14, .iload_n 1, 1),
  (15, .bipush 60, 2),
  (17, .if_icmp .le 10, 3),
  (20, .aload_n 0, 1),
  (21, .iconst 2, 1),
  (22, .invokevirtual 156, 3),
  (25, .i2l, 1),
  (26, .lreturn, 1),
  (27, .aload_n 0, 1),
  (28, .invokevirtual 186, 3),
  (31, .ifCond .ne 11, 3),
  (34, .aload_n 0, 1),
  (35, .bipush 7, 2),
  (37, .invokevirtual 156, 3),
  (40, .i2l, 1),
  (41, .lreturn, 1),
  (42, .aload_n 0, 1),
  (43, .iload_n 1, 1),
  (44, .invokevirtual 190, 3),
  (47, .lstore_n 2, 1),
  (48, .lload_n 2, 1),
  (49, .ldc2_w 173, 3),
  (52, .lcmp, 1),
  (53, .ifCond .lt 13, 3),
  (56, .aload_n 0, 1),
  (57, .bipush 9, 2),
  (59, .invokevirtual 156, 3),
  (62, .i2l, 1),
  (63, .goto 4, 3),
  (66, .lload_n 2, 1),
  (67, .lreturn, 1)]
set_option maxRecDepth 100000 in
theorem tX9_count_ok : ∀ q ∈ tX9_count, decode cX9_count q.1 = .ok q.2 := by decide +kernel
theorem dX9_count_0 : decode cX9_count 0 = .ok (.aload_n 0, 1) := tX9_count_ok (0, .aload_n 0, 1) (List.mem_of_getElem? (i := 0) rfl)
theorem dX9_count_1 : decode cX9_count 1 = .ok (.iconst 0, 1) := tX9_count_ok (1, .iconst 0, 1) (List.mem_of_getElem? (i := 1) rfl)
theorem dX9_count_2 : decode cX9_count 2 = .ok (.putfield 112, 3) := tX9_count_ok (2, .putfield 112, 3) (List.mem_of_getElem? (i := 2) rfl)
theorem dX9_count_5 : decode cX9_count 5 = .ok (.aload_n 0, 1) := tX9_count_ok (5, .aload_n 0, 1) (List.mem_of_getElem? (i := 3) rfl)
theorem dX9_count_6 : decode cX9_count 6 = .ok (.iconst 0, 1) := tX9_count_ok (6, .iconst 0, 1) (List.mem_of_getElem? (i := 4) rfl)
theorem dX9_count_7 : decode cX9_count 7 = .ok (.putfield 115, 3) := tX9_count_ok (7, .putfield 115, 3) (List.mem_of_getElem? (i := 5) rfl)
theorem dX9_count_10 : decode cX9_count 10 = .ok (.iload_n 1, 1) := tX9_count_ok (10, .iload_n 1, 1) (List.mem_of_getElem? (i := 6) rfl)
theorem dX9_count_11 : decode cX9_count 11 = .ok (.ifCond .lt 9, 3) := tX9_count_ok (11, .ifCond .lt 9, 3) (List.mem_of_getElem? (i := 7) rfl)
theorem dX9_count_14 : decode cX9_count 14 = .ok (.iload_n 1, 1) := tX9_count_ok (14, .iload_n 1, 1) (List.mem_of_getElem? (i := 8) rfl)
theorem dX9_count_15 : decode cX9_count 15 = .ok (.bipush 60, 2) := tX9_count_ok (15, .bipush 60, 2) (List.mem_of_getElem? (i := 9) rfl)
theorem dX9_count_17 : decode cX9_count 17 = .ok (.if_icmp .le 10, 3) := tX9_count_ok (17, .if_icmp .le 10, 3) (List.mem_of_getElem? (i := 10) rfl)
theorem dX9_count_20 : decode cX9_count 20 = .ok (.aload_n 0, 1) := tX9_count_ok (20, .aload_n 0, 1) (List.mem_of_getElem? (i := 11) rfl)
theorem dX9_count_21 : decode cX9_count 21 = .ok (.iconst 2, 1) := tX9_count_ok (21, .iconst 2, 1) (List.mem_of_getElem? (i := 12) rfl)
theorem dX9_count_22 : decode cX9_count 22 = .ok (.invokevirtual 156, 3) := tX9_count_ok (22, .invokevirtual 156, 3) (List.mem_of_getElem? (i := 13) rfl)
theorem dX9_count_25 : decode cX9_count 25 = .ok (.i2l, 1) := tX9_count_ok (25, .i2l, 1) (List.mem_of_getElem? (i := 14) rfl)
theorem dX9_count_26 : decode cX9_count 26 = .ok (.lreturn, 1) := tX9_count_ok (26, .lreturn, 1) (List.mem_of_getElem? (i := 15) rfl)
theorem dX9_count_27 : decode cX9_count 27 = .ok (.aload_n 0, 1) := tX9_count_ok (27, .aload_n 0, 1) (List.mem_of_getElem? (i := 16) rfl)
theorem dX9_count_28 : decode cX9_count 28 = .ok (.invokevirtual 186, 3) := tX9_count_ok (28, .invokevirtual 186, 3) (List.mem_of_getElem? (i := 17) rfl)
theorem dX9_count_31 : decode cX9_count 31 = .ok (.ifCond .ne 11, 3) := tX9_count_ok (31, .ifCond .ne 11, 3) (List.mem_of_getElem? (i := 18) rfl)
theorem dX9_count_34 : decode cX9_count 34 = .ok (.aload_n 0, 1) := tX9_count_ok (34, .aload_n 0, 1) (List.mem_of_getElem? (i := 19) rfl)
theorem dX9_count_35 : decode cX9_count 35 = .ok (.bipush 7, 2) := tX9_count_ok (35, .bipush 7, 2) (List.mem_of_getElem? (i := 20) rfl)
theorem dX9_count_37 : decode cX9_count 37 = .ok (.invokevirtual 156, 3) := tX9_count_ok (37, .invokevirtual 156, 3) (List.mem_of_getElem? (i := 21) rfl)
theorem dX9_count_40 : decode cX9_count 40 = .ok (.i2l, 1) := tX9_count_ok (40, .i2l, 1) (List.mem_of_getElem? (i := 22) rfl)
theorem dX9_count_41 : decode cX9_count 41 = .ok (.lreturn, 1) := tX9_count_ok (41, .lreturn, 1) (List.mem_of_getElem? (i := 23) rfl)
theorem dX9_count_42 : decode cX9_count 42 = .ok (.aload_n 0, 1) := tX9_count_ok (42, .aload_n 0, 1) (List.mem_of_getElem? (i := 24) rfl)
theorem dX9_count_43 : decode cX9_count 43 = .ok (.iload_n 1, 1) := tX9_count_ok (43, .iload_n 1, 1) (List.mem_of_getElem? (i := 25) rfl)
theorem dX9_count_44 : decode cX9_count 44 = .ok (.invokevirtual 190, 3) := tX9_count_ok (44, .invokevirtual 190, 3) (List.mem_of_getElem? (i := 26) rfl)
theorem dX9_count_47 : decode cX9_count 47 = .ok (.lstore_n 2, 1) := tX9_count_ok (47, .lstore_n 2, 1) (List.mem_of_getElem? (i := 27) rfl)
theorem dX9_count_48 : decode cX9_count 48 = .ok (.lload_n 2, 1) := tX9_count_ok (48, .lload_n 2, 1) (List.mem_of_getElem? (i := 28) rfl)
theorem dX9_count_49 : decode cX9_count 49 = .ok (.ldc2_w 173, 3) := tX9_count_ok (49, .ldc2_w 173, 3) (List.mem_of_getElem? (i := 29) rfl)
theorem dX9_count_52 : decode cX9_count 52 = .ok (.lcmp, 1) := tX9_count_ok (52, .lcmp, 1) (List.mem_of_getElem? (i := 30) rfl)
theorem dX9_count_53 : decode cX9_count 53 = .ok (.ifCond .lt 13, 3) := tX9_count_ok (53, .ifCond .lt 13, 3) (List.mem_of_getElem? (i := 31) rfl)
theorem dX9_count_56 : decode cX9_count 56 = .ok (.aload_n 0, 1) := tX9_count_ok (56, .aload_n 0, 1) (List.mem_of_getElem? (i := 32) rfl)
theorem dX9_count_57 : decode cX9_count 57 = .ok (.bipush 9, 2) := tX9_count_ok (57, .bipush 9, 2) (List.mem_of_getElem? (i := 33) rfl)
theorem dX9_count_59 : decode cX9_count 59 = .ok (.invokevirtual 156, 3) := tX9_count_ok (59, .invokevirtual 156, 3) (List.mem_of_getElem? (i := 34) rfl)
theorem dX9_count_62 : decode cX9_count 62 = .ok (.i2l, 1) := tX9_count_ok (62, .i2l, 1) (List.mem_of_getElem? (i := 35) rfl)
theorem dX9_count_63 : decode cX9_count 63 = .ok (.goto 4, 3) := tX9_count_ok (63, .goto 4, 3) (List.mem_of_getElem? (i := 36) rfl)
theorem dX9_count_66 : decode cX9_count 66 = .ok (.lload_n 2, 1) := tX9_count_ok (66, .lload_n 2, 1) (List.mem_of_getElem? (i := 37) rfl)
theorem dX9_count_67 : decode cX9_count 67 = .ok (.lreturn, 1) := tX9_count_ok (67, .lreturn, 1) (List.mem_of_getElem? (i := 38) rfl)

def tX9_all : List (Nat × Instr × Nat) := [
  (0, .aload_n 0, 1),
  (1, .iconst 0, 1),
  (2, .putfield 112, 3),
  (5, .aload_n 0, 1),
  (6, .iconst 0, 1),
  (7, .putfield 115, 3),
  (10, .iload_n 1, 1),
  (11, .ifCond .lt 9, 3),
  (14, .iload_n 1, 1),
  (15, .bipush 60, 2),
  (17, .if_icmp .le 10, 3),
  (20, .aload_n 0, 1),
  (21, .iconst 2, 1),
  (22, .invokevirtual 156, 3),
  (25, .i2l, 1),
  (26, .lreturn, 1),
  (27, .aload_n 0, 1),
  (28, .aload_n 0, 1),
  (29, .getfield 161, 3),
  (32, .aload_n 0, 1),
  (33, .getfield 164, 3),
  (36, .invokevirtual 153, 3),
  (39, .ifCond .ne 11, 3),
  (42, .aload_n 0, 1),
  (43, .bipush 7, 2),
  (45, .invokevirtual 156, 3),
  (48, .i2l, 1),
  (49, .lreturn, 1),
  (50, .aload_n 0, 1),
  (51, .iload_n 1, 1),
  (52, .iconst 1, 1),
  (53, .invokevirtual 182, 3),
  (56, .aload_n 0, 1),
  (57, .getfield 43, 3),
  (60, .sipush 3721, 3),
  (63, .iload_n 1, 1),
  (64, .imul, 1),
  (65, .aload_n 0, 1),
  (66, .getfield 161, 3),
  (69, .aload_n 0, 1),
  (70, .getfield 164, 3),
  (73, .invokestatic 144, 3),
  (76, .iadd, 1),
  (77, .laload, 1),
  (78, .lstore_n 2, 1),
  (79, .lload_n 2, 1),
  (80, .ldc2_w 173, 3),
  (83, .lcmp, 1),
  (84, .ifCond .lt 13, 3),
  (87, .aload_n 0, 1),
  (88, .bipush 9, 2),
  (90, .invokevirtual 156, 3),
  (93, .i2l, 1),
  (94, .goto 4, 3),
  (97, .lload_n 2, 1),
  (98, .lreturn, 1)]
set_option maxRecDepth 100000 in
theorem tX9_all_ok : ∀ q ∈ tX9_all, decode cX9_all q.1 = .ok q.2 := by decide +kernel
theorem dX9_all_0 : decode cX9_all 0 = .ok (.aload_n 0, 1) := tX9_all_ok (0, .aload_n 0, 1) (List.mem_of_getElem? (i := 0) rfl)
theorem dX9_all_1 : decode cX9_all 1 = .ok (.iconst 0, 1) := tX9_all_ok (1, .iconst 0, 1) (List.mem_of_getElem? (i := 1) rfl)
theorem dX9_all_2 : decode cX9_all 2 = .ok (.putfield 112, 3) := tX9_all_ok (2, .putfield 112, 3) (List.mem_of_getElem? (i := 2) rfl)
theorem dX9_all_5 : decode cX9_all 5 = .ok (.aload_n 0, 1) := tX9_all_ok (5, .aload_n 0, 1) (List.mem_of_getElem? (i := 3) rfl)
theorem dX9_all_6 : decode cX9_all 6 = .ok (.iconst 0, 1) := tX9_all_ok (6, .iconst 0, 1) (List.mem_of_getElem? (i := 4) rfl)
theorem dX9_all_7 : decode cX9_all 7 = .ok (.putfield 115, 3) := tX9_all_ok (7, .putfield 115, 3) (List.mem_of_getElem? (i := 5) rfl)
theorem dX9_all_10 : decode cX9_all 10 = .ok (.iload_n 1, 1) := tX9_all_ok (10, .iload_n 1, 1) (List.mem_of_getElem? (i := 6) rfl)
theorem dX9_all_11 : decode cX9_all 11 = .ok (.ifCond .lt 9, 3) := tX9_all_ok (11, .ifCond .lt 9, 3) (List.mem_of_getElem? (i := 7) rfl)
theorem dX9_all_14 : decode cX9_all 14 = .ok (.iload_n 1, 1) := tX9_all_ok (14, .iload_n 1, 1) (List.mem_of_getElem? (i := 8) rfl)
theorem dX9_all_15 : decode cX9_all 15 = .ok (.bipush 60, 2) := tX9_all_ok (15, .bipush 60, 2) (List.mem_of_getElem? (i := 9) rfl)
theorem dX9_all_17 : decode cX9_all 17 = .ok (.if_icmp .le 10, 3) := tX9_all_ok (17, .if_icmp .le 10, 3) (List.mem_of_getElem? (i := 10) rfl)
theorem dX9_all_20 : decode cX9_all 20 = .ok (.aload_n 0, 1) := tX9_all_ok (20, .aload_n 0, 1) (List.mem_of_getElem? (i := 11) rfl)
theorem dX9_all_21 : decode cX9_all 21 = .ok (.iconst 2, 1) := tX9_all_ok (21, .iconst 2, 1) (List.mem_of_getElem? (i := 12) rfl)
theorem dX9_all_22 : decode cX9_all 22 = .ok (.invokevirtual 156, 3) := tX9_all_ok (22, .invokevirtual 156, 3) (List.mem_of_getElem? (i := 13) rfl)
theorem dX9_all_25 : decode cX9_all 25 = .ok (.i2l, 1) := tX9_all_ok (25, .i2l, 1) (List.mem_of_getElem? (i := 14) rfl)
theorem dX9_all_26 : decode cX9_all 26 = .ok (.lreturn, 1) := tX9_all_ok (26, .lreturn, 1) (List.mem_of_getElem? (i := 15) rfl)
theorem dX9_all_27 : decode cX9_all 27 = .ok (.aload_n 0, 1) := tX9_all_ok (27, .aload_n 0, 1) (List.mem_of_getElem? (i := 16) rfl)
theorem dX9_all_28 : decode cX9_all 28 = .ok (.aload_n 0, 1) := tX9_all_ok (28, .aload_n 0, 1) (List.mem_of_getElem? (i := 17) rfl)
theorem dX9_all_29 : decode cX9_all 29 = .ok (.getfield 161, 3) := tX9_all_ok (29, .getfield 161, 3) (List.mem_of_getElem? (i := 18) rfl)
theorem dX9_all_32 : decode cX9_all 32 = .ok (.aload_n 0, 1) := tX9_all_ok (32, .aload_n 0, 1) (List.mem_of_getElem? (i := 19) rfl)
theorem dX9_all_33 : decode cX9_all 33 = .ok (.getfield 164, 3) := tX9_all_ok (33, .getfield 164, 3) (List.mem_of_getElem? (i := 20) rfl)
theorem dX9_all_36 : decode cX9_all 36 = .ok (.invokevirtual 153, 3) := tX9_all_ok (36, .invokevirtual 153, 3) (List.mem_of_getElem? (i := 21) rfl)
theorem dX9_all_39 : decode cX9_all 39 = .ok (.ifCond .ne 11, 3) := tX9_all_ok (39, .ifCond .ne 11, 3) (List.mem_of_getElem? (i := 22) rfl)
theorem dX9_all_42 : decode cX9_all 42 = .ok (.aload_n 0, 1) := tX9_all_ok (42, .aload_n 0, 1) (List.mem_of_getElem? (i := 23) rfl)
theorem dX9_all_43 : decode cX9_all 43 = .ok (.bipush 7, 2) := tX9_all_ok (43, .bipush 7, 2) (List.mem_of_getElem? (i := 24) rfl)
theorem dX9_all_45 : decode cX9_all 45 = .ok (.invokevirtual 156, 3) := tX9_all_ok (45, .invokevirtual 156, 3) (List.mem_of_getElem? (i := 25) rfl)
theorem dX9_all_48 : decode cX9_all 48 = .ok (.i2l, 1) := tX9_all_ok (48, .i2l, 1) (List.mem_of_getElem? (i := 26) rfl)
theorem dX9_all_49 : decode cX9_all 49 = .ok (.lreturn, 1) := tX9_all_ok (49, .lreturn, 1) (List.mem_of_getElem? (i := 27) rfl)
theorem dX9_all_50 : decode cX9_all 50 = .ok (.aload_n 0, 1) := tX9_all_ok (50, .aload_n 0, 1) (List.mem_of_getElem? (i := 28) rfl)
theorem dX9_all_51 : decode cX9_all 51 = .ok (.iload_n 1, 1) := tX9_all_ok (51, .iload_n 1, 1) (List.mem_of_getElem? (i := 29) rfl)
theorem dX9_all_52 : decode cX9_all 52 = .ok (.iconst 1, 1) := tX9_all_ok (52, .iconst 1, 1) (List.mem_of_getElem? (i := 30) rfl)
theorem dX9_all_53 : decode cX9_all 53 = .ok (.invokevirtual 182, 3) := tX9_all_ok (53, .invokevirtual 182, 3) (List.mem_of_getElem? (i := 31) rfl)
theorem dX9_all_56 : decode cX9_all 56 = .ok (.aload_n 0, 1) := tX9_all_ok (56, .aload_n 0, 1) (List.mem_of_getElem? (i := 32) rfl)
theorem dX9_all_57 : decode cX9_all 57 = .ok (.getfield 43, 3) := tX9_all_ok (57, .getfield 43, 3) (List.mem_of_getElem? (i := 33) rfl)
theorem dX9_all_60 : decode cX9_all 60 = .ok (.sipush 3721, 3) := tX9_all_ok (60, .sipush 3721, 3) (List.mem_of_getElem? (i := 34) rfl)
theorem dX9_all_63 : decode cX9_all 63 = .ok (.iload_n 1, 1) := tX9_all_ok (63, .iload_n 1, 1) (List.mem_of_getElem? (i := 35) rfl)
theorem dX9_all_64 : decode cX9_all 64 = .ok (.imul, 1) := tX9_all_ok (64, .imul, 1) (List.mem_of_getElem? (i := 36) rfl)
theorem dX9_all_65 : decode cX9_all 65 = .ok (.aload_n 0, 1) := tX9_all_ok (65, .aload_n 0, 1) (List.mem_of_getElem? (i := 37) rfl)
theorem dX9_all_66 : decode cX9_all 66 = .ok (.getfield 161, 3) := tX9_all_ok (66, .getfield 161, 3) (List.mem_of_getElem? (i := 38) rfl)
theorem dX9_all_69 : decode cX9_all 69 = .ok (.aload_n 0, 1) := tX9_all_ok (69, .aload_n 0, 1) (List.mem_of_getElem? (i := 39) rfl)
theorem dX9_all_70 : decode cX9_all 70 = .ok (.getfield 164, 3) := tX9_all_ok (70, .getfield 164, 3) (List.mem_of_getElem? (i := 40) rfl)
theorem dX9_all_73 : decode cX9_all 73 = .ok (.invokestatic 144, 3) := tX9_all_ok (73, .invokestatic 144, 3) (List.mem_of_getElem? (i := 41) rfl)
theorem dX9_all_76 : decode cX9_all 76 = .ok (.iadd, 1) := tX9_all_ok (76, .iadd, 1) (List.mem_of_getElem? (i := 42) rfl)
theorem dX9_all_77 : decode cX9_all 77 = .ok (.laload, 1) := tX9_all_ok (77, .laload, 1) (List.mem_of_getElem? (i := 43) rfl)
theorem dX9_all_78 : decode cX9_all 78 = .ok (.lstore_n 2, 1) := tX9_all_ok (78, .lstore_n 2, 1) (List.mem_of_getElem? (i := 44) rfl)
theorem dX9_all_79 : decode cX9_all 79 = .ok (.lload_n 2, 1) := tX9_all_ok (79, .lload_n 2, 1) (List.mem_of_getElem? (i := 45) rfl)
theorem dX9_all_80 : decode cX9_all 80 = .ok (.ldc2_w 173, 3) := tX9_all_ok (80, .ldc2_w 173, 3) (List.mem_of_getElem? (i := 46) rfl)
theorem dX9_all_83 : decode cX9_all 83 = .ok (.lcmp, 1) := tX9_all_ok (83, .lcmp, 1) (List.mem_of_getElem? (i := 47) rfl)
theorem dX9_all_84 : decode cX9_all 84 = .ok (.ifCond .lt 13, 3) := tX9_all_ok (84, .ifCond .lt 13, 3) (List.mem_of_getElem? (i := 48) rfl)
theorem dX9_all_87 : decode cX9_all 87 = .ok (.aload_n 0, 1) := tX9_all_ok (87, .aload_n 0, 1) (List.mem_of_getElem? (i := 49) rfl)
theorem dX9_all_88 : decode cX9_all 88 = .ok (.bipush 9, 2) := tX9_all_ok (88, .bipush 9, 2) (List.mem_of_getElem? (i := 50) rfl)
theorem dX9_all_90 : decode cX9_all 90 = .ok (.invokevirtual 156, 3) := tX9_all_ok (90, .invokevirtual 156, 3) (List.mem_of_getElem? (i := 51) rfl)
theorem dX9_all_93 : decode cX9_all 93 = .ok (.i2l, 1) := tX9_all_ok (93, .i2l, 1) (List.mem_of_getElem? (i := 52) rfl)
theorem dX9_all_94 : decode cX9_all 94 = .ok (.goto 4, 3) := tX9_all_ok (94, .goto 4, 3) (List.mem_of_getElem? (i := 53) rfl)
theorem dX9_all_97 : decode cX9_all 97 = .ok (.lload_n 2, 1) := tX9_all_ok (97, .lload_n 2, 1) (List.mem_of_getElem? (i := 54) rfl)
theorem dX9_all_98 : decode cX9_all 98 = .ok (.lreturn, 1) := tX9_all_ok (98, .lreturn, 1) (List.mem_of_getElem? (i := 55) rfl)

def tX9_least : List (Nat × Instr × Nat) := [
  (0, .aload_n 0, 1),
  (1, .iconst 0, 1),
  (2, .putfield 112, 3),
  (5, .aload_n 0, 1),
  (6, .iconst 0, 1),
  (7, .putfield 115, 3),
  (10, .aload_n 0, 1),
  (11, .invokevirtual 186, 3),
  (14, .ifCond .ne 10, 3),
  (17, .aload_n 0, 1),
  (18, .bipush 7, 2),
  (20, .invokevirtual 156, 3),
  (23, .ireturn, 1),
  (24, .aload_n 0, 1),
  (25, .bipush 60, 2),
  (27, .iconst 0, 1),
  (28, .invokevirtual 182, 3),
  (31, .iconst 0, 1),
  (32, .istore_n 1, 1),
  (33, .iload_n 1, 1),
  (34, .bipush 60, 2),
  (36, .if_icmp .gt 38, 3),
  (39, .aload_n 0, 1),
  (40, .getfield 43, 3),
  (43, .sipush 3721, 3),
  (46, .iload_n 1, 1),
  (47, .imul, 1),
  (48, .aload_n 0, 1),
  (49, .getfield 161, 3),
  (52, .aload_n 0, 1),
  (53, .getfield 164, 3),
  (56, .invokestatic 144, 3),
  (59, .iadd, 1),
  (60, .laload, 1),
  (61, .lconst 0, 1),
  (62, .lcmp, 1),
  (63, .ifCond .le 5, 3),
  (66, .iload_n 1, 1),
  (67, .ireturn, 1),
  (68, .iinc 1 1, 3),
  (71, .goto (-38), 3),
  (74, .aload_n 0, 1),
  (75, .bipush 8, 2),
  (77, .invokevirtual 156, 3),
  (80, .ireturn, 1)]
set_option maxRecDepth 100000 in
theorem tX9_least_ok : ∀ q ∈ tX9_least, decode cX9_least q.1 = .ok q.2 := by decide +kernel
theorem dX9_least_0 : decode cX9_least 0 = .ok (.aload_n 0, 1) := tX9_least_ok (0, .aload_n 0, 1) (List.mem_of_getElem? (i := 0) rfl)
theorem dX9_least_1 : decode cX9_least 1 = .ok (.iconst 0, 1) := tX9_least_ok (1, .iconst 0, 1) (List.mem_of_getElem? (i := 1) rfl)
theorem dX9_least_2 : decode cX9_least 2 = .ok (.putfield 112, 3) := tX9_least_ok (2, .putfield 112, 3) (List.mem_of_getElem? (i := 2) rfl)
theorem dX9_least_5 : decode cX9_least 5 = .ok (.aload_n 0, 1) := tX9_least_ok (5, .aload_n 0, 1) (List.mem_of_getElem? (i := 3) rfl)
theorem dX9_least_6 : decode cX9_least 6 = .ok (.iconst 0, 1) := tX9_least_ok (6, .iconst 0, 1) (List.mem_of_getElem? (i := 4) rfl)
theorem dX9_least_7 : decode cX9_least 7 = .ok (.putfield 115, 3) := tX9_least_ok (7, .putfield 115, 3) (List.mem_of_getElem? (i := 5) rfl)
theorem dX9_least_10 : decode cX9_least 10 = .ok (.aload_n 0, 1) := tX9_least_ok (10, .aload_n 0, 1) (List.mem_of_getElem? (i := 6) rfl)
theorem dX9_least_11 : decode cX9_least 11 = .ok (.invokevirtual 186, 3) := tX9_least_ok (11, .invokevirtual 186, 3) (List.mem_of_getElem? (i := 7) rfl)
theorem dX9_least_14 : decode cX9_least 14 = .ok (.ifCond .ne 10, 3) := tX9_least_ok (14, .ifCond .ne 10, 3) (List.mem_of_getElem? (i := 8) rfl)
theorem dX9_least_17 : decode cX9_least 17 = .ok (.aload_n 0, 1) := tX9_least_ok (17, .aload_n 0, 1) (List.mem_of_getElem? (i := 9) rfl)
theorem dX9_least_18 : decode cX9_least 18 = .ok (.bipush 7, 2) := tX9_least_ok (18, .bipush 7, 2) (List.mem_of_getElem? (i := 10) rfl)
theorem dX9_least_20 : decode cX9_least 20 = .ok (.invokevirtual 156, 3) := tX9_least_ok (20, .invokevirtual 156, 3) (List.mem_of_getElem? (i := 11) rfl)
theorem dX9_least_23 : decode cX9_least 23 = .ok (.ireturn, 1) := tX9_least_ok (23, .ireturn, 1) (List.mem_of_getElem? (i := 12) rfl)
theorem dX9_least_24 : decode cX9_least 24 = .ok (.aload_n 0, 1) := tX9_least_ok (24, .aload_n 0, 1) (List.mem_of_getElem? (i := 13) rfl)
theorem dX9_least_25 : decode cX9_least 25 = .ok (.bipush 60, 2) := tX9_least_ok (25, .bipush 60, 2) (List.mem_of_getElem? (i := 14) rfl)
theorem dX9_least_27 : decode cX9_least 27 = .ok (.iconst 0, 1) := tX9_least_ok (27, .iconst 0, 1) (List.mem_of_getElem? (i := 15) rfl)
theorem dX9_least_28 : decode cX9_least 28 = .ok (.invokevirtual 182, 3) := tX9_least_ok (28, .invokevirtual 182, 3) (List.mem_of_getElem? (i := 16) rfl)
theorem dX9_least_31 : decode cX9_least 31 = .ok (.iconst 0, 1) := tX9_least_ok (31, .iconst 0, 1) (List.mem_of_getElem? (i := 17) rfl)
theorem dX9_least_32 : decode cX9_least 32 = .ok (.istore_n 1, 1) := tX9_least_ok (32, .istore_n 1, 1) (List.mem_of_getElem? (i := 18) rfl)
theorem dX9_least_33 : decode cX9_least 33 = .ok (.iload_n 1, 1) := tX9_least_ok (33, .iload_n 1, 1) (List.mem_of_getElem? (i := 19) rfl)
theorem dX9_least_34 : decode cX9_least 34 = .ok (.bipush 60, 2) := tX9_least_ok (34, .bipush 60, 2) (List.mem_of_getElem? (i := 20) rfl)
theorem dX9_least_36 : decode cX9_least 36 = .ok (.if_icmp .gt 38, 3) := tX9_least_ok (36, .if_icmp .gt 38, 3) (List.mem_of_getElem? (i := 21) rfl)
theorem dX9_least_39 : decode cX9_least 39 = .ok (.aload_n 0, 1) := tX9_least_ok (39, .aload_n 0, 1) (List.mem_of_getElem? (i := 22) rfl)
theorem dX9_least_40 : decode cX9_least 40 = .ok (.getfield 43, 3) := tX9_least_ok (40, .getfield 43, 3) (List.mem_of_getElem? (i := 23) rfl)
theorem dX9_least_43 : decode cX9_least 43 = .ok (.sipush 3721, 3) := tX9_least_ok (43, .sipush 3721, 3) (List.mem_of_getElem? (i := 24) rfl)
theorem dX9_least_46 : decode cX9_least 46 = .ok (.iload_n 1, 1) := tX9_least_ok (46, .iload_n 1, 1) (List.mem_of_getElem? (i := 25) rfl)
theorem dX9_least_47 : decode cX9_least 47 = .ok (.imul, 1) := tX9_least_ok (47, .imul, 1) (List.mem_of_getElem? (i := 26) rfl)
theorem dX9_least_48 : decode cX9_least 48 = .ok (.aload_n 0, 1) := tX9_least_ok (48, .aload_n 0, 1) (List.mem_of_getElem? (i := 27) rfl)
theorem dX9_least_49 : decode cX9_least 49 = .ok (.getfield 161, 3) := tX9_least_ok (49, .getfield 161, 3) (List.mem_of_getElem? (i := 28) rfl)
theorem dX9_least_52 : decode cX9_least 52 = .ok (.aload_n 0, 1) := tX9_least_ok (52, .aload_n 0, 1) (List.mem_of_getElem? (i := 29) rfl)
theorem dX9_least_53 : decode cX9_least 53 = .ok (.getfield 164, 3) := tX9_least_ok (53, .getfield 164, 3) (List.mem_of_getElem? (i := 30) rfl)
theorem dX9_least_56 : decode cX9_least 56 = .ok (.invokestatic 144, 3) := tX9_least_ok (56, .invokestatic 144, 3) (List.mem_of_getElem? (i := 31) rfl)
theorem dX9_least_59 : decode cX9_least 59 = .ok (.iadd, 1) := tX9_least_ok (59, .iadd, 1) (List.mem_of_getElem? (i := 32) rfl)
theorem dX9_least_60 : decode cX9_least 60 = .ok (.laload, 1) := tX9_least_ok (60, .laload, 1) (List.mem_of_getElem? (i := 33) rfl)
theorem dX9_least_61 : decode cX9_least 61 = .ok (.lconst 0, 1) := tX9_least_ok (61, .lconst 0, 1) (List.mem_of_getElem? (i := 34) rfl)
theorem dX9_least_62 : decode cX9_least 62 = .ok (.lcmp, 1) := tX9_least_ok (62, .lcmp, 1) (List.mem_of_getElem? (i := 35) rfl)
theorem dX9_least_63 : decode cX9_least 63 = .ok (.ifCond .le 5, 3) := tX9_least_ok (63, .ifCond .le 5, 3) (List.mem_of_getElem? (i := 36) rfl)
theorem dX9_least_66 : decode cX9_least 66 = .ok (.iload_n 1, 1) := tX9_least_ok (66, .iload_n 1, 1) (List.mem_of_getElem? (i := 37) rfl)
theorem dX9_least_67 : decode cX9_least 67 = .ok (.ireturn, 1) := tX9_least_ok (67, .ireturn, 1) (List.mem_of_getElem? (i := 38) rfl)
theorem dX9_least_68 : decode cX9_least 68 = .ok (.iinc 1 1, 3) := tX9_least_ok (68, .iinc 1 1, 3) (List.mem_of_getElem? (i := 39) rfl)
theorem dX9_least_71 : decode cX9_least 71 = .ok (.goto (-38), 3) := tX9_least_ok (71, .goto (-38), 3) (List.mem_of_getElem? (i := 40) rfl)
theorem dX9_least_74 : decode cX9_least 74 = .ok (.aload_n 0, 1) := tX9_least_ok (74, .aload_n 0, 1) (List.mem_of_getElem? (i := 41) rfl)
theorem dX9_least_75 : decode cX9_least 75 = .ok (.bipush 8, 2) := tX9_least_ok (75, .bipush 8, 2) (List.mem_of_getElem? (i := 42) rfl)
theorem dX9_least_77 : decode cX9_least 77 = .ok (.invokevirtual 156, 3) := tX9_least_ok (77, .invokevirtual 156, 3) (List.mem_of_getElem? (i := 43) rfl)
theorem dX9_least_80 : decode cX9_least 80 = .ok (.ireturn, 1) := tX9_least_ok (80, .ireturn, 1) (List.mem_of_getElem? (i := 44) rfl)

def tX9_hasArea : List (Nat × Instr × Nat) := [
  (0, .aload_n 0, 1),
  (1, .getfield 137, 3),
  (4, .iconst 1, 1),
  (5, .if_icmp .eq 19, 3),
  (8, .aload_n 0, 1),
  (9, .getfield 137, 3),
  (12, .iconst 2, 1),
  (13, .if_icmp .eq 11, 3),
  (16, .aload_n 0, 1),
  (17, .getfield 137, 3),
  (20, .iconst 3, 1),
  (21, .if_icmp .ne 7, 3),
  (24, .iconst 1, 1),
  (25, .goto 4, 3),
  (28, .iconst 0, 1),
  (29, .ireturn, 1)]
set_option maxRecDepth 100000 in
theorem tX9_hasArea_ok : ∀ q ∈ tX9_hasArea, decode cX9_hasArea q.1 = .ok q.2 := by decide +kernel
theorem dX9_hasArea_0 : decode cX9_hasArea 0 = .ok (.aload_n 0, 1) := tX9_hasArea_ok (0, .aload_n 0, 1) (List.mem_of_getElem? (i := 0) rfl)
theorem dX9_hasArea_1 : decode cX9_hasArea 1 = .ok (.getfield 137, 3) := tX9_hasArea_ok (1, .getfield 137, 3) (List.mem_of_getElem? (i := 1) rfl)
theorem dX9_hasArea_4 : decode cX9_hasArea 4 = .ok (.iconst 1, 1) := tX9_hasArea_ok (4, .iconst 1, 1) (List.mem_of_getElem? (i := 2) rfl)
theorem dX9_hasArea_5 : decode cX9_hasArea 5 = .ok (.if_icmp .eq 19, 3) := tX9_hasArea_ok (5, .if_icmp .eq 19, 3) (List.mem_of_getElem? (i := 3) rfl)
theorem dX9_hasArea_8 : decode cX9_hasArea 8 = .ok (.aload_n 0, 1) := tX9_hasArea_ok (8, .aload_n 0, 1) (List.mem_of_getElem? (i := 4) rfl)
theorem dX9_hasArea_9 : decode cX9_hasArea 9 = .ok (.getfield 137, 3) := tX9_hasArea_ok (9, .getfield 137, 3) (List.mem_of_getElem? (i := 5) rfl)
theorem dX9_hasArea_12 : decode cX9_hasArea 12 = .ok (.iconst 2, 1) := tX9_hasArea_ok (12, .iconst 2, 1) (List.mem_of_getElem? (i := 6) rfl)
theorem dX9_hasArea_13 : decode cX9_hasArea 13 = .ok (.if_icmp .eq 11, 3) := tX9_hasArea_ok (13, .if_icmp .eq 11, 3) (List.mem_of_getElem? (i := 7) rfl)
theorem dX9_hasArea_16 : decode cX9_hasArea 16 = .ok (.aload_n 0, 1) := tX9_hasArea_ok (16, .aload_n 0, 1) (List.mem_of_getElem? (i := 8) rfl)
theorem dX9_hasArea_17 : decode cX9_hasArea 17 = .ok (.getfield 137, 3) := tX9_hasArea_ok (17, .getfield 137, 3) (List.mem_of_getElem? (i := 9) rfl)
theorem dX9_hasArea_20 : decode cX9_hasArea 20 = .ok (.iconst 3, 1) := tX9_hasArea_ok (20, .iconst 3, 1) (List.mem_of_getElem? (i := 10) rfl)
theorem dX9_hasArea_21 : decode cX9_hasArea 21 = .ok (.if_icmp .ne 7, 3) := tX9_hasArea_ok (21, .if_icmp .ne 7, 3) (List.mem_of_getElem? (i := 11) rfl)
theorem dX9_hasArea_24 : decode cX9_hasArea 24 = .ok (.iconst 1, 1) := tX9_hasArea_ok (24, .iconst 1, 1) (List.mem_of_getElem? (i := 12) rfl)
theorem dX9_hasArea_25 : decode cX9_hasArea 25 = .ok (.goto 4, 3) := tX9_hasArea_ok (25, .goto 4, 3) (List.mem_of_getElem? (i := 13) rfl)
theorem dX9_hasArea_28 : decode cX9_hasArea 28 = .ok (.iconst 0, 1) := tX9_hasArea_ok (28, .iconst 0, 1) (List.mem_of_getElem? (i := 14) rfl)
theorem dX9_hasArea_29 : decode cX9_hasArea 29 = .ok (.ireturn, 1) := tX9_hasArea_ok (29, .ireturn, 1) (List.mem_of_getElem? (i := 15) rfl)

def tX9_adds : List (Nat × Instr × Nat) := [
  (0, .iload_n 1, 1),
  (1, .tableswitch 62 0 2 #[27, 40, 57], 27),
  (28, .iload_n 3, 1),
  (29, .invokestatic 150, 3),
  (32, .ifCond .ne 7, 3),
  (35, .iconst 1, 1),
  (36, .goto 4, 3),
  (39, .iconst 0, 1),
  (40, .ireturn, 1),
  (41, .iload 4, 2),
  (43, .ifCond .lt 13, 3),
  (46, .iload 4, 2),
  (48, .iload_n 2, 1),
  (49, .if_icmp .eq 7, 3),
  (52, .iconst 1, 1),
  (53, .goto 4, 3),
  (56, .iconst 0, 1),
  (57, .ireturn, 1),
  (58, .iload_n 3, 1),
  (59, .invokestatic 150, 3),
  (62, .ireturn, 1),
  (63, .aload_n 0, 1),
  (64, .getfield 35, 3),
  (67, .iload_n 2, 1),
  (68, .iaload, 1),
  (69, .ireturn, 1)]
set_option maxRecDepth 100000 in
theorem tX9_adds_ok : ∀ q ∈ tX9_adds, decode cX9_adds q.1 = .ok q.2 := by decide +kernel
theorem dX9_adds_0 : decode cX9_adds 0 = .ok (.iload_n 1, 1) := tX9_adds_ok (0, .iload_n 1, 1) (List.mem_of_getElem? (i := 0) rfl)
theorem dX9_adds_1 : decode cX9_adds 1 = .ok (.tableswitch 62 0 2 #[27, 40, 57], 27) := tX9_adds_ok (1, .tableswitch 62 0 2 #[27, 40, 57], 27) (List.mem_of_getElem? (i := 1) rfl)
theorem dX9_adds_28 : decode cX9_adds 28 = .ok (.iload_n 3, 1) := tX9_adds_ok (28, .iload_n 3, 1) (List.mem_of_getElem? (i := 2) rfl)
theorem dX9_adds_29 : decode cX9_adds 29 = .ok (.invokestatic 150, 3) := tX9_adds_ok (29, .invokestatic 150, 3) (List.mem_of_getElem? (i := 3) rfl)
theorem dX9_adds_32 : decode cX9_adds 32 = .ok (.ifCond .ne 7, 3) := tX9_adds_ok (32, .ifCond .ne 7, 3) (List.mem_of_getElem? (i := 4) rfl)
theorem dX9_adds_35 : decode cX9_adds 35 = .ok (.iconst 1, 1) := tX9_adds_ok (35, .iconst 1, 1) (List.mem_of_getElem? (i := 5) rfl)
theorem dX9_adds_36 : decode cX9_adds 36 = .ok (.goto 4, 3) := tX9_adds_ok (36, .goto 4, 3) (List.mem_of_getElem? (i := 6) rfl)
theorem dX9_adds_39 : decode cX9_adds 39 = .ok (.iconst 0, 1) := tX9_adds_ok (39, .iconst 0, 1) (List.mem_of_getElem? (i := 7) rfl)
theorem dX9_adds_40 : decode cX9_adds 40 = .ok (.ireturn, 1) := tX9_adds_ok (40, .ireturn, 1) (List.mem_of_getElem? (i := 8) rfl)
theorem dX9_adds_41 : decode cX9_adds 41 = .ok (.iload 4, 2) := tX9_adds_ok (41, .iload 4, 2) (List.mem_of_getElem? (i := 9) rfl)
theorem dX9_adds_43 : decode cX9_adds 43 = .ok (.ifCond .lt 13, 3) := tX9_adds_ok (43, .ifCond .lt 13, 3) (List.mem_of_getElem? (i := 10) rfl)
theorem dX9_adds_46 : decode cX9_adds 46 = .ok (.iload 4, 2) := tX9_adds_ok (46, .iload 4, 2) (List.mem_of_getElem? (i := 11) rfl)
theorem dX9_adds_48 : decode cX9_adds 48 = .ok (.iload_n 2, 1) := tX9_adds_ok (48, .iload_n 2, 1) (List.mem_of_getElem? (i := 12) rfl)
theorem dX9_adds_49 : decode cX9_adds 49 = .ok (.if_icmp .eq 7, 3) := tX9_adds_ok (49, .if_icmp .eq 7, 3) (List.mem_of_getElem? (i := 13) rfl)
theorem dX9_adds_52 : decode cX9_adds 52 = .ok (.iconst 1, 1) := tX9_adds_ok (52, .iconst 1, 1) (List.mem_of_getElem? (i := 14) rfl)
theorem dX9_adds_53 : decode cX9_adds 53 = .ok (.goto 4, 3) := tX9_adds_ok (53, .goto 4, 3) (List.mem_of_getElem? (i := 15) rfl)
theorem dX9_adds_56 : decode cX9_adds 56 = .ok (.iconst 0, 1) := tX9_adds_ok (56, .iconst 0, 1) (List.mem_of_getElem? (i := 16) rfl)
theorem dX9_adds_57 : decode cX9_adds 57 = .ok (.ireturn, 1) := tX9_adds_ok (57, .ireturn, 1) (List.mem_of_getElem? (i := 17) rfl)
theorem dX9_adds_58 : decode cX9_adds 58 = .ok (.iload_n 3, 1) := tX9_adds_ok (58, .iload_n 3, 1) (List.mem_of_getElem? (i := 18) rfl)
theorem dX9_adds_59 : decode cX9_adds 59 = .ok (.invokestatic 150, 3) := tX9_adds_ok (59, .invokestatic 150, 3) (List.mem_of_getElem? (i := 19) rfl)
theorem dX9_adds_62 : decode cX9_adds 62 = .ok (.ireturn, 1) := tX9_adds_ok (62, .ireturn, 1) (List.mem_of_getElem? (i := 20) rfl)
theorem dX9_adds_63 : decode cX9_adds 63 = .ok (.aload_n 0, 1) := tX9_adds_ok (63, .aload_n 0, 1) (List.mem_of_getElem? (i := 21) rfl)
theorem dX9_adds_64 : decode cX9_adds 64 = .ok (.getfield 35, 3) := tX9_adds_ok (64, .getfield 35, 3) (List.mem_of_getElem? (i := 22) rfl)
theorem dX9_adds_67 : decode cX9_adds 67 = .ok (.iload_n 2, 1) := tX9_adds_ok (67, .iload_n 2, 1) (List.mem_of_getElem? (i := 23) rfl)
theorem dX9_adds_68 : decode cX9_adds 68 = .ok (.iaload, 1) := tX9_adds_ok (68, .iaload, 1) (List.mem_of_getElem? (i := 24) rfl)
theorem dX9_adds_69 : decode cX9_adds 69 = .ok (.ireturn, 1) := tX9_adds_ok (69, .ireturn, 1) (List.mem_of_getElem? (i := 25) rfl)

def tX9_weighed : List (Nat × Instr × Nat) := [
  (0, .iload_n 1, 1),
  (1, .ifCond .lt 18, 3),
  (4, .iload_n 1, 1),
  (5, .iconst 3, 1),
  (6, .if_icmp .gt 13, 3),
  (9, .iload_n 2, 1),
  (10, .ifCond .lt 9, 3),
  (13, .iload_n 2, 1),
  (14, .bipush 14, 2),
  (16, .if_icmp .le 5, 3),
  (19, .iconst 2, 1),
  (20, .ireturn, 1),
  (21, .iload_n 1, 1),
  (22, .iconst 2, 1),
  (23, .if_icmp .ne 12, 3),
  (26, .aload_n 0, 1),
  (27, .invokevirtual 194, 3),
  (30, .ifCond .ne 5, 3),
  (33, .iconst 5, 1),
  (34, .ireturn, 1),
  (35, .aload_n 0, 1),
  (36, .invokevirtual 186, 3),
  (39, .ifCond .eq 7, 3),
  (42, .iconst 0, 1),
  (43, .goto 5, 3),
  (46, .bipush 7, 2),
  (48, .ireturn, 1)]
set_option maxRecDepth 100000 in
theorem tX9_weighed_ok : ∀ q ∈ tX9_weighed, decode cX9_weighed q.1 = .ok q.2 := by decide +kernel
theorem dX9_weighed_0 : decode cX9_weighed 0 = .ok (.iload_n 1, 1) := tX9_weighed_ok (0, .iload_n 1, 1) (List.mem_of_getElem? (i := 0) rfl)
theorem dX9_weighed_1 : decode cX9_weighed 1 = .ok (.ifCond .lt 18, 3) := tX9_weighed_ok (1, .ifCond .lt 18, 3) (List.mem_of_getElem? (i := 1) rfl)
theorem dX9_weighed_4 : decode cX9_weighed 4 = .ok (.iload_n 1, 1) := tX9_weighed_ok (4, .iload_n 1, 1) (List.mem_of_getElem? (i := 2) rfl)
theorem dX9_weighed_5 : decode cX9_weighed 5 = .ok (.iconst 3, 1) := tX9_weighed_ok (5, .iconst 3, 1) (List.mem_of_getElem? (i := 3) rfl)
theorem dX9_weighed_6 : decode cX9_weighed 6 = .ok (.if_icmp .gt 13, 3) := tX9_weighed_ok (6, .if_icmp .gt 13, 3) (List.mem_of_getElem? (i := 4) rfl)
theorem dX9_weighed_9 : decode cX9_weighed 9 = .ok (.iload_n 2, 1) := tX9_weighed_ok (9, .iload_n 2, 1) (List.mem_of_getElem? (i := 5) rfl)
theorem dX9_weighed_10 : decode cX9_weighed 10 = .ok (.ifCond .lt 9, 3) := tX9_weighed_ok (10, .ifCond .lt 9, 3) (List.mem_of_getElem? (i := 6) rfl)
theorem dX9_weighed_13 : decode cX9_weighed 13 = .ok (.iload_n 2, 1) := tX9_weighed_ok (13, .iload_n 2, 1) (List.mem_of_getElem? (i := 7) rfl)
theorem dX9_weighed_14 : decode cX9_weighed 14 = .ok (.bipush 14, 2) := tX9_weighed_ok (14, .bipush 14, 2) (List.mem_of_getElem? (i := 8) rfl)
theorem dX9_weighed_16 : decode cX9_weighed 16 = .ok (.if_icmp .le 5, 3) := tX9_weighed_ok (16, .if_icmp .le 5, 3) (List.mem_of_getElem? (i := 9) rfl)
theorem dX9_weighed_19 : decode cX9_weighed 19 = .ok (.iconst 2, 1) := tX9_weighed_ok (19, .iconst 2, 1) (List.mem_of_getElem? (i := 10) rfl)
theorem dX9_weighed_20 : decode cX9_weighed 20 = .ok (.ireturn, 1) := tX9_weighed_ok (20, .ireturn, 1) (List.mem_of_getElem? (i := 11) rfl)
theorem dX9_weighed_21 : decode cX9_weighed 21 = .ok (.iload_n 1, 1) := tX9_weighed_ok (21, .iload_n 1, 1) (List.mem_of_getElem? (i := 12) rfl)
theorem dX9_weighed_22 : decode cX9_weighed 22 = .ok (.iconst 2, 1) := tX9_weighed_ok (22, .iconst 2, 1) (List.mem_of_getElem? (i := 13) rfl)
theorem dX9_weighed_23 : decode cX9_weighed 23 = .ok (.if_icmp .ne 12, 3) := tX9_weighed_ok (23, .if_icmp .ne 12, 3) (List.mem_of_getElem? (i := 14) rfl)
theorem dX9_weighed_26 : decode cX9_weighed 26 = .ok (.aload_n 0, 1) := tX9_weighed_ok (26, .aload_n 0, 1) (List.mem_of_getElem? (i := 15) rfl)
theorem dX9_weighed_27 : decode cX9_weighed 27 = .ok (.invokevirtual 194, 3) := tX9_weighed_ok (27, .invokevirtual 194, 3) (List.mem_of_getElem? (i := 16) rfl)
theorem dX9_weighed_30 : decode cX9_weighed 30 = .ok (.ifCond .ne 5, 3) := tX9_weighed_ok (30, .ifCond .ne 5, 3) (List.mem_of_getElem? (i := 17) rfl)
theorem dX9_weighed_33 : decode cX9_weighed 33 = .ok (.iconst 5, 1) := tX9_weighed_ok (33, .iconst 5, 1) (List.mem_of_getElem? (i := 18) rfl)
theorem dX9_weighed_34 : decode cX9_weighed 34 = .ok (.ireturn, 1) := tX9_weighed_ok (34, .ireturn, 1) (List.mem_of_getElem? (i := 19) rfl)
theorem dX9_weighed_35 : decode cX9_weighed 35 = .ok (.aload_n 0, 1) := tX9_weighed_ok (35, .aload_n 0, 1) (List.mem_of_getElem? (i := 20) rfl)
theorem dX9_weighed_36 : decode cX9_weighed 36 = .ok (.invokevirtual 186, 3) := tX9_weighed_ok (36, .invokevirtual 186, 3) (List.mem_of_getElem? (i := 21) rfl)
theorem dX9_weighed_39 : decode cX9_weighed 39 = .ok (.ifCond .eq 7, 3) := tX9_weighed_ok (39, .ifCond .eq 7, 3) (List.mem_of_getElem? (i := 22) rfl)
theorem dX9_weighed_42 : decode cX9_weighed 42 = .ok (.iconst 0, 1) := tX9_weighed_ok (42, .iconst 0, 1) (List.mem_of_getElem? (i := 23) rfl)
theorem dX9_weighed_43 : decode cX9_weighed 43 = .ok (.goto 5, 3) := tX9_weighed_ok (43, .goto 5, 3) (List.mem_of_getElem? (i := 24) rfl)
theorem dX9_weighed_46 : decode cX9_weighed 46 = .ok (.bipush 7, 2) := tX9_weighed_ok (46, .bipush 7, 2) (List.mem_of_getElem? (i := 25) rfl)
theorem dX9_weighed_48 : decode cX9_weighed 48 = .ok (.ireturn, 1) := tX9_weighed_ok (48, .ireturn, 1) (List.mem_of_getElem? (i := 26) rfl)

def tX9_sum : List (Nat × Instr × Nat) := [
  (0, .aload_n 0, 1),
  (1, .iconst 0, 1),
  (2, .putfield 112, 3),
  (5, .aload_n 0, 1),
  (6, .iload_n 3, 1),
  (7, .ifCond .lt 9, 3),
  (10, .iload_n 3, 1),
  (11, .bipush 120, 2),
  (13, .if_icmp .le 7, 3),
  (16, .iconst 2, 1),
  (17, .goto 9, 3),
  (20, .aload_n 0, 1),
  (21, .iload_n 1, 1),
  (22, .iload_n 2, 1),
  (23, .invokevirtual 197, 3),
  (26, .putfield 115, 3),
  (29, .aload_n 0, 1),
  (30, .getfield 115, 3),
  (33, .ifCond .le 7, 3),
  (36, .ldc2_w 200, 3),
  (39, .lreturn, 1),
  (40, .iload_n 1, 1),
  (41, .iconst 1, 1),
  (42, .if_icmp .ne 12, 3),
  (45, .aload_n 0, 1),
  (46, .iload_n 2, 1),
  (47, .iload_n 3, 1),
  (48, .invokevirtual 202, 3),
  (51, .goto 10, 3),
  (54, .aload_n 0, 1),
  (55, .iload_n 1, 1),
  (56, .iload_n 2, 1),
  (57, .iload_n 3, 1),
  (58, .invokevirtual 206, 3),
  (61, .lreturn, 1)]
set_option maxRecDepth 100000 in
theorem tX9_sum_ok : ∀ q ∈ tX9_sum, decode cX9_sum q.1 = .ok q.2 := by decide +kernel
theorem dX9_sum_0 : decode cX9_sum 0 = .ok (.aload_n 0, 1) := tX9_sum_ok (0, .aload_n 0, 1) (List.mem_of_getElem? (i := 0) rfl)
theorem dX9_sum_1 : decode cX9_sum 1 = .ok (.iconst 0, 1) := tX9_sum_ok (1, .iconst 0, 1) (List.mem_of_getElem? (i := 1) rfl)
theorem dX9_sum_2 : decode cX9_sum 2 = .ok (.putfield 112, 3) := tX9_sum_ok (2, .putfield 112, 3) (List.mem_of_getElem? (i := 2) rfl)
theorem dX9_sum_5 : decode cX9_sum 5 = .ok (.aload_n 0, 1) := tX9_sum_ok (5, .aload_n 0, 1) (List.mem_of_getElem? (i := 3) rfl)
theorem dX9_sum_6 : decode cX9_sum 6 = .ok (.iload_n 3, 1) := tX9_sum_ok (6, .iload_n 3, 1) (List.mem_of_getElem? (i := 4) rfl)
theorem dX9_sum_7 : decode cX9_sum 7 = .ok (.ifCond .lt 9, 3) := tX9_sum_ok (7, .ifCond .lt 9, 3) (List.mem_of_getElem? (i := 5) rfl)
theorem dX9_sum_10 : decode cX9_sum 10 = .ok (.iload_n 3, 1) := tX9_sum_ok (10, .iload_n 3, 1) (List.mem_of_getElem? (i := 6) rfl)
theorem dX9_sum_11 : decode cX9_sum 11 = .ok (.bipush 120, 2) := tX9_sum_ok (11, .bipush 120, 2) (List.mem_of_getElem? (i := 7) rfl)
theorem dX9_sum_13 : decode cX9_sum 13 = .ok (.if_icmp .le 7, 3) := tX9_sum_ok (13, .if_icmp .le 7, 3) (List.mem_of_getElem? (i := 8) rfl)
theorem dX9_sum_16 : decode cX9_sum 16 = .ok (.iconst 2, 1) := tX9_sum_ok (16, .iconst 2, 1) (List.mem_of_getElem? (i := 9) rfl)
theorem dX9_sum_17 : decode cX9_sum 17 = .ok (.goto 9, 3) := tX9_sum_ok (17, .goto 9, 3) (List.mem_of_getElem? (i := 10) rfl)
theorem dX9_sum_20 : decode cX9_sum 20 = .ok (.aload_n 0, 1) := tX9_sum_ok (20, .aload_n 0, 1) (List.mem_of_getElem? (i := 11) rfl)
theorem dX9_sum_21 : decode cX9_sum 21 = .ok (.iload_n 1, 1) := tX9_sum_ok (21, .iload_n 1, 1) (List.mem_of_getElem? (i := 12) rfl)
theorem dX9_sum_22 : decode cX9_sum 22 = .ok (.iload_n 2, 1) := tX9_sum_ok (22, .iload_n 2, 1) (List.mem_of_getElem? (i := 13) rfl)
theorem dX9_sum_23 : decode cX9_sum 23 = .ok (.invokevirtual 197, 3) := tX9_sum_ok (23, .invokevirtual 197, 3) (List.mem_of_getElem? (i := 14) rfl)
theorem dX9_sum_26 : decode cX9_sum 26 = .ok (.putfield 115, 3) := tX9_sum_ok (26, .putfield 115, 3) (List.mem_of_getElem? (i := 15) rfl)
theorem dX9_sum_29 : decode cX9_sum 29 = .ok (.aload_n 0, 1) := tX9_sum_ok (29, .aload_n 0, 1) (List.mem_of_getElem? (i := 16) rfl)
theorem dX9_sum_30 : decode cX9_sum 30 = .ok (.getfield 115, 3) := tX9_sum_ok (30, .getfield 115, 3) (List.mem_of_getElem? (i := 17) rfl)
theorem dX9_sum_33 : decode cX9_sum 33 = .ok (.ifCond .le 7, 3) := tX9_sum_ok (33, .ifCond .le 7, 3) (List.mem_of_getElem? (i := 18) rfl)
theorem dX9_sum_36 : decode cX9_sum 36 = .ok (.ldc2_w 200, 3) := tX9_sum_ok (36, .ldc2_w 200, 3) (List.mem_of_getElem? (i := 19) rfl)
theorem dX9_sum_39 : decode cX9_sum 39 = .ok (.lreturn, 1) := tX9_sum_ok (39, .lreturn, 1) (List.mem_of_getElem? (i := 20) rfl)
theorem dX9_sum_40 : decode cX9_sum 40 = .ok (.iload_n 1, 1) := tX9_sum_ok (40, .iload_n 1, 1) (List.mem_of_getElem? (i := 21) rfl)
theorem dX9_sum_41 : decode cX9_sum 41 = .ok (.iconst 1, 1) := tX9_sum_ok (41, .iconst 1, 1) (List.mem_of_getElem? (i := 22) rfl)
theorem dX9_sum_42 : decode cX9_sum 42 = .ok (.if_icmp .ne 12, 3) := tX9_sum_ok (42, .if_icmp .ne 12, 3) (List.mem_of_getElem? (i := 23) rfl)
theorem dX9_sum_45 : decode cX9_sum 45 = .ok (.aload_n 0, 1) := tX9_sum_ok (45, .aload_n 0, 1) (List.mem_of_getElem? (i := 24) rfl)
theorem dX9_sum_46 : decode cX9_sum 46 = .ok (.iload_n 2, 1) := tX9_sum_ok (46, .iload_n 2, 1) (List.mem_of_getElem? (i := 25) rfl)
theorem dX9_sum_47 : decode cX9_sum 47 = .ok (.iload_n 3, 1) := tX9_sum_ok (47, .iload_n 3, 1) (List.mem_of_getElem? (i := 26) rfl)
theorem dX9_sum_48 : decode cX9_sum 48 = .ok (.invokevirtual 202, 3) := tX9_sum_ok (48, .invokevirtual 202, 3) (List.mem_of_getElem? (i := 27) rfl)
theorem dX9_sum_51 : decode cX9_sum 51 = .ok (.goto 10, 3) := tX9_sum_ok (51, .goto 10, 3) (List.mem_of_getElem? (i := 28) rfl)
theorem dX9_sum_54 : decode cX9_sum 54 = .ok (.aload_n 0, 1) := tX9_sum_ok (54, .aload_n 0, 1) (List.mem_of_getElem? (i := 29) rfl)
theorem dX9_sum_55 : decode cX9_sum 55 = .ok (.iload_n 1, 1) := tX9_sum_ok (55, .iload_n 1, 1) (List.mem_of_getElem? (i := 30) rfl)
theorem dX9_sum_56 : decode cX9_sum 56 = .ok (.iload_n 2, 1) := tX9_sum_ok (56, .iload_n 2, 1) (List.mem_of_getElem? (i := 31) rfl)
theorem dX9_sum_57 : decode cX9_sum 57 = .ok (.iload_n 3, 1) := tX9_sum_ok (57, .iload_n 3, 1) (List.mem_of_getElem? (i := 32) rfl)
theorem dX9_sum_58 : decode cX9_sum 58 = .ok (.invokevirtual 206, 3) := tX9_sum_ok (58, .invokevirtual 206, 3) (List.mem_of_getElem? (i := 33) rfl)
theorem dX9_sum_61 : decode cX9_sum 61 = .ok (.lreturn, 1) := tX9_sum_ok (61, .lreturn, 1) (List.mem_of_getElem? (i := 34) rfl)

def tX9_weights : List (Nat × Instr × Nat) := [
  (0, .bipush 121, 2),
  (2, .istore 4, 2),
  (4, .iconst 0, 1),
  (5, .istore 5, 2),
  (7, .iload 5, 2),
  (9, .aload_n 0, 1),
  (10, .getfield 48, 3),
  (13, .arraylength, 1),
  (14, .if_icmp .ge 17, 3),
  (17, .aload_n 0, 1),
  (18, .getfield 48, 3),
  (21, .iload 5, 2),
  (23, .lconst 0, 1),
  (24, .lastore, 1),
  (25, .iinc 5 1, 3),
  (28, .goto (-21), 3),
  (31, .aload_n 0, 1),
  (32, .getfield 48, 3),
  (35, .iload 4, 2),
  (37, .aload_n 0, 1),
  (38, .getfield 161, 3),
  (41, .aload_n 0, 1),
  (42, .getfield 164, 3),
  (45, .invokestatic 144, 3),
  (48, .imul, 1),
  (49, .lconst 1, 1),
  (50, .lastore, 1),
  (51, .iconst 0, 1),
  (52, .istore 5, 2),
  (54, .iload 5, 2),
  (56, .iload_n 2, 1),
  (57, .if_icmp .ge 204, 3),
  (60, .iconst 0, 1),
  (61, .istore 6, 2),
  (63, .iload 6, 2),
  (65, .aload_n 0, 1),
  (66, .getfield 51, 3),
  (69, .arraylength, 1),
  (70, .if_icmp .ge 17, 3),
  (73, .aload_n 0, 1),
  (74, .getfield 51, 3),
  (77, .iload 6, 2),
  (79, .lconst 0, 1),
  (80, .lastore, 1),
  (81, .iinc 6 1, 3),
  (84, .goto (-21), 3),
  (87, .iconst 0, 1),
  (88, .istore 6, 2),
  (90, .iload 6, 2),
  (92, .sipush 3721, 3),
  (95, .if_icmp .ge 127, 3),
  (98, .aload_n 0, 1),
  (99, .iload 6, 2),
  (101, .invokestatic 147, 3),
  (104, .iload 6, 2),
  (106, .invokestatic 150, 3),
  (109, .invokevirtual 153, 3),
  (112, .ifCond .ne 6, 3),
  (115, .goto 101, 3),
  (118, .iconst 0, 1),
  (119, .istore 7, 2),
  (121, .iload 7, 2),
  (123, .aload_n 0, 1),
  (124, .getfield 19, 3),
  (127, .if_icmp .ge 89, 3),
  (130, .aload_n 0, 1),
  (131, .iload 6, 2),
  (133, .iload 7, 2),
  (135, .invokevirtual 175, 3),
  (138, .istore 8, 2),
  (140, .iload 8, 2),
  (142, .ifCond .ge 6, 3),
  (145, .goto 65, 3),
  (148, .aload_n 0, 1),
  (149, .iload_n 1, 1),
  (150, .iload 7, 2),
  (152, .iload 8, 2),
  (154, .iconst (-1), 1),
  (155, .invokevirtual 210, 3),
  (158, .istore 9, 2),
  (160, .iconst 0, 1),
  (161, .istore 10, 2),
  (163, .iload 10, 2),
  (165, .iload 9, 2),
  (167, .iadd, 1),
  (168, .iload_n 3, 1),
  (169, .if_icmp .gt 41, 3),
  (172, .aload_n 0, 1),
  (173, .getfield 51, 3),
  (176, .iload 4, 2),
  (178, .iload 8, 2),
  (180, .imul, 1),
  (181, .iload 10, 2),
  (183, .iadd, 1),
  (184, .iload 9, 2),
  (186, .iadd, 1),
  (187, .dup2, 1),
  (188, .laload, 1),
  (189, .aload_n 0, 1),
  (190, .getfield 48, 3),
  (193, .iload 4, 2),
  (195, .iload 6, 2),
  (197, .imul, 1),
  (198, .iload 10, 2),
  (200, .iadd, 1),
  (201, .laload, 1),
  (202, .ladd, 1),
  (203, .lastore, 1),
  (204, .iinc 10 1, 3),
  (207, .goto (-44), 3),
  (210, .iinc 7 1, 3),
  (213, .goto (-92), 3),
  (216, .iinc 6 1, 3),
  (219, .goto (-129), 3),
  (222, .iconst 0, 1),
  (223, .istore 6, 2),
  (225, .iload 6, 2),
  (227, .aload_n 0, 1),
  (228, .getfield 48, 3),
  (231, .arraylength, 1),
  (232, .if_icmp .ge 23, 3),
  (235, .aload_n 0, 1),
  (236, .getfield 48, 3),
  (239, .iload 6, 2),
  (241, .aload_n 0, 1),
  (242, .getfield 51, 3),
  (245, .iload 6, 2),
  (247, .laload, 1),
  (248, .lastore, 1),
  (249, .iinc 6 1, 3),
  (252, .goto (-27), 3),
  (255, .iinc 5 1, 3),
  (258, .goto (-204), 3),
  (261, .aload_n 0, 1),
  (262, .getfield 48, 3),
  (265, .iload 4, 2),
  (267, .aload_n 0, 1),
  (268, .getfield 167, 3),
  (271, .aload_n 0, 1),
  (272, .getfield 170, 3),
  (275, .invokestatic 144, 3),
  (278, .imul, 1),
  (279, .iload_n 3, 1),
  (280, .iadd, 1),
  (281, .laload, 1),
  (282, .lreturn, 1)]
set_option maxRecDepth 100000 in
theorem tX9_weights_ok : ∀ q ∈ tX9_weights, decode cX9_weights q.1 = .ok q.2 := by decide +kernel
theorem dX9_weights_0 : decode cX9_weights 0 = .ok (.bipush 121, 2) := tX9_weights_ok (0, .bipush 121, 2) (List.mem_of_getElem? (i := 0) rfl)
theorem dX9_weights_2 : decode cX9_weights 2 = .ok (.istore 4, 2) := tX9_weights_ok (2, .istore 4, 2) (List.mem_of_getElem? (i := 1) rfl)
theorem dX9_weights_4 : decode cX9_weights 4 = .ok (.iconst 0, 1) := tX9_weights_ok (4, .iconst 0, 1) (List.mem_of_getElem? (i := 2) rfl)
theorem dX9_weights_5 : decode cX9_weights 5 = .ok (.istore 5, 2) := tX9_weights_ok (5, .istore 5, 2) (List.mem_of_getElem? (i := 3) rfl)
theorem dX9_weights_7 : decode cX9_weights 7 = .ok (.iload 5, 2) := tX9_weights_ok (7, .iload 5, 2) (List.mem_of_getElem? (i := 4) rfl)
theorem dX9_weights_9 : decode cX9_weights 9 = .ok (.aload_n 0, 1) := tX9_weights_ok (9, .aload_n 0, 1) (List.mem_of_getElem? (i := 5) rfl)
theorem dX9_weights_10 : decode cX9_weights 10 = .ok (.getfield 48, 3) := tX9_weights_ok (10, .getfield 48, 3) (List.mem_of_getElem? (i := 6) rfl)
theorem dX9_weights_13 : decode cX9_weights 13 = .ok (.arraylength, 1) := tX9_weights_ok (13, .arraylength, 1) (List.mem_of_getElem? (i := 7) rfl)
theorem dX9_weights_14 : decode cX9_weights 14 = .ok (.if_icmp .ge 17, 3) := tX9_weights_ok (14, .if_icmp .ge 17, 3) (List.mem_of_getElem? (i := 8) rfl)
theorem dX9_weights_17 : decode cX9_weights 17 = .ok (.aload_n 0, 1) := tX9_weights_ok (17, .aload_n 0, 1) (List.mem_of_getElem? (i := 9) rfl)
theorem dX9_weights_18 : decode cX9_weights 18 = .ok (.getfield 48, 3) := tX9_weights_ok (18, .getfield 48, 3) (List.mem_of_getElem? (i := 10) rfl)
theorem dX9_weights_21 : decode cX9_weights 21 = .ok (.iload 5, 2) := tX9_weights_ok (21, .iload 5, 2) (List.mem_of_getElem? (i := 11) rfl)
theorem dX9_weights_23 : decode cX9_weights 23 = .ok (.lconst 0, 1) := tX9_weights_ok (23, .lconst 0, 1) (List.mem_of_getElem? (i := 12) rfl)
theorem dX9_weights_24 : decode cX9_weights 24 = .ok (.lastore, 1) := tX9_weights_ok (24, .lastore, 1) (List.mem_of_getElem? (i := 13) rfl)
theorem dX9_weights_25 : decode cX9_weights 25 = .ok (.iinc 5 1, 3) := tX9_weights_ok (25, .iinc 5 1, 3) (List.mem_of_getElem? (i := 14) rfl)
theorem dX9_weights_28 : decode cX9_weights 28 = .ok (.goto (-21), 3) := tX9_weights_ok (28, .goto (-21), 3) (List.mem_of_getElem? (i := 15) rfl)
theorem dX9_weights_31 : decode cX9_weights 31 = .ok (.aload_n 0, 1) := tX9_weights_ok (31, .aload_n 0, 1) (List.mem_of_getElem? (i := 16) rfl)
theorem dX9_weights_32 : decode cX9_weights 32 = .ok (.getfield 48, 3) := tX9_weights_ok (32, .getfield 48, 3) (List.mem_of_getElem? (i := 17) rfl)
theorem dX9_weights_35 : decode cX9_weights 35 = .ok (.iload 4, 2) := tX9_weights_ok (35, .iload 4, 2) (List.mem_of_getElem? (i := 18) rfl)
theorem dX9_weights_37 : decode cX9_weights 37 = .ok (.aload_n 0, 1) := tX9_weights_ok (37, .aload_n 0, 1) (List.mem_of_getElem? (i := 19) rfl)
theorem dX9_weights_38 : decode cX9_weights 38 = .ok (.getfield 161, 3) := tX9_weights_ok (38, .getfield 161, 3) (List.mem_of_getElem? (i := 20) rfl)
theorem dX9_weights_41 : decode cX9_weights 41 = .ok (.aload_n 0, 1) := tX9_weights_ok (41, .aload_n 0, 1) (List.mem_of_getElem? (i := 21) rfl)
theorem dX9_weights_42 : decode cX9_weights 42 = .ok (.getfield 164, 3) := tX9_weights_ok (42, .getfield 164, 3) (List.mem_of_getElem? (i := 22) rfl)
theorem dX9_weights_45 : decode cX9_weights 45 = .ok (.invokestatic 144, 3) := tX9_weights_ok (45, .invokestatic 144, 3) (List.mem_of_getElem? (i := 23) rfl)
theorem dX9_weights_48 : decode cX9_weights 48 = .ok (.imul, 1) := tX9_weights_ok (48, .imul, 1) (List.mem_of_getElem? (i := 24) rfl)
theorem dX9_weights_49 : decode cX9_weights 49 = .ok (.lconst 1, 1) := tX9_weights_ok (49, .lconst 1, 1) (List.mem_of_getElem? (i := 25) rfl)
theorem dX9_weights_50 : decode cX9_weights 50 = .ok (.lastore, 1) := tX9_weights_ok (50, .lastore, 1) (List.mem_of_getElem? (i := 26) rfl)
theorem dX9_weights_51 : decode cX9_weights 51 = .ok (.iconst 0, 1) := tX9_weights_ok (51, .iconst 0, 1) (List.mem_of_getElem? (i := 27) rfl)
theorem dX9_weights_52 : decode cX9_weights 52 = .ok (.istore 5, 2) := tX9_weights_ok (52, .istore 5, 2) (List.mem_of_getElem? (i := 28) rfl)
theorem dX9_weights_54 : decode cX9_weights 54 = .ok (.iload 5, 2) := tX9_weights_ok (54, .iload 5, 2) (List.mem_of_getElem? (i := 29) rfl)
theorem dX9_weights_56 : decode cX9_weights 56 = .ok (.iload_n 2, 1) := tX9_weights_ok (56, .iload_n 2, 1) (List.mem_of_getElem? (i := 30) rfl)
theorem dX9_weights_57 : decode cX9_weights 57 = .ok (.if_icmp .ge 204, 3) := tX9_weights_ok (57, .if_icmp .ge 204, 3) (List.mem_of_getElem? (i := 31) rfl)
theorem dX9_weights_60 : decode cX9_weights 60 = .ok (.iconst 0, 1) := tX9_weights_ok (60, .iconst 0, 1) (List.mem_of_getElem? (i := 32) rfl)
theorem dX9_weights_61 : decode cX9_weights 61 = .ok (.istore 6, 2) := tX9_weights_ok (61, .istore 6, 2) (List.mem_of_getElem? (i := 33) rfl)
theorem dX9_weights_63 : decode cX9_weights 63 = .ok (.iload 6, 2) := tX9_weights_ok (63, .iload 6, 2) (List.mem_of_getElem? (i := 34) rfl)
theorem dX9_weights_65 : decode cX9_weights 65 = .ok (.aload_n 0, 1) := tX9_weights_ok (65, .aload_n 0, 1) (List.mem_of_getElem? (i := 35) rfl)
theorem dX9_weights_66 : decode cX9_weights 66 = .ok (.getfield 51, 3) := tX9_weights_ok (66, .getfield 51, 3) (List.mem_of_getElem? (i := 36) rfl)
theorem dX9_weights_69 : decode cX9_weights 69 = .ok (.arraylength, 1) := tX9_weights_ok (69, .arraylength, 1) (List.mem_of_getElem? (i := 37) rfl)
theorem dX9_weights_70 : decode cX9_weights 70 = .ok (.if_icmp .ge 17, 3) := tX9_weights_ok (70, .if_icmp .ge 17, 3) (List.mem_of_getElem? (i := 38) rfl)
theorem dX9_weights_73 : decode cX9_weights 73 = .ok (.aload_n 0, 1) := tX9_weights_ok (73, .aload_n 0, 1) (List.mem_of_getElem? (i := 39) rfl)
theorem dX9_weights_74 : decode cX9_weights 74 = .ok (.getfield 51, 3) := tX9_weights_ok (74, .getfield 51, 3) (List.mem_of_getElem? (i := 40) rfl)
theorem dX9_weights_77 : decode cX9_weights 77 = .ok (.iload 6, 2) := tX9_weights_ok (77, .iload 6, 2) (List.mem_of_getElem? (i := 41) rfl)
theorem dX9_weights_79 : decode cX9_weights 79 = .ok (.lconst 0, 1) := tX9_weights_ok (79, .lconst 0, 1) (List.mem_of_getElem? (i := 42) rfl)
theorem dX9_weights_80 : decode cX9_weights 80 = .ok (.lastore, 1) := tX9_weights_ok (80, .lastore, 1) (List.mem_of_getElem? (i := 43) rfl)
theorem dX9_weights_81 : decode cX9_weights 81 = .ok (.iinc 6 1, 3) := tX9_weights_ok (81, .iinc 6 1, 3) (List.mem_of_getElem? (i := 44) rfl)
theorem dX9_weights_84 : decode cX9_weights 84 = .ok (.goto (-21), 3) := tX9_weights_ok (84, .goto (-21), 3) (List.mem_of_getElem? (i := 45) rfl)
theorem dX9_weights_87 : decode cX9_weights 87 = .ok (.iconst 0, 1) := tX9_weights_ok (87, .iconst 0, 1) (List.mem_of_getElem? (i := 46) rfl)
theorem dX9_weights_88 : decode cX9_weights 88 = .ok (.istore 6, 2) := tX9_weights_ok (88, .istore 6, 2) (List.mem_of_getElem? (i := 47) rfl)
theorem dX9_weights_90 : decode cX9_weights 90 = .ok (.iload 6, 2) := tX9_weights_ok (90, .iload 6, 2) (List.mem_of_getElem? (i := 48) rfl)
theorem dX9_weights_92 : decode cX9_weights 92 = .ok (.sipush 3721, 3) := tX9_weights_ok (92, .sipush 3721, 3) (List.mem_of_getElem? (i := 49) rfl)
theorem dX9_weights_95 : decode cX9_weights 95 = .ok (.if_icmp .ge 127, 3) := tX9_weights_ok (95, .if_icmp .ge 127, 3) (List.mem_of_getElem? (i := 50) rfl)
theorem dX9_weights_98 : decode cX9_weights 98 = .ok (.aload_n 0, 1) := tX9_weights_ok (98, .aload_n 0, 1) (List.mem_of_getElem? (i := 51) rfl)
theorem dX9_weights_99 : decode cX9_weights 99 = .ok (.iload 6, 2) := tX9_weights_ok (99, .iload 6, 2) (List.mem_of_getElem? (i := 52) rfl)
theorem dX9_weights_101 : decode cX9_weights 101 = .ok (.invokestatic 147, 3) := tX9_weights_ok (101, .invokestatic 147, 3) (List.mem_of_getElem? (i := 53) rfl)
theorem dX9_weights_104 : decode cX9_weights 104 = .ok (.iload 6, 2) := tX9_weights_ok (104, .iload 6, 2) (List.mem_of_getElem? (i := 54) rfl)
theorem dX9_weights_106 : decode cX9_weights 106 = .ok (.invokestatic 150, 3) := tX9_weights_ok (106, .invokestatic 150, 3) (List.mem_of_getElem? (i := 55) rfl)
theorem dX9_weights_109 : decode cX9_weights 109 = .ok (.invokevirtual 153, 3) := tX9_weights_ok (109, .invokevirtual 153, 3) (List.mem_of_getElem? (i := 56) rfl)
theorem dX9_weights_112 : decode cX9_weights 112 = .ok (.ifCond .ne 6, 3) := tX9_weights_ok (112, .ifCond .ne 6, 3) (List.mem_of_getElem? (i := 57) rfl)
theorem dX9_weights_115 : decode cX9_weights 115 = .ok (.goto 101, 3) := tX9_weights_ok (115, .goto 101, 3) (List.mem_of_getElem? (i := 58) rfl)
theorem dX9_weights_118 : decode cX9_weights 118 = .ok (.iconst 0, 1) := tX9_weights_ok (118, .iconst 0, 1) (List.mem_of_getElem? (i := 59) rfl)
theorem dX9_weights_119 : decode cX9_weights 119 = .ok (.istore 7, 2) := tX9_weights_ok (119, .istore 7, 2) (List.mem_of_getElem? (i := 60) rfl)
theorem dX9_weights_121 : decode cX9_weights 121 = .ok (.iload 7, 2) := tX9_weights_ok (121, .iload 7, 2) (List.mem_of_getElem? (i := 61) rfl)
theorem dX9_weights_123 : decode cX9_weights 123 = .ok (.aload_n 0, 1) := tX9_weights_ok (123, .aload_n 0, 1) (List.mem_of_getElem? (i := 62) rfl)
theorem dX9_weights_124 : decode cX9_weights 124 = .ok (.getfield 19, 3) := tX9_weights_ok (124, .getfield 19, 3) (List.mem_of_getElem? (i := 63) rfl)
theorem dX9_weights_127 : decode cX9_weights 127 = .ok (.if_icmp .ge 89, 3) := tX9_weights_ok (127, .if_icmp .ge 89, 3) (List.mem_of_getElem? (i := 64) rfl)
theorem dX9_weights_130 : decode cX9_weights 130 = .ok (.aload_n 0, 1) := tX9_weights_ok (130, .aload_n 0, 1) (List.mem_of_getElem? (i := 65) rfl)
theorem dX9_weights_131 : decode cX9_weights 131 = .ok (.iload 6, 2) := tX9_weights_ok (131, .iload 6, 2) (List.mem_of_getElem? (i := 66) rfl)
theorem dX9_weights_133 : decode cX9_weights 133 = .ok (.iload 7, 2) := tX9_weights_ok (133, .iload 7, 2) (List.mem_of_getElem? (i := 67) rfl)
theorem dX9_weights_135 : decode cX9_weights 135 = .ok (.invokevirtual 175, 3) := tX9_weights_ok (135, .invokevirtual 175, 3) (List.mem_of_getElem? (i := 68) rfl)
theorem dX9_weights_138 : decode cX9_weights 138 = .ok (.istore 8, 2) := tX9_weights_ok (138, .istore 8, 2) (List.mem_of_getElem? (i := 69) rfl)
theorem dX9_weights_140 : decode cX9_weights 140 = .ok (.iload 8, 2) := tX9_weights_ok (140, .iload 8, 2) (List.mem_of_getElem? (i := 70) rfl)
theorem dX9_weights_142 : decode cX9_weights 142 = .ok (.ifCond .ge 6, 3) := tX9_weights_ok (142, .ifCond .ge 6, 3) (List.mem_of_getElem? (i := 71) rfl)
theorem dX9_weights_145 : decode cX9_weights 145 = .ok (.goto 65, 3) := tX9_weights_ok (145, .goto 65, 3) (List.mem_of_getElem? (i := 72) rfl)
theorem dX9_weights_148 : decode cX9_weights 148 = .ok (.aload_n 0, 1) := tX9_weights_ok (148, .aload_n 0, 1) (List.mem_of_getElem? (i := 73) rfl)
theorem dX9_weights_149 : decode cX9_weights 149 = .ok (.iload_n 1, 1) := tX9_weights_ok (149, .iload_n 1, 1) (List.mem_of_getElem? (i := 74) rfl)
theorem dX9_weights_150 : decode cX9_weights 150 = .ok (.iload 7, 2) := tX9_weights_ok (150, .iload 7, 2) (List.mem_of_getElem? (i := 75) rfl)
theorem dX9_weights_152 : decode cX9_weights 152 = .ok (.iload 8, 2) := tX9_weights_ok (152, .iload 8, 2) (List.mem_of_getElem? (i := 76) rfl)
theorem dX9_weights_154 : decode cX9_weights 154 = .ok (.iconst (-1), 1) := tX9_weights_ok (154, .iconst (-1), 1) (List.mem_of_getElem? (i := 77) rfl)
theorem dX9_weights_155 : decode cX9_weights 155 = .ok (.invokevirtual 210, 3) := tX9_weights_ok (155, .invokevirtual 210, 3) (List.mem_of_getElem? (i := 78) rfl)
theorem dX9_weights_158 : decode cX9_weights 158 = .ok (.istore 9, 2) := tX9_weights_ok (158, .istore 9, 2) (List.mem_of_getElem? (i := 79) rfl)
theorem dX9_weights_160 : decode cX9_weights 160 = .ok (.iconst 0, 1) := tX9_weights_ok (160, .iconst 0, 1) (List.mem_of_getElem? (i := 80) rfl)
theorem dX9_weights_161 : decode cX9_weights 161 = .ok (.istore 10, 2) := tX9_weights_ok (161, .istore 10, 2) (List.mem_of_getElem? (i := 81) rfl)
theorem dX9_weights_163 : decode cX9_weights 163 = .ok (.iload 10, 2) := tX9_weights_ok (163, .iload 10, 2) (List.mem_of_getElem? (i := 82) rfl)
theorem dX9_weights_165 : decode cX9_weights 165 = .ok (.iload 9, 2) := tX9_weights_ok (165, .iload 9, 2) (List.mem_of_getElem? (i := 83) rfl)
theorem dX9_weights_167 : decode cX9_weights 167 = .ok (.iadd, 1) := tX9_weights_ok (167, .iadd, 1) (List.mem_of_getElem? (i := 84) rfl)
theorem dX9_weights_168 : decode cX9_weights 168 = .ok (.iload_n 3, 1) := tX9_weights_ok (168, .iload_n 3, 1) (List.mem_of_getElem? (i := 85) rfl)
theorem dX9_weights_169 : decode cX9_weights 169 = .ok (.if_icmp .gt 41, 3) := tX9_weights_ok (169, .if_icmp .gt 41, 3) (List.mem_of_getElem? (i := 86) rfl)
theorem dX9_weights_172 : decode cX9_weights 172 = .ok (.aload_n 0, 1) := tX9_weights_ok (172, .aload_n 0, 1) (List.mem_of_getElem? (i := 87) rfl)
theorem dX9_weights_173 : decode cX9_weights 173 = .ok (.getfield 51, 3) := tX9_weights_ok (173, .getfield 51, 3) (List.mem_of_getElem? (i := 88) rfl)
theorem dX9_weights_176 : decode cX9_weights 176 = .ok (.iload 4, 2) := tX9_weights_ok (176, .iload 4, 2) (List.mem_of_getElem? (i := 89) rfl)
theorem dX9_weights_178 : decode cX9_weights 178 = .ok (.iload 8, 2) := tX9_weights_ok (178, .iload 8, 2) (List.mem_of_getElem? (i := 90) rfl)
theorem dX9_weights_180 : decode cX9_weights 180 = .ok (.imul, 1) := tX9_weights_ok (180, .imul, 1) (List.mem_of_getElem? (i := 91) rfl)
theorem dX9_weights_181 : decode cX9_weights 181 = .ok (.iload 10, 2) := tX9_weights_ok (181, .iload 10, 2) (List.mem_of_getElem? (i := 92) rfl)
theorem dX9_weights_183 : decode cX9_weights 183 = .ok (.iadd, 1) := tX9_weights_ok (183, .iadd, 1) (List.mem_of_getElem? (i := 93) rfl)
theorem dX9_weights_184 : decode cX9_weights 184 = .ok (.iload 9, 2) := tX9_weights_ok (184, .iload 9, 2) (List.mem_of_getElem? (i := 94) rfl)
theorem dX9_weights_186 : decode cX9_weights 186 = .ok (.iadd, 1) := tX9_weights_ok (186, .iadd, 1) (List.mem_of_getElem? (i := 95) rfl)
theorem dX9_weights_187 : decode cX9_weights 187 = .ok (.dup2, 1) := tX9_weights_ok (187, .dup2, 1) (List.mem_of_getElem? (i := 96) rfl)
theorem dX9_weights_188 : decode cX9_weights 188 = .ok (.laload, 1) := tX9_weights_ok (188, .laload, 1) (List.mem_of_getElem? (i := 97) rfl)
theorem dX9_weights_189 : decode cX9_weights 189 = .ok (.aload_n 0, 1) := tX9_weights_ok (189, .aload_n 0, 1) (List.mem_of_getElem? (i := 98) rfl)
theorem dX9_weights_190 : decode cX9_weights 190 = .ok (.getfield 48, 3) := tX9_weights_ok (190, .getfield 48, 3) (List.mem_of_getElem? (i := 99) rfl)
theorem dX9_weights_193 : decode cX9_weights 193 = .ok (.iload 4, 2) := tX9_weights_ok (193, .iload 4, 2) (List.mem_of_getElem? (i := 100) rfl)
theorem dX9_weights_195 : decode cX9_weights 195 = .ok (.iload 6, 2) := tX9_weights_ok (195, .iload 6, 2) (List.mem_of_getElem? (i := 101) rfl)
theorem dX9_weights_197 : decode cX9_weights 197 = .ok (.imul, 1) := tX9_weights_ok (197, .imul, 1) (List.mem_of_getElem? (i := 102) rfl)
theorem dX9_weights_198 : decode cX9_weights 198 = .ok (.iload 10, 2) := tX9_weights_ok (198, .iload 10, 2) (List.mem_of_getElem? (i := 103) rfl)
theorem dX9_weights_200 : decode cX9_weights 200 = .ok (.iadd, 1) := tX9_weights_ok (200, .iadd, 1) (List.mem_of_getElem? (i := 104) rfl)
theorem dX9_weights_201 : decode cX9_weights 201 = .ok (.laload, 1) := tX9_weights_ok (201, .laload, 1) (List.mem_of_getElem? (i := 105) rfl)
theorem dX9_weights_202 : decode cX9_weights 202 = .ok (.ladd, 1) := tX9_weights_ok (202, .ladd, 1) (List.mem_of_getElem? (i := 106) rfl)
theorem dX9_weights_203 : decode cX9_weights 203 = .ok (.lastore, 1) := tX9_weights_ok (203, .lastore, 1) (List.mem_of_getElem? (i := 107) rfl)
theorem dX9_weights_204 : decode cX9_weights 204 = .ok (.iinc 10 1, 3) := tX9_weights_ok (204, .iinc 10 1, 3) (List.mem_of_getElem? (i := 108) rfl)
theorem dX9_weights_207 : decode cX9_weights 207 = .ok (.goto (-44), 3) := tX9_weights_ok (207, .goto (-44), 3) (List.mem_of_getElem? (i := 109) rfl)
theorem dX9_weights_210 : decode cX9_weights 210 = .ok (.iinc 7 1, 3) := tX9_weights_ok (210, .iinc 7 1, 3) (List.mem_of_getElem? (i := 110) rfl)
theorem dX9_weights_213 : decode cX9_weights 213 = .ok (.goto (-92), 3) := tX9_weights_ok (213, .goto (-92), 3) (List.mem_of_getElem? (i := 111) rfl)
theorem dX9_weights_216 : decode cX9_weights 216 = .ok (.iinc 6 1, 3) := tX9_weights_ok (216, .iinc 6 1, 3) (List.mem_of_getElem? (i := 112) rfl)
theorem dX9_weights_219 : decode cX9_weights 219 = .ok (.goto (-129), 3) := tX9_weights_ok (219, .goto (-129), 3) (List.mem_of_getElem? (i := 113) rfl)
theorem dX9_weights_222 : decode cX9_weights 222 = .ok (.iconst 0, 1) := tX9_weights_ok (222, .iconst 0, 1) (List.mem_of_getElem? (i := 114) rfl)
theorem dX9_weights_223 : decode cX9_weights 223 = .ok (.istore 6, 2) := tX9_weights_ok (223, .istore 6, 2) (List.mem_of_getElem? (i := 115) rfl)
theorem dX9_weights_225 : decode cX9_weights 225 = .ok (.iload 6, 2) := tX9_weights_ok (225, .iload 6, 2) (List.mem_of_getElem? (i := 116) rfl)
theorem dX9_weights_227 : decode cX9_weights 227 = .ok (.aload_n 0, 1) := tX9_weights_ok (227, .aload_n 0, 1) (List.mem_of_getElem? (i := 117) rfl)
theorem dX9_weights_228 : decode cX9_weights 228 = .ok (.getfield 48, 3) := tX9_weights_ok (228, .getfield 48, 3) (List.mem_of_getElem? (i := 118) rfl)
theorem dX9_weights_231 : decode cX9_weights 231 = .ok (.arraylength, 1) := tX9_weights_ok (231, .arraylength, 1) (List.mem_of_getElem? (i := 119) rfl)
theorem dX9_weights_232 : decode cX9_weights 232 = .ok (.if_icmp .ge 23, 3) := tX9_weights_ok (232, .if_icmp .ge 23, 3) (List.mem_of_getElem? (i := 120) rfl)
theorem dX9_weights_235 : decode cX9_weights 235 = .ok (.aload_n 0, 1) := tX9_weights_ok (235, .aload_n 0, 1) (List.mem_of_getElem? (i := 121) rfl)
theorem dX9_weights_236 : decode cX9_weights 236 = .ok (.getfield 48, 3) := tX9_weights_ok (236, .getfield 48, 3) (List.mem_of_getElem? (i := 122) rfl)
theorem dX9_weights_239 : decode cX9_weights 239 = .ok (.iload 6, 2) := tX9_weights_ok (239, .iload 6, 2) (List.mem_of_getElem? (i := 123) rfl)
theorem dX9_weights_241 : decode cX9_weights 241 = .ok (.aload_n 0, 1) := tX9_weights_ok (241, .aload_n 0, 1) (List.mem_of_getElem? (i := 124) rfl)
theorem dX9_weights_242 : decode cX9_weights 242 = .ok (.getfield 51, 3) := tX9_weights_ok (242, .getfield 51, 3) (List.mem_of_getElem? (i := 125) rfl)
theorem dX9_weights_245 : decode cX9_weights 245 = .ok (.iload 6, 2) := tX9_weights_ok (245, .iload 6, 2) (List.mem_of_getElem? (i := 126) rfl)
theorem dX9_weights_247 : decode cX9_weights 247 = .ok (.laload, 1) := tX9_weights_ok (247, .laload, 1) (List.mem_of_getElem? (i := 127) rfl)
theorem dX9_weights_248 : decode cX9_weights 248 = .ok (.lastore, 1) := tX9_weights_ok (248, .lastore, 1) (List.mem_of_getElem? (i := 128) rfl)
theorem dX9_weights_249 : decode cX9_weights 249 = .ok (.iinc 6 1, 3) := tX9_weights_ok (249, .iinc 6 1, 3) (List.mem_of_getElem? (i := 129) rfl)
theorem dX9_weights_252 : decode cX9_weights 252 = .ok (.goto (-27), 3) := tX9_weights_ok (252, .goto (-27), 3) (List.mem_of_getElem? (i := 130) rfl)
theorem dX9_weights_255 : decode cX9_weights 255 = .ok (.iinc 5 1, 3) := tX9_weights_ok (255, .iinc 5 1, 3) (List.mem_of_getElem? (i := 131) rfl)
theorem dX9_weights_258 : decode cX9_weights 258 = .ok (.goto (-204), 3) := tX9_weights_ok (258, .goto (-204), 3) (List.mem_of_getElem? (i := 132) rfl)
theorem dX9_weights_261 : decode cX9_weights 261 = .ok (.aload_n 0, 1) := tX9_weights_ok (261, .aload_n 0, 1) (List.mem_of_getElem? (i := 133) rfl)
theorem dX9_weights_262 : decode cX9_weights 262 = .ok (.getfield 48, 3) := tX9_weights_ok (262, .getfield 48, 3) (List.mem_of_getElem? (i := 134) rfl)
theorem dX9_weights_265 : decode cX9_weights 265 = .ok (.iload 4, 2) := tX9_weights_ok (265, .iload 4, 2) (List.mem_of_getElem? (i := 135) rfl)
theorem dX9_weights_267 : decode cX9_weights 267 = .ok (.aload_n 0, 1) := tX9_weights_ok (267, .aload_n 0, 1) (List.mem_of_getElem? (i := 136) rfl)
theorem dX9_weights_268 : decode cX9_weights 268 = .ok (.getfield 167, 3) := tX9_weights_ok (268, .getfield 167, 3) (List.mem_of_getElem? (i := 137) rfl)
theorem dX9_weights_271 : decode cX9_weights 271 = .ok (.aload_n 0, 1) := tX9_weights_ok (271, .aload_n 0, 1) (List.mem_of_getElem? (i := 138) rfl)
theorem dX9_weights_272 : decode cX9_weights 272 = .ok (.getfield 170, 3) := tX9_weights_ok (272, .getfield 170, 3) (List.mem_of_getElem? (i := 139) rfl)
theorem dX9_weights_275 : decode cX9_weights 275 = .ok (.invokestatic 144, 3) := tX9_weights_ok (275, .invokestatic 144, 3) (List.mem_of_getElem? (i := 140) rfl)
theorem dX9_weights_278 : decode cX9_weights 278 = .ok (.imul, 1) := tX9_weights_ok (278, .imul, 1) (List.mem_of_getElem? (i := 141) rfl)
theorem dX9_weights_279 : decode cX9_weights 279 = .ok (.iload_n 3, 1) := tX9_weights_ok (279, .iload_n 3, 1) (List.mem_of_getElem? (i := 142) rfl)
theorem dX9_weights_280 : decode cX9_weights 280 = .ok (.iadd, 1) := tX9_weights_ok (280, .iadd, 1) (List.mem_of_getElem? (i := 143) rfl)
theorem dX9_weights_281 : decode cX9_weights 281 = .ok (.laload, 1) := tX9_weights_ok (281, .laload, 1) (List.mem_of_getElem? (i := 144) rfl)
theorem dX9_weights_282 : decode cX9_weights 282 = .ok (.lreturn, 1) := tX9_weights_ok (282, .lreturn, 1) (List.mem_of_getElem? (i := 145) rfl)

def tX9_turns : List (Nat × Instr × Nat) := [
  (0, .iload_n 1, 1),
  (1, .ifCond .ne 38, 3),
  (4, .aload_n 0, 1),
  (5, .getfield 161, 3),
  (8, .aload_n 0, 1),
  (9, .getfield 164, 3),
  (12, .invokestatic 144, 3),
  (15, .aload_n 0, 1),
  (16, .getfield 167, 3),
  (19, .aload_n 0, 1),
  (20, .getfield 170, 3),
  (23, .invokestatic 144, 3),
  (26, .if_icmp .ne 11, 3),
  (29, .iload_n 2, 1),
  (30, .ifCond .ne 7, 3),
  (33, .lconst 1, 1),
  (34, .goto 4, 3),
  (37, .lconst 0, 1),
  (38, .lreturn, 1),
  (39, .iload_n 2, 1),
  (40, .bipush 14, 2),
  (42, .if_icmp .le 5, 3),
  (45, .lconst 0, 1),
  (46, .lreturn, 1),
  (47, .lconst 0, 1),
  (48, .lstore_n 3, 1),
  (49, .iconst 0, 1),
  (50, .istore 5, 2),
  (52, .iload 5, 2),
  (54, .aload_n 0, 1),
  (55, .getfield 48, 3),
  (58, .arraylength, 1),
  (59, .if_icmp .ge 17, 3),
  (62, .aload_n 0, 1),
  (63, .getfield 48, 3),
  (66, .iload 5, 2),
  (68, .lconst 0, 1),
  (69, .lastore, 1),
  (70, .iinc 5 1, 3),
  (73, .goto (-21), 3),
  (76, .iconst 0, 1),
  (77, .istore 5, 2),
  (79, .iload 5, 2),
  (81, .aload_n 0, 1),
  (82, .getfield 19, 3),
  (85, .if_icmp .ge 53, 3),
  (88, .aload_n 0, 1),
  (89, .aload_n 0, 1),
  (90, .getfield 161, 3),
  (93, .aload_n 0, 1),
  (94, .getfield 164, 3),
  (97, .invokestatic 144, 3),
  (100, .iload 5, 2),
  (102, .invokevirtual 175, 3),
  (105, .istore 6, 2),
  (107, .iload 6, 2),
  (109, .ifCond .lt 23, 3),
  (112, .aload_n 0, 1),
  (113, .getfield 48, 3),
  (116, .bipush 120, 2),
  (118, .iload 6, 2),
  (120, .imul, 1),
  (121, .bipush 15, 2),
  (123, .iload 5, 2),
  (125, .imul, 1),
  (126, .iadd, 1),
  (127, .dup2, 1),
  (128, .laload, 1),
  (129, .lconst 1, 1),
  (130, .ladd, 1),
  (131, .lastore, 1),
  (132, .iinc 5 1, 3),
  (135, .goto (-56), 3),
  (138, .iconst 1, 1),
  (139, .istore 5, 2),
  (141, .iload 5, 2),
  (143, .iload_n 1, 1),
  (144, .if_icmp .ge 112, 3),
  (147, .iconst 0, 1),
  (148, .istore 6, 2),
  (150, .iload 6, 2),
  (152, .aload_n 0, 1),
  (153, .getfield 51, 3),
  (156, .arraylength, 1),
  (157, .if_icmp .ge 17, 3),
  (160, .aload_n 0, 1),
  (161, .getfield 51, 3),
  (164, .iload 6, 2),
  (166, .lconst 0, 1),
  (167, .lastore, 1),
  (168, .iinc 6 1, 3),
  (171, .goto (-21), 3),
  (174, .iconst 0, 1),
  (175, .istore 6, 2),
  (177, .iload 6, 2),
  (179, .sipush 3721, 3),
  (182, .if_icmp .ge 35, 3),
  (185, .iconst 0, 1),
  (186, .istore 7, 2),
  (188, .iload 7, 2),
  (190, .aload_n 0, 1),
  (191, .getfield 19, 3),
  (194, .if_icmp .ge 17, 3),
  (197, .aload_n 0, 1),
  (198, .iload 6, 2),
  (200, .iload 7, 2),
  (202, .invokevirtual 214, 3),
  (205, .iinc 7 1, 3),
  (208, .goto (-20), 3),
  (211, .iinc 6 1, 3),
  (214, .goto (-37), 3),
  (217, .iconst 0, 1),
  (218, .istore 6, 2),
  (220, .iload 6, 2),
  (222, .aload_n 0, 1),
  (223, .getfield 48, 3),
  (226, .arraylength, 1),
  (227, .if_icmp .ge 23, 3),
  (230, .aload_n 0, 1),
  (231, .getfield 48, 3),
  (234, .iload 6, 2),
  (236, .aload_n 0, 1),
  (237, .getfield 51, 3),
  (240, .iload 6, 2),
  (242, .laload, 1),
  (243, .lastore, 1),
  (244, .iinc 6 1, 3),
  (247, .goto (-27), 3),
  (250, .iinc 5 1, 3),
  (253, .goto (-112), 3),
  (256, .iconst 0, 1),
  (257, .istore 5, 2),
  (259, .iload 5, 2),
  (261, .aload_n 0, 1),
  (262, .getfield 19, 3),
  (265, .if_icmp .ge 39, 3),
  (268, .lload_n 3, 1),
  (269, .aload_n 0, 1),
  (270, .getfield 48, 3),
  (273, .bipush 120, 2),
  (275, .aload_n 0, 1),
  (276, .getfield 167, 3),
  (279, .aload_n 0, 1),
  (280, .getfield 170, 3),
  (283, .invokestatic 144, 3),
  (286, .imul, 1),
  (287, .bipush 15, 2),
  (289, .iload 5, 2),
  (291, .imul, 1),
  (292, .iadd, 1),
  (293, .iload_n 2, 1),
  (294, .iadd, 1),
  (295, .laload, 1),
  (296, .ladd, 1),
  (297, .lstore_n 3, 1),
  (298, .iinc 5 1, 3),
  (301, .goto (-42), 3),
  (304, .lload_n 3, 1),
  (305, .lreturn, 1)]
set_option maxRecDepth 100000 in
theorem tX9_turns_ok : ∀ q ∈ tX9_turns, decode cX9_turns q.1 = .ok q.2 := by decide +kernel
theorem dX9_turns_0 : decode cX9_turns 0 = .ok (.iload_n 1, 1) := tX9_turns_ok (0, .iload_n 1, 1) (List.mem_of_getElem? (i := 0) rfl)
theorem dX9_turns_1 : decode cX9_turns 1 = .ok (.ifCond .ne 38, 3) := tX9_turns_ok (1, .ifCond .ne 38, 3) (List.mem_of_getElem? (i := 1) rfl)
theorem dX9_turns_4 : decode cX9_turns 4 = .ok (.aload_n 0, 1) := tX9_turns_ok (4, .aload_n 0, 1) (List.mem_of_getElem? (i := 2) rfl)
theorem dX9_turns_5 : decode cX9_turns 5 = .ok (.getfield 161, 3) := tX9_turns_ok (5, .getfield 161, 3) (List.mem_of_getElem? (i := 3) rfl)
theorem dX9_turns_8 : decode cX9_turns 8 = .ok (.aload_n 0, 1) := tX9_turns_ok (8, .aload_n 0, 1) (List.mem_of_getElem? (i := 4) rfl)
theorem dX9_turns_9 : decode cX9_turns 9 = .ok (.getfield 164, 3) := tX9_turns_ok (9, .getfield 164, 3) (List.mem_of_getElem? (i := 5) rfl)
theorem dX9_turns_12 : decode cX9_turns 12 = .ok (.invokestatic 144, 3) := tX9_turns_ok (12, .invokestatic 144, 3) (List.mem_of_getElem? (i := 6) rfl)
theorem dX9_turns_15 : decode cX9_turns 15 = .ok (.aload_n 0, 1) := tX9_turns_ok (15, .aload_n 0, 1) (List.mem_of_getElem? (i := 7) rfl)
theorem dX9_turns_16 : decode cX9_turns 16 = .ok (.getfield 167, 3) := tX9_turns_ok (16, .getfield 167, 3) (List.mem_of_getElem? (i := 8) rfl)
theorem dX9_turns_19 : decode cX9_turns 19 = .ok (.aload_n 0, 1) := tX9_turns_ok (19, .aload_n 0, 1) (List.mem_of_getElem? (i := 9) rfl)
theorem dX9_turns_20 : decode cX9_turns 20 = .ok (.getfield 170, 3) := tX9_turns_ok (20, .getfield 170, 3) (List.mem_of_getElem? (i := 10) rfl)
theorem dX9_turns_23 : decode cX9_turns 23 = .ok (.invokestatic 144, 3) := tX9_turns_ok (23, .invokestatic 144, 3) (List.mem_of_getElem? (i := 11) rfl)
theorem dX9_turns_26 : decode cX9_turns 26 = .ok (.if_icmp .ne 11, 3) := tX9_turns_ok (26, .if_icmp .ne 11, 3) (List.mem_of_getElem? (i := 12) rfl)
theorem dX9_turns_29 : decode cX9_turns 29 = .ok (.iload_n 2, 1) := tX9_turns_ok (29, .iload_n 2, 1) (List.mem_of_getElem? (i := 13) rfl)
theorem dX9_turns_30 : decode cX9_turns 30 = .ok (.ifCond .ne 7, 3) := tX9_turns_ok (30, .ifCond .ne 7, 3) (List.mem_of_getElem? (i := 14) rfl)
theorem dX9_turns_33 : decode cX9_turns 33 = .ok (.lconst 1, 1) := tX9_turns_ok (33, .lconst 1, 1) (List.mem_of_getElem? (i := 15) rfl)
theorem dX9_turns_34 : decode cX9_turns 34 = .ok (.goto 4, 3) := tX9_turns_ok (34, .goto 4, 3) (List.mem_of_getElem? (i := 16) rfl)
theorem dX9_turns_37 : decode cX9_turns 37 = .ok (.lconst 0, 1) := tX9_turns_ok (37, .lconst 0, 1) (List.mem_of_getElem? (i := 17) rfl)
theorem dX9_turns_38 : decode cX9_turns 38 = .ok (.lreturn, 1) := tX9_turns_ok (38, .lreturn, 1) (List.mem_of_getElem? (i := 18) rfl)
theorem dX9_turns_39 : decode cX9_turns 39 = .ok (.iload_n 2, 1) := tX9_turns_ok (39, .iload_n 2, 1) (List.mem_of_getElem? (i := 19) rfl)
theorem dX9_turns_40 : decode cX9_turns 40 = .ok (.bipush 14, 2) := tX9_turns_ok (40, .bipush 14, 2) (List.mem_of_getElem? (i := 20) rfl)
theorem dX9_turns_42 : decode cX9_turns 42 = .ok (.if_icmp .le 5, 3) := tX9_turns_ok (42, .if_icmp .le 5, 3) (List.mem_of_getElem? (i := 21) rfl)
theorem dX9_turns_45 : decode cX9_turns 45 = .ok (.lconst 0, 1) := tX9_turns_ok (45, .lconst 0, 1) (List.mem_of_getElem? (i := 22) rfl)
theorem dX9_turns_46 : decode cX9_turns 46 = .ok (.lreturn, 1) := tX9_turns_ok (46, .lreturn, 1) (List.mem_of_getElem? (i := 23) rfl)
theorem dX9_turns_47 : decode cX9_turns 47 = .ok (.lconst 0, 1) := tX9_turns_ok (47, .lconst 0, 1) (List.mem_of_getElem? (i := 24) rfl)
theorem dX9_turns_48 : decode cX9_turns 48 = .ok (.lstore_n 3, 1) := tX9_turns_ok (48, .lstore_n 3, 1) (List.mem_of_getElem? (i := 25) rfl)
theorem dX9_turns_49 : decode cX9_turns 49 = .ok (.iconst 0, 1) := tX9_turns_ok (49, .iconst 0, 1) (List.mem_of_getElem? (i := 26) rfl)
theorem dX9_turns_50 : decode cX9_turns 50 = .ok (.istore 5, 2) := tX9_turns_ok (50, .istore 5, 2) (List.mem_of_getElem? (i := 27) rfl)
theorem dX9_turns_52 : decode cX9_turns 52 = .ok (.iload 5, 2) := tX9_turns_ok (52, .iload 5, 2) (List.mem_of_getElem? (i := 28) rfl)
theorem dX9_turns_54 : decode cX9_turns 54 = .ok (.aload_n 0, 1) := tX9_turns_ok (54, .aload_n 0, 1) (List.mem_of_getElem? (i := 29) rfl)
theorem dX9_turns_55 : decode cX9_turns 55 = .ok (.getfield 48, 3) := tX9_turns_ok (55, .getfield 48, 3) (List.mem_of_getElem? (i := 30) rfl)
theorem dX9_turns_58 : decode cX9_turns 58 = .ok (.arraylength, 1) := tX9_turns_ok (58, .arraylength, 1) (List.mem_of_getElem? (i := 31) rfl)
theorem dX9_turns_59 : decode cX9_turns 59 = .ok (.if_icmp .ge 17, 3) := tX9_turns_ok (59, .if_icmp .ge 17, 3) (List.mem_of_getElem? (i := 32) rfl)
theorem dX9_turns_62 : decode cX9_turns 62 = .ok (.aload_n 0, 1) := tX9_turns_ok (62, .aload_n 0, 1) (List.mem_of_getElem? (i := 33) rfl)
theorem dX9_turns_63 : decode cX9_turns 63 = .ok (.getfield 48, 3) := tX9_turns_ok (63, .getfield 48, 3) (List.mem_of_getElem? (i := 34) rfl)
theorem dX9_turns_66 : decode cX9_turns 66 = .ok (.iload 5, 2) := tX9_turns_ok (66, .iload 5, 2) (List.mem_of_getElem? (i := 35) rfl)
theorem dX9_turns_68 : decode cX9_turns 68 = .ok (.lconst 0, 1) := tX9_turns_ok (68, .lconst 0, 1) (List.mem_of_getElem? (i := 36) rfl)
theorem dX9_turns_69 : decode cX9_turns 69 = .ok (.lastore, 1) := tX9_turns_ok (69, .lastore, 1) (List.mem_of_getElem? (i := 37) rfl)
theorem dX9_turns_70 : decode cX9_turns 70 = .ok (.iinc 5 1, 3) := tX9_turns_ok (70, .iinc 5 1, 3) (List.mem_of_getElem? (i := 38) rfl)
theorem dX9_turns_73 : decode cX9_turns 73 = .ok (.goto (-21), 3) := tX9_turns_ok (73, .goto (-21), 3) (List.mem_of_getElem? (i := 39) rfl)
theorem dX9_turns_76 : decode cX9_turns 76 = .ok (.iconst 0, 1) := tX9_turns_ok (76, .iconst 0, 1) (List.mem_of_getElem? (i := 40) rfl)
theorem dX9_turns_77 : decode cX9_turns 77 = .ok (.istore 5, 2) := tX9_turns_ok (77, .istore 5, 2) (List.mem_of_getElem? (i := 41) rfl)
theorem dX9_turns_79 : decode cX9_turns 79 = .ok (.iload 5, 2) := tX9_turns_ok (79, .iload 5, 2) (List.mem_of_getElem? (i := 42) rfl)
theorem dX9_turns_81 : decode cX9_turns 81 = .ok (.aload_n 0, 1) := tX9_turns_ok (81, .aload_n 0, 1) (List.mem_of_getElem? (i := 43) rfl)
theorem dX9_turns_82 : decode cX9_turns 82 = .ok (.getfield 19, 3) := tX9_turns_ok (82, .getfield 19, 3) (List.mem_of_getElem? (i := 44) rfl)
theorem dX9_turns_85 : decode cX9_turns 85 = .ok (.if_icmp .ge 53, 3) := tX9_turns_ok (85, .if_icmp .ge 53, 3) (List.mem_of_getElem? (i := 45) rfl)
theorem dX9_turns_88 : decode cX9_turns 88 = .ok (.aload_n 0, 1) := tX9_turns_ok (88, .aload_n 0, 1) (List.mem_of_getElem? (i := 46) rfl)
theorem dX9_turns_89 : decode cX9_turns 89 = .ok (.aload_n 0, 1) := tX9_turns_ok (89, .aload_n 0, 1) (List.mem_of_getElem? (i := 47) rfl)
theorem dX9_turns_90 : decode cX9_turns 90 = .ok (.getfield 161, 3) := tX9_turns_ok (90, .getfield 161, 3) (List.mem_of_getElem? (i := 48) rfl)
theorem dX9_turns_93 : decode cX9_turns 93 = .ok (.aload_n 0, 1) := tX9_turns_ok (93, .aload_n 0, 1) (List.mem_of_getElem? (i := 49) rfl)
theorem dX9_turns_94 : decode cX9_turns 94 = .ok (.getfield 164, 3) := tX9_turns_ok (94, .getfield 164, 3) (List.mem_of_getElem? (i := 50) rfl)
theorem dX9_turns_97 : decode cX9_turns 97 = .ok (.invokestatic 144, 3) := tX9_turns_ok (97, .invokestatic 144, 3) (List.mem_of_getElem? (i := 51) rfl)
theorem dX9_turns_100 : decode cX9_turns 100 = .ok (.iload 5, 2) := tX9_turns_ok (100, .iload 5, 2) (List.mem_of_getElem? (i := 52) rfl)
theorem dX9_turns_102 : decode cX9_turns 102 = .ok (.invokevirtual 175, 3) := tX9_turns_ok (102, .invokevirtual 175, 3) (List.mem_of_getElem? (i := 53) rfl)
theorem dX9_turns_105 : decode cX9_turns 105 = .ok (.istore 6, 2) := tX9_turns_ok (105, .istore 6, 2) (List.mem_of_getElem? (i := 54) rfl)
theorem dX9_turns_107 : decode cX9_turns 107 = .ok (.iload 6, 2) := tX9_turns_ok (107, .iload 6, 2) (List.mem_of_getElem? (i := 55) rfl)
theorem dX9_turns_109 : decode cX9_turns 109 = .ok (.ifCond .lt 23, 3) := tX9_turns_ok (109, .ifCond .lt 23, 3) (List.mem_of_getElem? (i := 56) rfl)
theorem dX9_turns_112 : decode cX9_turns 112 = .ok (.aload_n 0, 1) := tX9_turns_ok (112, .aload_n 0, 1) (List.mem_of_getElem? (i := 57) rfl)
theorem dX9_turns_113 : decode cX9_turns 113 = .ok (.getfield 48, 3) := tX9_turns_ok (113, .getfield 48, 3) (List.mem_of_getElem? (i := 58) rfl)
theorem dX9_turns_116 : decode cX9_turns 116 = .ok (.bipush 120, 2) := tX9_turns_ok (116, .bipush 120, 2) (List.mem_of_getElem? (i := 59) rfl)
theorem dX9_turns_118 : decode cX9_turns 118 = .ok (.iload 6, 2) := tX9_turns_ok (118, .iload 6, 2) (List.mem_of_getElem? (i := 60) rfl)
theorem dX9_turns_120 : decode cX9_turns 120 = .ok (.imul, 1) := tX9_turns_ok (120, .imul, 1) (List.mem_of_getElem? (i := 61) rfl)
theorem dX9_turns_121 : decode cX9_turns 121 = .ok (.bipush 15, 2) := tX9_turns_ok (121, .bipush 15, 2) (List.mem_of_getElem? (i := 62) rfl)
theorem dX9_turns_123 : decode cX9_turns 123 = .ok (.iload 5, 2) := tX9_turns_ok (123, .iload 5, 2) (List.mem_of_getElem? (i := 63) rfl)
theorem dX9_turns_125 : decode cX9_turns 125 = .ok (.imul, 1) := tX9_turns_ok (125, .imul, 1) (List.mem_of_getElem? (i := 64) rfl)
theorem dX9_turns_126 : decode cX9_turns 126 = .ok (.iadd, 1) := tX9_turns_ok (126, .iadd, 1) (List.mem_of_getElem? (i := 65) rfl)
theorem dX9_turns_127 : decode cX9_turns 127 = .ok (.dup2, 1) := tX9_turns_ok (127, .dup2, 1) (List.mem_of_getElem? (i := 66) rfl)
theorem dX9_turns_128 : decode cX9_turns 128 = .ok (.laload, 1) := tX9_turns_ok (128, .laload, 1) (List.mem_of_getElem? (i := 67) rfl)
theorem dX9_turns_129 : decode cX9_turns 129 = .ok (.lconst 1, 1) := tX9_turns_ok (129, .lconst 1, 1) (List.mem_of_getElem? (i := 68) rfl)
theorem dX9_turns_130 : decode cX9_turns 130 = .ok (.ladd, 1) := tX9_turns_ok (130, .ladd, 1) (List.mem_of_getElem? (i := 69) rfl)
theorem dX9_turns_131 : decode cX9_turns 131 = .ok (.lastore, 1) := tX9_turns_ok (131, .lastore, 1) (List.mem_of_getElem? (i := 70) rfl)
theorem dX9_turns_132 : decode cX9_turns 132 = .ok (.iinc 5 1, 3) := tX9_turns_ok (132, .iinc 5 1, 3) (List.mem_of_getElem? (i := 71) rfl)
theorem dX9_turns_135 : decode cX9_turns 135 = .ok (.goto (-56), 3) := tX9_turns_ok (135, .goto (-56), 3) (List.mem_of_getElem? (i := 72) rfl)
theorem dX9_turns_138 : decode cX9_turns 138 = .ok (.iconst 1, 1) := tX9_turns_ok (138, .iconst 1, 1) (List.mem_of_getElem? (i := 73) rfl)
theorem dX9_turns_139 : decode cX9_turns 139 = .ok (.istore 5, 2) := tX9_turns_ok (139, .istore 5, 2) (List.mem_of_getElem? (i := 74) rfl)
theorem dX9_turns_141 : decode cX9_turns 141 = .ok (.iload 5, 2) := tX9_turns_ok (141, .iload 5, 2) (List.mem_of_getElem? (i := 75) rfl)
theorem dX9_turns_143 : decode cX9_turns 143 = .ok (.iload_n 1, 1) := tX9_turns_ok (143, .iload_n 1, 1) (List.mem_of_getElem? (i := 76) rfl)
theorem dX9_turns_144 : decode cX9_turns 144 = .ok (.if_icmp .ge 112, 3) := tX9_turns_ok (144, .if_icmp .ge 112, 3) (List.mem_of_getElem? (i := 77) rfl)
theorem dX9_turns_147 : decode cX9_turns 147 = .ok (.iconst 0, 1) := tX9_turns_ok (147, .iconst 0, 1) (List.mem_of_getElem? (i := 78) rfl)
theorem dX9_turns_148 : decode cX9_turns 148 = .ok (.istore 6, 2) := tX9_turns_ok (148, .istore 6, 2) (List.mem_of_getElem? (i := 79) rfl)
theorem dX9_turns_150 : decode cX9_turns 150 = .ok (.iload 6, 2) := tX9_turns_ok (150, .iload 6, 2) (List.mem_of_getElem? (i := 80) rfl)
theorem dX9_turns_152 : decode cX9_turns 152 = .ok (.aload_n 0, 1) := tX9_turns_ok (152, .aload_n 0, 1) (List.mem_of_getElem? (i := 81) rfl)
theorem dX9_turns_153 : decode cX9_turns 153 = .ok (.getfield 51, 3) := tX9_turns_ok (153, .getfield 51, 3) (List.mem_of_getElem? (i := 82) rfl)
theorem dX9_turns_156 : decode cX9_turns 156 = .ok (.arraylength, 1) := tX9_turns_ok (156, .arraylength, 1) (List.mem_of_getElem? (i := 83) rfl)
theorem dX9_turns_157 : decode cX9_turns 157 = .ok (.if_icmp .ge 17, 3) := tX9_turns_ok (157, .if_icmp .ge 17, 3) (List.mem_of_getElem? (i := 84) rfl)
theorem dX9_turns_160 : decode cX9_turns 160 = .ok (.aload_n 0, 1) := tX9_turns_ok (160, .aload_n 0, 1) (List.mem_of_getElem? (i := 85) rfl)
theorem dX9_turns_161 : decode cX9_turns 161 = .ok (.getfield 51, 3) := tX9_turns_ok (161, .getfield 51, 3) (List.mem_of_getElem? (i := 86) rfl)
theorem dX9_turns_164 : decode cX9_turns 164 = .ok (.iload 6, 2) := tX9_turns_ok (164, .iload 6, 2) (List.mem_of_getElem? (i := 87) rfl)
theorem dX9_turns_166 : decode cX9_turns 166 = .ok (.lconst 0, 1) := tX9_turns_ok (166, .lconst 0, 1) (List.mem_of_getElem? (i := 88) rfl)
theorem dX9_turns_167 : decode cX9_turns 167 = .ok (.lastore, 1) := tX9_turns_ok (167, .lastore, 1) (List.mem_of_getElem? (i := 89) rfl)
theorem dX9_turns_168 : decode cX9_turns 168 = .ok (.iinc 6 1, 3) := tX9_turns_ok (168, .iinc 6 1, 3) (List.mem_of_getElem? (i := 90) rfl)
theorem dX9_turns_171 : decode cX9_turns 171 = .ok (.goto (-21), 3) := tX9_turns_ok (171, .goto (-21), 3) (List.mem_of_getElem? (i := 91) rfl)
theorem dX9_turns_174 : decode cX9_turns 174 = .ok (.iconst 0, 1) := tX9_turns_ok (174, .iconst 0, 1) (List.mem_of_getElem? (i := 92) rfl)
theorem dX9_turns_175 : decode cX9_turns 175 = .ok (.istore 6, 2) := tX9_turns_ok (175, .istore 6, 2) (List.mem_of_getElem? (i := 93) rfl)
theorem dX9_turns_177 : decode cX9_turns 177 = .ok (.iload 6, 2) := tX9_turns_ok (177, .iload 6, 2) (List.mem_of_getElem? (i := 94) rfl)
theorem dX9_turns_179 : decode cX9_turns 179 = .ok (.sipush 3721, 3) := tX9_turns_ok (179, .sipush 3721, 3) (List.mem_of_getElem? (i := 95) rfl)
theorem dX9_turns_182 : decode cX9_turns 182 = .ok (.if_icmp .ge 35, 3) := tX9_turns_ok (182, .if_icmp .ge 35, 3) (List.mem_of_getElem? (i := 96) rfl)
theorem dX9_turns_185 : decode cX9_turns 185 = .ok (.iconst 0, 1) := tX9_turns_ok (185, .iconst 0, 1) (List.mem_of_getElem? (i := 97) rfl)
theorem dX9_turns_186 : decode cX9_turns 186 = .ok (.istore 7, 2) := tX9_turns_ok (186, .istore 7, 2) (List.mem_of_getElem? (i := 98) rfl)
theorem dX9_turns_188 : decode cX9_turns 188 = .ok (.iload 7, 2) := tX9_turns_ok (188, .iload 7, 2) (List.mem_of_getElem? (i := 99) rfl)
theorem dX9_turns_190 : decode cX9_turns 190 = .ok (.aload_n 0, 1) := tX9_turns_ok (190, .aload_n 0, 1) (List.mem_of_getElem? (i := 100) rfl)
theorem dX9_turns_191 : decode cX9_turns 191 = .ok (.getfield 19, 3) := tX9_turns_ok (191, .getfield 19, 3) (List.mem_of_getElem? (i := 101) rfl)
theorem dX9_turns_194 : decode cX9_turns 194 = .ok (.if_icmp .ge 17, 3) := tX9_turns_ok (194, .if_icmp .ge 17, 3) (List.mem_of_getElem? (i := 102) rfl)
theorem dX9_turns_197 : decode cX9_turns 197 = .ok (.aload_n 0, 1) := tX9_turns_ok (197, .aload_n 0, 1) (List.mem_of_getElem? (i := 103) rfl)
theorem dX9_turns_198 : decode cX9_turns 198 = .ok (.iload 6, 2) := tX9_turns_ok (198, .iload 6, 2) (List.mem_of_getElem? (i := 104) rfl)
theorem dX9_turns_200 : decode cX9_turns 200 = .ok (.iload 7, 2) := tX9_turns_ok (200, .iload 7, 2) (List.mem_of_getElem? (i := 105) rfl)
theorem dX9_turns_202 : decode cX9_turns 202 = .ok (.invokevirtual 214, 3) := tX9_turns_ok (202, .invokevirtual 214, 3) (List.mem_of_getElem? (i := 106) rfl)
theorem dX9_turns_205 : decode cX9_turns 205 = .ok (.iinc 7 1, 3) := tX9_turns_ok (205, .iinc 7 1, 3) (List.mem_of_getElem? (i := 107) rfl)
theorem dX9_turns_208 : decode cX9_turns 208 = .ok (.goto (-20), 3) := tX9_turns_ok (208, .goto (-20), 3) (List.mem_of_getElem? (i := 108) rfl)
theorem dX9_turns_211 : decode cX9_turns 211 = .ok (.iinc 6 1, 3) := tX9_turns_ok (211, .iinc 6 1, 3) (List.mem_of_getElem? (i := 109) rfl)
theorem dX9_turns_214 : decode cX9_turns 214 = .ok (.goto (-37), 3) := tX9_turns_ok (214, .goto (-37), 3) (List.mem_of_getElem? (i := 110) rfl)
theorem dX9_turns_217 : decode cX9_turns 217 = .ok (.iconst 0, 1) := tX9_turns_ok (217, .iconst 0, 1) (List.mem_of_getElem? (i := 111) rfl)
theorem dX9_turns_218 : decode cX9_turns 218 = .ok (.istore 6, 2) := tX9_turns_ok (218, .istore 6, 2) (List.mem_of_getElem? (i := 112) rfl)
theorem dX9_turns_220 : decode cX9_turns 220 = .ok (.iload 6, 2) := tX9_turns_ok (220, .iload 6, 2) (List.mem_of_getElem? (i := 113) rfl)
theorem dX9_turns_222 : decode cX9_turns 222 = .ok (.aload_n 0, 1) := tX9_turns_ok (222, .aload_n 0, 1) (List.mem_of_getElem? (i := 114) rfl)
theorem dX9_turns_223 : decode cX9_turns 223 = .ok (.getfield 48, 3) := tX9_turns_ok (223, .getfield 48, 3) (List.mem_of_getElem? (i := 115) rfl)
theorem dX9_turns_226 : decode cX9_turns 226 = .ok (.arraylength, 1) := tX9_turns_ok (226, .arraylength, 1) (List.mem_of_getElem? (i := 116) rfl)
theorem dX9_turns_227 : decode cX9_turns 227 = .ok (.if_icmp .ge 23, 3) := tX9_turns_ok (227, .if_icmp .ge 23, 3) (List.mem_of_getElem? (i := 117) rfl)
theorem dX9_turns_230 : decode cX9_turns 230 = .ok (.aload_n 0, 1) := tX9_turns_ok (230, .aload_n 0, 1) (List.mem_of_getElem? (i := 118) rfl)
theorem dX9_turns_231 : decode cX9_turns 231 = .ok (.getfield 48, 3) := tX9_turns_ok (231, .getfield 48, 3) (List.mem_of_getElem? (i := 119) rfl)
theorem dX9_turns_234 : decode cX9_turns 234 = .ok (.iload 6, 2) := tX9_turns_ok (234, .iload 6, 2) (List.mem_of_getElem? (i := 120) rfl)
theorem dX9_turns_236 : decode cX9_turns 236 = .ok (.aload_n 0, 1) := tX9_turns_ok (236, .aload_n 0, 1) (List.mem_of_getElem? (i := 121) rfl)
theorem dX9_turns_237 : decode cX9_turns 237 = .ok (.getfield 51, 3) := tX9_turns_ok (237, .getfield 51, 3) (List.mem_of_getElem? (i := 122) rfl)
theorem dX9_turns_240 : decode cX9_turns 240 = .ok (.iload 6, 2) := tX9_turns_ok (240, .iload 6, 2) (List.mem_of_getElem? (i := 123) rfl)
theorem dX9_turns_242 : decode cX9_turns 242 = .ok (.laload, 1) := tX9_turns_ok (242, .laload, 1) (List.mem_of_getElem? (i := 124) rfl)
theorem dX9_turns_243 : decode cX9_turns 243 = .ok (.lastore, 1) := tX9_turns_ok (243, .lastore, 1) (List.mem_of_getElem? (i := 125) rfl)
theorem dX9_turns_244 : decode cX9_turns 244 = .ok (.iinc 6 1, 3) := tX9_turns_ok (244, .iinc 6 1, 3) (List.mem_of_getElem? (i := 126) rfl)
theorem dX9_turns_247 : decode cX9_turns 247 = .ok (.goto (-27), 3) := tX9_turns_ok (247, .goto (-27), 3) (List.mem_of_getElem? (i := 127) rfl)
theorem dX9_turns_250 : decode cX9_turns 250 = .ok (.iinc 5 1, 3) := tX9_turns_ok (250, .iinc 5 1, 3) (List.mem_of_getElem? (i := 128) rfl)
theorem dX9_turns_253 : decode cX9_turns 253 = .ok (.goto (-112), 3) := tX9_turns_ok (253, .goto (-112), 3) (List.mem_of_getElem? (i := 129) rfl)
theorem dX9_turns_256 : decode cX9_turns 256 = .ok (.iconst 0, 1) := tX9_turns_ok (256, .iconst 0, 1) (List.mem_of_getElem? (i := 130) rfl)
theorem dX9_turns_257 : decode cX9_turns 257 = .ok (.istore 5, 2) := tX9_turns_ok (257, .istore 5, 2) (List.mem_of_getElem? (i := 131) rfl)
theorem dX9_turns_259 : decode cX9_turns 259 = .ok (.iload 5, 2) := tX9_turns_ok (259, .iload 5, 2) (List.mem_of_getElem? (i := 132) rfl)
theorem dX9_turns_261 : decode cX9_turns 261 = .ok (.aload_n 0, 1) := tX9_turns_ok (261, .aload_n 0, 1) (List.mem_of_getElem? (i := 133) rfl)
theorem dX9_turns_262 : decode cX9_turns 262 = .ok (.getfield 19, 3) := tX9_turns_ok (262, .getfield 19, 3) (List.mem_of_getElem? (i := 134) rfl)
theorem dX9_turns_265 : decode cX9_turns 265 = .ok (.if_icmp .ge 39, 3) := tX9_turns_ok (265, .if_icmp .ge 39, 3) (List.mem_of_getElem? (i := 135) rfl)
theorem dX9_turns_268 : decode cX9_turns 268 = .ok (.lload_n 3, 1) := tX9_turns_ok (268, .lload_n 3, 1) (List.mem_of_getElem? (i := 136) rfl)
theorem dX9_turns_269 : decode cX9_turns 269 = .ok (.aload_n 0, 1) := tX9_turns_ok (269, .aload_n 0, 1) (List.mem_of_getElem? (i := 137) rfl)
theorem dX9_turns_270 : decode cX9_turns 270 = .ok (.getfield 48, 3) := tX9_turns_ok (270, .getfield 48, 3) (List.mem_of_getElem? (i := 138) rfl)
theorem dX9_turns_273 : decode cX9_turns 273 = .ok (.bipush 120, 2) := tX9_turns_ok (273, .bipush 120, 2) (List.mem_of_getElem? (i := 139) rfl)
theorem dX9_turns_275 : decode cX9_turns 275 = .ok (.aload_n 0, 1) := tX9_turns_ok (275, .aload_n 0, 1) (List.mem_of_getElem? (i := 140) rfl)
theorem dX9_turns_276 : decode cX9_turns 276 = .ok (.getfield 167, 3) := tX9_turns_ok (276, .getfield 167, 3) (List.mem_of_getElem? (i := 141) rfl)
theorem dX9_turns_279 : decode cX9_turns 279 = .ok (.aload_n 0, 1) := tX9_turns_ok (279, .aload_n 0, 1) (List.mem_of_getElem? (i := 142) rfl)
theorem dX9_turns_280 : decode cX9_turns 280 = .ok (.getfield 170, 3) := tX9_turns_ok (280, .getfield 170, 3) (List.mem_of_getElem? (i := 143) rfl)
theorem dX9_turns_283 : decode cX9_turns 283 = .ok (.invokestatic 144, 3) := tX9_turns_ok (283, .invokestatic 144, 3) (List.mem_of_getElem? (i := 144) rfl)
theorem dX9_turns_286 : decode cX9_turns 286 = .ok (.imul, 1) := tX9_turns_ok (286, .imul, 1) (List.mem_of_getElem? (i := 145) rfl)
theorem dX9_turns_287 : decode cX9_turns 287 = .ok (.bipush 15, 2) := tX9_turns_ok (287, .bipush 15, 2) (List.mem_of_getElem? (i := 146) rfl)
theorem dX9_turns_289 : decode cX9_turns 289 = .ok (.iload 5, 2) := tX9_turns_ok (289, .iload 5, 2) (List.mem_of_getElem? (i := 147) rfl)
theorem dX9_turns_291 : decode cX9_turns 291 = .ok (.imul, 1) := tX9_turns_ok (291, .imul, 1) (List.mem_of_getElem? (i := 148) rfl)
theorem dX9_turns_292 : decode cX9_turns 292 = .ok (.iadd, 1) := tX9_turns_ok (292, .iadd, 1) (List.mem_of_getElem? (i := 149) rfl)
theorem dX9_turns_293 : decode cX9_turns 293 = .ok (.iload_n 2, 1) := tX9_turns_ok (293, .iload_n 2, 1) (List.mem_of_getElem? (i := 150) rfl)
theorem dX9_turns_294 : decode cX9_turns 294 = .ok (.iadd, 1) := tX9_turns_ok (294, .iadd, 1) (List.mem_of_getElem? (i := 151) rfl)
theorem dX9_turns_295 : decode cX9_turns 295 = .ok (.laload, 1) := tX9_turns_ok (295, .laload, 1) (List.mem_of_getElem? (i := 152) rfl)
theorem dX9_turns_296 : decode cX9_turns 296 = .ok (.ladd, 1) := tX9_turns_ok (296, .ladd, 1) (List.mem_of_getElem? (i := 153) rfl)
theorem dX9_turns_297 : decode cX9_turns 297 = .ok (.lstore_n 3, 1) := tX9_turns_ok (297, .lstore_n 3, 1) (List.mem_of_getElem? (i := 154) rfl)
theorem dX9_turns_298 : decode cX9_turns 298 = .ok (.iinc 5 1, 3) := tX9_turns_ok (298, .iinc 5 1, 3) (List.mem_of_getElem? (i := 155) rfl)
theorem dX9_turns_301 : decode cX9_turns 301 = .ok (.goto (-42), 3) := tX9_turns_ok (301, .goto (-42), 3) (List.mem_of_getElem? (i := 156) rfl)
theorem dX9_turns_304 : decode cX9_turns 304 = .ok (.lload_n 3, 1) := tX9_turns_ok (304, .lload_n 3, 1) (List.mem_of_getElem? (i := 157) rfl)
theorem dX9_turns_305 : decode cX9_turns 305 = .ok (.lreturn, 1) := tX9_turns_ok (305, .lreturn, 1) (List.mem_of_getElem? (i := 158) rfl)

def tX9_goesOn : List (Nat × Instr × Nat) := [
  (0, .aload_n 0, 1),
  (1, .iload_n 1, 1),
  (2, .iload_n 2, 1),
  (3, .invokevirtual 175, 3),
  (6, .istore_n 3, 1),
  (7, .iload_n 3, 1),
  (8, .ifCond .ge 4, 3),
  (11, .return_, 1),
  (12, .iconst 0, 1),
  (13, .istore 4, 2),
  (15, .iload 4, 2),
  (17, .aload_n 0, 1),
  (18, .getfield 19, 3),
  (21, .if_icmp .ge 82, 3),
  (24, .iload 4, 2),
  (26, .iload_n 2, 1),
  (27, .if_icmp .ne 7, 3),
  (30, .iconst 0, 1),
  (31, .goto 4, 3),
  (34, .iconst 1, 1),
  (35, .istore 5, 2),
  (37, .iconst 0, 1),
  (38, .istore 6, 2),
  (40, .iload 6, 2),
  (42, .iload 5, 2),
  (44, .iadd, 1),
  (45, .bipush 15, 2),
  (47, .if_icmp .ge 50, 3),
  (50, .aload_n 0, 1),
  (51, .getfield 51, 3),
  (54, .bipush 120, 2),
  (56, .iload_n 3, 1),
  (57, .imul, 1),
  (58, .bipush 15, 2),
  (60, .iload_n 2, 1),
  (61, .imul, 1),
  (62, .iadd, 1),
  (63, .iload 6, 2),
  (65, .iadd, 1),
  (66, .iload 5, 2),
  (68, .iadd, 1),
  (69, .dup2, 1),
  (70, .laload, 1),
  (71, .aload_n 0, 1),
  (72, .getfield 48, 3),
  (75, .bipush 120, 2),
  (77, .iload_n 1, 1),
  (78, .imul, 1),
  (79, .bipush 15, 2),
  (81, .iload 4, 2),
  (83, .imul, 1),
  (84, .iadd, 1),
  (85, .iload 6, 2),
  (87, .iadd, 1),
  (88, .laload, 1),
  (89, .ladd, 1),
  (90, .lastore, 1),
  (91, .iinc 6 1, 3),
  (94, .goto (-54), 3),
  (97, .iinc 4 1, 3),
  (100, .goto (-85), 3),
  (103, .return_, 1)]
set_option maxRecDepth 100000 in
theorem tX9_goesOn_ok : ∀ q ∈ tX9_goesOn, decode cX9_goesOn q.1 = .ok q.2 := by decide +kernel
theorem dX9_goesOn_0 : decode cX9_goesOn 0 = .ok (.aload_n 0, 1) := tX9_goesOn_ok (0, .aload_n 0, 1) (List.mem_of_getElem? (i := 0) rfl)
theorem dX9_goesOn_1 : decode cX9_goesOn 1 = .ok (.iload_n 1, 1) := tX9_goesOn_ok (1, .iload_n 1, 1) (List.mem_of_getElem? (i := 1) rfl)
theorem dX9_goesOn_2 : decode cX9_goesOn 2 = .ok (.iload_n 2, 1) := tX9_goesOn_ok (2, .iload_n 2, 1) (List.mem_of_getElem? (i := 2) rfl)
theorem dX9_goesOn_3 : decode cX9_goesOn 3 = .ok (.invokevirtual 175, 3) := tX9_goesOn_ok (3, .invokevirtual 175, 3) (List.mem_of_getElem? (i := 3) rfl)
theorem dX9_goesOn_6 : decode cX9_goesOn 6 = .ok (.istore_n 3, 1) := tX9_goesOn_ok (6, .istore_n 3, 1) (List.mem_of_getElem? (i := 4) rfl)
theorem dX9_goesOn_7 : decode cX9_goesOn 7 = .ok (.iload_n 3, 1) := tX9_goesOn_ok (7, .iload_n 3, 1) (List.mem_of_getElem? (i := 5) rfl)
theorem dX9_goesOn_8 : decode cX9_goesOn 8 = .ok (.ifCond .ge 4, 3) := tX9_goesOn_ok (8, .ifCond .ge 4, 3) (List.mem_of_getElem? (i := 6) rfl)
theorem dX9_goesOn_11 : decode cX9_goesOn 11 = .ok (.return_, 1) := tX9_goesOn_ok (11, .return_, 1) (List.mem_of_getElem? (i := 7) rfl)
theorem dX9_goesOn_12 : decode cX9_goesOn 12 = .ok (.iconst 0, 1) := tX9_goesOn_ok (12, .iconst 0, 1) (List.mem_of_getElem? (i := 8) rfl)
theorem dX9_goesOn_13 : decode cX9_goesOn 13 = .ok (.istore 4, 2) := tX9_goesOn_ok (13, .istore 4, 2) (List.mem_of_getElem? (i := 9) rfl)
theorem dX9_goesOn_15 : decode cX9_goesOn 15 = .ok (.iload 4, 2) := tX9_goesOn_ok (15, .iload 4, 2) (List.mem_of_getElem? (i := 10) rfl)
theorem dX9_goesOn_17 : decode cX9_goesOn 17 = .ok (.aload_n 0, 1) := tX9_goesOn_ok (17, .aload_n 0, 1) (List.mem_of_getElem? (i := 11) rfl)
theorem dX9_goesOn_18 : decode cX9_goesOn 18 = .ok (.getfield 19, 3) := tX9_goesOn_ok (18, .getfield 19, 3) (List.mem_of_getElem? (i := 12) rfl)
theorem dX9_goesOn_21 : decode cX9_goesOn 21 = .ok (.if_icmp .ge 82, 3) := tX9_goesOn_ok (21, .if_icmp .ge 82, 3) (List.mem_of_getElem? (i := 13) rfl)
theorem dX9_goesOn_24 : decode cX9_goesOn 24 = .ok (.iload 4, 2) := tX9_goesOn_ok (24, .iload 4, 2) (List.mem_of_getElem? (i := 14) rfl)
theorem dX9_goesOn_26 : decode cX9_goesOn 26 = .ok (.iload_n 2, 1) := tX9_goesOn_ok (26, .iload_n 2, 1) (List.mem_of_getElem? (i := 15) rfl)
theorem dX9_goesOn_27 : decode cX9_goesOn 27 = .ok (.if_icmp .ne 7, 3) := tX9_goesOn_ok (27, .if_icmp .ne 7, 3) (List.mem_of_getElem? (i := 16) rfl)
theorem dX9_goesOn_30 : decode cX9_goesOn 30 = .ok (.iconst 0, 1) := tX9_goesOn_ok (30, .iconst 0, 1) (List.mem_of_getElem? (i := 17) rfl)
theorem dX9_goesOn_31 : decode cX9_goesOn 31 = .ok (.goto 4, 3) := tX9_goesOn_ok (31, .goto 4, 3) (List.mem_of_getElem? (i := 18) rfl)
theorem dX9_goesOn_34 : decode cX9_goesOn 34 = .ok (.iconst 1, 1) := tX9_goesOn_ok (34, .iconst 1, 1) (List.mem_of_getElem? (i := 19) rfl)
theorem dX9_goesOn_35 : decode cX9_goesOn 35 = .ok (.istore 5, 2) := tX9_goesOn_ok (35, .istore 5, 2) (List.mem_of_getElem? (i := 20) rfl)
theorem dX9_goesOn_37 : decode cX9_goesOn 37 = .ok (.iconst 0, 1) := tX9_goesOn_ok (37, .iconst 0, 1) (List.mem_of_getElem? (i := 21) rfl)
theorem dX9_goesOn_38 : decode cX9_goesOn 38 = .ok (.istore 6, 2) := tX9_goesOn_ok (38, .istore 6, 2) (List.mem_of_getElem? (i := 22) rfl)
theorem dX9_goesOn_40 : decode cX9_goesOn 40 = .ok (.iload 6, 2) := tX9_goesOn_ok (40, .iload 6, 2) (List.mem_of_getElem? (i := 23) rfl)
theorem dX9_goesOn_42 : decode cX9_goesOn 42 = .ok (.iload 5, 2) := tX9_goesOn_ok (42, .iload 5, 2) (List.mem_of_getElem? (i := 24) rfl)
theorem dX9_goesOn_44 : decode cX9_goesOn 44 = .ok (.iadd, 1) := tX9_goesOn_ok (44, .iadd, 1) (List.mem_of_getElem? (i := 25) rfl)
theorem dX9_goesOn_45 : decode cX9_goesOn 45 = .ok (.bipush 15, 2) := tX9_goesOn_ok (45, .bipush 15, 2) (List.mem_of_getElem? (i := 26) rfl)
theorem dX9_goesOn_47 : decode cX9_goesOn 47 = .ok (.if_icmp .ge 50, 3) := tX9_goesOn_ok (47, .if_icmp .ge 50, 3) (List.mem_of_getElem? (i := 27) rfl)
theorem dX9_goesOn_50 : decode cX9_goesOn 50 = .ok (.aload_n 0, 1) := tX9_goesOn_ok (50, .aload_n 0, 1) (List.mem_of_getElem? (i := 28) rfl)
theorem dX9_goesOn_51 : decode cX9_goesOn 51 = .ok (.getfield 51, 3) := tX9_goesOn_ok (51, .getfield 51, 3) (List.mem_of_getElem? (i := 29) rfl)
theorem dX9_goesOn_54 : decode cX9_goesOn 54 = .ok (.bipush 120, 2) := tX9_goesOn_ok (54, .bipush 120, 2) (List.mem_of_getElem? (i := 30) rfl)
theorem dX9_goesOn_56 : decode cX9_goesOn 56 = .ok (.iload_n 3, 1) := tX9_goesOn_ok (56, .iload_n 3, 1) (List.mem_of_getElem? (i := 31) rfl)
theorem dX9_goesOn_57 : decode cX9_goesOn 57 = .ok (.imul, 1) := tX9_goesOn_ok (57, .imul, 1) (List.mem_of_getElem? (i := 32) rfl)
theorem dX9_goesOn_58 : decode cX9_goesOn 58 = .ok (.bipush 15, 2) := tX9_goesOn_ok (58, .bipush 15, 2) (List.mem_of_getElem? (i := 33) rfl)
theorem dX9_goesOn_60 : decode cX9_goesOn 60 = .ok (.iload_n 2, 1) := tX9_goesOn_ok (60, .iload_n 2, 1) (List.mem_of_getElem? (i := 34) rfl)
theorem dX9_goesOn_61 : decode cX9_goesOn 61 = .ok (.imul, 1) := tX9_goesOn_ok (61, .imul, 1) (List.mem_of_getElem? (i := 35) rfl)
theorem dX9_goesOn_62 : decode cX9_goesOn 62 = .ok (.iadd, 1) := tX9_goesOn_ok (62, .iadd, 1) (List.mem_of_getElem? (i := 36) rfl)
theorem dX9_goesOn_63 : decode cX9_goesOn 63 = .ok (.iload 6, 2) := tX9_goesOn_ok (63, .iload 6, 2) (List.mem_of_getElem? (i := 37) rfl)
theorem dX9_goesOn_65 : decode cX9_goesOn 65 = .ok (.iadd, 1) := tX9_goesOn_ok (65, .iadd, 1) (List.mem_of_getElem? (i := 38) rfl)
theorem dX9_goesOn_66 : decode cX9_goesOn 66 = .ok (.iload 5, 2) := tX9_goesOn_ok (66, .iload 5, 2) (List.mem_of_getElem? (i := 39) rfl)
theorem dX9_goesOn_68 : decode cX9_goesOn 68 = .ok (.iadd, 1) := tX9_goesOn_ok (68, .iadd, 1) (List.mem_of_getElem? (i := 40) rfl)
theorem dX9_goesOn_69 : decode cX9_goesOn 69 = .ok (.dup2, 1) := tX9_goesOn_ok (69, .dup2, 1) (List.mem_of_getElem? (i := 41) rfl)
theorem dX9_goesOn_70 : decode cX9_goesOn 70 = .ok (.laload, 1) := tX9_goesOn_ok (70, .laload, 1) (List.mem_of_getElem? (i := 42) rfl)
theorem dX9_goesOn_71 : decode cX9_goesOn 71 = .ok (.aload_n 0, 1) := tX9_goesOn_ok (71, .aload_n 0, 1) (List.mem_of_getElem? (i := 43) rfl)
theorem dX9_goesOn_72 : decode cX9_goesOn 72 = .ok (.getfield 48, 3) := tX9_goesOn_ok (72, .getfield 48, 3) (List.mem_of_getElem? (i := 44) rfl)
theorem dX9_goesOn_75 : decode cX9_goesOn 75 = .ok (.bipush 120, 2) := tX9_goesOn_ok (75, .bipush 120, 2) (List.mem_of_getElem? (i := 45) rfl)
theorem dX9_goesOn_77 : decode cX9_goesOn 77 = .ok (.iload_n 1, 1) := tX9_goesOn_ok (77, .iload_n 1, 1) (List.mem_of_getElem? (i := 46) rfl)
theorem dX9_goesOn_78 : decode cX9_goesOn 78 = .ok (.imul, 1) := tX9_goesOn_ok (78, .imul, 1) (List.mem_of_getElem? (i := 47) rfl)
theorem dX9_goesOn_79 : decode cX9_goesOn 79 = .ok (.bipush 15, 2) := tX9_goesOn_ok (79, .bipush 15, 2) (List.mem_of_getElem? (i := 48) rfl)
theorem dX9_goesOn_81 : decode cX9_goesOn 81 = .ok (.iload 4, 2) := tX9_goesOn_ok (81, .iload 4, 2) (List.mem_of_getElem? (i := 49) rfl)
theorem dX9_goesOn_83 : decode cX9_goesOn 83 = .ok (.imul, 1) := tX9_goesOn_ok (83, .imul, 1) (List.mem_of_getElem? (i := 50) rfl)
theorem dX9_goesOn_84 : decode cX9_goesOn 84 = .ok (.iadd, 1) := tX9_goesOn_ok (84, .iadd, 1) (List.mem_of_getElem? (i := 51) rfl)
theorem dX9_goesOn_85 : decode cX9_goesOn 85 = .ok (.iload 6, 2) := tX9_goesOn_ok (85, .iload 6, 2) (List.mem_of_getElem? (i := 52) rfl)
theorem dX9_goesOn_87 : decode cX9_goesOn 87 = .ok (.iadd, 1) := tX9_goesOn_ok (87, .iadd, 1) (List.mem_of_getElem? (i := 53) rfl)
theorem dX9_goesOn_88 : decode cX9_goesOn 88 = .ok (.laload, 1) := tX9_goesOn_ok (88, .laload, 1) (List.mem_of_getElem? (i := 54) rfl)
theorem dX9_goesOn_89 : decode cX9_goesOn 89 = .ok (.ladd, 1) := tX9_goesOn_ok (89, .ladd, 1) (List.mem_of_getElem? (i := 55) rfl)
theorem dX9_goesOn_90 : decode cX9_goesOn 90 = .ok (.lastore, 1) := tX9_goesOn_ok (90, .lastore, 1) (List.mem_of_getElem? (i := 56) rfl)
theorem dX9_goesOn_91 : decode cX9_goesOn 91 = .ok (.iinc 6 1, 3) := tX9_goesOn_ok (91, .iinc 6 1, 3) (List.mem_of_getElem? (i := 57) rfl)
theorem dX9_goesOn_94 : decode cX9_goesOn 94 = .ok (.goto (-54), 3) := tX9_goesOn_ok (94, .goto (-54), 3) (List.mem_of_getElem? (i := 58) rfl)
theorem dX9_goesOn_97 : decode cX9_goesOn 97 = .ok (.iinc 4 1, 3) := tX9_goesOn_ok (97, .iinc 4 1, 3) (List.mem_of_getElem? (i := 59) rfl)
theorem dX9_goesOn_100 : decode cX9_goesOn 100 = .ok (.goto (-85), 3) := tX9_goesOn_ok (100, .goto (-85), 3) (List.mem_of_getElem? (i := 60) rfl)
theorem dX9_goesOn_103 : decode cX9_goesOn 103 = .ok (.return_, 1) := tX9_goesOn_ok (103, .return_, 1) (List.mem_of_getElem? (i := 61) rfl)

def tX9_best : List (Nat × Instr × Nat) := [
  (0, .aload_n 0, 1),
  (1, .iconst 0, 1),
  (2, .putfield 112, 3),
  (5, .aload_n 0, 1),
  (6, .aload_n 0, 1),
  (7, .iload_n 1, 1),
  (8, .iload_n 2, 1),
  (9, .invokevirtual 197, 3),
  (12, .putfield 115, 3),
  (15, .aload_n 0, 1),
  (16, .getfield 115, 3),
  (19, .ifCond .le 5, 3),
  (22, .iconst (-1), 1),
  (23, .ireturn, 1),
  (24, .iconst 0, 1),
  (25, .istore 4, 2),
  (27, .iload 4, 2),
  (29, .aload_n 0, 1),
  (30, .getfield 54, 3),
  (33, .arraylength, 1),
  (34, .if_icmp .ge 17, 3),
  (37, .aload_n 0, 1),
  (38, .getfield 54, 3),
  (41, .iload 4, 2),
  (43, .iconst (-1), 1),
  (44, .iastore, 1),
  (45, .iinc 4 1, 3),
  (48, .goto (-21), 3),
  (51, .aload_n 0, 1),
  (52, .getfield 54, 3),
  (55, .bipush 8, 2),
  (57, .aload_n 0, 1),
  (58, .getfield 161, 3),
  (61, .aload_n 0, 1),
  (62, .getfield 164, 3),
  (65, .invokestatic 144, 3),
  (68, .imul, 1),
  (69, .iconst 0, 1),
  (70, .iastore, 1),
  (71, .iconst 0, 1),
  (72, .istore 4, 2),
  (74, .iload 4, 2),
  (76, .iload_n 2, 1),
  (77, .if_icmp .ge 130, 3),
  (80, .iconst 0, 1),
  (81, .istore 5, 2),
  (83, .iload 5, 2),
  (85, .aload_n 0, 1),
  (86, .getfield 54, 3),
  (89, .arraylength, 1),
  (90, .if_icmp .ge 17, 3),
  (93, .aload_n 0, 1),
  (94, .getfield 57, 3),
  (97, .iload 5, 2),
  (99, .iconst (-1), 1),
  (100, .iastore, 1),
  (101, .iinc 5 1, 3),
  (104, .goto (-21), 3),
  (107, .iconst 0, 1),
  (108, .istore 5, 2),
  (110, .iload 5, 2),
  (112, .sipush 3721, 3),
  (115, .if_icmp .ge 53, 3),
  (118, .iconst 0, 1),
  (119, .istore 6, 2),
  (121, .iload 6, 2),
  (123, .bipush 8, 2),
  (125, .if_icmp .ge 37, 3),
  (128, .aload_n 0, 1),
  (129, .getfield 54, 3),
  (132, .bipush 8, 2),
  (134, .iload 5, 2),
  (136, .imul, 1),
  (137, .iload 6, 2),
  (139, .iadd, 1),
  (140, .iaload, 1),
  (141, .ifCond .lt 15, 3),
  (144, .aload_n 0, 1),
  (145, .iload_n 1, 1),
  (146, .iload 5, 2),
  (148, .iload 6, 2),
  (150, .iload 4, 2),
  (152, .iload_n 3, 1),
  (153, .invokevirtual 218, 3),
  (156, .iinc 6 1, 3),
  (159, .goto (-38), 3),
  (162, .iinc 5 1, 3),
  (165, .goto (-55), 3),
  (168, .iconst 0, 1),
  (169, .istore 5, 2),
  (171, .iload 5, 2),
  (173, .aload_n 0, 1),
  (174, .getfield 54, 3),
  (177, .arraylength, 1),
  (178, .if_icmp .ge 23, 3),
  (181, .aload_n 0, 1),
  (182, .getfield 54, 3),
  (185, .iload 5, 2),
  (187, .aload_n 0, 1),
  (188, .getfield 57, 3),
  (191, .iload 5, 2),
  (193, .iaload, 1),
  (194, .iastore, 1),
  (195, .iinc 5 1, 3),
  (198, .goto (-27), 3),
  (201, .iinc 4 1, 3),
  (204, .goto (-130), 3),
  (207, .iconst (-1), 1),
  (208, .istore 4, 2),
  (210, .iconst 0, 1),
  (211, .istore 5, 2),
  (213, .iload 5, 2),
  (215, .bipush 8, 2),
  (217, .if_icmp .ge 39, 3),
  (220, .iload 4, 2),
  (222, .aload_n 0, 1),
  (223, .getfield 54, 3),
  (226, .bipush 8, 2),
  (228, .aload_n 0, 1),
  (229, .getfield 167, 3),
  (232, .aload_n 0, 1),
  (233, .getfield 170, 3),
  (236, .invokestatic 144, 3),
  (239, .imul, 1),
  (240, .iload 5, 2),
  (242, .iadd, 1),
  (243, .iaload, 1),
  (244, .iload_n 3, 1),
  (245, .invokestatic 222, 3),
  (248, .istore 4, 2),
  (250, .iinc 5 1, 3),
  (253, .goto (-40), 3),
  (256, .iload 4, 2),
  (258, .ifCond .ge 12, 3),
  (261, .aload_n 0, 1),
  (262, .bipush 8, 2),
  (264, .invokevirtual 156, 3),
  (267, .goto 5, 3),
  (270, .iload 4, 2),
  (272, .ireturn, 1)]
set_option maxRecDepth 100000 in
theorem tX9_best_ok : ∀ q ∈ tX9_best, decode cX9_best q.1 = .ok q.2 := by decide +kernel
theorem dX9_best_0 : decode cX9_best 0 = .ok (.aload_n 0, 1) := tX9_best_ok (0, .aload_n 0, 1) (List.mem_of_getElem? (i := 0) rfl)
theorem dX9_best_1 : decode cX9_best 1 = .ok (.iconst 0, 1) := tX9_best_ok (1, .iconst 0, 1) (List.mem_of_getElem? (i := 1) rfl)
theorem dX9_best_2 : decode cX9_best 2 = .ok (.putfield 112, 3) := tX9_best_ok (2, .putfield 112, 3) (List.mem_of_getElem? (i := 2) rfl)
theorem dX9_best_5 : decode cX9_best 5 = .ok (.aload_n 0, 1) := tX9_best_ok (5, .aload_n 0, 1) (List.mem_of_getElem? (i := 3) rfl)
theorem dX9_best_6 : decode cX9_best 6 = .ok (.aload_n 0, 1) := tX9_best_ok (6, .aload_n 0, 1) (List.mem_of_getElem? (i := 4) rfl)
theorem dX9_best_7 : decode cX9_best 7 = .ok (.iload_n 1, 1) := tX9_best_ok (7, .iload_n 1, 1) (List.mem_of_getElem? (i := 5) rfl)
theorem dX9_best_8 : decode cX9_best 8 = .ok (.iload_n 2, 1) := tX9_best_ok (8, .iload_n 2, 1) (List.mem_of_getElem? (i := 6) rfl)
theorem dX9_best_9 : decode cX9_best 9 = .ok (.invokevirtual 197, 3) := tX9_best_ok (9, .invokevirtual 197, 3) (List.mem_of_getElem? (i := 7) rfl)
theorem dX9_best_12 : decode cX9_best 12 = .ok (.putfield 115, 3) := tX9_best_ok (12, .putfield 115, 3) (List.mem_of_getElem? (i := 8) rfl)
theorem dX9_best_15 : decode cX9_best 15 = .ok (.aload_n 0, 1) := tX9_best_ok (15, .aload_n 0, 1) (List.mem_of_getElem? (i := 9) rfl)
theorem dX9_best_16 : decode cX9_best 16 = .ok (.getfield 115, 3) := tX9_best_ok (16, .getfield 115, 3) (List.mem_of_getElem? (i := 10) rfl)
theorem dX9_best_19 : decode cX9_best 19 = .ok (.ifCond .le 5, 3) := tX9_best_ok (19, .ifCond .le 5, 3) (List.mem_of_getElem? (i := 11) rfl)
theorem dX9_best_22 : decode cX9_best 22 = .ok (.iconst (-1), 1) := tX9_best_ok (22, .iconst (-1), 1) (List.mem_of_getElem? (i := 12) rfl)
theorem dX9_best_23 : decode cX9_best 23 = .ok (.ireturn, 1) := tX9_best_ok (23, .ireturn, 1) (List.mem_of_getElem? (i := 13) rfl)
theorem dX9_best_24 : decode cX9_best 24 = .ok (.iconst 0, 1) := tX9_best_ok (24, .iconst 0, 1) (List.mem_of_getElem? (i := 14) rfl)
theorem dX9_best_25 : decode cX9_best 25 = .ok (.istore 4, 2) := tX9_best_ok (25, .istore 4, 2) (List.mem_of_getElem? (i := 15) rfl)
theorem dX9_best_27 : decode cX9_best 27 = .ok (.iload 4, 2) := tX9_best_ok (27, .iload 4, 2) (List.mem_of_getElem? (i := 16) rfl)
theorem dX9_best_29 : decode cX9_best 29 = .ok (.aload_n 0, 1) := tX9_best_ok (29, .aload_n 0, 1) (List.mem_of_getElem? (i := 17) rfl)
theorem dX9_best_30 : decode cX9_best 30 = .ok (.getfield 54, 3) := tX9_best_ok (30, .getfield 54, 3) (List.mem_of_getElem? (i := 18) rfl)
theorem dX9_best_33 : decode cX9_best 33 = .ok (.arraylength, 1) := tX9_best_ok (33, .arraylength, 1) (List.mem_of_getElem? (i := 19) rfl)
theorem dX9_best_34 : decode cX9_best 34 = .ok (.if_icmp .ge 17, 3) := tX9_best_ok (34, .if_icmp .ge 17, 3) (List.mem_of_getElem? (i := 20) rfl)
theorem dX9_best_37 : decode cX9_best 37 = .ok (.aload_n 0, 1) := tX9_best_ok (37, .aload_n 0, 1) (List.mem_of_getElem? (i := 21) rfl)
theorem dX9_best_38 : decode cX9_best 38 = .ok (.getfield 54, 3) := tX9_best_ok (38, .getfield 54, 3) (List.mem_of_getElem? (i := 22) rfl)
theorem dX9_best_41 : decode cX9_best 41 = .ok (.iload 4, 2) := tX9_best_ok (41, .iload 4, 2) (List.mem_of_getElem? (i := 23) rfl)
theorem dX9_best_43 : decode cX9_best 43 = .ok (.iconst (-1), 1) := tX9_best_ok (43, .iconst (-1), 1) (List.mem_of_getElem? (i := 24) rfl)
theorem dX9_best_44 : decode cX9_best 44 = .ok (.iastore, 1) := tX9_best_ok (44, .iastore, 1) (List.mem_of_getElem? (i := 25) rfl)
theorem dX9_best_45 : decode cX9_best 45 = .ok (.iinc 4 1, 3) := tX9_best_ok (45, .iinc 4 1, 3) (List.mem_of_getElem? (i := 26) rfl)
theorem dX9_best_48 : decode cX9_best 48 = .ok (.goto (-21), 3) := tX9_best_ok (48, .goto (-21), 3) (List.mem_of_getElem? (i := 27) rfl)
theorem dX9_best_51 : decode cX9_best 51 = .ok (.aload_n 0, 1) := tX9_best_ok (51, .aload_n 0, 1) (List.mem_of_getElem? (i := 28) rfl)
theorem dX9_best_52 : decode cX9_best 52 = .ok (.getfield 54, 3) := tX9_best_ok (52, .getfield 54, 3) (List.mem_of_getElem? (i := 29) rfl)
theorem dX9_best_55 : decode cX9_best 55 = .ok (.bipush 8, 2) := tX9_best_ok (55, .bipush 8, 2) (List.mem_of_getElem? (i := 30) rfl)
theorem dX9_best_57 : decode cX9_best 57 = .ok (.aload_n 0, 1) := tX9_best_ok (57, .aload_n 0, 1) (List.mem_of_getElem? (i := 31) rfl)
theorem dX9_best_58 : decode cX9_best 58 = .ok (.getfield 161, 3) := tX9_best_ok (58, .getfield 161, 3) (List.mem_of_getElem? (i := 32) rfl)
theorem dX9_best_61 : decode cX9_best 61 = .ok (.aload_n 0, 1) := tX9_best_ok (61, .aload_n 0, 1) (List.mem_of_getElem? (i := 33) rfl)
theorem dX9_best_62 : decode cX9_best 62 = .ok (.getfield 164, 3) := tX9_best_ok (62, .getfield 164, 3) (List.mem_of_getElem? (i := 34) rfl)
theorem dX9_best_65 : decode cX9_best 65 = .ok (.invokestatic 144, 3) := tX9_best_ok (65, .invokestatic 144, 3) (List.mem_of_getElem? (i := 35) rfl)
theorem dX9_best_68 : decode cX9_best 68 = .ok (.imul, 1) := tX9_best_ok (68, .imul, 1) (List.mem_of_getElem? (i := 36) rfl)
theorem dX9_best_69 : decode cX9_best 69 = .ok (.iconst 0, 1) := tX9_best_ok (69, .iconst 0, 1) (List.mem_of_getElem? (i := 37) rfl)
theorem dX9_best_70 : decode cX9_best 70 = .ok (.iastore, 1) := tX9_best_ok (70, .iastore, 1) (List.mem_of_getElem? (i := 38) rfl)
theorem dX9_best_71 : decode cX9_best 71 = .ok (.iconst 0, 1) := tX9_best_ok (71, .iconst 0, 1) (List.mem_of_getElem? (i := 39) rfl)
theorem dX9_best_72 : decode cX9_best 72 = .ok (.istore 4, 2) := tX9_best_ok (72, .istore 4, 2) (List.mem_of_getElem? (i := 40) rfl)
theorem dX9_best_74 : decode cX9_best 74 = .ok (.iload 4, 2) := tX9_best_ok (74, .iload 4, 2) (List.mem_of_getElem? (i := 41) rfl)
theorem dX9_best_76 : decode cX9_best 76 = .ok (.iload_n 2, 1) := tX9_best_ok (76, .iload_n 2, 1) (List.mem_of_getElem? (i := 42) rfl)
theorem dX9_best_77 : decode cX9_best 77 = .ok (.if_icmp .ge 130, 3) := tX9_best_ok (77, .if_icmp .ge 130, 3) (List.mem_of_getElem? (i := 43) rfl)
theorem dX9_best_80 : decode cX9_best 80 = .ok (.iconst 0, 1) := tX9_best_ok (80, .iconst 0, 1) (List.mem_of_getElem? (i := 44) rfl)
theorem dX9_best_81 : decode cX9_best 81 = .ok (.istore 5, 2) := tX9_best_ok (81, .istore 5, 2) (List.mem_of_getElem? (i := 45) rfl)
theorem dX9_best_83 : decode cX9_best 83 = .ok (.iload 5, 2) := tX9_best_ok (83, .iload 5, 2) (List.mem_of_getElem? (i := 46) rfl)
theorem dX9_best_85 : decode cX9_best 85 = .ok (.aload_n 0, 1) := tX9_best_ok (85, .aload_n 0, 1) (List.mem_of_getElem? (i := 47) rfl)
theorem dX9_best_86 : decode cX9_best 86 = .ok (.getfield 54, 3) := tX9_best_ok (86, .getfield 54, 3) (List.mem_of_getElem? (i := 48) rfl)
theorem dX9_best_89 : decode cX9_best 89 = .ok (.arraylength, 1) := tX9_best_ok (89, .arraylength, 1) (List.mem_of_getElem? (i := 49) rfl)
theorem dX9_best_90 : decode cX9_best 90 = .ok (.if_icmp .ge 17, 3) := tX9_best_ok (90, .if_icmp .ge 17, 3) (List.mem_of_getElem? (i := 50) rfl)
theorem dX9_best_93 : decode cX9_best 93 = .ok (.aload_n 0, 1) := tX9_best_ok (93, .aload_n 0, 1) (List.mem_of_getElem? (i := 51) rfl)
theorem dX9_best_94 : decode cX9_best 94 = .ok (.getfield 57, 3) := tX9_best_ok (94, .getfield 57, 3) (List.mem_of_getElem? (i := 52) rfl)
theorem dX9_best_97 : decode cX9_best 97 = .ok (.iload 5, 2) := tX9_best_ok (97, .iload 5, 2) (List.mem_of_getElem? (i := 53) rfl)
theorem dX9_best_99 : decode cX9_best 99 = .ok (.iconst (-1), 1) := tX9_best_ok (99, .iconst (-1), 1) (List.mem_of_getElem? (i := 54) rfl)
theorem dX9_best_100 : decode cX9_best 100 = .ok (.iastore, 1) := tX9_best_ok (100, .iastore, 1) (List.mem_of_getElem? (i := 55) rfl)
theorem dX9_best_101 : decode cX9_best 101 = .ok (.iinc 5 1, 3) := tX9_best_ok (101, .iinc 5 1, 3) (List.mem_of_getElem? (i := 56) rfl)
theorem dX9_best_104 : decode cX9_best 104 = .ok (.goto (-21), 3) := tX9_best_ok (104, .goto (-21), 3) (List.mem_of_getElem? (i := 57) rfl)
theorem dX9_best_107 : decode cX9_best 107 = .ok (.iconst 0, 1) := tX9_best_ok (107, .iconst 0, 1) (List.mem_of_getElem? (i := 58) rfl)
theorem dX9_best_108 : decode cX9_best 108 = .ok (.istore 5, 2) := tX9_best_ok (108, .istore 5, 2) (List.mem_of_getElem? (i := 59) rfl)
theorem dX9_best_110 : decode cX9_best 110 = .ok (.iload 5, 2) := tX9_best_ok (110, .iload 5, 2) (List.mem_of_getElem? (i := 60) rfl)
theorem dX9_best_112 : decode cX9_best 112 = .ok (.sipush 3721, 3) := tX9_best_ok (112, .sipush 3721, 3) (List.mem_of_getElem? (i := 61) rfl)
theorem dX9_best_115 : decode cX9_best 115 = .ok (.if_icmp .ge 53, 3) := tX9_best_ok (115, .if_icmp .ge 53, 3) (List.mem_of_getElem? (i := 62) rfl)
theorem dX9_best_118 : decode cX9_best 118 = .ok (.iconst 0, 1) := tX9_best_ok (118, .iconst 0, 1) (List.mem_of_getElem? (i := 63) rfl)
theorem dX9_best_119 : decode cX9_best 119 = .ok (.istore 6, 2) := tX9_best_ok (119, .istore 6, 2) (List.mem_of_getElem? (i := 64) rfl)
theorem dX9_best_121 : decode cX9_best 121 = .ok (.iload 6, 2) := tX9_best_ok (121, .iload 6, 2) (List.mem_of_getElem? (i := 65) rfl)
theorem dX9_best_123 : decode cX9_best 123 = .ok (.bipush 8, 2) := tX9_best_ok (123, .bipush 8, 2) (List.mem_of_getElem? (i := 66) rfl)
theorem dX9_best_125 : decode cX9_best 125 = .ok (.if_icmp .ge 37, 3) := tX9_best_ok (125, .if_icmp .ge 37, 3) (List.mem_of_getElem? (i := 67) rfl)
theorem dX9_best_128 : decode cX9_best 128 = .ok (.aload_n 0, 1) := tX9_best_ok (128, .aload_n 0, 1) (List.mem_of_getElem? (i := 68) rfl)
theorem dX9_best_129 : decode cX9_best 129 = .ok (.getfield 54, 3) := tX9_best_ok (129, .getfield 54, 3) (List.mem_of_getElem? (i := 69) rfl)
theorem dX9_best_132 : decode cX9_best 132 = .ok (.bipush 8, 2) := tX9_best_ok (132, .bipush 8, 2) (List.mem_of_getElem? (i := 70) rfl)
theorem dX9_best_134 : decode cX9_best 134 = .ok (.iload 5, 2) := tX9_best_ok (134, .iload 5, 2) (List.mem_of_getElem? (i := 71) rfl)
theorem dX9_best_136 : decode cX9_best 136 = .ok (.imul, 1) := tX9_best_ok (136, .imul, 1) (List.mem_of_getElem? (i := 72) rfl)
theorem dX9_best_137 : decode cX9_best 137 = .ok (.iload 6, 2) := tX9_best_ok (137, .iload 6, 2) (List.mem_of_getElem? (i := 73) rfl)
theorem dX9_best_139 : decode cX9_best 139 = .ok (.iadd, 1) := tX9_best_ok (139, .iadd, 1) (List.mem_of_getElem? (i := 74) rfl)
theorem dX9_best_140 : decode cX9_best 140 = .ok (.iaload, 1) := tX9_best_ok (140, .iaload, 1) (List.mem_of_getElem? (i := 75) rfl)
theorem dX9_best_141 : decode cX9_best 141 = .ok (.ifCond .lt 15, 3) := tX9_best_ok (141, .ifCond .lt 15, 3) (List.mem_of_getElem? (i := 76) rfl)
theorem dX9_best_144 : decode cX9_best 144 = .ok (.aload_n 0, 1) := tX9_best_ok (144, .aload_n 0, 1) (List.mem_of_getElem? (i := 77) rfl)
theorem dX9_best_145 : decode cX9_best 145 = .ok (.iload_n 1, 1) := tX9_best_ok (145, .iload_n 1, 1) (List.mem_of_getElem? (i := 78) rfl)
theorem dX9_best_146 : decode cX9_best 146 = .ok (.iload 5, 2) := tX9_best_ok (146, .iload 5, 2) (List.mem_of_getElem? (i := 79) rfl)
theorem dX9_best_148 : decode cX9_best 148 = .ok (.iload 6, 2) := tX9_best_ok (148, .iload 6, 2) (List.mem_of_getElem? (i := 80) rfl)
theorem dX9_best_150 : decode cX9_best 150 = .ok (.iload 4, 2) := tX9_best_ok (150, .iload 4, 2) (List.mem_of_getElem? (i := 81) rfl)
theorem dX9_best_152 : decode cX9_best 152 = .ok (.iload_n 3, 1) := tX9_best_ok (152, .iload_n 3, 1) (List.mem_of_getElem? (i := 82) rfl)
theorem dX9_best_153 : decode cX9_best 153 = .ok (.invokevirtual 218, 3) := tX9_best_ok (153, .invokevirtual 218, 3) (List.mem_of_getElem? (i := 83) rfl)
theorem dX9_best_156 : decode cX9_best 156 = .ok (.iinc 6 1, 3) := tX9_best_ok (156, .iinc 6 1, 3) (List.mem_of_getElem? (i := 84) rfl)
theorem dX9_best_159 : decode cX9_best 159 = .ok (.goto (-38), 3) := tX9_best_ok (159, .goto (-38), 3) (List.mem_of_getElem? (i := 85) rfl)
theorem dX9_best_162 : decode cX9_best 162 = .ok (.iinc 5 1, 3) := tX9_best_ok (162, .iinc 5 1, 3) (List.mem_of_getElem? (i := 86) rfl)
theorem dX9_best_165 : decode cX9_best 165 = .ok (.goto (-55), 3) := tX9_best_ok (165, .goto (-55), 3) (List.mem_of_getElem? (i := 87) rfl)
theorem dX9_best_168 : decode cX9_best 168 = .ok (.iconst 0, 1) := tX9_best_ok (168, .iconst 0, 1) (List.mem_of_getElem? (i := 88) rfl)
theorem dX9_best_169 : decode cX9_best 169 = .ok (.istore 5, 2) := tX9_best_ok (169, .istore 5, 2) (List.mem_of_getElem? (i := 89) rfl)
theorem dX9_best_171 : decode cX9_best 171 = .ok (.iload 5, 2) := tX9_best_ok (171, .iload 5, 2) (List.mem_of_getElem? (i := 90) rfl)
theorem dX9_best_173 : decode cX9_best 173 = .ok (.aload_n 0, 1) := tX9_best_ok (173, .aload_n 0, 1) (List.mem_of_getElem? (i := 91) rfl)
theorem dX9_best_174 : decode cX9_best 174 = .ok (.getfield 54, 3) := tX9_best_ok (174, .getfield 54, 3) (List.mem_of_getElem? (i := 92) rfl)
theorem dX9_best_177 : decode cX9_best 177 = .ok (.arraylength, 1) := tX9_best_ok (177, .arraylength, 1) (List.mem_of_getElem? (i := 93) rfl)
theorem dX9_best_178 : decode cX9_best 178 = .ok (.if_icmp .ge 23, 3) := tX9_best_ok (178, .if_icmp .ge 23, 3) (List.mem_of_getElem? (i := 94) rfl)
theorem dX9_best_181 : decode cX9_best 181 = .ok (.aload_n 0, 1) := tX9_best_ok (181, .aload_n 0, 1) (List.mem_of_getElem? (i := 95) rfl)
theorem dX9_best_182 : decode cX9_best 182 = .ok (.getfield 54, 3) := tX9_best_ok (182, .getfield 54, 3) (List.mem_of_getElem? (i := 96) rfl)
theorem dX9_best_185 : decode cX9_best 185 = .ok (.iload 5, 2) := tX9_best_ok (185, .iload 5, 2) (List.mem_of_getElem? (i := 97) rfl)
theorem dX9_best_187 : decode cX9_best 187 = .ok (.aload_n 0, 1) := tX9_best_ok (187, .aload_n 0, 1) (List.mem_of_getElem? (i := 98) rfl)
theorem dX9_best_188 : decode cX9_best 188 = .ok (.getfield 57, 3) := tX9_best_ok (188, .getfield 57, 3) (List.mem_of_getElem? (i := 99) rfl)
theorem dX9_best_191 : decode cX9_best 191 = .ok (.iload 5, 2) := tX9_best_ok (191, .iload 5, 2) (List.mem_of_getElem? (i := 100) rfl)
theorem dX9_best_193 : decode cX9_best 193 = .ok (.iaload, 1) := tX9_best_ok (193, .iaload, 1) (List.mem_of_getElem? (i := 101) rfl)
theorem dX9_best_194 : decode cX9_best 194 = .ok (.iastore, 1) := tX9_best_ok (194, .iastore, 1) (List.mem_of_getElem? (i := 102) rfl)
theorem dX9_best_195 : decode cX9_best 195 = .ok (.iinc 5 1, 3) := tX9_best_ok (195, .iinc 5 1, 3) (List.mem_of_getElem? (i := 103) rfl)
theorem dX9_best_198 : decode cX9_best 198 = .ok (.goto (-27), 3) := tX9_best_ok (198, .goto (-27), 3) (List.mem_of_getElem? (i := 104) rfl)
theorem dX9_best_201 : decode cX9_best 201 = .ok (.iinc 4 1, 3) := tX9_best_ok (201, .iinc 4 1, 3) (List.mem_of_getElem? (i := 105) rfl)
theorem dX9_best_204 : decode cX9_best 204 = .ok (.goto (-130), 3) := tX9_best_ok (204, .goto (-130), 3) (List.mem_of_getElem? (i := 106) rfl)
theorem dX9_best_207 : decode cX9_best 207 = .ok (.iconst (-1), 1) := tX9_best_ok (207, .iconst (-1), 1) (List.mem_of_getElem? (i := 107) rfl)
theorem dX9_best_208 : decode cX9_best 208 = .ok (.istore 4, 2) := tX9_best_ok (208, .istore 4, 2) (List.mem_of_getElem? (i := 108) rfl)
theorem dX9_best_210 : decode cX9_best 210 = .ok (.iconst 0, 1) := tX9_best_ok (210, .iconst 0, 1) (List.mem_of_getElem? (i := 109) rfl)
theorem dX9_best_211 : decode cX9_best 211 = .ok (.istore 5, 2) := tX9_best_ok (211, .istore 5, 2) (List.mem_of_getElem? (i := 110) rfl)
theorem dX9_best_213 : decode cX9_best 213 = .ok (.iload 5, 2) := tX9_best_ok (213, .iload 5, 2) (List.mem_of_getElem? (i := 111) rfl)
theorem dX9_best_215 : decode cX9_best 215 = .ok (.bipush 8, 2) := tX9_best_ok (215, .bipush 8, 2) (List.mem_of_getElem? (i := 112) rfl)
theorem dX9_best_217 : decode cX9_best 217 = .ok (.if_icmp .ge 39, 3) := tX9_best_ok (217, .if_icmp .ge 39, 3) (List.mem_of_getElem? (i := 113) rfl)
theorem dX9_best_220 : decode cX9_best 220 = .ok (.iload 4, 2) := tX9_best_ok (220, .iload 4, 2) (List.mem_of_getElem? (i := 114) rfl)
theorem dX9_best_222 : decode cX9_best 222 = .ok (.aload_n 0, 1) := tX9_best_ok (222, .aload_n 0, 1) (List.mem_of_getElem? (i := 115) rfl)
theorem dX9_best_223 : decode cX9_best 223 = .ok (.getfield 54, 3) := tX9_best_ok (223, .getfield 54, 3) (List.mem_of_getElem? (i := 116) rfl)
theorem dX9_best_226 : decode cX9_best 226 = .ok (.bipush 8, 2) := tX9_best_ok (226, .bipush 8, 2) (List.mem_of_getElem? (i := 117) rfl)
theorem dX9_best_228 : decode cX9_best 228 = .ok (.aload_n 0, 1) := tX9_best_ok (228, .aload_n 0, 1) (List.mem_of_getElem? (i := 118) rfl)
theorem dX9_best_229 : decode cX9_best 229 = .ok (.getfield 167, 3) := tX9_best_ok (229, .getfield 167, 3) (List.mem_of_getElem? (i := 119) rfl)
theorem dX9_best_232 : decode cX9_best 232 = .ok (.aload_n 0, 1) := tX9_best_ok (232, .aload_n 0, 1) (List.mem_of_getElem? (i := 120) rfl)
theorem dX9_best_233 : decode cX9_best 233 = .ok (.getfield 170, 3) := tX9_best_ok (233, .getfield 170, 3) (List.mem_of_getElem? (i := 121) rfl)
theorem dX9_best_236 : decode cX9_best 236 = .ok (.invokestatic 144, 3) := tX9_best_ok (236, .invokestatic 144, 3) (List.mem_of_getElem? (i := 122) rfl)
theorem dX9_best_239 : decode cX9_best 239 = .ok (.imul, 1) := tX9_best_ok (239, .imul, 1) (List.mem_of_getElem? (i := 123) rfl)
theorem dX9_best_240 : decode cX9_best 240 = .ok (.iload 5, 2) := tX9_best_ok (240, .iload 5, 2) (List.mem_of_getElem? (i := 124) rfl)
theorem dX9_best_242 : decode cX9_best 242 = .ok (.iadd, 1) := tX9_best_ok (242, .iadd, 1) (List.mem_of_getElem? (i := 125) rfl)
theorem dX9_best_243 : decode cX9_best 243 = .ok (.iaload, 1) := tX9_best_ok (243, .iaload, 1) (List.mem_of_getElem? (i := 126) rfl)
theorem dX9_best_244 : decode cX9_best 244 = .ok (.iload_n 3, 1) := tX9_best_ok (244, .iload_n 3, 1) (List.mem_of_getElem? (i := 127) rfl)
theorem dX9_best_245 : decode cX9_best 245 = .ok (.invokestatic 222, 3) := tX9_best_ok (245, .invokestatic 222, 3) (List.mem_of_getElem? (i := 128) rfl)
theorem dX9_best_248 : decode cX9_best 248 = .ok (.istore 4, 2) := tX9_best_ok (248, .istore 4, 2) (List.mem_of_getElem? (i := 129) rfl)
theorem dX9_best_250 : decode cX9_best 250 = .ok (.iinc 5 1, 3) := tX9_best_ok (250, .iinc 5 1, 3) (List.mem_of_getElem? (i := 130) rfl)
theorem dX9_best_253 : decode cX9_best 253 = .ok (.goto (-40), 3) := tX9_best_ok (253, .goto (-40), 3) (List.mem_of_getElem? (i := 131) rfl)
theorem dX9_best_256 : decode cX9_best 256 = .ok (.iload 4, 2) := tX9_best_ok (256, .iload 4, 2) (List.mem_of_getElem? (i := 132) rfl)
theorem dX9_best_258 : decode cX9_best 258 = .ok (.ifCond .ge 12, 3) := tX9_best_ok (258, .ifCond .ge 12, 3) (List.mem_of_getElem? (i := 133) rfl)
theorem dX9_best_261 : decode cX9_best 261 = .ok (.aload_n 0, 1) := tX9_best_ok (261, .aload_n 0, 1) (List.mem_of_getElem? (i := 134) rfl)
theorem dX9_best_262 : decode cX9_best 262 = .ok (.bipush 8, 2) := tX9_best_ok (262, .bipush 8, 2) (List.mem_of_getElem? (i := 135) rfl)
theorem dX9_best_264 : decode cX9_best 264 = .ok (.invokevirtual 156, 3) := tX9_best_ok (264, .invokevirtual 156, 3) (List.mem_of_getElem? (i := 136) rfl)
theorem dX9_best_267 : decode cX9_best 267 = .ok (.goto 5, 3) := tX9_best_ok (267, .goto 5, 3) (List.mem_of_getElem? (i := 137) rfl)
theorem dX9_best_270 : decode cX9_best 270 = .ok (.iload 4, 2) := tX9_best_ok (270, .iload 4, 2) (List.mem_of_getElem? (i := 138) rfl)
theorem dX9_best_272 : decode cX9_best 272 = .ok (.ireturn, 1) := tX9_best_ok (272, .ireturn, 1) (List.mem_of_getElem? (i := 139) rfl)

def tX9_better : List (Nat × Instr × Nat) := [
  (0, .iload_n 0, 1),
  (1, .ifCond .lt 7, 3),
  (4, .iload_n 1, 1),
  (5, .ifCond .ge 9, 3),
  (8, .iload_n 0, 1),
  (9, .iload_n 1, 1),
  (10, .invokestatic 226, 3),
  (13, .ireturn, 1),
  (14, .iload_n 2, 1),
  (15, .ifCond .eq 11, 3),
  (18, .iload_n 0, 1),
  (19, .iload_n 1, 1),
  (20, .invokestatic 226, 3),
  (23, .goto 8, 3),
  (26, .iload_n 0, 1),
  (27, .iload_n 1, 1),
  (28, .invokestatic 231, 3),
  (31, .ireturn, 1)]
set_option maxRecDepth 100000 in
theorem tX9_better_ok : ∀ q ∈ tX9_better, decode cX9_better q.1 = .ok q.2 := by decide +kernel
theorem dX9_better_0 : decode cX9_better 0 = .ok (.iload_n 0, 1) := tX9_better_ok (0, .iload_n 0, 1) (List.mem_of_getElem? (i := 0) rfl)
theorem dX9_better_1 : decode cX9_better 1 = .ok (.ifCond .lt 7, 3) := tX9_better_ok (1, .ifCond .lt 7, 3) (List.mem_of_getElem? (i := 1) rfl)
theorem dX9_better_4 : decode cX9_better 4 = .ok (.iload_n 1, 1) := tX9_better_ok (4, .iload_n 1, 1) (List.mem_of_getElem? (i := 2) rfl)
theorem dX9_better_5 : decode cX9_better 5 = .ok (.ifCond .ge 9, 3) := tX9_better_ok (5, .ifCond .ge 9, 3) (List.mem_of_getElem? (i := 3) rfl)
theorem dX9_better_8 : decode cX9_better 8 = .ok (.iload_n 0, 1) := tX9_better_ok (8, .iload_n 0, 1) (List.mem_of_getElem? (i := 4) rfl)
theorem dX9_better_9 : decode cX9_better 9 = .ok (.iload_n 1, 1) := tX9_better_ok (9, .iload_n 1, 1) (List.mem_of_getElem? (i := 5) rfl)
theorem dX9_better_10 : decode cX9_better 10 = .ok (.invokestatic 226, 3) := tX9_better_ok (10, .invokestatic 226, 3) (List.mem_of_getElem? (i := 6) rfl)
theorem dX9_better_13 : decode cX9_better 13 = .ok (.ireturn, 1) := tX9_better_ok (13, .ireturn, 1) (List.mem_of_getElem? (i := 7) rfl)
theorem dX9_better_14 : decode cX9_better 14 = .ok (.iload_n 2, 1) := tX9_better_ok (14, .iload_n 2, 1) (List.mem_of_getElem? (i := 8) rfl)
theorem dX9_better_15 : decode cX9_better 15 = .ok (.ifCond .eq 11, 3) := tX9_better_ok (15, .ifCond .eq 11, 3) (List.mem_of_getElem? (i := 9) rfl)
theorem dX9_better_18 : decode cX9_better 18 = .ok (.iload_n 0, 1) := tX9_better_ok (18, .iload_n 0, 1) (List.mem_of_getElem? (i := 10) rfl)
theorem dX9_better_19 : decode cX9_better 19 = .ok (.iload_n 1, 1) := tX9_better_ok (19, .iload_n 1, 1) (List.mem_of_getElem? (i := 11) rfl)
theorem dX9_better_20 : decode cX9_better 20 = .ok (.invokestatic 226, 3) := tX9_better_ok (20, .invokestatic 226, 3) (List.mem_of_getElem? (i := 12) rfl)
theorem dX9_better_23 : decode cX9_better 23 = .ok (.goto 8, 3) := tX9_better_ok (23, .goto 8, 3) (List.mem_of_getElem? (i := 13) rfl)
theorem dX9_better_26 : decode cX9_better 26 = .ok (.iload_n 0, 1) := tX9_better_ok (26, .iload_n 0, 1) (List.mem_of_getElem? (i := 14) rfl)
theorem dX9_better_27 : decode cX9_better 27 = .ok (.iload_n 1, 1) := tX9_better_ok (27, .iload_n 1, 1) (List.mem_of_getElem? (i := 15) rfl)
theorem dX9_better_28 : decode cX9_better 28 = .ok (.invokestatic 231, 3) := tX9_better_ok (28, .invokestatic 231, 3) (List.mem_of_getElem? (i := 16) rfl)
theorem dX9_better_31 : decode cX9_better 31 = .ok (.ireturn, 1) := tX9_better_ok (31, .ireturn, 1) (List.mem_of_getElem? (i := 17) rfl)

def tX9_lightens : List (Nat × Instr × Nat) := [
  (0, .iconst 0, 1),
  (1, .istore 6, 2),
  (3, .iload 6, 2),
  (5, .aload_n 0, 1),
  (6, .getfield 19, 3),
  (9, .if_icmp .ge 92, 3),
  (12, .aload_n 0, 1),
  (13, .iload_n 2, 1),
  (14, .iload 6, 2),
  (16, .invokevirtual 175, 3),
  (19, .istore 7, 2),
  (21, .iload 7, 2),
  (23, .ifCond .ge 6, 3),
  (26, .goto 69, 3),
  (29, .aload_n 0, 1),
  (30, .getfield 54, 3),
  (33, .bipush 8, 2),
  (35, .iload_n 2, 1),
  (36, .imul, 1),
  (37, .iload_n 3, 1),
  (38, .iadd, 1),
  (39, .iaload, 1),
  (40, .aload_n 0, 1),
  (41, .iload_n 1, 1),
  (42, .iload 6, 2),
  (44, .iload 7, 2),
  (46, .iload 4, 2),
  (48, .ifCond .ne 7, 3),
  (51, .iconst (-1), 1),
  (52, .goto 4, 3),
  (55, .iload_n 3, 1),
  (56, .invokevirtual 210, 3),
  (59, .iadd, 1),
  (60, .istore 8, 2),
  (62, .aload_n 0, 1),
  (63, .getfield 57, 3),
  (66, .bipush 8, 2),
  (68, .iload 7, 2),
  (70, .imul, 1),
  (71, .iload 6, 2),
  (73, .iadd, 1),
  (74, .aload_n 0, 1),
  (75, .getfield 57, 3),
  (78, .bipush 8, 2),
  (80, .iload 7, 2),
  (82, .imul, 1),
  (83, .iload 6, 2),
  (85, .iadd, 1),
  (86, .iaload, 1),
  (87, .iload 8, 2),
  (89, .iload 5, 2),
  (91, .invokestatic 222, 3),
  (94, .iastore, 1),
  (95, .iinc 6 1, 3),
  (98, .goto (-95), 3),
  (101, .return_, 1)]
set_option maxRecDepth 100000 in
theorem tX9_lightens_ok : ∀ q ∈ tX9_lightens, decode cX9_lightens q.1 = .ok q.2 := by decide +kernel
theorem dX9_lightens_0 : decode cX9_lightens 0 = .ok (.iconst 0, 1) := tX9_lightens_ok (0, .iconst 0, 1) (List.mem_of_getElem? (i := 0) rfl)
theorem dX9_lightens_1 : decode cX9_lightens 1 = .ok (.istore 6, 2) := tX9_lightens_ok (1, .istore 6, 2) (List.mem_of_getElem? (i := 1) rfl)
theorem dX9_lightens_3 : decode cX9_lightens 3 = .ok (.iload 6, 2) := tX9_lightens_ok (3, .iload 6, 2) (List.mem_of_getElem? (i := 2) rfl)
theorem dX9_lightens_5 : decode cX9_lightens 5 = .ok (.aload_n 0, 1) := tX9_lightens_ok (5, .aload_n 0, 1) (List.mem_of_getElem? (i := 3) rfl)
theorem dX9_lightens_6 : decode cX9_lightens 6 = .ok (.getfield 19, 3) := tX9_lightens_ok (6, .getfield 19, 3) (List.mem_of_getElem? (i := 4) rfl)
theorem dX9_lightens_9 : decode cX9_lightens 9 = .ok (.if_icmp .ge 92, 3) := tX9_lightens_ok (9, .if_icmp .ge 92, 3) (List.mem_of_getElem? (i := 5) rfl)
theorem dX9_lightens_12 : decode cX9_lightens 12 = .ok (.aload_n 0, 1) := tX9_lightens_ok (12, .aload_n 0, 1) (List.mem_of_getElem? (i := 6) rfl)
theorem dX9_lightens_13 : decode cX9_lightens 13 = .ok (.iload_n 2, 1) := tX9_lightens_ok (13, .iload_n 2, 1) (List.mem_of_getElem? (i := 7) rfl)
theorem dX9_lightens_14 : decode cX9_lightens 14 = .ok (.iload 6, 2) := tX9_lightens_ok (14, .iload 6, 2) (List.mem_of_getElem? (i := 8) rfl)
theorem dX9_lightens_16 : decode cX9_lightens 16 = .ok (.invokevirtual 175, 3) := tX9_lightens_ok (16, .invokevirtual 175, 3) (List.mem_of_getElem? (i := 9) rfl)
theorem dX9_lightens_19 : decode cX9_lightens 19 = .ok (.istore 7, 2) := tX9_lightens_ok (19, .istore 7, 2) (List.mem_of_getElem? (i := 10) rfl)
theorem dX9_lightens_21 : decode cX9_lightens 21 = .ok (.iload 7, 2) := tX9_lightens_ok (21, .iload 7, 2) (List.mem_of_getElem? (i := 11) rfl)
theorem dX9_lightens_23 : decode cX9_lightens 23 = .ok (.ifCond .ge 6, 3) := tX9_lightens_ok (23, .ifCond .ge 6, 3) (List.mem_of_getElem? (i := 12) rfl)
theorem dX9_lightens_26 : decode cX9_lightens 26 = .ok (.goto 69, 3) := tX9_lightens_ok (26, .goto 69, 3) (List.mem_of_getElem? (i := 13) rfl)
theorem dX9_lightens_29 : decode cX9_lightens 29 = .ok (.aload_n 0, 1) := tX9_lightens_ok (29, .aload_n 0, 1) (List.mem_of_getElem? (i := 14) rfl)
theorem dX9_lightens_30 : decode cX9_lightens 30 = .ok (.getfield 54, 3) := tX9_lightens_ok (30, .getfield 54, 3) (List.mem_of_getElem? (i := 15) rfl)
theorem dX9_lightens_33 : decode cX9_lightens 33 = .ok (.bipush 8, 2) := tX9_lightens_ok (33, .bipush 8, 2) (List.mem_of_getElem? (i := 16) rfl)
theorem dX9_lightens_35 : decode cX9_lightens 35 = .ok (.iload_n 2, 1) := tX9_lightens_ok (35, .iload_n 2, 1) (List.mem_of_getElem? (i := 17) rfl)
theorem dX9_lightens_36 : decode cX9_lightens 36 = .ok (.imul, 1) := tX9_lightens_ok (36, .imul, 1) (List.mem_of_getElem? (i := 18) rfl)
theorem dX9_lightens_37 : decode cX9_lightens 37 = .ok (.iload_n 3, 1) := tX9_lightens_ok (37, .iload_n 3, 1) (List.mem_of_getElem? (i := 19) rfl)
theorem dX9_lightens_38 : decode cX9_lightens 38 = .ok (.iadd, 1) := tX9_lightens_ok (38, .iadd, 1) (List.mem_of_getElem? (i := 20) rfl)
theorem dX9_lightens_39 : decode cX9_lightens 39 = .ok (.iaload, 1) := tX9_lightens_ok (39, .iaload, 1) (List.mem_of_getElem? (i := 21) rfl)
theorem dX9_lightens_40 : decode cX9_lightens 40 = .ok (.aload_n 0, 1) := tX9_lightens_ok (40, .aload_n 0, 1) (List.mem_of_getElem? (i := 22) rfl)
theorem dX9_lightens_41 : decode cX9_lightens 41 = .ok (.iload_n 1, 1) := tX9_lightens_ok (41, .iload_n 1, 1) (List.mem_of_getElem? (i := 23) rfl)
theorem dX9_lightens_42 : decode cX9_lightens 42 = .ok (.iload 6, 2) := tX9_lightens_ok (42, .iload 6, 2) (List.mem_of_getElem? (i := 24) rfl)
theorem dX9_lightens_44 : decode cX9_lightens 44 = .ok (.iload 7, 2) := tX9_lightens_ok (44, .iload 7, 2) (List.mem_of_getElem? (i := 25) rfl)
theorem dX9_lightens_46 : decode cX9_lightens 46 = .ok (.iload 4, 2) := tX9_lightens_ok (46, .iload 4, 2) (List.mem_of_getElem? (i := 26) rfl)
theorem dX9_lightens_48 : decode cX9_lightens 48 = .ok (.ifCond .ne 7, 3) := tX9_lightens_ok (48, .ifCond .ne 7, 3) (List.mem_of_getElem? (i := 27) rfl)
theorem dX9_lightens_51 : decode cX9_lightens 51 = .ok (.iconst (-1), 1) := tX9_lightens_ok (51, .iconst (-1), 1) (List.mem_of_getElem? (i := 28) rfl)
theorem dX9_lightens_52 : decode cX9_lightens 52 = .ok (.goto 4, 3) := tX9_lightens_ok (52, .goto 4, 3) (List.mem_of_getElem? (i := 29) rfl)
theorem dX9_lightens_55 : decode cX9_lightens 55 = .ok (.iload_n 3, 1) := tX9_lightens_ok (55, .iload_n 3, 1) (List.mem_of_getElem? (i := 30) rfl)
theorem dX9_lightens_56 : decode cX9_lightens 56 = .ok (.invokevirtual 210, 3) := tX9_lightens_ok (56, .invokevirtual 210, 3) (List.mem_of_getElem? (i := 31) rfl)
theorem dX9_lightens_59 : decode cX9_lightens 59 = .ok (.iadd, 1) := tX9_lightens_ok (59, .iadd, 1) (List.mem_of_getElem? (i := 32) rfl)
theorem dX9_lightens_60 : decode cX9_lightens 60 = .ok (.istore 8, 2) := tX9_lightens_ok (60, .istore 8, 2) (List.mem_of_getElem? (i := 33) rfl)
theorem dX9_lightens_62 : decode cX9_lightens 62 = .ok (.aload_n 0, 1) := tX9_lightens_ok (62, .aload_n 0, 1) (List.mem_of_getElem? (i := 34) rfl)
theorem dX9_lightens_63 : decode cX9_lightens 63 = .ok (.getfield 57, 3) := tX9_lightens_ok (63, .getfield 57, 3) (List.mem_of_getElem? (i := 35) rfl)
theorem dX9_lightens_66 : decode cX9_lightens 66 = .ok (.bipush 8, 2) := tX9_lightens_ok (66, .bipush 8, 2) (List.mem_of_getElem? (i := 36) rfl)
theorem dX9_lightens_68 : decode cX9_lightens 68 = .ok (.iload 7, 2) := tX9_lightens_ok (68, .iload 7, 2) (List.mem_of_getElem? (i := 37) rfl)
theorem dX9_lightens_70 : decode cX9_lightens 70 = .ok (.imul, 1) := tX9_lightens_ok (70, .imul, 1) (List.mem_of_getElem? (i := 38) rfl)
theorem dX9_lightens_71 : decode cX9_lightens 71 = .ok (.iload 6, 2) := tX9_lightens_ok (71, .iload 6, 2) (List.mem_of_getElem? (i := 39) rfl)
theorem dX9_lightens_73 : decode cX9_lightens 73 = .ok (.iadd, 1) := tX9_lightens_ok (73, .iadd, 1) (List.mem_of_getElem? (i := 40) rfl)
theorem dX9_lightens_74 : decode cX9_lightens 74 = .ok (.aload_n 0, 1) := tX9_lightens_ok (74, .aload_n 0, 1) (List.mem_of_getElem? (i := 41) rfl)
theorem dX9_lightens_75 : decode cX9_lightens 75 = .ok (.getfield 57, 3) := tX9_lightens_ok (75, .getfield 57, 3) (List.mem_of_getElem? (i := 42) rfl)
theorem dX9_lightens_78 : decode cX9_lightens 78 = .ok (.bipush 8, 2) := tX9_lightens_ok (78, .bipush 8, 2) (List.mem_of_getElem? (i := 43) rfl)
theorem dX9_lightens_80 : decode cX9_lightens 80 = .ok (.iload 7, 2) := tX9_lightens_ok (80, .iload 7, 2) (List.mem_of_getElem? (i := 44) rfl)
theorem dX9_lightens_82 : decode cX9_lightens 82 = .ok (.imul, 1) := tX9_lightens_ok (82, .imul, 1) (List.mem_of_getElem? (i := 45) rfl)
theorem dX9_lightens_83 : decode cX9_lightens 83 = .ok (.iload 6, 2) := tX9_lightens_ok (83, .iload 6, 2) (List.mem_of_getElem? (i := 46) rfl)
theorem dX9_lightens_85 : decode cX9_lightens 85 = .ok (.iadd, 1) := tX9_lightens_ok (85, .iadd, 1) (List.mem_of_getElem? (i := 47) rfl)
theorem dX9_lightens_86 : decode cX9_lightens 86 = .ok (.iaload, 1) := tX9_lightens_ok (86, .iaload, 1) (List.mem_of_getElem? (i := 48) rfl)
theorem dX9_lightens_87 : decode cX9_lightens 87 = .ok (.iload 8, 2) := tX9_lightens_ok (87, .iload 8, 2) (List.mem_of_getElem? (i := 49) rfl)
theorem dX9_lightens_89 : decode cX9_lightens 89 = .ok (.iload 5, 2) := tX9_lightens_ok (89, .iload 5, 2) (List.mem_of_getElem? (i := 50) rfl)
theorem dX9_lightens_91 : decode cX9_lightens 91 = .ok (.invokestatic 222, 3) := tX9_lightens_ok (91, .invokestatic 222, 3) (List.mem_of_getElem? (i := 51) rfl)
theorem dX9_lightens_94 : decode cX9_lightens 94 = .ok (.iastore, 1) := tX9_lightens_ok (94, .iastore, 1) (List.mem_of_getElem? (i := 52) rfl)
theorem dX9_lightens_95 : decode cX9_lightens 95 = .ok (.iinc 6 1, 3) := tX9_lightens_ok (95, .iinc 6 1, 3) (List.mem_of_getElem? (i := 53) rfl)
theorem dX9_lightens_98 : decode cX9_lightens 98 = .ok (.goto (-95), 3) := tX9_lightens_ok (98, .goto (-95), 3) (List.mem_of_getElem? (i := 54) rfl)
theorem dX9_lightens_101 : decode cX9_lightens 101 = .ok (.return_, 1) := tX9_lightens_ok (101, .return_, 1) (List.mem_of_getElem? (i := 55) rfl)

def tX9_walk : List (Nat × Instr × Nat) := [
  (0, .aload_n 0, 1),
  (1, .iconst 0, 1),
  (2, .putfield 112, 3),
  (5, .aload_n 0, 1),
  (6, .iconst 0, 1),
  (7, .putfield 115, 3),
  (10, .iload_n 1, 1),
  (11, .ifCond .lt 9, 3),
  (14, .iload_n 1, 1),
  (15, .bipush 60, 2),
  (17, .if_icmp .le 9, 3),
  (20, .aload_n 0, 1),
  (21, .iconst 2, 1),
  (22, .invokevirtual 156, 3),
  (25, .ireturn, 1),
  (26, .aload_n 0, 1),
  (27, .invokevirtual 186, 3),
  (30, .ifCond .ne 10, 3),
  (33, .aload_n 0, 1),
  (34, .bipush 7, 2),
  (36, .invokevirtual 156, 3),
  (39, .ireturn, 1),
  (40, .aload_n 0, 1),
  (41, .iload_n 1, 1),
  (42, .invokevirtual 190, 3),
  (45, .lstore 4, 2),
  (47, .lload_n 2, 1),
  (48, .lconst 0, 1),
  (49, .lcmp, 1),
  (50, .ifCond .lt 19, 3),
  (53, .lload 4, 2),
  (55, .ldc2_w 173, 3),
  (58, .lcmp, 1),
  (59, .ifCond .ge 17, 3),
  (62, .lload_n 2, 1),
  (63, .lload 4, 2),
  (65, .lcmp, 1),
  (66, .ifCond .lt 10, 3),
  (69, .aload_n 0, 1),
  (70, .bipush 8, 2),
  (72, .invokevirtual 156, 3),
  (75, .ireturn, 1),
  (76, .lload 4, 2),
  (78, .ldc2_w 173, 3),
  (81, .lcmp, 1),
  (82, .ifCond .lt 10, 3),
  (85, .aload_n 0, 1),
  (86, .bipush 9, 2),
  (88, .invokevirtual 156, 3),
  (91, .ireturn, 1),
  (92, .aload_n 0, 1),
  (93, .iload_n 1, 1),
  (94, .putfield 234, 3),
  (97, .lload_n 2, 1),
  (98, .lstore 6, 2),
  (100, .aload_n 0, 1),
  (101, .getfield 161, 3),
  (104, .aload_n 0, 1),
  (105, .getfield 164, 3),
  (108, .invokestatic 144, 3),
  (111, .istore 8, 2),
  (113, .iload_n 1, 1),
  (114, .iconst 1, 1),
  (115, .isub, 1),
  (116, .istore 9, 2),
  (118, .iload 9, 2),
  (120, .ifCond .lt 115, 3),
  (123, .iconst 0, 1),
  (124, .istore 10, 2),
  (126, .iconst 1, 1),
  (127, .istore 11, 2),
  (129, .iload 11, 2),
  (131, .ifCond .eq 71, 3),
  (134, .aload_n 0, 1),
  (135, .iload 8, 2),
  (137, .iload 10, 2),
  (139, .invokevirtual 175, 3),
  (142, .istore 12, 2),
  (144, .iload 12, 2),
  (146, .ifCond .ge 7, 3),
  (149, .lconst 0, 1),
  (150, .goto 17, 3),
  (153, .aload_n 0, 1),
  (154, .getfield 43, 3),
  (157, .sipush 3721, 3),
  (160, .iload 9, 2),
  (162, .imul, 1),
  (163, .iload 12, 2),
  (165, .iadd, 1),
  (166, .laload, 1),
  (167, .lstore 13, 2),
  (169, .lload 6, 2),
  (171, .lload 13, 2),
  (173, .lcmp, 1),
  (174, .ifCond .lt 7, 3),
  (177, .iconst 1, 1),
  (178, .goto 4, 3),
  (181, .iconst 0, 1),
  (182, .istore 11, 2),
  (184, .iload 11, 2),
  (186, .ifCond .eq 13, 3),
  (189, .lload 6, 2),
  (191, .lload 13, 2),
  (193, .lsub, 1),
  (194, .lstore 6, 2),
  (196, .iinc 10 1, 3),
  (199, .goto (-70), 3),
  (202, .aload_n 0, 1),
  (203, .getfield 78, 3),
  (206, .iload_n 1, 1),
  (207, .iconst 1, 1),
  (208, .isub, 1),
  (209, .iload 9, 2),
  (211, .isub, 1),
  (212, .bipush 48, 2),
  (214, .iload 10, 2),
  (216, .iadd, 1),
  (217, .i2b, 1),
  (218, .bastore, 1),
  (219, .aload_n 0, 1),
  (220, .iload 8, 2),
  (222, .iload 10, 2),
  (224, .invokevirtual 175, 3),
  (227, .istore 8, 2),
  (229, .iinc 9 (-1), 3),
  (232, .goto (-114), 3),
  (235, .iload_n 1, 1),
  (236, .ireturn, 1)]
set_option maxRecDepth 100000 in
theorem tX9_walk_ok : ∀ q ∈ tX9_walk, decode cX9_walk q.1 = .ok q.2 := by decide +kernel
theorem dX9_walk_0 : decode cX9_walk 0 = .ok (.aload_n 0, 1) := tX9_walk_ok (0, .aload_n 0, 1) (List.mem_of_getElem? (i := 0) rfl)
theorem dX9_walk_1 : decode cX9_walk 1 = .ok (.iconst 0, 1) := tX9_walk_ok (1, .iconst 0, 1) (List.mem_of_getElem? (i := 1) rfl)
theorem dX9_walk_2 : decode cX9_walk 2 = .ok (.putfield 112, 3) := tX9_walk_ok (2, .putfield 112, 3) (List.mem_of_getElem? (i := 2) rfl)
theorem dX9_walk_5 : decode cX9_walk 5 = .ok (.aload_n 0, 1) := tX9_walk_ok (5, .aload_n 0, 1) (List.mem_of_getElem? (i := 3) rfl)
theorem dX9_walk_6 : decode cX9_walk 6 = .ok (.iconst 0, 1) := tX9_walk_ok (6, .iconst 0, 1) (List.mem_of_getElem? (i := 4) rfl)
theorem dX9_walk_7 : decode cX9_walk 7 = .ok (.putfield 115, 3) := tX9_walk_ok (7, .putfield 115, 3) (List.mem_of_getElem? (i := 5) rfl)
theorem dX9_walk_10 : decode cX9_walk 10 = .ok (.iload_n 1, 1) := tX9_walk_ok (10, .iload_n 1, 1) (List.mem_of_getElem? (i := 6) rfl)
theorem dX9_walk_11 : decode cX9_walk 11 = .ok (.ifCond .lt 9, 3) := tX9_walk_ok (11, .ifCond .lt 9, 3) (List.mem_of_getElem? (i := 7) rfl)
theorem dX9_walk_14 : decode cX9_walk 14 = .ok (.iload_n 1, 1) := tX9_walk_ok (14, .iload_n 1, 1) (List.mem_of_getElem? (i := 8) rfl)
theorem dX9_walk_15 : decode cX9_walk 15 = .ok (.bipush 60, 2) := tX9_walk_ok (15, .bipush 60, 2) (List.mem_of_getElem? (i := 9) rfl)
theorem dX9_walk_17 : decode cX9_walk 17 = .ok (.if_icmp .le 9, 3) := tX9_walk_ok (17, .if_icmp .le 9, 3) (List.mem_of_getElem? (i := 10) rfl)
theorem dX9_walk_20 : decode cX9_walk 20 = .ok (.aload_n 0, 1) := tX9_walk_ok (20, .aload_n 0, 1) (List.mem_of_getElem? (i := 11) rfl)
theorem dX9_walk_21 : decode cX9_walk 21 = .ok (.iconst 2, 1) := tX9_walk_ok (21, .iconst 2, 1) (List.mem_of_getElem? (i := 12) rfl)
theorem dX9_walk_22 : decode cX9_walk 22 = .ok (.invokevirtual 156, 3) := tX9_walk_ok (22, .invokevirtual 156, 3) (List.mem_of_getElem? (i := 13) rfl)
theorem dX9_walk_25 : decode cX9_walk 25 = .ok (.ireturn, 1) := tX9_walk_ok (25, .ireturn, 1) (List.mem_of_getElem? (i := 14) rfl)
theorem dX9_walk_26 : decode cX9_walk 26 = .ok (.aload_n 0, 1) := tX9_walk_ok (26, .aload_n 0, 1) (List.mem_of_getElem? (i := 15) rfl)
theorem dX9_walk_27 : decode cX9_walk 27 = .ok (.invokevirtual 186, 3) := tX9_walk_ok (27, .invokevirtual 186, 3) (List.mem_of_getElem? (i := 16) rfl)
theorem dX9_walk_30 : decode cX9_walk 30 = .ok (.ifCond .ne 10, 3) := tX9_walk_ok (30, .ifCond .ne 10, 3) (List.mem_of_getElem? (i := 17) rfl)
theorem dX9_walk_33 : decode cX9_walk 33 = .ok (.aload_n 0, 1) := tX9_walk_ok (33, .aload_n 0, 1) (List.mem_of_getElem? (i := 18) rfl)
theorem dX9_walk_34 : decode cX9_walk 34 = .ok (.bipush 7, 2) := tX9_walk_ok (34, .bipush 7, 2) (List.mem_of_getElem? (i := 19) rfl)
theorem dX9_walk_36 : decode cX9_walk 36 = .ok (.invokevirtual 156, 3) := tX9_walk_ok (36, .invokevirtual 156, 3) (List.mem_of_getElem? (i := 20) rfl)
theorem dX9_walk_39 : decode cX9_walk 39 = .ok (.ireturn, 1) := tX9_walk_ok (39, .ireturn, 1) (List.mem_of_getElem? (i := 21) rfl)
theorem dX9_walk_40 : decode cX9_walk 40 = .ok (.aload_n 0, 1) := tX9_walk_ok (40, .aload_n 0, 1) (List.mem_of_getElem? (i := 22) rfl)
theorem dX9_walk_41 : decode cX9_walk 41 = .ok (.iload_n 1, 1) := tX9_walk_ok (41, .iload_n 1, 1) (List.mem_of_getElem? (i := 23) rfl)
theorem dX9_walk_42 : decode cX9_walk 42 = .ok (.invokevirtual 190, 3) := tX9_walk_ok (42, .invokevirtual 190, 3) (List.mem_of_getElem? (i := 24) rfl)
theorem dX9_walk_45 : decode cX9_walk 45 = .ok (.lstore 4, 2) := tX9_walk_ok (45, .lstore 4, 2) (List.mem_of_getElem? (i := 25) rfl)
theorem dX9_walk_47 : decode cX9_walk 47 = .ok (.lload_n 2, 1) := tX9_walk_ok (47, .lload_n 2, 1) (List.mem_of_getElem? (i := 26) rfl)
theorem dX9_walk_48 : decode cX9_walk 48 = .ok (.lconst 0, 1) := tX9_walk_ok (48, .lconst 0, 1) (List.mem_of_getElem? (i := 27) rfl)
theorem dX9_walk_49 : decode cX9_walk 49 = .ok (.lcmp, 1) := tX9_walk_ok (49, .lcmp, 1) (List.mem_of_getElem? (i := 28) rfl)
theorem dX9_walk_50 : decode cX9_walk 50 = .ok (.ifCond .lt 19, 3) := tX9_walk_ok (50, .ifCond .lt 19, 3) (List.mem_of_getElem? (i := 29) rfl)
theorem dX9_walk_53 : decode cX9_walk 53 = .ok (.lload 4, 2) := tX9_walk_ok (53, .lload 4, 2) (List.mem_of_getElem? (i := 30) rfl)
theorem dX9_walk_55 : decode cX9_walk 55 = .ok (.ldc2_w 173, 3) := tX9_walk_ok (55, .ldc2_w 173, 3) (List.mem_of_getElem? (i := 31) rfl)
theorem dX9_walk_58 : decode cX9_walk 58 = .ok (.lcmp, 1) := tX9_walk_ok (58, .lcmp, 1) (List.mem_of_getElem? (i := 32) rfl)
theorem dX9_walk_59 : decode cX9_walk 59 = .ok (.ifCond .ge 17, 3) := tX9_walk_ok (59, .ifCond .ge 17, 3) (List.mem_of_getElem? (i := 33) rfl)
theorem dX9_walk_62 : decode cX9_walk 62 = .ok (.lload_n 2, 1) := tX9_walk_ok (62, .lload_n 2, 1) (List.mem_of_getElem? (i := 34) rfl)
theorem dX9_walk_63 : decode cX9_walk 63 = .ok (.lload 4, 2) := tX9_walk_ok (63, .lload 4, 2) (List.mem_of_getElem? (i := 35) rfl)
theorem dX9_walk_65 : decode cX9_walk 65 = .ok (.lcmp, 1) := tX9_walk_ok (65, .lcmp, 1) (List.mem_of_getElem? (i := 36) rfl)
theorem dX9_walk_66 : decode cX9_walk 66 = .ok (.ifCond .lt 10, 3) := tX9_walk_ok (66, .ifCond .lt 10, 3) (List.mem_of_getElem? (i := 37) rfl)
theorem dX9_walk_69 : decode cX9_walk 69 = .ok (.aload_n 0, 1) := tX9_walk_ok (69, .aload_n 0, 1) (List.mem_of_getElem? (i := 38) rfl)
theorem dX9_walk_70 : decode cX9_walk 70 = .ok (.bipush 8, 2) := tX9_walk_ok (70, .bipush 8, 2) (List.mem_of_getElem? (i := 39) rfl)
theorem dX9_walk_72 : decode cX9_walk 72 = .ok (.invokevirtual 156, 3) := tX9_walk_ok (72, .invokevirtual 156, 3) (List.mem_of_getElem? (i := 40) rfl)
theorem dX9_walk_75 : decode cX9_walk 75 = .ok (.ireturn, 1) := tX9_walk_ok (75, .ireturn, 1) (List.mem_of_getElem? (i := 41) rfl)
theorem dX9_walk_76 : decode cX9_walk 76 = .ok (.lload 4, 2) := tX9_walk_ok (76, .lload 4, 2) (List.mem_of_getElem? (i := 42) rfl)
theorem dX9_walk_78 : decode cX9_walk 78 = .ok (.ldc2_w 173, 3) := tX9_walk_ok (78, .ldc2_w 173, 3) (List.mem_of_getElem? (i := 43) rfl)
theorem dX9_walk_81 : decode cX9_walk 81 = .ok (.lcmp, 1) := tX9_walk_ok (81, .lcmp, 1) (List.mem_of_getElem? (i := 44) rfl)
theorem dX9_walk_82 : decode cX9_walk 82 = .ok (.ifCond .lt 10, 3) := tX9_walk_ok (82, .ifCond .lt 10, 3) (List.mem_of_getElem? (i := 45) rfl)
theorem dX9_walk_85 : decode cX9_walk 85 = .ok (.aload_n 0, 1) := tX9_walk_ok (85, .aload_n 0, 1) (List.mem_of_getElem? (i := 46) rfl)
theorem dX9_walk_86 : decode cX9_walk 86 = .ok (.bipush 9, 2) := tX9_walk_ok (86, .bipush 9, 2) (List.mem_of_getElem? (i := 47) rfl)
theorem dX9_walk_88 : decode cX9_walk 88 = .ok (.invokevirtual 156, 3) := tX9_walk_ok (88, .invokevirtual 156, 3) (List.mem_of_getElem? (i := 48) rfl)
theorem dX9_walk_91 : decode cX9_walk 91 = .ok (.ireturn, 1) := tX9_walk_ok (91, .ireturn, 1) (List.mem_of_getElem? (i := 49) rfl)
theorem dX9_walk_92 : decode cX9_walk 92 = .ok (.aload_n 0, 1) := tX9_walk_ok (92, .aload_n 0, 1) (List.mem_of_getElem? (i := 50) rfl)
theorem dX9_walk_93 : decode cX9_walk 93 = .ok (.iload_n 1, 1) := tX9_walk_ok (93, .iload_n 1, 1) (List.mem_of_getElem? (i := 51) rfl)
theorem dX9_walk_94 : decode cX9_walk 94 = .ok (.putfield 234, 3) := tX9_walk_ok (94, .putfield 234, 3) (List.mem_of_getElem? (i := 52) rfl)
theorem dX9_walk_97 : decode cX9_walk 97 = .ok (.lload_n 2, 1) := tX9_walk_ok (97, .lload_n 2, 1) (List.mem_of_getElem? (i := 53) rfl)
theorem dX9_walk_98 : decode cX9_walk 98 = .ok (.lstore 6, 2) := tX9_walk_ok (98, .lstore 6, 2) (List.mem_of_getElem? (i := 54) rfl)
theorem dX9_walk_100 : decode cX9_walk 100 = .ok (.aload_n 0, 1) := tX9_walk_ok (100, .aload_n 0, 1) (List.mem_of_getElem? (i := 55) rfl)
theorem dX9_walk_101 : decode cX9_walk 101 = .ok (.getfield 161, 3) := tX9_walk_ok (101, .getfield 161, 3) (List.mem_of_getElem? (i := 56) rfl)
theorem dX9_walk_104 : decode cX9_walk 104 = .ok (.aload_n 0, 1) := tX9_walk_ok (104, .aload_n 0, 1) (List.mem_of_getElem? (i := 57) rfl)
theorem dX9_walk_105 : decode cX9_walk 105 = .ok (.getfield 164, 3) := tX9_walk_ok (105, .getfield 164, 3) (List.mem_of_getElem? (i := 58) rfl)
theorem dX9_walk_108 : decode cX9_walk 108 = .ok (.invokestatic 144, 3) := tX9_walk_ok (108, .invokestatic 144, 3) (List.mem_of_getElem? (i := 59) rfl)
theorem dX9_walk_111 : decode cX9_walk 111 = .ok (.istore 8, 2) := tX9_walk_ok (111, .istore 8, 2) (List.mem_of_getElem? (i := 60) rfl)
theorem dX9_walk_113 : decode cX9_walk 113 = .ok (.iload_n 1, 1) := tX9_walk_ok (113, .iload_n 1, 1) (List.mem_of_getElem? (i := 61) rfl)
theorem dX9_walk_114 : decode cX9_walk 114 = .ok (.iconst 1, 1) := tX9_walk_ok (114, .iconst 1, 1) (List.mem_of_getElem? (i := 62) rfl)
theorem dX9_walk_115 : decode cX9_walk 115 = .ok (.isub, 1) := tX9_walk_ok (115, .isub, 1) (List.mem_of_getElem? (i := 63) rfl)
theorem dX9_walk_116 : decode cX9_walk 116 = .ok (.istore 9, 2) := tX9_walk_ok (116, .istore 9, 2) (List.mem_of_getElem? (i := 64) rfl)
theorem dX9_walk_118 : decode cX9_walk 118 = .ok (.iload 9, 2) := tX9_walk_ok (118, .iload 9, 2) (List.mem_of_getElem? (i := 65) rfl)
theorem dX9_walk_120 : decode cX9_walk 120 = .ok (.ifCond .lt 115, 3) := tX9_walk_ok (120, .ifCond .lt 115, 3) (List.mem_of_getElem? (i := 66) rfl)
theorem dX9_walk_123 : decode cX9_walk 123 = .ok (.iconst 0, 1) := tX9_walk_ok (123, .iconst 0, 1) (List.mem_of_getElem? (i := 67) rfl)
theorem dX9_walk_124 : decode cX9_walk 124 = .ok (.istore 10, 2) := tX9_walk_ok (124, .istore 10, 2) (List.mem_of_getElem? (i := 68) rfl)
theorem dX9_walk_126 : decode cX9_walk 126 = .ok (.iconst 1, 1) := tX9_walk_ok (126, .iconst 1, 1) (List.mem_of_getElem? (i := 69) rfl)
theorem dX9_walk_127 : decode cX9_walk 127 = .ok (.istore 11, 2) := tX9_walk_ok (127, .istore 11, 2) (List.mem_of_getElem? (i := 70) rfl)
theorem dX9_walk_129 : decode cX9_walk 129 = .ok (.iload 11, 2) := tX9_walk_ok (129, .iload 11, 2) (List.mem_of_getElem? (i := 71) rfl)
theorem dX9_walk_131 : decode cX9_walk 131 = .ok (.ifCond .eq 71, 3) := tX9_walk_ok (131, .ifCond .eq 71, 3) (List.mem_of_getElem? (i := 72) rfl)
theorem dX9_walk_134 : decode cX9_walk 134 = .ok (.aload_n 0, 1) := tX9_walk_ok (134, .aload_n 0, 1) (List.mem_of_getElem? (i := 73) rfl)
theorem dX9_walk_135 : decode cX9_walk 135 = .ok (.iload 8, 2) := tX9_walk_ok (135, .iload 8, 2) (List.mem_of_getElem? (i := 74) rfl)
theorem dX9_walk_137 : decode cX9_walk 137 = .ok (.iload 10, 2) := tX9_walk_ok (137, .iload 10, 2) (List.mem_of_getElem? (i := 75) rfl)
theorem dX9_walk_139 : decode cX9_walk 139 = .ok (.invokevirtual 175, 3) := tX9_walk_ok (139, .invokevirtual 175, 3) (List.mem_of_getElem? (i := 76) rfl)
theorem dX9_walk_142 : decode cX9_walk 142 = .ok (.istore 12, 2) := tX9_walk_ok (142, .istore 12, 2) (List.mem_of_getElem? (i := 77) rfl)
theorem dX9_walk_144 : decode cX9_walk 144 = .ok (.iload 12, 2) := tX9_walk_ok (144, .iload 12, 2) (List.mem_of_getElem? (i := 78) rfl)
theorem dX9_walk_146 : decode cX9_walk 146 = .ok (.ifCond .ge 7, 3) := tX9_walk_ok (146, .ifCond .ge 7, 3) (List.mem_of_getElem? (i := 79) rfl)
theorem dX9_walk_149 : decode cX9_walk 149 = .ok (.lconst 0, 1) := tX9_walk_ok (149, .lconst 0, 1) (List.mem_of_getElem? (i := 80) rfl)
theorem dX9_walk_150 : decode cX9_walk 150 = .ok (.goto 17, 3) := tX9_walk_ok (150, .goto 17, 3) (List.mem_of_getElem? (i := 81) rfl)
theorem dX9_walk_153 : decode cX9_walk 153 = .ok (.aload_n 0, 1) := tX9_walk_ok (153, .aload_n 0, 1) (List.mem_of_getElem? (i := 82) rfl)
theorem dX9_walk_154 : decode cX9_walk 154 = .ok (.getfield 43, 3) := tX9_walk_ok (154, .getfield 43, 3) (List.mem_of_getElem? (i := 83) rfl)
theorem dX9_walk_157 : decode cX9_walk 157 = .ok (.sipush 3721, 3) := tX9_walk_ok (157, .sipush 3721, 3) (List.mem_of_getElem? (i := 84) rfl)
theorem dX9_walk_160 : decode cX9_walk 160 = .ok (.iload 9, 2) := tX9_walk_ok (160, .iload 9, 2) (List.mem_of_getElem? (i := 85) rfl)
theorem dX9_walk_162 : decode cX9_walk 162 = .ok (.imul, 1) := tX9_walk_ok (162, .imul, 1) (List.mem_of_getElem? (i := 86) rfl)
theorem dX9_walk_163 : decode cX9_walk 163 = .ok (.iload 12, 2) := tX9_walk_ok (163, .iload 12, 2) (List.mem_of_getElem? (i := 87) rfl)
theorem dX9_walk_165 : decode cX9_walk 165 = .ok (.iadd, 1) := tX9_walk_ok (165, .iadd, 1) (List.mem_of_getElem? (i := 88) rfl)
theorem dX9_walk_166 : decode cX9_walk 166 = .ok (.laload, 1) := tX9_walk_ok (166, .laload, 1) (List.mem_of_getElem? (i := 89) rfl)
theorem dX9_walk_167 : decode cX9_walk 167 = .ok (.lstore 13, 2) := tX9_walk_ok (167, .lstore 13, 2) (List.mem_of_getElem? (i := 90) rfl)
theorem dX9_walk_169 : decode cX9_walk 169 = .ok (.lload 6, 2) := tX9_walk_ok (169, .lload 6, 2) (List.mem_of_getElem? (i := 91) rfl)
theorem dX9_walk_171 : decode cX9_walk 171 = .ok (.lload 13, 2) := tX9_walk_ok (171, .lload 13, 2) (List.mem_of_getElem? (i := 92) rfl)
theorem dX9_walk_173 : decode cX9_walk 173 = .ok (.lcmp, 1) := tX9_walk_ok (173, .lcmp, 1) (List.mem_of_getElem? (i := 93) rfl)
theorem dX9_walk_174 : decode cX9_walk 174 = .ok (.ifCond .lt 7, 3) := tX9_walk_ok (174, .ifCond .lt 7, 3) (List.mem_of_getElem? (i := 94) rfl)
theorem dX9_walk_177 : decode cX9_walk 177 = .ok (.iconst 1, 1) := tX9_walk_ok (177, .iconst 1, 1) (List.mem_of_getElem? (i := 95) rfl)
theorem dX9_walk_178 : decode cX9_walk 178 = .ok (.goto 4, 3) := tX9_walk_ok (178, .goto 4, 3) (List.mem_of_getElem? (i := 96) rfl)
theorem dX9_walk_181 : decode cX9_walk 181 = .ok (.iconst 0, 1) := tX9_walk_ok (181, .iconst 0, 1) (List.mem_of_getElem? (i := 97) rfl)
theorem dX9_walk_182 : decode cX9_walk 182 = .ok (.istore 11, 2) := tX9_walk_ok (182, .istore 11, 2) (List.mem_of_getElem? (i := 98) rfl)
theorem dX9_walk_184 : decode cX9_walk 184 = .ok (.iload 11, 2) := tX9_walk_ok (184, .iload 11, 2) (List.mem_of_getElem? (i := 99) rfl)
theorem dX9_walk_186 : decode cX9_walk 186 = .ok (.ifCond .eq 13, 3) := tX9_walk_ok (186, .ifCond .eq 13, 3) (List.mem_of_getElem? (i := 100) rfl)
theorem dX9_walk_189 : decode cX9_walk 189 = .ok (.lload 6, 2) := tX9_walk_ok (189, .lload 6, 2) (List.mem_of_getElem? (i := 101) rfl)
theorem dX9_walk_191 : decode cX9_walk 191 = .ok (.lload 13, 2) := tX9_walk_ok (191, .lload 13, 2) (List.mem_of_getElem? (i := 102) rfl)
theorem dX9_walk_193 : decode cX9_walk 193 = .ok (.lsub, 1) := tX9_walk_ok (193, .lsub, 1) (List.mem_of_getElem? (i := 103) rfl)
theorem dX9_walk_194 : decode cX9_walk 194 = .ok (.lstore 6, 2) := tX9_walk_ok (194, .lstore 6, 2) (List.mem_of_getElem? (i := 104) rfl)
theorem dX9_walk_196 : decode cX9_walk 196 = .ok (.iinc 10 1, 3) := tX9_walk_ok (196, .iinc 10 1, 3) (List.mem_of_getElem? (i := 105) rfl)
theorem dX9_walk_199 : decode cX9_walk 199 = .ok (.goto (-70), 3) := tX9_walk_ok (199, .goto (-70), 3) (List.mem_of_getElem? (i := 106) rfl)
theorem dX9_walk_202 : decode cX9_walk 202 = .ok (.aload_n 0, 1) := tX9_walk_ok (202, .aload_n 0, 1) (List.mem_of_getElem? (i := 107) rfl)
theorem dX9_walk_203 : decode cX9_walk 203 = .ok (.getfield 78, 3) := tX9_walk_ok (203, .getfield 78, 3) (List.mem_of_getElem? (i := 108) rfl)
theorem dX9_walk_206 : decode cX9_walk 206 = .ok (.iload_n 1, 1) := tX9_walk_ok (206, .iload_n 1, 1) (List.mem_of_getElem? (i := 109) rfl)
theorem dX9_walk_207 : decode cX9_walk 207 = .ok (.iconst 1, 1) := tX9_walk_ok (207, .iconst 1, 1) (List.mem_of_getElem? (i := 110) rfl)
theorem dX9_walk_208 : decode cX9_walk 208 = .ok (.isub, 1) := tX9_walk_ok (208, .isub, 1) (List.mem_of_getElem? (i := 111) rfl)
theorem dX9_walk_209 : decode cX9_walk 209 = .ok (.iload 9, 2) := tX9_walk_ok (209, .iload 9, 2) (List.mem_of_getElem? (i := 112) rfl)
theorem dX9_walk_211 : decode cX9_walk 211 = .ok (.isub, 1) := tX9_walk_ok (211, .isub, 1) (List.mem_of_getElem? (i := 113) rfl)
theorem dX9_walk_212 : decode cX9_walk 212 = .ok (.bipush 48, 2) := tX9_walk_ok (212, .bipush 48, 2) (List.mem_of_getElem? (i := 114) rfl)
theorem dX9_walk_214 : decode cX9_walk 214 = .ok (.iload 10, 2) := tX9_walk_ok (214, .iload 10, 2) (List.mem_of_getElem? (i := 115) rfl)
theorem dX9_walk_216 : decode cX9_walk 216 = .ok (.iadd, 1) := tX9_walk_ok (216, .iadd, 1) (List.mem_of_getElem? (i := 116) rfl)
theorem dX9_walk_217 : decode cX9_walk 217 = .ok (.i2b, 1) := tX9_walk_ok (217, .i2b, 1) (List.mem_of_getElem? (i := 117) rfl)
theorem dX9_walk_218 : decode cX9_walk 218 = .ok (.bastore, 1) := tX9_walk_ok (218, .bastore, 1) (List.mem_of_getElem? (i := 118) rfl)
theorem dX9_walk_219 : decode cX9_walk 219 = .ok (.aload_n 0, 1) := tX9_walk_ok (219, .aload_n 0, 1) (List.mem_of_getElem? (i := 119) rfl)
theorem dX9_walk_220 : decode cX9_walk 220 = .ok (.iload 8, 2) := tX9_walk_ok (220, .iload 8, 2) (List.mem_of_getElem? (i := 120) rfl)
theorem dX9_walk_222 : decode cX9_walk 222 = .ok (.iload 10, 2) := tX9_walk_ok (222, .iload 10, 2) (List.mem_of_getElem? (i := 121) rfl)
theorem dX9_walk_224 : decode cX9_walk 224 = .ok (.invokevirtual 175, 3) := tX9_walk_ok (224, .invokevirtual 175, 3) (List.mem_of_getElem? (i := 122) rfl)
theorem dX9_walk_227 : decode cX9_walk 227 = .ok (.istore 8, 2) := tX9_walk_ok (227, .istore 8, 2) (List.mem_of_getElem? (i := 123) rfl)
theorem dX9_walk_229 : decode cX9_walk 229 = .ok (.iinc 9 (-1), 3) := tX9_walk_ok (229, .iinc 9 (-1), 3) (List.mem_of_getElem? (i := 124) rfl)
theorem dX9_walk_232 : decode cX9_walk 232 = .ok (.goto (-114), 3) := tX9_walk_ok (232, .goto (-114), 3) (List.mem_of_getElem? (i := 125) rfl)
theorem dX9_walk_235 : decode cX9_walk 235 = .ok (.iload_n 1, 1) := tX9_walk_ok (235, .iload_n 1, 1) (List.mem_of_getElem? (i := 126) rfl)
theorem dX9_walk_236 : decode cX9_walk 236 = .ok (.ireturn, 1) := tX9_walk_ok (236, .ireturn, 1) (List.mem_of_getElem? (i := 127) rfl)

def tX9_number : List (Nat × Instr × Nat) := [
  (0, .aload_n 0, 1),
  (1, .iconst 0, 1),
  (2, .putfield 112, 3),
  (5, .aload_n 0, 1),
  (6, .iconst 0, 1),
  (7, .putfield 115, 3),
  (10, .iload_n 1, 1),
  (11, .ifCond .lt 8, 3),
  (14, .iload_n 1, 1),
  (15, .iconst 4, 1),
  (16, .if_icmp .lt 10, 3),
  (19, .aload_n 0, 1),
  (20, .iconst 1, 1),
  (21, .invokevirtual 156, 3),
  (24, .i2l, 1),
  (25, .lreturn, 1),
  (26, .iload_n 2, 1),
  (27, .ifCond .lt 9, 3),
  (30, .iload_n 2, 1),
  (31, .bipush 60, 2),
  (33, .if_icmp .le 10, 3),
  (36, .aload_n 0, 1),
  (37, .iconst 2, 1),
  (38, .invokevirtual 156, 3),
  (41, .i2l, 1),
  (42, .lreturn, 1),
  (43, .aload_n 0, 1),
  (44, .getfield 13, 3),
  (47, .iload_n 1, 1),
  (48, .iaload, 1),
  (49, .ifCond .ge 10, 3),
  (52, .aload_n 0, 1),
  (53, .iconst 3, 1),
  (54, .invokevirtual 156, 3),
  (57, .i2l, 1),
  (58, .lreturn, 1),
  (59, .iload_n 2, 1),
  (60, .aload_n 0, 1),
  (61, .getfield 13, 3),
  (64, .iload_n 1, 1),
  (65, .iaload, 1),
  (66, .if_icmp .le 10, 3),
  (69, .aload_n 0, 1),
  (70, .iconst 4, 1),
  (71, .invokevirtual 156, 3),
  (74, .i2l, 1),
  (75, .lreturn, 1),
  (76, .aload_n 0, 1),
  (77, .invokevirtual 186, 3),
  (80, .ifCond .ne 11, 3),
  (83, .aload_n 0, 1),
  (84, .bipush 7, 2),
  (86, .invokevirtual 156, 3),
  (89, .i2l, 1),
  (90, .lreturn, 1),
  (91, .aload_n 0, 1),
  (92, .iload_n 2, 1),
  (93, .invokevirtual 190, 3),
  (96, .lstore_n 3, 1),
  (97, .lconst 0, 1),
  (98, .lstore 5, 2),
  (100, .aload_n 0, 1),
  (101, .getfield 161, 3),
  (104, .aload_n 0, 1),
  (105, .getfield 164, 3),
  (108, .invokestatic 144, 3),
  (111, .istore 7, 2),
  (113, .iload_n 2, 1),
  (114, .iconst 1, 1),
  (115, .isub, 1),
  (116, .istore 8, 2),
  (118, .iload 8, 2),
  (120, .ifCond .lt 124, 3),
  (123, .aload_n 0, 1),
  (124, .getfield 16, 3),
  (127, .bipush 64, 2),
  (129, .iload_n 1, 1),
  (130, .imul, 1),
  (131, .iload_n 2, 1),
  (132, .iadd, 1),
  (133, .iconst 1, 1),
  (134, .isub, 1),
  (135, .iload 8, 2),
  (137, .isub, 1),
  (138, .iaload, 1),
  (139, .istore 9, 2),
  (141, .iload 9, 2),
  (143, .ifCond .lt 12, 3),
  (146, .iload 9, 2),
  (148, .aload_n 0, 1),
  (149, .getfield 19, 3),
  (152, .if_icmp .lt 7, 3),
  (155, .iconst (-1), 1),
  (156, .goto 11, 3),
  (159, .aload_n 0, 1),
  (160, .iload 7, 2),
  (162, .iload 9, 2),
  (164, .invokevirtual 175, 3),
  (167, .istore 10, 2),
  (169, .iload 10, 2),
  (171, .ifCond .ge 11, 3),
  (174, .aload_n 0, 1),
  (175, .bipush 8, 2),
  (177, .invokevirtual 156, 3),
  (180, .i2l, 1),
  (181, .lreturn, 1),
  (182, .iconst 0, 1),
  (183, .istore 11, 2),
  (185, .iload 11, 2),
  (187, .iload 9, 2),
  (189, .if_icmp .ge 45, 3),
  (192, .aload_n 0, 1),
  (193, .iload 7, 2),
  (195, .iload 11, 2),
  (197, .invokevirtual 175, 3),
  (200, .istore 12, 2),
  (202, .iload 12, 2),
  (204, .ifCond .lt 24, 3),
  (207, .lload 5, 2),
  (209, .aload_n 0, 1),
  (210, .getfield 43, 3),
  (213, .sipush 3721, 3),
  (216, .iload 8, 2),
  (218, .imul, 1),
  (219, .iload 12, 2),
  (221, .iadd, 1),
  (222, .laload, 1),
  (223, .invokestatic 178, 3),
  (226, .lstore 5, 2),
  (228, .iinc 11 1, 3),
  (231, .goto (-46), 3),
  (234, .iload 10, 2),
  (236, .istore 7, 2),
  (238, .iinc 8 (-1), 3),
  (241, .goto (-123), 3),
  (244, .iload 7, 2),
  (246, .aload_n 0, 1),
  (247, .getfield 167, 3),
  (250, .aload_n 0, 1),
  (251, .getfield 170, 3),
  (254, .invokestatic 144, 3),
  (257, .if_icmp .eq 11, 3),
  (260, .aload_n 0, 1),
  (261, .bipush 8, 2),
  (263, .invokevirtual 156, 3),
  (266, .i2l, 1),
  (267, .lreturn, 1),
  (268, .lload_n 3, 1),
  (269, .ldc2_w 173, 3),
  (272, .lcmp, 1),
  (273, .ifCond .lt 13, 3),
  (276, .aload_n 0, 1),
  (277, .bipush 9, 2),
  (279, .invokevirtual 156, 3),
  (282, .i2l, 1),
  (283, .goto 5, 3),
  (286, .lload 5, 2),
  (288, .lreturn, 1)]
set_option maxRecDepth 100000 in
theorem tX9_number_ok : ∀ q ∈ tX9_number, decode cX9_number q.1 = .ok q.2 := by decide +kernel
theorem dX9_number_0 : decode cX9_number 0 = .ok (.aload_n 0, 1) := tX9_number_ok (0, .aload_n 0, 1) (List.mem_of_getElem? (i := 0) rfl)
theorem dX9_number_1 : decode cX9_number 1 = .ok (.iconst 0, 1) := tX9_number_ok (1, .iconst 0, 1) (List.mem_of_getElem? (i := 1) rfl)
theorem dX9_number_2 : decode cX9_number 2 = .ok (.putfield 112, 3) := tX9_number_ok (2, .putfield 112, 3) (List.mem_of_getElem? (i := 2) rfl)
theorem dX9_number_5 : decode cX9_number 5 = .ok (.aload_n 0, 1) := tX9_number_ok (5, .aload_n 0, 1) (List.mem_of_getElem? (i := 3) rfl)
theorem dX9_number_6 : decode cX9_number 6 = .ok (.iconst 0, 1) := tX9_number_ok (6, .iconst 0, 1) (List.mem_of_getElem? (i := 4) rfl)
theorem dX9_number_7 : decode cX9_number 7 = .ok (.putfield 115, 3) := tX9_number_ok (7, .putfield 115, 3) (List.mem_of_getElem? (i := 5) rfl)
theorem dX9_number_10 : decode cX9_number 10 = .ok (.iload_n 1, 1) := tX9_number_ok (10, .iload_n 1, 1) (List.mem_of_getElem? (i := 6) rfl)
theorem dX9_number_11 : decode cX9_number 11 = .ok (.ifCond .lt 8, 3) := tX9_number_ok (11, .ifCond .lt 8, 3) (List.mem_of_getElem? (i := 7) rfl)
theorem dX9_number_14 : decode cX9_number 14 = .ok (.iload_n 1, 1) := tX9_number_ok (14, .iload_n 1, 1) (List.mem_of_getElem? (i := 8) rfl)
theorem dX9_number_15 : decode cX9_number 15 = .ok (.iconst 4, 1) := tX9_number_ok (15, .iconst 4, 1) (List.mem_of_getElem? (i := 9) rfl)
theorem dX9_number_16 : decode cX9_number 16 = .ok (.if_icmp .lt 10, 3) := tX9_number_ok (16, .if_icmp .lt 10, 3) (List.mem_of_getElem? (i := 10) rfl)
theorem dX9_number_19 : decode cX9_number 19 = .ok (.aload_n 0, 1) := tX9_number_ok (19, .aload_n 0, 1) (List.mem_of_getElem? (i := 11) rfl)
theorem dX9_number_20 : decode cX9_number 20 = .ok (.iconst 1, 1) := tX9_number_ok (20, .iconst 1, 1) (List.mem_of_getElem? (i := 12) rfl)
theorem dX9_number_21 : decode cX9_number 21 = .ok (.invokevirtual 156, 3) := tX9_number_ok (21, .invokevirtual 156, 3) (List.mem_of_getElem? (i := 13) rfl)
theorem dX9_number_24 : decode cX9_number 24 = .ok (.i2l, 1) := tX9_number_ok (24, .i2l, 1) (List.mem_of_getElem? (i := 14) rfl)
theorem dX9_number_25 : decode cX9_number 25 = .ok (.lreturn, 1) := tX9_number_ok (25, .lreturn, 1) (List.mem_of_getElem? (i := 15) rfl)
theorem dX9_number_26 : decode cX9_number 26 = .ok (.iload_n 2, 1) := tX9_number_ok (26, .iload_n 2, 1) (List.mem_of_getElem? (i := 16) rfl)
theorem dX9_number_27 : decode cX9_number 27 = .ok (.ifCond .lt 9, 3) := tX9_number_ok (27, .ifCond .lt 9, 3) (List.mem_of_getElem? (i := 17) rfl)
theorem dX9_number_30 : decode cX9_number 30 = .ok (.iload_n 2, 1) := tX9_number_ok (30, .iload_n 2, 1) (List.mem_of_getElem? (i := 18) rfl)
theorem dX9_number_31 : decode cX9_number 31 = .ok (.bipush 60, 2) := tX9_number_ok (31, .bipush 60, 2) (List.mem_of_getElem? (i := 19) rfl)
theorem dX9_number_33 : decode cX9_number 33 = .ok (.if_icmp .le 10, 3) := tX9_number_ok (33, .if_icmp .le 10, 3) (List.mem_of_getElem? (i := 20) rfl)
theorem dX9_number_36 : decode cX9_number 36 = .ok (.aload_n 0, 1) := tX9_number_ok (36, .aload_n 0, 1) (List.mem_of_getElem? (i := 21) rfl)
theorem dX9_number_37 : decode cX9_number 37 = .ok (.iconst 2, 1) := tX9_number_ok (37, .iconst 2, 1) (List.mem_of_getElem? (i := 22) rfl)
theorem dX9_number_38 : decode cX9_number 38 = .ok (.invokevirtual 156, 3) := tX9_number_ok (38, .invokevirtual 156, 3) (List.mem_of_getElem? (i := 23) rfl)
theorem dX9_number_41 : decode cX9_number 41 = .ok (.i2l, 1) := tX9_number_ok (41, .i2l, 1) (List.mem_of_getElem? (i := 24) rfl)
theorem dX9_number_42 : decode cX9_number 42 = .ok (.lreturn, 1) := tX9_number_ok (42, .lreturn, 1) (List.mem_of_getElem? (i := 25) rfl)
theorem dX9_number_43 : decode cX9_number 43 = .ok (.aload_n 0, 1) := tX9_number_ok (43, .aload_n 0, 1) (List.mem_of_getElem? (i := 26) rfl)
theorem dX9_number_44 : decode cX9_number 44 = .ok (.getfield 13, 3) := tX9_number_ok (44, .getfield 13, 3) (List.mem_of_getElem? (i := 27) rfl)
theorem dX9_number_47 : decode cX9_number 47 = .ok (.iload_n 1, 1) := tX9_number_ok (47, .iload_n 1, 1) (List.mem_of_getElem? (i := 28) rfl)
theorem dX9_number_48 : decode cX9_number 48 = .ok (.iaload, 1) := tX9_number_ok (48, .iaload, 1) (List.mem_of_getElem? (i := 29) rfl)
theorem dX9_number_49 : decode cX9_number 49 = .ok (.ifCond .ge 10, 3) := tX9_number_ok (49, .ifCond .ge 10, 3) (List.mem_of_getElem? (i := 30) rfl)
theorem dX9_number_52 : decode cX9_number 52 = .ok (.aload_n 0, 1) := tX9_number_ok (52, .aload_n 0, 1) (List.mem_of_getElem? (i := 31) rfl)
theorem dX9_number_53 : decode cX9_number 53 = .ok (.iconst 3, 1) := tX9_number_ok (53, .iconst 3, 1) (List.mem_of_getElem? (i := 32) rfl)
theorem dX9_number_54 : decode cX9_number 54 = .ok (.invokevirtual 156, 3) := tX9_number_ok (54, .invokevirtual 156, 3) (List.mem_of_getElem? (i := 33) rfl)
theorem dX9_number_57 : decode cX9_number 57 = .ok (.i2l, 1) := tX9_number_ok (57, .i2l, 1) (List.mem_of_getElem? (i := 34) rfl)
theorem dX9_number_58 : decode cX9_number 58 = .ok (.lreturn, 1) := tX9_number_ok (58, .lreturn, 1) (List.mem_of_getElem? (i := 35) rfl)
theorem dX9_number_59 : decode cX9_number 59 = .ok (.iload_n 2, 1) := tX9_number_ok (59, .iload_n 2, 1) (List.mem_of_getElem? (i := 36) rfl)
theorem dX9_number_60 : decode cX9_number 60 = .ok (.aload_n 0, 1) := tX9_number_ok (60, .aload_n 0, 1) (List.mem_of_getElem? (i := 37) rfl)
theorem dX9_number_61 : decode cX9_number 61 = .ok (.getfield 13, 3) := tX9_number_ok (61, .getfield 13, 3) (List.mem_of_getElem? (i := 38) rfl)
theorem dX9_number_64 : decode cX9_number 64 = .ok (.iload_n 1, 1) := tX9_number_ok (64, .iload_n 1, 1) (List.mem_of_getElem? (i := 39) rfl)
theorem dX9_number_65 : decode cX9_number 65 = .ok (.iaload, 1) := tX9_number_ok (65, .iaload, 1) (List.mem_of_getElem? (i := 40) rfl)
theorem dX9_number_66 : decode cX9_number 66 = .ok (.if_icmp .le 10, 3) := tX9_number_ok (66, .if_icmp .le 10, 3) (List.mem_of_getElem? (i := 41) rfl)
theorem dX9_number_69 : decode cX9_number 69 = .ok (.aload_n 0, 1) := tX9_number_ok (69, .aload_n 0, 1) (List.mem_of_getElem? (i := 42) rfl)
theorem dX9_number_70 : decode cX9_number 70 = .ok (.iconst 4, 1) := tX9_number_ok (70, .iconst 4, 1) (List.mem_of_getElem? (i := 43) rfl)
theorem dX9_number_71 : decode cX9_number 71 = .ok (.invokevirtual 156, 3) := tX9_number_ok (71, .invokevirtual 156, 3) (List.mem_of_getElem? (i := 44) rfl)
theorem dX9_number_74 : decode cX9_number 74 = .ok (.i2l, 1) := tX9_number_ok (74, .i2l, 1) (List.mem_of_getElem? (i := 45) rfl)
theorem dX9_number_75 : decode cX9_number 75 = .ok (.lreturn, 1) := tX9_number_ok (75, .lreturn, 1) (List.mem_of_getElem? (i := 46) rfl)
theorem dX9_number_76 : decode cX9_number 76 = .ok (.aload_n 0, 1) := tX9_number_ok (76, .aload_n 0, 1) (List.mem_of_getElem? (i := 47) rfl)
theorem dX9_number_77 : decode cX9_number 77 = .ok (.invokevirtual 186, 3) := tX9_number_ok (77, .invokevirtual 186, 3) (List.mem_of_getElem? (i := 48) rfl)
theorem dX9_number_80 : decode cX9_number 80 = .ok (.ifCond .ne 11, 3) := tX9_number_ok (80, .ifCond .ne 11, 3) (List.mem_of_getElem? (i := 49) rfl)
theorem dX9_number_83 : decode cX9_number 83 = .ok (.aload_n 0, 1) := tX9_number_ok (83, .aload_n 0, 1) (List.mem_of_getElem? (i := 50) rfl)
theorem dX9_number_84 : decode cX9_number 84 = .ok (.bipush 7, 2) := tX9_number_ok (84, .bipush 7, 2) (List.mem_of_getElem? (i := 51) rfl)
theorem dX9_number_86 : decode cX9_number 86 = .ok (.invokevirtual 156, 3) := tX9_number_ok (86, .invokevirtual 156, 3) (List.mem_of_getElem? (i := 52) rfl)
theorem dX9_number_89 : decode cX9_number 89 = .ok (.i2l, 1) := tX9_number_ok (89, .i2l, 1) (List.mem_of_getElem? (i := 53) rfl)
theorem dX9_number_90 : decode cX9_number 90 = .ok (.lreturn, 1) := tX9_number_ok (90, .lreturn, 1) (List.mem_of_getElem? (i := 54) rfl)
theorem dX9_number_91 : decode cX9_number 91 = .ok (.aload_n 0, 1) := tX9_number_ok (91, .aload_n 0, 1) (List.mem_of_getElem? (i := 55) rfl)
theorem dX9_number_92 : decode cX9_number 92 = .ok (.iload_n 2, 1) := tX9_number_ok (92, .iload_n 2, 1) (List.mem_of_getElem? (i := 56) rfl)
theorem dX9_number_93 : decode cX9_number 93 = .ok (.invokevirtual 190, 3) := tX9_number_ok (93, .invokevirtual 190, 3) (List.mem_of_getElem? (i := 57) rfl)
theorem dX9_number_96 : decode cX9_number 96 = .ok (.lstore_n 3, 1) := tX9_number_ok (96, .lstore_n 3, 1) (List.mem_of_getElem? (i := 58) rfl)
theorem dX9_number_97 : decode cX9_number 97 = .ok (.lconst 0, 1) := tX9_number_ok (97, .lconst 0, 1) (List.mem_of_getElem? (i := 59) rfl)
theorem dX9_number_98 : decode cX9_number 98 = .ok (.lstore 5, 2) := tX9_number_ok (98, .lstore 5, 2) (List.mem_of_getElem? (i := 60) rfl)
theorem dX9_number_100 : decode cX9_number 100 = .ok (.aload_n 0, 1) := tX9_number_ok (100, .aload_n 0, 1) (List.mem_of_getElem? (i := 61) rfl)
theorem dX9_number_101 : decode cX9_number 101 = .ok (.getfield 161, 3) := tX9_number_ok (101, .getfield 161, 3) (List.mem_of_getElem? (i := 62) rfl)
theorem dX9_number_104 : decode cX9_number 104 = .ok (.aload_n 0, 1) := tX9_number_ok (104, .aload_n 0, 1) (List.mem_of_getElem? (i := 63) rfl)
theorem dX9_number_105 : decode cX9_number 105 = .ok (.getfield 164, 3) := tX9_number_ok (105, .getfield 164, 3) (List.mem_of_getElem? (i := 64) rfl)
theorem dX9_number_108 : decode cX9_number 108 = .ok (.invokestatic 144, 3) := tX9_number_ok (108, .invokestatic 144, 3) (List.mem_of_getElem? (i := 65) rfl)
theorem dX9_number_111 : decode cX9_number 111 = .ok (.istore 7, 2) := tX9_number_ok (111, .istore 7, 2) (List.mem_of_getElem? (i := 66) rfl)
theorem dX9_number_113 : decode cX9_number 113 = .ok (.iload_n 2, 1) := tX9_number_ok (113, .iload_n 2, 1) (List.mem_of_getElem? (i := 67) rfl)
theorem dX9_number_114 : decode cX9_number 114 = .ok (.iconst 1, 1) := tX9_number_ok (114, .iconst 1, 1) (List.mem_of_getElem? (i := 68) rfl)
theorem dX9_number_115 : decode cX9_number 115 = .ok (.isub, 1) := tX9_number_ok (115, .isub, 1) (List.mem_of_getElem? (i := 69) rfl)
theorem dX9_number_116 : decode cX9_number 116 = .ok (.istore 8, 2) := tX9_number_ok (116, .istore 8, 2) (List.mem_of_getElem? (i := 70) rfl)
theorem dX9_number_118 : decode cX9_number 118 = .ok (.iload 8, 2) := tX9_number_ok (118, .iload 8, 2) (List.mem_of_getElem? (i := 71) rfl)
theorem dX9_number_120 : decode cX9_number 120 = .ok (.ifCond .lt 124, 3) := tX9_number_ok (120, .ifCond .lt 124, 3) (List.mem_of_getElem? (i := 72) rfl)
theorem dX9_number_123 : decode cX9_number 123 = .ok (.aload_n 0, 1) := tX9_number_ok (123, .aload_n 0, 1) (List.mem_of_getElem? (i := 73) rfl)
theorem dX9_number_124 : decode cX9_number 124 = .ok (.getfield 16, 3) := tX9_number_ok (124, .getfield 16, 3) (List.mem_of_getElem? (i := 74) rfl)
theorem dX9_number_127 : decode cX9_number 127 = .ok (.bipush 64, 2) := tX9_number_ok (127, .bipush 64, 2) (List.mem_of_getElem? (i := 75) rfl)
theorem dX9_number_129 : decode cX9_number 129 = .ok (.iload_n 1, 1) := tX9_number_ok (129, .iload_n 1, 1) (List.mem_of_getElem? (i := 76) rfl)
theorem dX9_number_130 : decode cX9_number 130 = .ok (.imul, 1) := tX9_number_ok (130, .imul, 1) (List.mem_of_getElem? (i := 77) rfl)
theorem dX9_number_131 : decode cX9_number 131 = .ok (.iload_n 2, 1) := tX9_number_ok (131, .iload_n 2, 1) (List.mem_of_getElem? (i := 78) rfl)
theorem dX9_number_132 : decode cX9_number 132 = .ok (.iadd, 1) := tX9_number_ok (132, .iadd, 1) (List.mem_of_getElem? (i := 79) rfl)
theorem dX9_number_133 : decode cX9_number 133 = .ok (.iconst 1, 1) := tX9_number_ok (133, .iconst 1, 1) (List.mem_of_getElem? (i := 80) rfl)
theorem dX9_number_134 : decode cX9_number 134 = .ok (.isub, 1) := tX9_number_ok (134, .isub, 1) (List.mem_of_getElem? (i := 81) rfl)
theorem dX9_number_135 : decode cX9_number 135 = .ok (.iload 8, 2) := tX9_number_ok (135, .iload 8, 2) (List.mem_of_getElem? (i := 82) rfl)
theorem dX9_number_137 : decode cX9_number 137 = .ok (.isub, 1) := tX9_number_ok (137, .isub, 1) (List.mem_of_getElem? (i := 83) rfl)
theorem dX9_number_138 : decode cX9_number 138 = .ok (.iaload, 1) := tX9_number_ok (138, .iaload, 1) (List.mem_of_getElem? (i := 84) rfl)
theorem dX9_number_139 : decode cX9_number 139 = .ok (.istore 9, 2) := tX9_number_ok (139, .istore 9, 2) (List.mem_of_getElem? (i := 85) rfl)
theorem dX9_number_141 : decode cX9_number 141 = .ok (.iload 9, 2) := tX9_number_ok (141, .iload 9, 2) (List.mem_of_getElem? (i := 86) rfl)
theorem dX9_number_143 : decode cX9_number 143 = .ok (.ifCond .lt 12, 3) := tX9_number_ok (143, .ifCond .lt 12, 3) (List.mem_of_getElem? (i := 87) rfl)
theorem dX9_number_146 : decode cX9_number 146 = .ok (.iload 9, 2) := tX9_number_ok (146, .iload 9, 2) (List.mem_of_getElem? (i := 88) rfl)
theorem dX9_number_148 : decode cX9_number 148 = .ok (.aload_n 0, 1) := tX9_number_ok (148, .aload_n 0, 1) (List.mem_of_getElem? (i := 89) rfl)
theorem dX9_number_149 : decode cX9_number 149 = .ok (.getfield 19, 3) := tX9_number_ok (149, .getfield 19, 3) (List.mem_of_getElem? (i := 90) rfl)
theorem dX9_number_152 : decode cX9_number 152 = .ok (.if_icmp .lt 7, 3) := tX9_number_ok (152, .if_icmp .lt 7, 3) (List.mem_of_getElem? (i := 91) rfl)
theorem dX9_number_155 : decode cX9_number 155 = .ok (.iconst (-1), 1) := tX9_number_ok (155, .iconst (-1), 1) (List.mem_of_getElem? (i := 92) rfl)
theorem dX9_number_156 : decode cX9_number 156 = .ok (.goto 11, 3) := tX9_number_ok (156, .goto 11, 3) (List.mem_of_getElem? (i := 93) rfl)
theorem dX9_number_159 : decode cX9_number 159 = .ok (.aload_n 0, 1) := tX9_number_ok (159, .aload_n 0, 1) (List.mem_of_getElem? (i := 94) rfl)
theorem dX9_number_160 : decode cX9_number 160 = .ok (.iload 7, 2) := tX9_number_ok (160, .iload 7, 2) (List.mem_of_getElem? (i := 95) rfl)
theorem dX9_number_162 : decode cX9_number 162 = .ok (.iload 9, 2) := tX9_number_ok (162, .iload 9, 2) (List.mem_of_getElem? (i := 96) rfl)
theorem dX9_number_164 : decode cX9_number 164 = .ok (.invokevirtual 175, 3) := tX9_number_ok (164, .invokevirtual 175, 3) (List.mem_of_getElem? (i := 97) rfl)
theorem dX9_number_167 : decode cX9_number 167 = .ok (.istore 10, 2) := tX9_number_ok (167, .istore 10, 2) (List.mem_of_getElem? (i := 98) rfl)
theorem dX9_number_169 : decode cX9_number 169 = .ok (.iload 10, 2) := tX9_number_ok (169, .iload 10, 2) (List.mem_of_getElem? (i := 99) rfl)
theorem dX9_number_171 : decode cX9_number 171 = .ok (.ifCond .ge 11, 3) := tX9_number_ok (171, .ifCond .ge 11, 3) (List.mem_of_getElem? (i := 100) rfl)
theorem dX9_number_174 : decode cX9_number 174 = .ok (.aload_n 0, 1) := tX9_number_ok (174, .aload_n 0, 1) (List.mem_of_getElem? (i := 101) rfl)
theorem dX9_number_175 : decode cX9_number 175 = .ok (.bipush 8, 2) := tX9_number_ok (175, .bipush 8, 2) (List.mem_of_getElem? (i := 102) rfl)
theorem dX9_number_177 : decode cX9_number 177 = .ok (.invokevirtual 156, 3) := tX9_number_ok (177, .invokevirtual 156, 3) (List.mem_of_getElem? (i := 103) rfl)
theorem dX9_number_180 : decode cX9_number 180 = .ok (.i2l, 1) := tX9_number_ok (180, .i2l, 1) (List.mem_of_getElem? (i := 104) rfl)
theorem dX9_number_181 : decode cX9_number 181 = .ok (.lreturn, 1) := tX9_number_ok (181, .lreturn, 1) (List.mem_of_getElem? (i := 105) rfl)
theorem dX9_number_182 : decode cX9_number 182 = .ok (.iconst 0, 1) := tX9_number_ok (182, .iconst 0, 1) (List.mem_of_getElem? (i := 106) rfl)
theorem dX9_number_183 : decode cX9_number 183 = .ok (.istore 11, 2) := tX9_number_ok (183, .istore 11, 2) (List.mem_of_getElem? (i := 107) rfl)
theorem dX9_number_185 : decode cX9_number 185 = .ok (.iload 11, 2) := tX9_number_ok (185, .iload 11, 2) (List.mem_of_getElem? (i := 108) rfl)
theorem dX9_number_187 : decode cX9_number 187 = .ok (.iload 9, 2) := tX9_number_ok (187, .iload 9, 2) (List.mem_of_getElem? (i := 109) rfl)
theorem dX9_number_189 : decode cX9_number 189 = .ok (.if_icmp .ge 45, 3) := tX9_number_ok (189, .if_icmp .ge 45, 3) (List.mem_of_getElem? (i := 110) rfl)
theorem dX9_number_192 : decode cX9_number 192 = .ok (.aload_n 0, 1) := tX9_number_ok (192, .aload_n 0, 1) (List.mem_of_getElem? (i := 111) rfl)
theorem dX9_number_193 : decode cX9_number 193 = .ok (.iload 7, 2) := tX9_number_ok (193, .iload 7, 2) (List.mem_of_getElem? (i := 112) rfl)
theorem dX9_number_195 : decode cX9_number 195 = .ok (.iload 11, 2) := tX9_number_ok (195, .iload 11, 2) (List.mem_of_getElem? (i := 113) rfl)
theorem dX9_number_197 : decode cX9_number 197 = .ok (.invokevirtual 175, 3) := tX9_number_ok (197, .invokevirtual 175, 3) (List.mem_of_getElem? (i := 114) rfl)
theorem dX9_number_200 : decode cX9_number 200 = .ok (.istore 12, 2) := tX9_number_ok (200, .istore 12, 2) (List.mem_of_getElem? (i := 115) rfl)
theorem dX9_number_202 : decode cX9_number 202 = .ok (.iload 12, 2) := tX9_number_ok (202, .iload 12, 2) (List.mem_of_getElem? (i := 116) rfl)
theorem dX9_number_204 : decode cX9_number 204 = .ok (.ifCond .lt 24, 3) := tX9_number_ok (204, .ifCond .lt 24, 3) (List.mem_of_getElem? (i := 117) rfl)
theorem dX9_number_207 : decode cX9_number 207 = .ok (.lload 5, 2) := tX9_number_ok (207, .lload 5, 2) (List.mem_of_getElem? (i := 118) rfl)
theorem dX9_number_209 : decode cX9_number 209 = .ok (.aload_n 0, 1) := tX9_number_ok (209, .aload_n 0, 1) (List.mem_of_getElem? (i := 119) rfl)
theorem dX9_number_210 : decode cX9_number 210 = .ok (.getfield 43, 3) := tX9_number_ok (210, .getfield 43, 3) (List.mem_of_getElem? (i := 120) rfl)
theorem dX9_number_213 : decode cX9_number 213 = .ok (.sipush 3721, 3) := tX9_number_ok (213, .sipush 3721, 3) (List.mem_of_getElem? (i := 121) rfl)
theorem dX9_number_216 : decode cX9_number 216 = .ok (.iload 8, 2) := tX9_number_ok (216, .iload 8, 2) (List.mem_of_getElem? (i := 122) rfl)
theorem dX9_number_218 : decode cX9_number 218 = .ok (.imul, 1) := tX9_number_ok (218, .imul, 1) (List.mem_of_getElem? (i := 123) rfl)
theorem dX9_number_219 : decode cX9_number 219 = .ok (.iload 12, 2) := tX9_number_ok (219, .iload 12, 2) (List.mem_of_getElem? (i := 124) rfl)
theorem dX9_number_221 : decode cX9_number 221 = .ok (.iadd, 1) := tX9_number_ok (221, .iadd, 1) (List.mem_of_getElem? (i := 125) rfl)
theorem dX9_number_222 : decode cX9_number 222 = .ok (.laload, 1) := tX9_number_ok (222, .laload, 1) (List.mem_of_getElem? (i := 126) rfl)
theorem dX9_number_223 : decode cX9_number 223 = .ok (.invokestatic 178, 3) := tX9_number_ok (223, .invokestatic 178, 3) (List.mem_of_getElem? (i := 127) rfl)
theorem dX9_number_226 : decode cX9_number 226 = .ok (.lstore 5, 2) := tX9_number_ok (226, .lstore 5, 2) (List.mem_of_getElem? (i := 128) rfl)
theorem dX9_number_228 : decode cX9_number 228 = .ok (.iinc 11 1, 3) := tX9_number_ok (228, .iinc 11 1, 3) (List.mem_of_getElem? (i := 129) rfl)
theorem dX9_number_231 : decode cX9_number 231 = .ok (.goto (-46), 3) := tX9_number_ok (231, .goto (-46), 3) (List.mem_of_getElem? (i := 130) rfl)
theorem dX9_number_234 : decode cX9_number 234 = .ok (.iload 10, 2) := tX9_number_ok (234, .iload 10, 2) (List.mem_of_getElem? (i := 131) rfl)
theorem dX9_number_236 : decode cX9_number 236 = .ok (.istore 7, 2) := tX9_number_ok (236, .istore 7, 2) (List.mem_of_getElem? (i := 132) rfl)
theorem dX9_number_238 : decode cX9_number 238 = .ok (.iinc 8 (-1), 3) := tX9_number_ok (238, .iinc 8 (-1), 3) (List.mem_of_getElem? (i := 133) rfl)
theorem dX9_number_241 : decode cX9_number 241 = .ok (.goto (-123), 3) := tX9_number_ok (241, .goto (-123), 3) (List.mem_of_getElem? (i := 134) rfl)
theorem dX9_number_244 : decode cX9_number 244 = .ok (.iload 7, 2) := tX9_number_ok (244, .iload 7, 2) (List.mem_of_getElem? (i := 135) rfl)
theorem dX9_number_246 : decode cX9_number 246 = .ok (.aload_n 0, 1) := tX9_number_ok (246, .aload_n 0, 1) (List.mem_of_getElem? (i := 136) rfl)
theorem dX9_number_247 : decode cX9_number 247 = .ok (.getfield 167, 3) := tX9_number_ok (247, .getfield 167, 3) (List.mem_of_getElem? (i := 137) rfl)
theorem dX9_number_250 : decode cX9_number 250 = .ok (.aload_n 0, 1) := tX9_number_ok (250, .aload_n 0, 1) (List.mem_of_getElem? (i := 138) rfl)
theorem dX9_number_251 : decode cX9_number 251 = .ok (.getfield 170, 3) := tX9_number_ok (251, .getfield 170, 3) (List.mem_of_getElem? (i := 139) rfl)
theorem dX9_number_254 : decode cX9_number 254 = .ok (.invokestatic 144, 3) := tX9_number_ok (254, .invokestatic 144, 3) (List.mem_of_getElem? (i := 140) rfl)
theorem dX9_number_257 : decode cX9_number 257 = .ok (.if_icmp .eq 11, 3) := tX9_number_ok (257, .if_icmp .eq 11, 3) (List.mem_of_getElem? (i := 141) rfl)
theorem dX9_number_260 : decode cX9_number 260 = .ok (.aload_n 0, 1) := tX9_number_ok (260, .aload_n 0, 1) (List.mem_of_getElem? (i := 142) rfl)
theorem dX9_number_261 : decode cX9_number 261 = .ok (.bipush 8, 2) := tX9_number_ok (261, .bipush 8, 2) (List.mem_of_getElem? (i := 143) rfl)
theorem dX9_number_263 : decode cX9_number 263 = .ok (.invokevirtual 156, 3) := tX9_number_ok (263, .invokevirtual 156, 3) (List.mem_of_getElem? (i := 144) rfl)
theorem dX9_number_266 : decode cX9_number 266 = .ok (.i2l, 1) := tX9_number_ok (266, .i2l, 1) (List.mem_of_getElem? (i := 145) rfl)
theorem dX9_number_267 : decode cX9_number 267 = .ok (.lreturn, 1) := tX9_number_ok (267, .lreturn, 1) (List.mem_of_getElem? (i := 146) rfl)
theorem dX9_number_268 : decode cX9_number 268 = .ok (.lload_n 3, 1) := tX9_number_ok (268, .lload_n 3, 1) (List.mem_of_getElem? (i := 147) rfl)
theorem dX9_number_269 : decode cX9_number 269 = .ok (.ldc2_w 173, 3) := tX9_number_ok (269, .ldc2_w 173, 3) (List.mem_of_getElem? (i := 148) rfl)
theorem dX9_number_272 : decode cX9_number 272 = .ok (.lcmp, 1) := tX9_number_ok (272, .lcmp, 1) (List.mem_of_getElem? (i := 149) rfl)
theorem dX9_number_273 : decode cX9_number 273 = .ok (.ifCond .lt 13, 3) := tX9_number_ok (273, .ifCond .lt 13, 3) (List.mem_of_getElem? (i := 150) rfl)
theorem dX9_number_276 : decode cX9_number 276 = .ok (.aload_n 0, 1) := tX9_number_ok (276, .aload_n 0, 1) (List.mem_of_getElem? (i := 151) rfl)
theorem dX9_number_277 : decode cX9_number 277 = .ok (.bipush 9, 2) := tX9_number_ok (277, .bipush 9, 2) (List.mem_of_getElem? (i := 152) rfl)
theorem dX9_number_279 : decode cX9_number 279 = .ok (.invokevirtual 156, 3) := tX9_number_ok (279, .invokevirtual 156, 3) (List.mem_of_getElem? (i := 153) rfl)
theorem dX9_number_282 : decode cX9_number 282 = .ok (.i2l, 1) := tX9_number_ok (282, .i2l, 1) (List.mem_of_getElem? (i := 154) rfl)
theorem dX9_number_283 : decode cX9_number 283 = .ok (.goto 5, 3) := tX9_number_ok (283, .goto 5, 3) (List.mem_of_getElem? (i := 155) rfl)
theorem dX9_number_286 : decode cX9_number 286 = .ok (.lload 5, 2) := tX9_number_ok (286, .lload 5, 2) (List.mem_of_getElem? (i := 156) rfl)
theorem dX9_number_288 : decode cX9_number 288 = .ok (.lreturn, 1) := tX9_number_ok (288, .lreturn, 1) (List.mem_of_getElem? (i := 157) rfl)

def tX9_drawn : List (Nat × Instr × Nat) := [
  (0, .ldc2_w 237, 3),
  (3, .iload_n 0, 1),
  (4, .i2l, 1),
  (5, .lmul, 1),
  (6, .ldc2_w 239, 3),
  (9, .ladd, 1),
  (10, .ldc2_w 241, 3),
  (13, .land, 1),
  (14, .l2i, 1),
  (15, .ireturn, 1)]
set_option maxRecDepth 100000 in
theorem tX9_drawn_ok : ∀ q ∈ tX9_drawn, decode cX9_drawn q.1 = .ok q.2 := by decide +kernel
theorem dX9_drawn_0 : decode cX9_drawn 0 = .ok (.ldc2_w 237, 3) := tX9_drawn_ok (0, .ldc2_w 237, 3) (List.mem_of_getElem? (i := 0) rfl)
theorem dX9_drawn_3 : decode cX9_drawn 3 = .ok (.iload_n 0, 1) := tX9_drawn_ok (3, .iload_n 0, 1) (List.mem_of_getElem? (i := 1) rfl)
theorem dX9_drawn_4 : decode cX9_drawn 4 = .ok (.i2l, 1) := tX9_drawn_ok (4, .i2l, 1) (List.mem_of_getElem? (i := 2) rfl)
theorem dX9_drawn_5 : decode cX9_drawn 5 = .ok (.lmul, 1) := tX9_drawn_ok (5, .lmul, 1) (List.mem_of_getElem? (i := 3) rfl)
theorem dX9_drawn_6 : decode cX9_drawn 6 = .ok (.ldc2_w 239, 3) := tX9_drawn_ok (6, .ldc2_w 239, 3) (List.mem_of_getElem? (i := 4) rfl)
theorem dX9_drawn_9 : decode cX9_drawn 9 = .ok (.ladd, 1) := tX9_drawn_ok (9, .ladd, 1) (List.mem_of_getElem? (i := 5) rfl)
theorem dX9_drawn_10 : decode cX9_drawn 10 = .ok (.ldc2_w 241, 3) := tX9_drawn_ok (10, .ldc2_w 241, 3) (List.mem_of_getElem? (i := 6) rfl)
theorem dX9_drawn_13 : decode cX9_drawn 13 = .ok (.land, 1) := tX9_drawn_ok (13, .land, 1) (List.mem_of_getElem? (i := 7) rfl)
theorem dX9_drawn_14 : decode cX9_drawn 14 = .ok (.l2i, 1) := tX9_drawn_ok (14, .l2i, 1) (List.mem_of_getElem? (i := 8) rfl)
theorem dX9_drawn_15 : decode cX9_drawn 15 = .ok (.ireturn, 1) := tX9_drawn_ok (15, .ireturn, 1) (List.mem_of_getElem? (i := 9) rfl)

def tX9_draw : List (Nat × Instr × Nat) := [
  (0, .aload_n 0, 1),
  (1, .iconst 0, 1),
  (2, .putfield 112, 3),
  (5, .aload_n 0, 1),
  (6, .iconst 0, 1),
  (7, .putfield 115, 3),
  (10, .iload_n 1, 1),
  (11, .ifCond .lt 13, 3),
  (14, .iload_n 1, 1),
  (15, .bipush 60, 2),
  (17, .if_icmp .gt 7, 3),
  (20, .iload_n 2, 1),
  (21, .ifCond .ge 10, 3),
  (24, .aload_n 0, 1),
  (25, .iconst 2, 1),
  (26, .invokevirtual 156, 3),
  (29, .i2l, 1),
  (30, .lreturn, 1),
  (31, .aload_n 0, 1),
  (32, .invokevirtual 186, 3),
  (35, .ifCond .ne 11, 3),
  (38, .aload_n 0, 1),
  (39, .bipush 7, 2),
  (41, .invokevirtual 156, 3),
  (44, .i2l, 1),
  (45, .lreturn, 1),
  (46, .aload_n 0, 1),
  (47, .iload_n 1, 1),
  (48, .invokevirtual 190, 3),
  (51, .lstore_n 3, 1),
  (52, .lload_n 3, 1),
  (53, .lconst 0, 1),
  (54, .lcmp, 1),
  (55, .ifCond .ne 11, 3),
  (58, .aload_n 0, 1),
  (59, .bipush 8, 2),
  (61, .invokevirtual 156, 3),
  (64, .i2l, 1),
  (65, .lreturn, 1),
  (66, .lload_n 3, 1),
  (67, .ldc2_w 173, 3),
  (70, .lcmp, 1),
  (71, .ifCond .lt 11, 3),
  (74, .aload_n 0, 1),
  (75, .bipush 9, 2),
  (77, .invokevirtual 156, 3),
  (80, .i2l, 1),
  (81, .lreturn, 1),
  (82, .lconst 0, 1),
  (83, .lstore 5, 2),
  (85, .lload 5, 2),
  (87, .lload_n 3, 1),
  (88, .lconst 1, 1),
  (89, .lsub, 1),
  (90, .lcmp, 1),
  (91, .ifCond .ge 16, 3),
  (94, .ldc2_w 159, 3),
  (97, .lload 5, 2),
  (99, .lmul, 1),
  (100, .lconst 1, 1),
  (101, .ladd, 1),
  (102, .lstore 5, 2),
  (104, .goto (-19), 3),
  (107, .iload_n 2, 1),
  (108, .istore 7, 2),
  (110, .lconst 0, 1),
  (111, .lstore 8, 2),
  (113, .iconst 0, 1),
  (114, .istore 10, 2),
  (116, .iload 10, 2),
  (118, .bipush 64, 2),
  (120, .if_icmp .ge 72, 3),
  (123, .lconst 0, 1),
  (124, .lstore 8, 2),
  (126, .iconst 0, 1),
  (127, .istore 11, 2),
  (129, .iload 11, 2),
  (131, .iconst 5, 1),
  (132, .if_icmp .ge 33, 3),
  (135, .iload 7, 2),
  (137, .invokestatic 243, 3),
  (140, .istore 7, 2),
  (142, .lload 8, 2),
  (144, .bipush 15, 2),
  (146, .lshl, 1),
  (147, .iload 7, 2),
  (149, .ldc 246, 2),
  (151, .idiv, 1),
  (152, .ldc 247, 2),
  (154, .irem, 1),
  (155, .i2l, 1),
  (156, .lor, 1),
  (157, .lstore 8, 2),
  (159, .iinc 11 1, 3),
  (162, .goto (-33), 3),
  (165, .lload 8, 2),
  (167, .ldc2_w 248, 3),
  (170, .lload 5, 2),
  (172, .land, 1),
  (173, .land, 1),
  (174, .lstore 8, 2),
  (176, .lload 8, 2),
  (178, .lload_n 3, 1),
  (179, .lcmp, 1),
  (180, .ifCond .ge 6, 3),
  (183, .lload 8, 2),
  (185, .lreturn, 1),
  (186, .iinc 10 1, 3),
  (189, .goto (-73), 3),
  (192, .lload 8, 2),
  (194, .lload_n 3, 1),
  (195, .lrem, 1),
  (196, .lreturn, 1)]
set_option maxRecDepth 100000 in
theorem tX9_draw_ok : ∀ q ∈ tX9_draw, decode cX9_draw q.1 = .ok q.2 := by decide +kernel
theorem dX9_draw_0 : decode cX9_draw 0 = .ok (.aload_n 0, 1) := tX9_draw_ok (0, .aload_n 0, 1) (List.mem_of_getElem? (i := 0) rfl)
theorem dX9_draw_1 : decode cX9_draw 1 = .ok (.iconst 0, 1) := tX9_draw_ok (1, .iconst 0, 1) (List.mem_of_getElem? (i := 1) rfl)
theorem dX9_draw_2 : decode cX9_draw 2 = .ok (.putfield 112, 3) := tX9_draw_ok (2, .putfield 112, 3) (List.mem_of_getElem? (i := 2) rfl)
theorem dX9_draw_5 : decode cX9_draw 5 = .ok (.aload_n 0, 1) := tX9_draw_ok (5, .aload_n 0, 1) (List.mem_of_getElem? (i := 3) rfl)
theorem dX9_draw_6 : decode cX9_draw 6 = .ok (.iconst 0, 1) := tX9_draw_ok (6, .iconst 0, 1) (List.mem_of_getElem? (i := 4) rfl)
theorem dX9_draw_7 : decode cX9_draw 7 = .ok (.putfield 115, 3) := tX9_draw_ok (7, .putfield 115, 3) (List.mem_of_getElem? (i := 5) rfl)
theorem dX9_draw_10 : decode cX9_draw 10 = .ok (.iload_n 1, 1) := tX9_draw_ok (10, .iload_n 1, 1) (List.mem_of_getElem? (i := 6) rfl)
theorem dX9_draw_11 : decode cX9_draw 11 = .ok (.ifCond .lt 13, 3) := tX9_draw_ok (11, .ifCond .lt 13, 3) (List.mem_of_getElem? (i := 7) rfl)
theorem dX9_draw_14 : decode cX9_draw 14 = .ok (.iload_n 1, 1) := tX9_draw_ok (14, .iload_n 1, 1) (List.mem_of_getElem? (i := 8) rfl)
theorem dX9_draw_15 : decode cX9_draw 15 = .ok (.bipush 60, 2) := tX9_draw_ok (15, .bipush 60, 2) (List.mem_of_getElem? (i := 9) rfl)
theorem dX9_draw_17 : decode cX9_draw 17 = .ok (.if_icmp .gt 7, 3) := tX9_draw_ok (17, .if_icmp .gt 7, 3) (List.mem_of_getElem? (i := 10) rfl)
theorem dX9_draw_20 : decode cX9_draw 20 = .ok (.iload_n 2, 1) := tX9_draw_ok (20, .iload_n 2, 1) (List.mem_of_getElem? (i := 11) rfl)
theorem dX9_draw_21 : decode cX9_draw 21 = .ok (.ifCond .ge 10, 3) := tX9_draw_ok (21, .ifCond .ge 10, 3) (List.mem_of_getElem? (i := 12) rfl)
theorem dX9_draw_24 : decode cX9_draw 24 = .ok (.aload_n 0, 1) := tX9_draw_ok (24, .aload_n 0, 1) (List.mem_of_getElem? (i := 13) rfl)
theorem dX9_draw_25 : decode cX9_draw 25 = .ok (.iconst 2, 1) := tX9_draw_ok (25, .iconst 2, 1) (List.mem_of_getElem? (i := 14) rfl)
theorem dX9_draw_26 : decode cX9_draw 26 = .ok (.invokevirtual 156, 3) := tX9_draw_ok (26, .invokevirtual 156, 3) (List.mem_of_getElem? (i := 15) rfl)
theorem dX9_draw_29 : decode cX9_draw 29 = .ok (.i2l, 1) := tX9_draw_ok (29, .i2l, 1) (List.mem_of_getElem? (i := 16) rfl)
theorem dX9_draw_30 : decode cX9_draw 30 = .ok (.lreturn, 1) := tX9_draw_ok (30, .lreturn, 1) (List.mem_of_getElem? (i := 17) rfl)
theorem dX9_draw_31 : decode cX9_draw 31 = .ok (.aload_n 0, 1) := tX9_draw_ok (31, .aload_n 0, 1) (List.mem_of_getElem? (i := 18) rfl)
theorem dX9_draw_32 : decode cX9_draw 32 = .ok (.invokevirtual 186, 3) := tX9_draw_ok (32, .invokevirtual 186, 3) (List.mem_of_getElem? (i := 19) rfl)
theorem dX9_draw_35 : decode cX9_draw 35 = .ok (.ifCond .ne 11, 3) := tX9_draw_ok (35, .ifCond .ne 11, 3) (List.mem_of_getElem? (i := 20) rfl)
theorem dX9_draw_38 : decode cX9_draw 38 = .ok (.aload_n 0, 1) := tX9_draw_ok (38, .aload_n 0, 1) (List.mem_of_getElem? (i := 21) rfl)
theorem dX9_draw_39 : decode cX9_draw 39 = .ok (.bipush 7, 2) := tX9_draw_ok (39, .bipush 7, 2) (List.mem_of_getElem? (i := 22) rfl)
theorem dX9_draw_41 : decode cX9_draw 41 = .ok (.invokevirtual 156, 3) := tX9_draw_ok (41, .invokevirtual 156, 3) (List.mem_of_getElem? (i := 23) rfl)
theorem dX9_draw_44 : decode cX9_draw 44 = .ok (.i2l, 1) := tX9_draw_ok (44, .i2l, 1) (List.mem_of_getElem? (i := 24) rfl)
theorem dX9_draw_45 : decode cX9_draw 45 = .ok (.lreturn, 1) := tX9_draw_ok (45, .lreturn, 1) (List.mem_of_getElem? (i := 25) rfl)
theorem dX9_draw_46 : decode cX9_draw 46 = .ok (.aload_n 0, 1) := tX9_draw_ok (46, .aload_n 0, 1) (List.mem_of_getElem? (i := 26) rfl)
theorem dX9_draw_47 : decode cX9_draw 47 = .ok (.iload_n 1, 1) := tX9_draw_ok (47, .iload_n 1, 1) (List.mem_of_getElem? (i := 27) rfl)
theorem dX9_draw_48 : decode cX9_draw 48 = .ok (.invokevirtual 190, 3) := tX9_draw_ok (48, .invokevirtual 190, 3) (List.mem_of_getElem? (i := 28) rfl)
theorem dX9_draw_51 : decode cX9_draw 51 = .ok (.lstore_n 3, 1) := tX9_draw_ok (51, .lstore_n 3, 1) (List.mem_of_getElem? (i := 29) rfl)
theorem dX9_draw_52 : decode cX9_draw 52 = .ok (.lload_n 3, 1) := tX9_draw_ok (52, .lload_n 3, 1) (List.mem_of_getElem? (i := 30) rfl)
theorem dX9_draw_53 : decode cX9_draw 53 = .ok (.lconst 0, 1) := tX9_draw_ok (53, .lconst 0, 1) (List.mem_of_getElem? (i := 31) rfl)
theorem dX9_draw_54 : decode cX9_draw 54 = .ok (.lcmp, 1) := tX9_draw_ok (54, .lcmp, 1) (List.mem_of_getElem? (i := 32) rfl)
theorem dX9_draw_55 : decode cX9_draw 55 = .ok (.ifCond .ne 11, 3) := tX9_draw_ok (55, .ifCond .ne 11, 3) (List.mem_of_getElem? (i := 33) rfl)
theorem dX9_draw_58 : decode cX9_draw 58 = .ok (.aload_n 0, 1) := tX9_draw_ok (58, .aload_n 0, 1) (List.mem_of_getElem? (i := 34) rfl)
theorem dX9_draw_59 : decode cX9_draw 59 = .ok (.bipush 8, 2) := tX9_draw_ok (59, .bipush 8, 2) (List.mem_of_getElem? (i := 35) rfl)
theorem dX9_draw_61 : decode cX9_draw 61 = .ok (.invokevirtual 156, 3) := tX9_draw_ok (61, .invokevirtual 156, 3) (List.mem_of_getElem? (i := 36) rfl)
theorem dX9_draw_64 : decode cX9_draw 64 = .ok (.i2l, 1) := tX9_draw_ok (64, .i2l, 1) (List.mem_of_getElem? (i := 37) rfl)
theorem dX9_draw_65 : decode cX9_draw 65 = .ok (.lreturn, 1) := tX9_draw_ok (65, .lreturn, 1) (List.mem_of_getElem? (i := 38) rfl)
theorem dX9_draw_66 : decode cX9_draw 66 = .ok (.lload_n 3, 1) := tX9_draw_ok (66, .lload_n 3, 1) (List.mem_of_getElem? (i := 39) rfl)
theorem dX9_draw_67 : decode cX9_draw 67 = .ok (.ldc2_w 173, 3) := tX9_draw_ok (67, .ldc2_w 173, 3) (List.mem_of_getElem? (i := 40) rfl)
theorem dX9_draw_70 : decode cX9_draw 70 = .ok (.lcmp, 1) := tX9_draw_ok (70, .lcmp, 1) (List.mem_of_getElem? (i := 41) rfl)
theorem dX9_draw_71 : decode cX9_draw 71 = .ok (.ifCond .lt 11, 3) := tX9_draw_ok (71, .ifCond .lt 11, 3) (List.mem_of_getElem? (i := 42) rfl)
theorem dX9_draw_74 : decode cX9_draw 74 = .ok (.aload_n 0, 1) := tX9_draw_ok (74, .aload_n 0, 1) (List.mem_of_getElem? (i := 43) rfl)
theorem dX9_draw_75 : decode cX9_draw 75 = .ok (.bipush 9, 2) := tX9_draw_ok (75, .bipush 9, 2) (List.mem_of_getElem? (i := 44) rfl)
theorem dX9_draw_77 : decode cX9_draw 77 = .ok (.invokevirtual 156, 3) := tX9_draw_ok (77, .invokevirtual 156, 3) (List.mem_of_getElem? (i := 45) rfl)
theorem dX9_draw_80 : decode cX9_draw 80 = .ok (.i2l, 1) := tX9_draw_ok (80, .i2l, 1) (List.mem_of_getElem? (i := 46) rfl)
theorem dX9_draw_81 : decode cX9_draw 81 = .ok (.lreturn, 1) := tX9_draw_ok (81, .lreturn, 1) (List.mem_of_getElem? (i := 47) rfl)
theorem dX9_draw_82 : decode cX9_draw 82 = .ok (.lconst 0, 1) := tX9_draw_ok (82, .lconst 0, 1) (List.mem_of_getElem? (i := 48) rfl)
theorem dX9_draw_83 : decode cX9_draw 83 = .ok (.lstore 5, 2) := tX9_draw_ok (83, .lstore 5, 2) (List.mem_of_getElem? (i := 49) rfl)
theorem dX9_draw_85 : decode cX9_draw 85 = .ok (.lload 5, 2) := tX9_draw_ok (85, .lload 5, 2) (List.mem_of_getElem? (i := 50) rfl)
theorem dX9_draw_87 : decode cX9_draw 87 = .ok (.lload_n 3, 1) := tX9_draw_ok (87, .lload_n 3, 1) (List.mem_of_getElem? (i := 51) rfl)
theorem dX9_draw_88 : decode cX9_draw 88 = .ok (.lconst 1, 1) := tX9_draw_ok (88, .lconst 1, 1) (List.mem_of_getElem? (i := 52) rfl)
theorem dX9_draw_89 : decode cX9_draw 89 = .ok (.lsub, 1) := tX9_draw_ok (89, .lsub, 1) (List.mem_of_getElem? (i := 53) rfl)
theorem dX9_draw_90 : decode cX9_draw 90 = .ok (.lcmp, 1) := tX9_draw_ok (90, .lcmp, 1) (List.mem_of_getElem? (i := 54) rfl)
theorem dX9_draw_91 : decode cX9_draw 91 = .ok (.ifCond .ge 16, 3) := tX9_draw_ok (91, .ifCond .ge 16, 3) (List.mem_of_getElem? (i := 55) rfl)
theorem dX9_draw_94 : decode cX9_draw 94 = .ok (.ldc2_w 159, 3) := tX9_draw_ok (94, .ldc2_w 159, 3) (List.mem_of_getElem? (i := 56) rfl)
theorem dX9_draw_97 : decode cX9_draw 97 = .ok (.lload 5, 2) := tX9_draw_ok (97, .lload 5, 2) (List.mem_of_getElem? (i := 57) rfl)
theorem dX9_draw_99 : decode cX9_draw 99 = .ok (.lmul, 1) := tX9_draw_ok (99, .lmul, 1) (List.mem_of_getElem? (i := 58) rfl)
theorem dX9_draw_100 : decode cX9_draw 100 = .ok (.lconst 1, 1) := tX9_draw_ok (100, .lconst 1, 1) (List.mem_of_getElem? (i := 59) rfl)
theorem dX9_draw_101 : decode cX9_draw 101 = .ok (.ladd, 1) := tX9_draw_ok (101, .ladd, 1) (List.mem_of_getElem? (i := 60) rfl)
theorem dX9_draw_102 : decode cX9_draw 102 = .ok (.lstore 5, 2) := tX9_draw_ok (102, .lstore 5, 2) (List.mem_of_getElem? (i := 61) rfl)
theorem dX9_draw_104 : decode cX9_draw 104 = .ok (.goto (-19), 3) := tX9_draw_ok (104, .goto (-19), 3) (List.mem_of_getElem? (i := 62) rfl)
theorem dX9_draw_107 : decode cX9_draw 107 = .ok (.iload_n 2, 1) := tX9_draw_ok (107, .iload_n 2, 1) (List.mem_of_getElem? (i := 63) rfl)
theorem dX9_draw_108 : decode cX9_draw 108 = .ok (.istore 7, 2) := tX9_draw_ok (108, .istore 7, 2) (List.mem_of_getElem? (i := 64) rfl)
theorem dX9_draw_110 : decode cX9_draw 110 = .ok (.lconst 0, 1) := tX9_draw_ok (110, .lconst 0, 1) (List.mem_of_getElem? (i := 65) rfl)
theorem dX9_draw_111 : decode cX9_draw 111 = .ok (.lstore 8, 2) := tX9_draw_ok (111, .lstore 8, 2) (List.mem_of_getElem? (i := 66) rfl)
theorem dX9_draw_113 : decode cX9_draw 113 = .ok (.iconst 0, 1) := tX9_draw_ok (113, .iconst 0, 1) (List.mem_of_getElem? (i := 67) rfl)
theorem dX9_draw_114 : decode cX9_draw 114 = .ok (.istore 10, 2) := tX9_draw_ok (114, .istore 10, 2) (List.mem_of_getElem? (i := 68) rfl)
theorem dX9_draw_116 : decode cX9_draw 116 = .ok (.iload 10, 2) := tX9_draw_ok (116, .iload 10, 2) (List.mem_of_getElem? (i := 69) rfl)
theorem dX9_draw_118 : decode cX9_draw 118 = .ok (.bipush 64, 2) := tX9_draw_ok (118, .bipush 64, 2) (List.mem_of_getElem? (i := 70) rfl)
theorem dX9_draw_120 : decode cX9_draw 120 = .ok (.if_icmp .ge 72, 3) := tX9_draw_ok (120, .if_icmp .ge 72, 3) (List.mem_of_getElem? (i := 71) rfl)
theorem dX9_draw_123 : decode cX9_draw 123 = .ok (.lconst 0, 1) := tX9_draw_ok (123, .lconst 0, 1) (List.mem_of_getElem? (i := 72) rfl)
theorem dX9_draw_124 : decode cX9_draw 124 = .ok (.lstore 8, 2) := tX9_draw_ok (124, .lstore 8, 2) (List.mem_of_getElem? (i := 73) rfl)
theorem dX9_draw_126 : decode cX9_draw 126 = .ok (.iconst 0, 1) := tX9_draw_ok (126, .iconst 0, 1) (List.mem_of_getElem? (i := 74) rfl)
theorem dX9_draw_127 : decode cX9_draw 127 = .ok (.istore 11, 2) := tX9_draw_ok (127, .istore 11, 2) (List.mem_of_getElem? (i := 75) rfl)
theorem dX9_draw_129 : decode cX9_draw 129 = .ok (.iload 11, 2) := tX9_draw_ok (129, .iload 11, 2) (List.mem_of_getElem? (i := 76) rfl)
theorem dX9_draw_131 : decode cX9_draw 131 = .ok (.iconst 5, 1) := tX9_draw_ok (131, .iconst 5, 1) (List.mem_of_getElem? (i := 77) rfl)
theorem dX9_draw_132 : decode cX9_draw 132 = .ok (.if_icmp .ge 33, 3) := tX9_draw_ok (132, .if_icmp .ge 33, 3) (List.mem_of_getElem? (i := 78) rfl)
theorem dX9_draw_135 : decode cX9_draw 135 = .ok (.iload 7, 2) := tX9_draw_ok (135, .iload 7, 2) (List.mem_of_getElem? (i := 79) rfl)
theorem dX9_draw_137 : decode cX9_draw 137 = .ok (.invokestatic 243, 3) := tX9_draw_ok (137, .invokestatic 243, 3) (List.mem_of_getElem? (i := 80) rfl)
theorem dX9_draw_140 : decode cX9_draw 140 = .ok (.istore 7, 2) := tX9_draw_ok (140, .istore 7, 2) (List.mem_of_getElem? (i := 81) rfl)
theorem dX9_draw_142 : decode cX9_draw 142 = .ok (.lload 8, 2) := tX9_draw_ok (142, .lload 8, 2) (List.mem_of_getElem? (i := 82) rfl)
theorem dX9_draw_144 : decode cX9_draw 144 = .ok (.bipush 15, 2) := tX9_draw_ok (144, .bipush 15, 2) (List.mem_of_getElem? (i := 83) rfl)
theorem dX9_draw_146 : decode cX9_draw 146 = .ok (.lshl, 1) := tX9_draw_ok (146, .lshl, 1) (List.mem_of_getElem? (i := 84) rfl)
theorem dX9_draw_147 : decode cX9_draw 147 = .ok (.iload 7, 2) := tX9_draw_ok (147, .iload 7, 2) (List.mem_of_getElem? (i := 85) rfl)
theorem dX9_draw_149 : decode cX9_draw 149 = .ok (.ldc 246, 2) := tX9_draw_ok (149, .ldc 246, 2) (List.mem_of_getElem? (i := 86) rfl)
theorem dX9_draw_151 : decode cX9_draw 151 = .ok (.idiv, 1) := tX9_draw_ok (151, .idiv, 1) (List.mem_of_getElem? (i := 87) rfl)
theorem dX9_draw_152 : decode cX9_draw 152 = .ok (.ldc 247, 2) := tX9_draw_ok (152, .ldc 247, 2) (List.mem_of_getElem? (i := 88) rfl)
theorem dX9_draw_154 : decode cX9_draw 154 = .ok (.irem, 1) := tX9_draw_ok (154, .irem, 1) (List.mem_of_getElem? (i := 89) rfl)
theorem dX9_draw_155 : decode cX9_draw 155 = .ok (.i2l, 1) := tX9_draw_ok (155, .i2l, 1) (List.mem_of_getElem? (i := 90) rfl)
theorem dX9_draw_156 : decode cX9_draw 156 = .ok (.lor, 1) := tX9_draw_ok (156, .lor, 1) (List.mem_of_getElem? (i := 91) rfl)
theorem dX9_draw_157 : decode cX9_draw 157 = .ok (.lstore 8, 2) := tX9_draw_ok (157, .lstore 8, 2) (List.mem_of_getElem? (i := 92) rfl)
theorem dX9_draw_159 : decode cX9_draw 159 = .ok (.iinc 11 1, 3) := tX9_draw_ok (159, .iinc 11 1, 3) (List.mem_of_getElem? (i := 93) rfl)
theorem dX9_draw_162 : decode cX9_draw 162 = .ok (.goto (-33), 3) := tX9_draw_ok (162, .goto (-33), 3) (List.mem_of_getElem? (i := 94) rfl)
theorem dX9_draw_165 : decode cX9_draw 165 = .ok (.lload 8, 2) := tX9_draw_ok (165, .lload 8, 2) (List.mem_of_getElem? (i := 95) rfl)
theorem dX9_draw_167 : decode cX9_draw 167 = .ok (.ldc2_w 248, 3) := tX9_draw_ok (167, .ldc2_w 248, 3) (List.mem_of_getElem? (i := 96) rfl)
theorem dX9_draw_170 : decode cX9_draw 170 = .ok (.lload 5, 2) := tX9_draw_ok (170, .lload 5, 2) (List.mem_of_getElem? (i := 97) rfl)
theorem dX9_draw_172 : decode cX9_draw 172 = .ok (.land, 1) := tX9_draw_ok (172, .land, 1) (List.mem_of_getElem? (i := 98) rfl)
theorem dX9_draw_173 : decode cX9_draw 173 = .ok (.land, 1) := tX9_draw_ok (173, .land, 1) (List.mem_of_getElem? (i := 99) rfl)
theorem dX9_draw_174 : decode cX9_draw 174 = .ok (.lstore 8, 2) := tX9_draw_ok (174, .lstore 8, 2) (List.mem_of_getElem? (i := 100) rfl)
theorem dX9_draw_176 : decode cX9_draw 176 = .ok (.lload 8, 2) := tX9_draw_ok (176, .lload 8, 2) (List.mem_of_getElem? (i := 101) rfl)
theorem dX9_draw_178 : decode cX9_draw 178 = .ok (.lload_n 3, 1) := tX9_draw_ok (178, .lload_n 3, 1) (List.mem_of_getElem? (i := 102) rfl)
theorem dX9_draw_179 : decode cX9_draw 179 = .ok (.lcmp, 1) := tX9_draw_ok (179, .lcmp, 1) (List.mem_of_getElem? (i := 103) rfl)
theorem dX9_draw_180 : decode cX9_draw 180 = .ok (.ifCond .ge 6, 3) := tX9_draw_ok (180, .ifCond .ge 6, 3) (List.mem_of_getElem? (i := 104) rfl)
theorem dX9_draw_183 : decode cX9_draw 183 = .ok (.lload 8, 2) := tX9_draw_ok (183, .lload 8, 2) (List.mem_of_getElem? (i := 105) rfl)
theorem dX9_draw_185 : decode cX9_draw 185 = .ok (.lreturn, 1) := tX9_draw_ok (185, .lreturn, 1) (List.mem_of_getElem? (i := 106) rfl)
theorem dX9_draw_186 : decode cX9_draw 186 = .ok (.iinc 10 1, 3) := tX9_draw_ok (186, .iinc 10 1, 3) (List.mem_of_getElem? (i := 107) rfl)
theorem dX9_draw_189 : decode cX9_draw 189 = .ok (.goto (-73), 3) := tX9_draw_ok (189, .goto (-73), 3) (List.mem_of_getElem? (i := 108) rfl)
theorem dX9_draw_192 : decode cX9_draw 192 = .ok (.lload 8, 2) := tX9_draw_ok (192, .lload 8, 2) (List.mem_of_getElem? (i := 109) rfl)
theorem dX9_draw_194 : decode cX9_draw 194 = .ok (.lload_n 3, 1) := tX9_draw_ok (194, .lload_n 3, 1) (List.mem_of_getElem? (i := 110) rfl)
theorem dX9_draw_195 : decode cX9_draw 195 = .ok (.lrem, 1) := tX9_draw_ok (195, .lrem, 1) (List.mem_of_getElem? (i := 111) rfl)
theorem dX9_draw_196 : decode cX9_draw 196 = .ok (.lreturn, 1) := tX9_draw_ok (196, .lreturn, 1) (List.mem_of_getElem? (i := 112) rfl)

def tX9_mirror : List (Nat × Instr × Nat) := [
  (0, .aload_n 0, 1),
  (1, .iconst 0, 1),
  (2, .putfield 112, 3),
  (5, .aload_n 0, 1),
  (6, .iconst 0, 1),
  (7, .putfield 115, 3),
  (10, .iload_n 1, 1),
  (11, .ifCond .lt 12, 3),
  (14, .iload_n 2, 1),
  (15, .ifCond .lt 8, 3),
  (18, .iload_n 2, 1),
  (19, .iconst 1, 1),
  (20, .if_icmp .le 10, 3),
  (23, .aload_n 0, 1),
  (24, .iconst 2, 1),
  (25, .invokevirtual 156, 3),
  (28, .i2l, 1),
  (29, .lreturn, 1),
  (30, .aload_n 0, 1),
  (31, .getfield 137, 3),
  (34, .iconst 1, 1),
  (35, .if_icmp .ne 10, 3),
  (38, .aload_n 0, 1),
  (39, .invokevirtual 250, 3),
  (42, .ifCond .ne 10, 3),
  (45, .aload_n 0, 1),
  (46, .iconst 5, 1),
  (47, .invokevirtual 156, 3),
  (50, .i2l, 1),
  (51, .lreturn, 1),
  (52, .iconst 0, 1),
  (53, .istore_n 3, 1),
  (54, .iload_n 3, 1),
  (55, .sipush 3721, 3),
  (58, .if_icmp .ge 26, 3),
  (61, .aload_n 0, 1),
  (62, .getfield 38, 3),
  (65, .iload_n 3, 1),
  (66, .baload, 1),
  (67, .ifCond .eq 11, 3),
  (70, .aload_n 0, 1),
  (71, .bipush 7, 2),
  (73, .invokevirtual 156, 3),
  (76, .i2l, 1),
  (77, .lreturn, 1),
  (78, .iinc 3 1, 3),
  (81, .goto (-27), 3),
  (84, .aload_n 0, 1),
  (85, .invokevirtual 186, 3),
  (88, .ifCond .ne 11, 3),
  (91, .aload_n 0, 1),
  (92, .bipush 7, 2),
  (94, .invokevirtual 156, 3),
  (97, .i2l, 1),
  (98, .lreturn, 1),
  (99, .iload_n 1, 1),
  (100, .i2l, 1),
  (101, .aload_n 0, 1),
  (102, .getfield 164, 3),
  (105, .i2l, 1),
  (106, .ladd, 1),
  (107, .ldc2_w 253, 3),
  (110, .lcmp, 1),
  (111, .ifCond .gt 25, 3),
  (114, .ldc2_w 255, 3),
  (117, .iload_n 1, 1),
  (118, .i2l, 1),
  (119, .lmul, 1),
  (120, .aload_n 0, 1),
  (121, .getfield 161, 3),
  (124, .invokestatic 257, 3),
  (127, .i2l, 1),
  (128, .ladd, 1),
  (129, .ldc2_w 260, 3),
  (132, .lcmp, 1),
  (133, .ifCond .le 11, 3),
  (136, .aload_n 0, 1),
  (137, .bipush 10, 2),
  (139, .invokevirtual 156, 3),
  (142, .i2l, 1),
  (143, .lreturn, 1),
  (144, .iload_n 2, 1),
  (145, .ifCond .ne 10, 3),
  (148, .aload_n 0, 1),
  (149, .getfield 170, 3),
  (152, .goto 10, 3),
  (155, .bipush (-2), 2),
  (157, .aload_n 0, 1),
  (158, .getfield 170, 3),
  (161, .isub, 1),
  (162, .istore_n 3, 1),
  (163, .iload_n 3, 1),
  (164, .bipush (-30), 2),
  (166, .if_icmp .ge 5, 3),
  (169, .lconst 0, 1),
  (170, .lreturn, 1),
  (171, .iconst 0, 1),
  (172, .istore 4, 2),
  (174, .iload 4, 2),
  (176, .sipush 3721, 3),
  (179, .if_icmp .ge 17, 3),
  (182, .aload_n 0, 1),
  (183, .getfield 48, 3),
  (186, .iload 4, 2),
  (188, .lconst 0, 1),
  (189, .lastore, 1),
  (190, .iinc 4 1, 3),
  (193, .goto (-19), 3),
  (196, .aload_n 0, 1),
  (197, .getfield 48, 3),
  (200, .aload_n 0, 1),
  (201, .getfield 161, 3),
  (204, .aload_n 0, 1),
  (205, .getfield 164, 3),
  (208, .invokestatic 144, 3),
  (211, .lconst 1, 1),
  (212, .lastore, 1),
  (213, .iconst 0, 1),
  (214, .istore 4, 2),
  (216, .iload 4, 2),
  (218, .iload_n 1, 1),
  (219, .if_icmp .ge 156, 3),
  (222, .iconst 0, 1),
  (223, .istore 5, 2),
  (225, .iload 5, 2),
  (227, .sipush 3721, 3),
  (230, .if_icmp .ge 17, 3),
  (233, .aload_n 0, 1),
  (234, .getfield 51, 3),
  (237, .iload 5, 2),
  (239, .lconst 0, 1),
  (240, .lastore, 1),
  (241, .iinc 5 1, 3),
  (244, .goto (-19), 3),
  (247, .iconst 0, 1),
  (248, .istore 5, 2),
  (250, .iload 5, 2),
  (252, .sipush 3721, 3),
  (255, .if_icmp .ge 83, 3),
  (258, .iconst 0, 1),
  (259, .istore 6, 2),
  (261, .iload 6, 2),
  (263, .aload_n 0, 1),
  (264, .getfield 19, 3),
  (267, .if_icmp .ge 65, 3),
  (270, .aload_n 0, 1),
  (271, .getfield 48, 3),
  (274, .iload 5, 2),
  (276, .laload, 1),
  (277, .lconst 0, 1),
  (278, .lcmp, 1),
  (279, .ifCond .le 53, 3),
  (282, .aload_n 0, 1),
  (283, .getfield 51, 3),
  (286, .iload 5, 2),
  (288, .invokestatic 147, 3),
  (291, .aload_n 0, 1),
  (292, .getfield 29, 3),
  (295, .iload 6, 2),
  (297, .iaload, 1),
  (298, .iadd, 1),
  (299, .iload 5, 2),
  (301, .invokestatic 150, 3),
  (304, .aload_n 0, 1),
  (305, .getfield 32, 3),
  (308, .iload 6, 2),
  (310, .iaload, 1),
  (311, .iadd, 1),
  (312, .invokestatic 144, 3),
  (315, .dup2, 1),
  (316, .laload, 1),
  (317, .aload_n 0, 1),
  (318, .getfield 48, 3),
  (321, .iload 5, 2),
  (323, .laload, 1),
  (324, .ladd, 1),
  (325, .lastore, 1),
  (326, .iinc 6 1, 3),
  (329, .goto (-68), 3),
  (332, .iinc 5 1, 3),
  (335, .goto (-85), 3),
  (338, .iconst 0, 1),
  (339, .istore 5, 2),
  (341, .iload 5, 2),
  (343, .sipush 3721, 3),
  (346, .if_icmp .ge 23, 3),
  (349, .aload_n 0, 1),
  (350, .getfield 48, 3),
  (353, .iload 5, 2),
  (355, .aload_n 0, 1),
  (356, .getfield 51, 3),
  (359, .iload 5, 2),
  (361, .laload, 1),
  (362, .lastore, 1),
  (363, .iinc 5 1, 3),
  (366, .goto (-25), 3),
  (369, .iinc 4 1, 3),
  (372, .goto (-156), 3),
  (375, .aload_n 0, 1),
  (376, .getfield 48, 3),
  (379, .aload_n 0, 1),
  (380, .getfield 167, 3),
  (383, .iload_n 3, 1),
  (384, .invokestatic 144, 3),
  (387, .laload, 1),
  (388, .lreturn, 1)]
set_option maxRecDepth 100000 in
theorem tX9_mirror_ok : ∀ q ∈ tX9_mirror, decode cX9_mirror q.1 = .ok q.2 := by decide +kernel
theorem dX9_mirror_0 : decode cX9_mirror 0 = .ok (.aload_n 0, 1) := tX9_mirror_ok (0, .aload_n 0, 1) (List.mem_of_getElem? (i := 0) rfl)
theorem dX9_mirror_1 : decode cX9_mirror 1 = .ok (.iconst 0, 1) := tX9_mirror_ok (1, .iconst 0, 1) (List.mem_of_getElem? (i := 1) rfl)
theorem dX9_mirror_2 : decode cX9_mirror 2 = .ok (.putfield 112, 3) := tX9_mirror_ok (2, .putfield 112, 3) (List.mem_of_getElem? (i := 2) rfl)
theorem dX9_mirror_5 : decode cX9_mirror 5 = .ok (.aload_n 0, 1) := tX9_mirror_ok (5, .aload_n 0, 1) (List.mem_of_getElem? (i := 3) rfl)
theorem dX9_mirror_6 : decode cX9_mirror 6 = .ok (.iconst 0, 1) := tX9_mirror_ok (6, .iconst 0, 1) (List.mem_of_getElem? (i := 4) rfl)
theorem dX9_mirror_7 : decode cX9_mirror 7 = .ok (.putfield 115, 3) := tX9_mirror_ok (7, .putfield 115, 3) (List.mem_of_getElem? (i := 5) rfl)
theorem dX9_mirror_10 : decode cX9_mirror 10 = .ok (.iload_n 1, 1) := tX9_mirror_ok (10, .iload_n 1, 1) (List.mem_of_getElem? (i := 6) rfl)
theorem dX9_mirror_11 : decode cX9_mirror 11 = .ok (.ifCond .lt 12, 3) := tX9_mirror_ok (11, .ifCond .lt 12, 3) (List.mem_of_getElem? (i := 7) rfl)
theorem dX9_mirror_14 : decode cX9_mirror 14 = .ok (.iload_n 2, 1) := tX9_mirror_ok (14, .iload_n 2, 1) (List.mem_of_getElem? (i := 8) rfl)
theorem dX9_mirror_15 : decode cX9_mirror 15 = .ok (.ifCond .lt 8, 3) := tX9_mirror_ok (15, .ifCond .lt 8, 3) (List.mem_of_getElem? (i := 9) rfl)
theorem dX9_mirror_18 : decode cX9_mirror 18 = .ok (.iload_n 2, 1) := tX9_mirror_ok (18, .iload_n 2, 1) (List.mem_of_getElem? (i := 10) rfl)
theorem dX9_mirror_19 : decode cX9_mirror 19 = .ok (.iconst 1, 1) := tX9_mirror_ok (19, .iconst 1, 1) (List.mem_of_getElem? (i := 11) rfl)
theorem dX9_mirror_20 : decode cX9_mirror 20 = .ok (.if_icmp .le 10, 3) := tX9_mirror_ok (20, .if_icmp .le 10, 3) (List.mem_of_getElem? (i := 12) rfl)
theorem dX9_mirror_23 : decode cX9_mirror 23 = .ok (.aload_n 0, 1) := tX9_mirror_ok (23, .aload_n 0, 1) (List.mem_of_getElem? (i := 13) rfl)
theorem dX9_mirror_24 : decode cX9_mirror 24 = .ok (.iconst 2, 1) := tX9_mirror_ok (24, .iconst 2, 1) (List.mem_of_getElem? (i := 14) rfl)
theorem dX9_mirror_25 : decode cX9_mirror 25 = .ok (.invokevirtual 156, 3) := tX9_mirror_ok (25, .invokevirtual 156, 3) (List.mem_of_getElem? (i := 15) rfl)
theorem dX9_mirror_28 : decode cX9_mirror 28 = .ok (.i2l, 1) := tX9_mirror_ok (28, .i2l, 1) (List.mem_of_getElem? (i := 16) rfl)
theorem dX9_mirror_29 : decode cX9_mirror 29 = .ok (.lreturn, 1) := tX9_mirror_ok (29, .lreturn, 1) (List.mem_of_getElem? (i := 17) rfl)
theorem dX9_mirror_30 : decode cX9_mirror 30 = .ok (.aload_n 0, 1) := tX9_mirror_ok (30, .aload_n 0, 1) (List.mem_of_getElem? (i := 18) rfl)
theorem dX9_mirror_31 : decode cX9_mirror 31 = .ok (.getfield 137, 3) := tX9_mirror_ok (31, .getfield 137, 3) (List.mem_of_getElem? (i := 19) rfl)
theorem dX9_mirror_34 : decode cX9_mirror 34 = .ok (.iconst 1, 1) := tX9_mirror_ok (34, .iconst 1, 1) (List.mem_of_getElem? (i := 20) rfl)
theorem dX9_mirror_35 : decode cX9_mirror 35 = .ok (.if_icmp .ne 10, 3) := tX9_mirror_ok (35, .if_icmp .ne 10, 3) (List.mem_of_getElem? (i := 21) rfl)
theorem dX9_mirror_38 : decode cX9_mirror 38 = .ok (.aload_n 0, 1) := tX9_mirror_ok (38, .aload_n 0, 1) (List.mem_of_getElem? (i := 22) rfl)
theorem dX9_mirror_39 : decode cX9_mirror 39 = .ok (.invokevirtual 250, 3) := tX9_mirror_ok (39, .invokevirtual 250, 3) (List.mem_of_getElem? (i := 23) rfl)
theorem dX9_mirror_42 : decode cX9_mirror 42 = .ok (.ifCond .ne 10, 3) := tX9_mirror_ok (42, .ifCond .ne 10, 3) (List.mem_of_getElem? (i := 24) rfl)
theorem dX9_mirror_45 : decode cX9_mirror 45 = .ok (.aload_n 0, 1) := tX9_mirror_ok (45, .aload_n 0, 1) (List.mem_of_getElem? (i := 25) rfl)
theorem dX9_mirror_46 : decode cX9_mirror 46 = .ok (.iconst 5, 1) := tX9_mirror_ok (46, .iconst 5, 1) (List.mem_of_getElem? (i := 26) rfl)
theorem dX9_mirror_47 : decode cX9_mirror 47 = .ok (.invokevirtual 156, 3) := tX9_mirror_ok (47, .invokevirtual 156, 3) (List.mem_of_getElem? (i := 27) rfl)
theorem dX9_mirror_50 : decode cX9_mirror 50 = .ok (.i2l, 1) := tX9_mirror_ok (50, .i2l, 1) (List.mem_of_getElem? (i := 28) rfl)
theorem dX9_mirror_51 : decode cX9_mirror 51 = .ok (.lreturn, 1) := tX9_mirror_ok (51, .lreturn, 1) (List.mem_of_getElem? (i := 29) rfl)
theorem dX9_mirror_52 : decode cX9_mirror 52 = .ok (.iconst 0, 1) := tX9_mirror_ok (52, .iconst 0, 1) (List.mem_of_getElem? (i := 30) rfl)
theorem dX9_mirror_53 : decode cX9_mirror 53 = .ok (.istore_n 3, 1) := tX9_mirror_ok (53, .istore_n 3, 1) (List.mem_of_getElem? (i := 31) rfl)
theorem dX9_mirror_54 : decode cX9_mirror 54 = .ok (.iload_n 3, 1) := tX9_mirror_ok (54, .iload_n 3, 1) (List.mem_of_getElem? (i := 32) rfl)
theorem dX9_mirror_55 : decode cX9_mirror 55 = .ok (.sipush 3721, 3) := tX9_mirror_ok (55, .sipush 3721, 3) (List.mem_of_getElem? (i := 33) rfl)
theorem dX9_mirror_58 : decode cX9_mirror 58 = .ok (.if_icmp .ge 26, 3) := tX9_mirror_ok (58, .if_icmp .ge 26, 3) (List.mem_of_getElem? (i := 34) rfl)
theorem dX9_mirror_61 : decode cX9_mirror 61 = .ok (.aload_n 0, 1) := tX9_mirror_ok (61, .aload_n 0, 1) (List.mem_of_getElem? (i := 35) rfl)
theorem dX9_mirror_62 : decode cX9_mirror 62 = .ok (.getfield 38, 3) := tX9_mirror_ok (62, .getfield 38, 3) (List.mem_of_getElem? (i := 36) rfl)
theorem dX9_mirror_65 : decode cX9_mirror 65 = .ok (.iload_n 3, 1) := tX9_mirror_ok (65, .iload_n 3, 1) (List.mem_of_getElem? (i := 37) rfl)
theorem dX9_mirror_66 : decode cX9_mirror 66 = .ok (.baload, 1) := tX9_mirror_ok (66, .baload, 1) (List.mem_of_getElem? (i := 38) rfl)
theorem dX9_mirror_67 : decode cX9_mirror 67 = .ok (.ifCond .eq 11, 3) := tX9_mirror_ok (67, .ifCond .eq 11, 3) (List.mem_of_getElem? (i := 39) rfl)
theorem dX9_mirror_70 : decode cX9_mirror 70 = .ok (.aload_n 0, 1) := tX9_mirror_ok (70, .aload_n 0, 1) (List.mem_of_getElem? (i := 40) rfl)
theorem dX9_mirror_71 : decode cX9_mirror 71 = .ok (.bipush 7, 2) := tX9_mirror_ok (71, .bipush 7, 2) (List.mem_of_getElem? (i := 41) rfl)
theorem dX9_mirror_73 : decode cX9_mirror 73 = .ok (.invokevirtual 156, 3) := tX9_mirror_ok (73, .invokevirtual 156, 3) (List.mem_of_getElem? (i := 42) rfl)
theorem dX9_mirror_76 : decode cX9_mirror 76 = .ok (.i2l, 1) := tX9_mirror_ok (76, .i2l, 1) (List.mem_of_getElem? (i := 43) rfl)
theorem dX9_mirror_77 : decode cX9_mirror 77 = .ok (.lreturn, 1) := tX9_mirror_ok (77, .lreturn, 1) (List.mem_of_getElem? (i := 44) rfl)
theorem dX9_mirror_78 : decode cX9_mirror 78 = .ok (.iinc 3 1, 3) := tX9_mirror_ok (78, .iinc 3 1, 3) (List.mem_of_getElem? (i := 45) rfl)
theorem dX9_mirror_81 : decode cX9_mirror 81 = .ok (.goto (-27), 3) := tX9_mirror_ok (81, .goto (-27), 3) (List.mem_of_getElem? (i := 46) rfl)
theorem dX9_mirror_84 : decode cX9_mirror 84 = .ok (.aload_n 0, 1) := tX9_mirror_ok (84, .aload_n 0, 1) (List.mem_of_getElem? (i := 47) rfl)
theorem dX9_mirror_85 : decode cX9_mirror 85 = .ok (.invokevirtual 186, 3) := tX9_mirror_ok (85, .invokevirtual 186, 3) (List.mem_of_getElem? (i := 48) rfl)
theorem dX9_mirror_88 : decode cX9_mirror 88 = .ok (.ifCond .ne 11, 3) := tX9_mirror_ok (88, .ifCond .ne 11, 3) (List.mem_of_getElem? (i := 49) rfl)
theorem dX9_mirror_91 : decode cX9_mirror 91 = .ok (.aload_n 0, 1) := tX9_mirror_ok (91, .aload_n 0, 1) (List.mem_of_getElem? (i := 50) rfl)
theorem dX9_mirror_92 : decode cX9_mirror 92 = .ok (.bipush 7, 2) := tX9_mirror_ok (92, .bipush 7, 2) (List.mem_of_getElem? (i := 51) rfl)
theorem dX9_mirror_94 : decode cX9_mirror 94 = .ok (.invokevirtual 156, 3) := tX9_mirror_ok (94, .invokevirtual 156, 3) (List.mem_of_getElem? (i := 52) rfl)
theorem dX9_mirror_97 : decode cX9_mirror 97 = .ok (.i2l, 1) := tX9_mirror_ok (97, .i2l, 1) (List.mem_of_getElem? (i := 53) rfl)
theorem dX9_mirror_98 : decode cX9_mirror 98 = .ok (.lreturn, 1) := tX9_mirror_ok (98, .lreturn, 1) (List.mem_of_getElem? (i := 54) rfl)
theorem dX9_mirror_99 : decode cX9_mirror 99 = .ok (.iload_n 1, 1) := tX9_mirror_ok (99, .iload_n 1, 1) (List.mem_of_getElem? (i := 55) rfl)
theorem dX9_mirror_100 : decode cX9_mirror 100 = .ok (.i2l, 1) := tX9_mirror_ok (100, .i2l, 1) (List.mem_of_getElem? (i := 56) rfl)
theorem dX9_mirror_101 : decode cX9_mirror 101 = .ok (.aload_n 0, 1) := tX9_mirror_ok (101, .aload_n 0, 1) (List.mem_of_getElem? (i := 57) rfl)
theorem dX9_mirror_102 : decode cX9_mirror 102 = .ok (.getfield 164, 3) := tX9_mirror_ok (102, .getfield 164, 3) (List.mem_of_getElem? (i := 58) rfl)
theorem dX9_mirror_105 : decode cX9_mirror 105 = .ok (.i2l, 1) := tX9_mirror_ok (105, .i2l, 1) (List.mem_of_getElem? (i := 59) rfl)
theorem dX9_mirror_106 : decode cX9_mirror 106 = .ok (.ladd, 1) := tX9_mirror_ok (106, .ladd, 1) (List.mem_of_getElem? (i := 60) rfl)
theorem dX9_mirror_107 : decode cX9_mirror 107 = .ok (.ldc2_w 253, 3) := tX9_mirror_ok (107, .ldc2_w 253, 3) (List.mem_of_getElem? (i := 61) rfl)
theorem dX9_mirror_110 : decode cX9_mirror 110 = .ok (.lcmp, 1) := tX9_mirror_ok (110, .lcmp, 1) (List.mem_of_getElem? (i := 62) rfl)
theorem dX9_mirror_111 : decode cX9_mirror 111 = .ok (.ifCond .gt 25, 3) := tX9_mirror_ok (111, .ifCond .gt 25, 3) (List.mem_of_getElem? (i := 63) rfl)
theorem dX9_mirror_114 : decode cX9_mirror 114 = .ok (.ldc2_w 255, 3) := tX9_mirror_ok (114, .ldc2_w 255, 3) (List.mem_of_getElem? (i := 64) rfl)
theorem dX9_mirror_117 : decode cX9_mirror 117 = .ok (.iload_n 1, 1) := tX9_mirror_ok (117, .iload_n 1, 1) (List.mem_of_getElem? (i := 65) rfl)
theorem dX9_mirror_118 : decode cX9_mirror 118 = .ok (.i2l, 1) := tX9_mirror_ok (118, .i2l, 1) (List.mem_of_getElem? (i := 66) rfl)
theorem dX9_mirror_119 : decode cX9_mirror 119 = .ok (.lmul, 1) := tX9_mirror_ok (119, .lmul, 1) (List.mem_of_getElem? (i := 67) rfl)
theorem dX9_mirror_120 : decode cX9_mirror 120 = .ok (.aload_n 0, 1) := tX9_mirror_ok (120, .aload_n 0, 1) (List.mem_of_getElem? (i := 68) rfl)
theorem dX9_mirror_121 : decode cX9_mirror 121 = .ok (.getfield 161, 3) := tX9_mirror_ok (121, .getfield 161, 3) (List.mem_of_getElem? (i := 69) rfl)
theorem dX9_mirror_124 : decode cX9_mirror 124 = .ok (.invokestatic 257, 3) := tX9_mirror_ok (124, .invokestatic 257, 3) (List.mem_of_getElem? (i := 70) rfl)
theorem dX9_mirror_127 : decode cX9_mirror 127 = .ok (.i2l, 1) := tX9_mirror_ok (127, .i2l, 1) (List.mem_of_getElem? (i := 71) rfl)
theorem dX9_mirror_128 : decode cX9_mirror 128 = .ok (.ladd, 1) := tX9_mirror_ok (128, .ladd, 1) (List.mem_of_getElem? (i := 72) rfl)
theorem dX9_mirror_129 : decode cX9_mirror 129 = .ok (.ldc2_w 260, 3) := tX9_mirror_ok (129, .ldc2_w 260, 3) (List.mem_of_getElem? (i := 73) rfl)
theorem dX9_mirror_132 : decode cX9_mirror 132 = .ok (.lcmp, 1) := tX9_mirror_ok (132, .lcmp, 1) (List.mem_of_getElem? (i := 74) rfl)
theorem dX9_mirror_133 : decode cX9_mirror 133 = .ok (.ifCond .le 11, 3) := tX9_mirror_ok (133, .ifCond .le 11, 3) (List.mem_of_getElem? (i := 75) rfl)
theorem dX9_mirror_136 : decode cX9_mirror 136 = .ok (.aload_n 0, 1) := tX9_mirror_ok (136, .aload_n 0, 1) (List.mem_of_getElem? (i := 76) rfl)
theorem dX9_mirror_137 : decode cX9_mirror 137 = .ok (.bipush 10, 2) := tX9_mirror_ok (137, .bipush 10, 2) (List.mem_of_getElem? (i := 77) rfl)
theorem dX9_mirror_139 : decode cX9_mirror 139 = .ok (.invokevirtual 156, 3) := tX9_mirror_ok (139, .invokevirtual 156, 3) (List.mem_of_getElem? (i := 78) rfl)
theorem dX9_mirror_142 : decode cX9_mirror 142 = .ok (.i2l, 1) := tX9_mirror_ok (142, .i2l, 1) (List.mem_of_getElem? (i := 79) rfl)
theorem dX9_mirror_143 : decode cX9_mirror 143 = .ok (.lreturn, 1) := tX9_mirror_ok (143, .lreturn, 1) (List.mem_of_getElem? (i := 80) rfl)
theorem dX9_mirror_144 : decode cX9_mirror 144 = .ok (.iload_n 2, 1) := tX9_mirror_ok (144, .iload_n 2, 1) (List.mem_of_getElem? (i := 81) rfl)
theorem dX9_mirror_145 : decode cX9_mirror 145 = .ok (.ifCond .ne 10, 3) := tX9_mirror_ok (145, .ifCond .ne 10, 3) (List.mem_of_getElem? (i := 82) rfl)
theorem dX9_mirror_148 : decode cX9_mirror 148 = .ok (.aload_n 0, 1) := tX9_mirror_ok (148, .aload_n 0, 1) (List.mem_of_getElem? (i := 83) rfl)
theorem dX9_mirror_149 : decode cX9_mirror 149 = .ok (.getfield 170, 3) := tX9_mirror_ok (149, .getfield 170, 3) (List.mem_of_getElem? (i := 84) rfl)
theorem dX9_mirror_152 : decode cX9_mirror 152 = .ok (.goto 10, 3) := tX9_mirror_ok (152, .goto 10, 3) (List.mem_of_getElem? (i := 85) rfl)
theorem dX9_mirror_155 : decode cX9_mirror 155 = .ok (.bipush (-2), 2) := tX9_mirror_ok (155, .bipush (-2), 2) (List.mem_of_getElem? (i := 86) rfl)
theorem dX9_mirror_157 : decode cX9_mirror 157 = .ok (.aload_n 0, 1) := tX9_mirror_ok (157, .aload_n 0, 1) (List.mem_of_getElem? (i := 87) rfl)
theorem dX9_mirror_158 : decode cX9_mirror 158 = .ok (.getfield 170, 3) := tX9_mirror_ok (158, .getfield 170, 3) (List.mem_of_getElem? (i := 88) rfl)
theorem dX9_mirror_161 : decode cX9_mirror 161 = .ok (.isub, 1) := tX9_mirror_ok (161, .isub, 1) (List.mem_of_getElem? (i := 89) rfl)
theorem dX9_mirror_162 : decode cX9_mirror 162 = .ok (.istore_n 3, 1) := tX9_mirror_ok (162, .istore_n 3, 1) (List.mem_of_getElem? (i := 90) rfl)
theorem dX9_mirror_163 : decode cX9_mirror 163 = .ok (.iload_n 3, 1) := tX9_mirror_ok (163, .iload_n 3, 1) (List.mem_of_getElem? (i := 91) rfl)
theorem dX9_mirror_164 : decode cX9_mirror 164 = .ok (.bipush (-30), 2) := tX9_mirror_ok (164, .bipush (-30), 2) (List.mem_of_getElem? (i := 92) rfl)
theorem dX9_mirror_166 : decode cX9_mirror 166 = .ok (.if_icmp .ge 5, 3) := tX9_mirror_ok (166, .if_icmp .ge 5, 3) (List.mem_of_getElem? (i := 93) rfl)
theorem dX9_mirror_169 : decode cX9_mirror 169 = .ok (.lconst 0, 1) := tX9_mirror_ok (169, .lconst 0, 1) (List.mem_of_getElem? (i := 94) rfl)
theorem dX9_mirror_170 : decode cX9_mirror 170 = .ok (.lreturn, 1) := tX9_mirror_ok (170, .lreturn, 1) (List.mem_of_getElem? (i := 95) rfl)
theorem dX9_mirror_171 : decode cX9_mirror 171 = .ok (.iconst 0, 1) := tX9_mirror_ok (171, .iconst 0, 1) (List.mem_of_getElem? (i := 96) rfl)
theorem dX9_mirror_172 : decode cX9_mirror 172 = .ok (.istore 4, 2) := tX9_mirror_ok (172, .istore 4, 2) (List.mem_of_getElem? (i := 97) rfl)
theorem dX9_mirror_174 : decode cX9_mirror 174 = .ok (.iload 4, 2) := tX9_mirror_ok (174, .iload 4, 2) (List.mem_of_getElem? (i := 98) rfl)
theorem dX9_mirror_176 : decode cX9_mirror 176 = .ok (.sipush 3721, 3) := tX9_mirror_ok (176, .sipush 3721, 3) (List.mem_of_getElem? (i := 99) rfl)
theorem dX9_mirror_179 : decode cX9_mirror 179 = .ok (.if_icmp .ge 17, 3) := tX9_mirror_ok (179, .if_icmp .ge 17, 3) (List.mem_of_getElem? (i := 100) rfl)
theorem dX9_mirror_182 : decode cX9_mirror 182 = .ok (.aload_n 0, 1) := tX9_mirror_ok (182, .aload_n 0, 1) (List.mem_of_getElem? (i := 101) rfl)
theorem dX9_mirror_183 : decode cX9_mirror 183 = .ok (.getfield 48, 3) := tX9_mirror_ok (183, .getfield 48, 3) (List.mem_of_getElem? (i := 102) rfl)
theorem dX9_mirror_186 : decode cX9_mirror 186 = .ok (.iload 4, 2) := tX9_mirror_ok (186, .iload 4, 2) (List.mem_of_getElem? (i := 103) rfl)
theorem dX9_mirror_188 : decode cX9_mirror 188 = .ok (.lconst 0, 1) := tX9_mirror_ok (188, .lconst 0, 1) (List.mem_of_getElem? (i := 104) rfl)
theorem dX9_mirror_189 : decode cX9_mirror 189 = .ok (.lastore, 1) := tX9_mirror_ok (189, .lastore, 1) (List.mem_of_getElem? (i := 105) rfl)
theorem dX9_mirror_190 : decode cX9_mirror 190 = .ok (.iinc 4 1, 3) := tX9_mirror_ok (190, .iinc 4 1, 3) (List.mem_of_getElem? (i := 106) rfl)
theorem dX9_mirror_193 : decode cX9_mirror 193 = .ok (.goto (-19), 3) := tX9_mirror_ok (193, .goto (-19), 3) (List.mem_of_getElem? (i := 107) rfl)
theorem dX9_mirror_196 : decode cX9_mirror 196 = .ok (.aload_n 0, 1) := tX9_mirror_ok (196, .aload_n 0, 1) (List.mem_of_getElem? (i := 108) rfl)
theorem dX9_mirror_197 : decode cX9_mirror 197 = .ok (.getfield 48, 3) := tX9_mirror_ok (197, .getfield 48, 3) (List.mem_of_getElem? (i := 109) rfl)
theorem dX9_mirror_200 : decode cX9_mirror 200 = .ok (.aload_n 0, 1) := tX9_mirror_ok (200, .aload_n 0, 1) (List.mem_of_getElem? (i := 110) rfl)
theorem dX9_mirror_201 : decode cX9_mirror 201 = .ok (.getfield 161, 3) := tX9_mirror_ok (201, .getfield 161, 3) (List.mem_of_getElem? (i := 111) rfl)
theorem dX9_mirror_204 : decode cX9_mirror 204 = .ok (.aload_n 0, 1) := tX9_mirror_ok (204, .aload_n 0, 1) (List.mem_of_getElem? (i := 112) rfl)
theorem dX9_mirror_205 : decode cX9_mirror 205 = .ok (.getfield 164, 3) := tX9_mirror_ok (205, .getfield 164, 3) (List.mem_of_getElem? (i := 113) rfl)
theorem dX9_mirror_208 : decode cX9_mirror 208 = .ok (.invokestatic 144, 3) := tX9_mirror_ok (208, .invokestatic 144, 3) (List.mem_of_getElem? (i := 114) rfl)
theorem dX9_mirror_211 : decode cX9_mirror 211 = .ok (.lconst 1, 1) := tX9_mirror_ok (211, .lconst 1, 1) (List.mem_of_getElem? (i := 115) rfl)
theorem dX9_mirror_212 : decode cX9_mirror 212 = .ok (.lastore, 1) := tX9_mirror_ok (212, .lastore, 1) (List.mem_of_getElem? (i := 116) rfl)
theorem dX9_mirror_213 : decode cX9_mirror 213 = .ok (.iconst 0, 1) := tX9_mirror_ok (213, .iconst 0, 1) (List.mem_of_getElem? (i := 117) rfl)
theorem dX9_mirror_214 : decode cX9_mirror 214 = .ok (.istore 4, 2) := tX9_mirror_ok (214, .istore 4, 2) (List.mem_of_getElem? (i := 118) rfl)
theorem dX9_mirror_216 : decode cX9_mirror 216 = .ok (.iload 4, 2) := tX9_mirror_ok (216, .iload 4, 2) (List.mem_of_getElem? (i := 119) rfl)
theorem dX9_mirror_218 : decode cX9_mirror 218 = .ok (.iload_n 1, 1) := tX9_mirror_ok (218, .iload_n 1, 1) (List.mem_of_getElem? (i := 120) rfl)
theorem dX9_mirror_219 : decode cX9_mirror 219 = .ok (.if_icmp .ge 156, 3) := tX9_mirror_ok (219, .if_icmp .ge 156, 3) (List.mem_of_getElem? (i := 121) rfl)
theorem dX9_mirror_222 : decode cX9_mirror 222 = .ok (.iconst 0, 1) := tX9_mirror_ok (222, .iconst 0, 1) (List.mem_of_getElem? (i := 122) rfl)
theorem dX9_mirror_223 : decode cX9_mirror 223 = .ok (.istore 5, 2) := tX9_mirror_ok (223, .istore 5, 2) (List.mem_of_getElem? (i := 123) rfl)
theorem dX9_mirror_225 : decode cX9_mirror 225 = .ok (.iload 5, 2) := tX9_mirror_ok (225, .iload 5, 2) (List.mem_of_getElem? (i := 124) rfl)
theorem dX9_mirror_227 : decode cX9_mirror 227 = .ok (.sipush 3721, 3) := tX9_mirror_ok (227, .sipush 3721, 3) (List.mem_of_getElem? (i := 125) rfl)
theorem dX9_mirror_230 : decode cX9_mirror 230 = .ok (.if_icmp .ge 17, 3) := tX9_mirror_ok (230, .if_icmp .ge 17, 3) (List.mem_of_getElem? (i := 126) rfl)
theorem dX9_mirror_233 : decode cX9_mirror 233 = .ok (.aload_n 0, 1) := tX9_mirror_ok (233, .aload_n 0, 1) (List.mem_of_getElem? (i := 127) rfl)
theorem dX9_mirror_234 : decode cX9_mirror 234 = .ok (.getfield 51, 3) := tX9_mirror_ok (234, .getfield 51, 3) (List.mem_of_getElem? (i := 128) rfl)
theorem dX9_mirror_237 : decode cX9_mirror 237 = .ok (.iload 5, 2) := tX9_mirror_ok (237, .iload 5, 2) (List.mem_of_getElem? (i := 129) rfl)
theorem dX9_mirror_239 : decode cX9_mirror 239 = .ok (.lconst 0, 1) := tX9_mirror_ok (239, .lconst 0, 1) (List.mem_of_getElem? (i := 130) rfl)
theorem dX9_mirror_240 : decode cX9_mirror 240 = .ok (.lastore, 1) := tX9_mirror_ok (240, .lastore, 1) (List.mem_of_getElem? (i := 131) rfl)
theorem dX9_mirror_241 : decode cX9_mirror 241 = .ok (.iinc 5 1, 3) := tX9_mirror_ok (241, .iinc 5 1, 3) (List.mem_of_getElem? (i := 132) rfl)
theorem dX9_mirror_244 : decode cX9_mirror 244 = .ok (.goto (-19), 3) := tX9_mirror_ok (244, .goto (-19), 3) (List.mem_of_getElem? (i := 133) rfl)
theorem dX9_mirror_247 : decode cX9_mirror 247 = .ok (.iconst 0, 1) := tX9_mirror_ok (247, .iconst 0, 1) (List.mem_of_getElem? (i := 134) rfl)
theorem dX9_mirror_248 : decode cX9_mirror 248 = .ok (.istore 5, 2) := tX9_mirror_ok (248, .istore 5, 2) (List.mem_of_getElem? (i := 135) rfl)
theorem dX9_mirror_250 : decode cX9_mirror 250 = .ok (.iload 5, 2) := tX9_mirror_ok (250, .iload 5, 2) (List.mem_of_getElem? (i := 136) rfl)
theorem dX9_mirror_252 : decode cX9_mirror 252 = .ok (.sipush 3721, 3) := tX9_mirror_ok (252, .sipush 3721, 3) (List.mem_of_getElem? (i := 137) rfl)
theorem dX9_mirror_255 : decode cX9_mirror 255 = .ok (.if_icmp .ge 83, 3) := tX9_mirror_ok (255, .if_icmp .ge 83, 3) (List.mem_of_getElem? (i := 138) rfl)
theorem dX9_mirror_258 : decode cX9_mirror 258 = .ok (.iconst 0, 1) := tX9_mirror_ok (258, .iconst 0, 1) (List.mem_of_getElem? (i := 139) rfl)
theorem dX9_mirror_259 : decode cX9_mirror 259 = .ok (.istore 6, 2) := tX9_mirror_ok (259, .istore 6, 2) (List.mem_of_getElem? (i := 140) rfl)
theorem dX9_mirror_261 : decode cX9_mirror 261 = .ok (.iload 6, 2) := tX9_mirror_ok (261, .iload 6, 2) (List.mem_of_getElem? (i := 141) rfl)
theorem dX9_mirror_263 : decode cX9_mirror 263 = .ok (.aload_n 0, 1) := tX9_mirror_ok (263, .aload_n 0, 1) (List.mem_of_getElem? (i := 142) rfl)
theorem dX9_mirror_264 : decode cX9_mirror 264 = .ok (.getfield 19, 3) := tX9_mirror_ok (264, .getfield 19, 3) (List.mem_of_getElem? (i := 143) rfl)
theorem dX9_mirror_267 : decode cX9_mirror 267 = .ok (.if_icmp .ge 65, 3) := tX9_mirror_ok (267, .if_icmp .ge 65, 3) (List.mem_of_getElem? (i := 144) rfl)
theorem dX9_mirror_270 : decode cX9_mirror 270 = .ok (.aload_n 0, 1) := tX9_mirror_ok (270, .aload_n 0, 1) (List.mem_of_getElem? (i := 145) rfl)
theorem dX9_mirror_271 : decode cX9_mirror 271 = .ok (.getfield 48, 3) := tX9_mirror_ok (271, .getfield 48, 3) (List.mem_of_getElem? (i := 146) rfl)
theorem dX9_mirror_274 : decode cX9_mirror 274 = .ok (.iload 5, 2) := tX9_mirror_ok (274, .iload 5, 2) (List.mem_of_getElem? (i := 147) rfl)
theorem dX9_mirror_276 : decode cX9_mirror 276 = .ok (.laload, 1) := tX9_mirror_ok (276, .laload, 1) (List.mem_of_getElem? (i := 148) rfl)
theorem dX9_mirror_277 : decode cX9_mirror 277 = .ok (.lconst 0, 1) := tX9_mirror_ok (277, .lconst 0, 1) (List.mem_of_getElem? (i := 149) rfl)
theorem dX9_mirror_278 : decode cX9_mirror 278 = .ok (.lcmp, 1) := tX9_mirror_ok (278, .lcmp, 1) (List.mem_of_getElem? (i := 150) rfl)
theorem dX9_mirror_279 : decode cX9_mirror 279 = .ok (.ifCond .le 53, 3) := tX9_mirror_ok (279, .ifCond .le 53, 3) (List.mem_of_getElem? (i := 151) rfl)
theorem dX9_mirror_282 : decode cX9_mirror 282 = .ok (.aload_n 0, 1) := tX9_mirror_ok (282, .aload_n 0, 1) (List.mem_of_getElem? (i := 152) rfl)
theorem dX9_mirror_283 : decode cX9_mirror 283 = .ok (.getfield 51, 3) := tX9_mirror_ok (283, .getfield 51, 3) (List.mem_of_getElem? (i := 153) rfl)
theorem dX9_mirror_286 : decode cX9_mirror 286 = .ok (.iload 5, 2) := tX9_mirror_ok (286, .iload 5, 2) (List.mem_of_getElem? (i := 154) rfl)
theorem dX9_mirror_288 : decode cX9_mirror 288 = .ok (.invokestatic 147, 3) := tX9_mirror_ok (288, .invokestatic 147, 3) (List.mem_of_getElem? (i := 155) rfl)
theorem dX9_mirror_291 : decode cX9_mirror 291 = .ok (.aload_n 0, 1) := tX9_mirror_ok (291, .aload_n 0, 1) (List.mem_of_getElem? (i := 156) rfl)
theorem dX9_mirror_292 : decode cX9_mirror 292 = .ok (.getfield 29, 3) := tX9_mirror_ok (292, .getfield 29, 3) (List.mem_of_getElem? (i := 157) rfl)
theorem dX9_mirror_295 : decode cX9_mirror 295 = .ok (.iload 6, 2) := tX9_mirror_ok (295, .iload 6, 2) (List.mem_of_getElem? (i := 158) rfl)
theorem dX9_mirror_297 : decode cX9_mirror 297 = .ok (.iaload, 1) := tX9_mirror_ok (297, .iaload, 1) (List.mem_of_getElem? (i := 159) rfl)
theorem dX9_mirror_298 : decode cX9_mirror 298 = .ok (.iadd, 1) := tX9_mirror_ok (298, .iadd, 1) (List.mem_of_getElem? (i := 160) rfl)
theorem dX9_mirror_299 : decode cX9_mirror 299 = .ok (.iload 5, 2) := tX9_mirror_ok (299, .iload 5, 2) (List.mem_of_getElem? (i := 161) rfl)
theorem dX9_mirror_301 : decode cX9_mirror 301 = .ok (.invokestatic 150, 3) := tX9_mirror_ok (301, .invokestatic 150, 3) (List.mem_of_getElem? (i := 162) rfl)
theorem dX9_mirror_304 : decode cX9_mirror 304 = .ok (.aload_n 0, 1) := tX9_mirror_ok (304, .aload_n 0, 1) (List.mem_of_getElem? (i := 163) rfl)
theorem dX9_mirror_305 : decode cX9_mirror 305 = .ok (.getfield 32, 3) := tX9_mirror_ok (305, .getfield 32, 3) (List.mem_of_getElem? (i := 164) rfl)
theorem dX9_mirror_308 : decode cX9_mirror 308 = .ok (.iload 6, 2) := tX9_mirror_ok (308, .iload 6, 2) (List.mem_of_getElem? (i := 165) rfl)
theorem dX9_mirror_310 : decode cX9_mirror 310 = .ok (.iaload, 1) := tX9_mirror_ok (310, .iaload, 1) (List.mem_of_getElem? (i := 166) rfl)
theorem dX9_mirror_311 : decode cX9_mirror 311 = .ok (.iadd, 1) := tX9_mirror_ok (311, .iadd, 1) (List.mem_of_getElem? (i := 167) rfl)
theorem dX9_mirror_312 : decode cX9_mirror 312 = .ok (.invokestatic 144, 3) := tX9_mirror_ok (312, .invokestatic 144, 3) (List.mem_of_getElem? (i := 168) rfl)
theorem dX9_mirror_315 : decode cX9_mirror 315 = .ok (.dup2, 1) := tX9_mirror_ok (315, .dup2, 1) (List.mem_of_getElem? (i := 169) rfl)
theorem dX9_mirror_316 : decode cX9_mirror 316 = .ok (.laload, 1) := tX9_mirror_ok (316, .laload, 1) (List.mem_of_getElem? (i := 170) rfl)
theorem dX9_mirror_317 : decode cX9_mirror 317 = .ok (.aload_n 0, 1) := tX9_mirror_ok (317, .aload_n 0, 1) (List.mem_of_getElem? (i := 171) rfl)
theorem dX9_mirror_318 : decode cX9_mirror 318 = .ok (.getfield 48, 3) := tX9_mirror_ok (318, .getfield 48, 3) (List.mem_of_getElem? (i := 172) rfl)
theorem dX9_mirror_321 : decode cX9_mirror 321 = .ok (.iload 5, 2) := tX9_mirror_ok (321, .iload 5, 2) (List.mem_of_getElem? (i := 173) rfl)
theorem dX9_mirror_323 : decode cX9_mirror 323 = .ok (.laload, 1) := tX9_mirror_ok (323, .laload, 1) (List.mem_of_getElem? (i := 174) rfl)
theorem dX9_mirror_324 : decode cX9_mirror 324 = .ok (.ladd, 1) := tX9_mirror_ok (324, .ladd, 1) (List.mem_of_getElem? (i := 175) rfl)
theorem dX9_mirror_325 : decode cX9_mirror 325 = .ok (.lastore, 1) := tX9_mirror_ok (325, .lastore, 1) (List.mem_of_getElem? (i := 176) rfl)
theorem dX9_mirror_326 : decode cX9_mirror 326 = .ok (.iinc 6 1, 3) := tX9_mirror_ok (326, .iinc 6 1, 3) (List.mem_of_getElem? (i := 177) rfl)
theorem dX9_mirror_329 : decode cX9_mirror 329 = .ok (.goto (-68), 3) := tX9_mirror_ok (329, .goto (-68), 3) (List.mem_of_getElem? (i := 178) rfl)
theorem dX9_mirror_332 : decode cX9_mirror 332 = .ok (.iinc 5 1, 3) := tX9_mirror_ok (332, .iinc 5 1, 3) (List.mem_of_getElem? (i := 179) rfl)
theorem dX9_mirror_335 : decode cX9_mirror 335 = .ok (.goto (-85), 3) := tX9_mirror_ok (335, .goto (-85), 3) (List.mem_of_getElem? (i := 180) rfl)
theorem dX9_mirror_338 : decode cX9_mirror 338 = .ok (.iconst 0, 1) := tX9_mirror_ok (338, .iconst 0, 1) (List.mem_of_getElem? (i := 181) rfl)
theorem dX9_mirror_339 : decode cX9_mirror 339 = .ok (.istore 5, 2) := tX9_mirror_ok (339, .istore 5, 2) (List.mem_of_getElem? (i := 182) rfl)
theorem dX9_mirror_341 : decode cX9_mirror 341 = .ok (.iload 5, 2) := tX9_mirror_ok (341, .iload 5, 2) (List.mem_of_getElem? (i := 183) rfl)
theorem dX9_mirror_343 : decode cX9_mirror 343 = .ok (.sipush 3721, 3) := tX9_mirror_ok (343, .sipush 3721, 3) (List.mem_of_getElem? (i := 184) rfl)
theorem dX9_mirror_346 : decode cX9_mirror 346 = .ok (.if_icmp .ge 23, 3) := tX9_mirror_ok (346, .if_icmp .ge 23, 3) (List.mem_of_getElem? (i := 185) rfl)
theorem dX9_mirror_349 : decode cX9_mirror 349 = .ok (.aload_n 0, 1) := tX9_mirror_ok (349, .aload_n 0, 1) (List.mem_of_getElem? (i := 186) rfl)
theorem dX9_mirror_350 : decode cX9_mirror 350 = .ok (.getfield 48, 3) := tX9_mirror_ok (350, .getfield 48, 3) (List.mem_of_getElem? (i := 187) rfl)
theorem dX9_mirror_353 : decode cX9_mirror 353 = .ok (.iload 5, 2) := tX9_mirror_ok (353, .iload 5, 2) (List.mem_of_getElem? (i := 188) rfl)
theorem dX9_mirror_355 : decode cX9_mirror 355 = .ok (.aload_n 0, 1) := tX9_mirror_ok (355, .aload_n 0, 1) (List.mem_of_getElem? (i := 189) rfl)
theorem dX9_mirror_356 : decode cX9_mirror 356 = .ok (.getfield 51, 3) := tX9_mirror_ok (356, .getfield 51, 3) (List.mem_of_getElem? (i := 190) rfl)
theorem dX9_mirror_359 : decode cX9_mirror 359 = .ok (.iload 5, 2) := tX9_mirror_ok (359, .iload 5, 2) (List.mem_of_getElem? (i := 191) rfl)
theorem dX9_mirror_361 : decode cX9_mirror 361 = .ok (.laload, 1) := tX9_mirror_ok (361, .laload, 1) (List.mem_of_getElem? (i := 192) rfl)
theorem dX9_mirror_362 : decode cX9_mirror 362 = .ok (.lastore, 1) := tX9_mirror_ok (362, .lastore, 1) (List.mem_of_getElem? (i := 193) rfl)
theorem dX9_mirror_363 : decode cX9_mirror 363 = .ok (.iinc 5 1, 3) := tX9_mirror_ok (363, .iinc 5 1, 3) (List.mem_of_getElem? (i := 194) rfl)
theorem dX9_mirror_366 : decode cX9_mirror 366 = .ok (.goto (-25), 3) := tX9_mirror_ok (366, .goto (-25), 3) (List.mem_of_getElem? (i := 195) rfl)
theorem dX9_mirror_369 : decode cX9_mirror 369 = .ok (.iinc 4 1, 3) := tX9_mirror_ok (369, .iinc 4 1, 3) (List.mem_of_getElem? (i := 196) rfl)
theorem dX9_mirror_372 : decode cX9_mirror 372 = .ok (.goto (-156), 3) := tX9_mirror_ok (372, .goto (-156), 3) (List.mem_of_getElem? (i := 197) rfl)
theorem dX9_mirror_375 : decode cX9_mirror 375 = .ok (.aload_n 0, 1) := tX9_mirror_ok (375, .aload_n 0, 1) (List.mem_of_getElem? (i := 198) rfl)
theorem dX9_mirror_376 : decode cX9_mirror 376 = .ok (.getfield 48, 3) := tX9_mirror_ok (376, .getfield 48, 3) (List.mem_of_getElem? (i := 199) rfl)
theorem dX9_mirror_379 : decode cX9_mirror 379 = .ok (.aload_n 0, 1) := tX9_mirror_ok (379, .aload_n 0, 1) (List.mem_of_getElem? (i := 200) rfl)
theorem dX9_mirror_380 : decode cX9_mirror 380 = .ok (.getfield 167, 3) := tX9_mirror_ok (380, .getfield 167, 3) (List.mem_of_getElem? (i := 201) rfl)
theorem dX9_mirror_383 : decode cX9_mirror 383 = .ok (.iload_n 3, 1) := tX9_mirror_ok (383, .iload_n 3, 1) (List.mem_of_getElem? (i := 202) rfl)
theorem dX9_mirror_384 : decode cX9_mirror 384 = .ok (.invokestatic 144, 3) := tX9_mirror_ok (384, .invokestatic 144, 3) (List.mem_of_getElem? (i := 203) rfl)
theorem dX9_mirror_387 : decode cX9_mirror 387 = .ok (.laload, 1) := tX9_mirror_ok (387, .laload, 1) (List.mem_of_getElem? (i := 204) rfl)
theorem dX9_mirror_388 : decode cX9_mirror 388 = .ok (.lreturn, 1) := tX9_mirror_ok (388, .lreturn, 1) (List.mem_of_getElem? (i := 205) rfl)

def tX9_isMirrored : List (Nat × Instr × Nat) := [
  (0, .iconst 0, 1),
  (1, .istore_n 1, 1),
  (2, .iload_n 1, 1),
  (3, .aload_n 0, 1),
  (4, .getfield 19, 3),
  (7, .if_icmp .ge 94, 3),
  (10, .iconst 0, 1),
  (11, .istore_n 2, 1),
  (12, .iconst 0, 1),
  (13, .istore_n 3, 1),
  (14, .iload_n 3, 1),
  (15, .aload_n 0, 1),
  (16, .getfield 19, 3),
  (19, .if_icmp .ge 50, 3),
  (22, .iload_n 2, 1),
  (23, .ifCond .ne 34, 3),
  (26, .aload_n 0, 1),
  (27, .getfield 29, 3),
  (30, .iload_n 3, 1),
  (31, .iaload, 1),
  (32, .aload_n 0, 1),
  (33, .getfield 29, 3),
  (36, .iload_n 1, 1),
  (37, .iaload, 1),
  (38, .if_icmp .ne 23, 3),
  (41, .aload_n 0, 1),
  (42, .getfield 32, 3),
  (45, .iload_n 3, 1),
  (46, .iaload, 1),
  (47, .aload_n 0, 1),
  (48, .getfield 32, 3),
  (51, .iload_n 1, 1),
  (52, .iaload, 1),
  (53, .ineg, 1),
  (54, .if_icmp .ne 7, 3),
  (57, .iconst 1, 1),
  (58, .goto 4, 3),
  (61, .iconst 0, 1),
  (62, .istore_n 2, 1),
  (63, .iinc 3 1, 3),
  (66, .goto (-52), 3),
  (69, .iload_n 2, 1),
  (70, .ifCond .eq 23, 3),
  (73, .aload_n 0, 1),
  (74, .getfield 32, 3),
  (77, .iload_n 1, 1),
  (78, .iaload, 1),
  (79, .iconst 1, 1),
  (80, .if_icmp .eq 15, 3),
  (83, .aload_n 0, 1),
  (84, .getfield 32, 3),
  (87, .iload_n 1, 1),
  (88, .iaload, 1),
  (89, .iconst (-1), 1),
  (90, .if_icmp .eq 5, 3),
  (93, .iconst 0, 1),
  (94, .ireturn, 1),
  (95, .iinc 1 1, 3),
  (98, .goto (-96), 3),
  (101, .iconst 1, 1),
  (102, .ireturn, 1)]
set_option maxRecDepth 100000 in
theorem tX9_isMirrored_ok : ∀ q ∈ tX9_isMirrored, decode cX9_isMirrored q.1 = .ok q.2 := by decide +kernel
theorem dX9_isMirrored_0 : decode cX9_isMirrored 0 = .ok (.iconst 0, 1) := tX9_isMirrored_ok (0, .iconst 0, 1) (List.mem_of_getElem? (i := 0) rfl)
theorem dX9_isMirrored_1 : decode cX9_isMirrored 1 = .ok (.istore_n 1, 1) := tX9_isMirrored_ok (1, .istore_n 1, 1) (List.mem_of_getElem? (i := 1) rfl)
theorem dX9_isMirrored_2 : decode cX9_isMirrored 2 = .ok (.iload_n 1, 1) := tX9_isMirrored_ok (2, .iload_n 1, 1) (List.mem_of_getElem? (i := 2) rfl)
theorem dX9_isMirrored_3 : decode cX9_isMirrored 3 = .ok (.aload_n 0, 1) := tX9_isMirrored_ok (3, .aload_n 0, 1) (List.mem_of_getElem? (i := 3) rfl)
theorem dX9_isMirrored_4 : decode cX9_isMirrored 4 = .ok (.getfield 19, 3) := tX9_isMirrored_ok (4, .getfield 19, 3) (List.mem_of_getElem? (i := 4) rfl)
theorem dX9_isMirrored_7 : decode cX9_isMirrored 7 = .ok (.if_icmp .ge 94, 3) := tX9_isMirrored_ok (7, .if_icmp .ge 94, 3) (List.mem_of_getElem? (i := 5) rfl)
theorem dX9_isMirrored_10 : decode cX9_isMirrored 10 = .ok (.iconst 0, 1) := tX9_isMirrored_ok (10, .iconst 0, 1) (List.mem_of_getElem? (i := 6) rfl)
theorem dX9_isMirrored_11 : decode cX9_isMirrored 11 = .ok (.istore_n 2, 1) := tX9_isMirrored_ok (11, .istore_n 2, 1) (List.mem_of_getElem? (i := 7) rfl)
theorem dX9_isMirrored_12 : decode cX9_isMirrored 12 = .ok (.iconst 0, 1) := tX9_isMirrored_ok (12, .iconst 0, 1) (List.mem_of_getElem? (i := 8) rfl)
theorem dX9_isMirrored_13 : decode cX9_isMirrored 13 = .ok (.istore_n 3, 1) := tX9_isMirrored_ok (13, .istore_n 3, 1) (List.mem_of_getElem? (i := 9) rfl)
theorem dX9_isMirrored_14 : decode cX9_isMirrored 14 = .ok (.iload_n 3, 1) := tX9_isMirrored_ok (14, .iload_n 3, 1) (List.mem_of_getElem? (i := 10) rfl)
theorem dX9_isMirrored_15 : decode cX9_isMirrored 15 = .ok (.aload_n 0, 1) := tX9_isMirrored_ok (15, .aload_n 0, 1) (List.mem_of_getElem? (i := 11) rfl)
theorem dX9_isMirrored_16 : decode cX9_isMirrored 16 = .ok (.getfield 19, 3) := tX9_isMirrored_ok (16, .getfield 19, 3) (List.mem_of_getElem? (i := 12) rfl)
theorem dX9_isMirrored_19 : decode cX9_isMirrored 19 = .ok (.if_icmp .ge 50, 3) := tX9_isMirrored_ok (19, .if_icmp .ge 50, 3) (List.mem_of_getElem? (i := 13) rfl)
theorem dX9_isMirrored_22 : decode cX9_isMirrored 22 = .ok (.iload_n 2, 1) := tX9_isMirrored_ok (22, .iload_n 2, 1) (List.mem_of_getElem? (i := 14) rfl)
theorem dX9_isMirrored_23 : decode cX9_isMirrored 23 = .ok (.ifCond .ne 34, 3) := tX9_isMirrored_ok (23, .ifCond .ne 34, 3) (List.mem_of_getElem? (i := 15) rfl)
theorem dX9_isMirrored_26 : decode cX9_isMirrored 26 = .ok (.aload_n 0, 1) := tX9_isMirrored_ok (26, .aload_n 0, 1) (List.mem_of_getElem? (i := 16) rfl)
theorem dX9_isMirrored_27 : decode cX9_isMirrored 27 = .ok (.getfield 29, 3) := tX9_isMirrored_ok (27, .getfield 29, 3) (List.mem_of_getElem? (i := 17) rfl)
theorem dX9_isMirrored_30 : decode cX9_isMirrored 30 = .ok (.iload_n 3, 1) := tX9_isMirrored_ok (30, .iload_n 3, 1) (List.mem_of_getElem? (i := 18) rfl)
theorem dX9_isMirrored_31 : decode cX9_isMirrored 31 = .ok (.iaload, 1) := tX9_isMirrored_ok (31, .iaload, 1) (List.mem_of_getElem? (i := 19) rfl)
theorem dX9_isMirrored_32 : decode cX9_isMirrored 32 = .ok (.aload_n 0, 1) := tX9_isMirrored_ok (32, .aload_n 0, 1) (List.mem_of_getElem? (i := 20) rfl)
theorem dX9_isMirrored_33 : decode cX9_isMirrored 33 = .ok (.getfield 29, 3) := tX9_isMirrored_ok (33, .getfield 29, 3) (List.mem_of_getElem? (i := 21) rfl)
theorem dX9_isMirrored_36 : decode cX9_isMirrored 36 = .ok (.iload_n 1, 1) := tX9_isMirrored_ok (36, .iload_n 1, 1) (List.mem_of_getElem? (i := 22) rfl)
theorem dX9_isMirrored_37 : decode cX9_isMirrored 37 = .ok (.iaload, 1) := tX9_isMirrored_ok (37, .iaload, 1) (List.mem_of_getElem? (i := 23) rfl)
theorem dX9_isMirrored_38 : decode cX9_isMirrored 38 = .ok (.if_icmp .ne 23, 3) := tX9_isMirrored_ok (38, .if_icmp .ne 23, 3) (List.mem_of_getElem? (i := 24) rfl)
theorem dX9_isMirrored_41 : decode cX9_isMirrored 41 = .ok (.aload_n 0, 1) := tX9_isMirrored_ok (41, .aload_n 0, 1) (List.mem_of_getElem? (i := 25) rfl)
theorem dX9_isMirrored_42 : decode cX9_isMirrored 42 = .ok (.getfield 32, 3) := tX9_isMirrored_ok (42, .getfield 32, 3) (List.mem_of_getElem? (i := 26) rfl)
theorem dX9_isMirrored_45 : decode cX9_isMirrored 45 = .ok (.iload_n 3, 1) := tX9_isMirrored_ok (45, .iload_n 3, 1) (List.mem_of_getElem? (i := 27) rfl)
theorem dX9_isMirrored_46 : decode cX9_isMirrored 46 = .ok (.iaload, 1) := tX9_isMirrored_ok (46, .iaload, 1) (List.mem_of_getElem? (i := 28) rfl)
theorem dX9_isMirrored_47 : decode cX9_isMirrored 47 = .ok (.aload_n 0, 1) := tX9_isMirrored_ok (47, .aload_n 0, 1) (List.mem_of_getElem? (i := 29) rfl)
theorem dX9_isMirrored_48 : decode cX9_isMirrored 48 = .ok (.getfield 32, 3) := tX9_isMirrored_ok (48, .getfield 32, 3) (List.mem_of_getElem? (i := 30) rfl)
theorem dX9_isMirrored_51 : decode cX9_isMirrored 51 = .ok (.iload_n 1, 1) := tX9_isMirrored_ok (51, .iload_n 1, 1) (List.mem_of_getElem? (i := 31) rfl)
theorem dX9_isMirrored_52 : decode cX9_isMirrored 52 = .ok (.iaload, 1) := tX9_isMirrored_ok (52, .iaload, 1) (List.mem_of_getElem? (i := 32) rfl)
theorem dX9_isMirrored_53 : decode cX9_isMirrored 53 = .ok (.ineg, 1) := tX9_isMirrored_ok (53, .ineg, 1) (List.mem_of_getElem? (i := 33) rfl)
theorem dX9_isMirrored_54 : decode cX9_isMirrored 54 = .ok (.if_icmp .ne 7, 3) := tX9_isMirrored_ok (54, .if_icmp .ne 7, 3) (List.mem_of_getElem? (i := 34) rfl)
theorem dX9_isMirrored_57 : decode cX9_isMirrored 57 = .ok (.iconst 1, 1) := tX9_isMirrored_ok (57, .iconst 1, 1) (List.mem_of_getElem? (i := 35) rfl)
theorem dX9_isMirrored_58 : decode cX9_isMirrored 58 = .ok (.goto 4, 3) := tX9_isMirrored_ok (58, .goto 4, 3) (List.mem_of_getElem? (i := 36) rfl)
theorem dX9_isMirrored_61 : decode cX9_isMirrored 61 = .ok (.iconst 0, 1) := tX9_isMirrored_ok (61, .iconst 0, 1) (List.mem_of_getElem? (i := 37) rfl)
theorem dX9_isMirrored_62 : decode cX9_isMirrored 62 = .ok (.istore_n 2, 1) := tX9_isMirrored_ok (62, .istore_n 2, 1) (List.mem_of_getElem? (i := 38) rfl)
theorem dX9_isMirrored_63 : decode cX9_isMirrored 63 = .ok (.iinc 3 1, 3) := tX9_isMirrored_ok (63, .iinc 3 1, 3) (List.mem_of_getElem? (i := 39) rfl)
theorem dX9_isMirrored_66 : decode cX9_isMirrored 66 = .ok (.goto (-52), 3) := tX9_isMirrored_ok (66, .goto (-52), 3) (List.mem_of_getElem? (i := 40) rfl)
theorem dX9_isMirrored_69 : decode cX9_isMirrored 69 = .ok (.iload_n 2, 1) := tX9_isMirrored_ok (69, .iload_n 2, 1) (List.mem_of_getElem? (i := 41) rfl)
theorem dX9_isMirrored_70 : decode cX9_isMirrored 70 = .ok (.ifCond .eq 23, 3) := tX9_isMirrored_ok (70, .ifCond .eq 23, 3) (List.mem_of_getElem? (i := 42) rfl)
theorem dX9_isMirrored_73 : decode cX9_isMirrored 73 = .ok (.aload_n 0, 1) := tX9_isMirrored_ok (73, .aload_n 0, 1) (List.mem_of_getElem? (i := 43) rfl)
theorem dX9_isMirrored_74 : decode cX9_isMirrored 74 = .ok (.getfield 32, 3) := tX9_isMirrored_ok (74, .getfield 32, 3) (List.mem_of_getElem? (i := 44) rfl)
theorem dX9_isMirrored_77 : decode cX9_isMirrored 77 = .ok (.iload_n 1, 1) := tX9_isMirrored_ok (77, .iload_n 1, 1) (List.mem_of_getElem? (i := 45) rfl)
theorem dX9_isMirrored_78 : decode cX9_isMirrored 78 = .ok (.iaload, 1) := tX9_isMirrored_ok (78, .iaload, 1) (List.mem_of_getElem? (i := 46) rfl)
theorem dX9_isMirrored_79 : decode cX9_isMirrored 79 = .ok (.iconst 1, 1) := tX9_isMirrored_ok (79, .iconst 1, 1) (List.mem_of_getElem? (i := 47) rfl)
theorem dX9_isMirrored_80 : decode cX9_isMirrored 80 = .ok (.if_icmp .eq 15, 3) := tX9_isMirrored_ok (80, .if_icmp .eq 15, 3) (List.mem_of_getElem? (i := 48) rfl)
theorem dX9_isMirrored_83 : decode cX9_isMirrored 83 = .ok (.aload_n 0, 1) := tX9_isMirrored_ok (83, .aload_n 0, 1) (List.mem_of_getElem? (i := 49) rfl)
theorem dX9_isMirrored_84 : decode cX9_isMirrored 84 = .ok (.getfield 32, 3) := tX9_isMirrored_ok (84, .getfield 32, 3) (List.mem_of_getElem? (i := 50) rfl)
theorem dX9_isMirrored_87 : decode cX9_isMirrored 87 = .ok (.iload_n 1, 1) := tX9_isMirrored_ok (87, .iload_n 1, 1) (List.mem_of_getElem? (i := 51) rfl)
theorem dX9_isMirrored_88 : decode cX9_isMirrored 88 = .ok (.iaload, 1) := tX9_isMirrored_ok (88, .iaload, 1) (List.mem_of_getElem? (i := 52) rfl)
theorem dX9_isMirrored_89 : decode cX9_isMirrored 89 = .ok (.iconst (-1), 1) := tX9_isMirrored_ok (89, .iconst (-1), 1) (List.mem_of_getElem? (i := 53) rfl)
theorem dX9_isMirrored_90 : decode cX9_isMirrored 90 = .ok (.if_icmp .eq 5, 3) := tX9_isMirrored_ok (90, .if_icmp .eq 5, 3) (List.mem_of_getElem? (i := 54) rfl)
theorem dX9_isMirrored_93 : decode cX9_isMirrored 93 = .ok (.iconst 0, 1) := tX9_isMirrored_ok (93, .iconst 0, 1) (List.mem_of_getElem? (i := 55) rfl)
theorem dX9_isMirrored_94 : decode cX9_isMirrored 94 = .ok (.ireturn, 1) := tX9_isMirrored_ok (94, .ireturn, 1) (List.mem_of_getElem? (i := 56) rfl)
theorem dX9_isMirrored_95 : decode cX9_isMirrored 95 = .ok (.iinc 1 1, 3) := tX9_isMirrored_ok (95, .iinc 1 1, 3) (List.mem_of_getElem? (i := 57) rfl)
theorem dX9_isMirrored_98 : decode cX9_isMirrored 98 = .ok (.goto (-96), 3) := tX9_isMirrored_ok (98, .goto (-96), 3) (List.mem_of_getElem? (i := 58) rfl)
theorem dX9_isMirrored_101 : decode cX9_isMirrored 101 = .ok (.iconst 1, 1) := tX9_isMirrored_ok (101, .iconst 1, 1) (List.mem_of_getElem? (i := 59) rfl)
theorem dX9_isMirrored_102 : decode cX9_isMirrored 102 = .ok (.ireturn, 1) := tX9_isMirrored_ok (102, .ireturn, 1) (List.mem_of_getElem? (i := 60) rfl)

def tX9_falls : List (Nat × Instr × Nat) := [
  (0, .iload_n 1, 1),
  (1, .iconst 1, 1),
  (2, .if_icmp .lt 9, 3),
  (5, .iload_n 1, 1),
  (6, .bipush 60, 2),
  (8, .if_icmp .le 5, 3),
  (11, .iconst 2, 1),
  (12, .ireturn, 1),
  (13, .iconst 0, 1),
  (14, .istore_n 2, 1),
  (15, .iload_n 2, 1),
  (16, .aload_n 0, 1),
  (17, .getfield 19, 3),
  (20, .if_icmp .ge 21, 3),
  (23, .aload_n 0, 1),
  (24, .getfield 32, 3),
  (27, .iload_n 2, 1),
  (28, .iaload, 1),
  (29, .iconst (-1), 1),
  (30, .if_icmp .ge 5, 3),
  (33, .iconst 5, 1),
  (34, .ireturn, 1),
  (35, .iinc 2 1, 3),
  (38, .goto (-23), 3),
  (41, .aload_n 0, 1),
  (42, .getfield 164, 3),
  (45, .ifCond .le 7, 3),
  (48, .iconst 0, 1),
  (49, .goto 5, 3),
  (52, .bipush 7, 2),
  (54, .ireturn, 1)]
set_option maxRecDepth 100000 in
theorem tX9_falls_ok : ∀ q ∈ tX9_falls, decode cX9_falls q.1 = .ok q.2 := by decide +kernel
theorem dX9_falls_0 : decode cX9_falls 0 = .ok (.iload_n 1, 1) := tX9_falls_ok (0, .iload_n 1, 1) (List.mem_of_getElem? (i := 0) rfl)
theorem dX9_falls_1 : decode cX9_falls 1 = .ok (.iconst 1, 1) := tX9_falls_ok (1, .iconst 1, 1) (List.mem_of_getElem? (i := 1) rfl)
theorem dX9_falls_2 : decode cX9_falls 2 = .ok (.if_icmp .lt 9, 3) := tX9_falls_ok (2, .if_icmp .lt 9, 3) (List.mem_of_getElem? (i := 2) rfl)
theorem dX9_falls_5 : decode cX9_falls 5 = .ok (.iload_n 1, 1) := tX9_falls_ok (5, .iload_n 1, 1) (List.mem_of_getElem? (i := 3) rfl)
theorem dX9_falls_6 : decode cX9_falls 6 = .ok (.bipush 60, 2) := tX9_falls_ok (6, .bipush 60, 2) (List.mem_of_getElem? (i := 4) rfl)
theorem dX9_falls_8 : decode cX9_falls 8 = .ok (.if_icmp .le 5, 3) := tX9_falls_ok (8, .if_icmp .le 5, 3) (List.mem_of_getElem? (i := 5) rfl)
theorem dX9_falls_11 : decode cX9_falls 11 = .ok (.iconst 2, 1) := tX9_falls_ok (11, .iconst 2, 1) (List.mem_of_getElem? (i := 6) rfl)
theorem dX9_falls_12 : decode cX9_falls 12 = .ok (.ireturn, 1) := tX9_falls_ok (12, .ireturn, 1) (List.mem_of_getElem? (i := 7) rfl)
theorem dX9_falls_13 : decode cX9_falls 13 = .ok (.iconst 0, 1) := tX9_falls_ok (13, .iconst 0, 1) (List.mem_of_getElem? (i := 8) rfl)
theorem dX9_falls_14 : decode cX9_falls 14 = .ok (.istore_n 2, 1) := tX9_falls_ok (14, .istore_n 2, 1) (List.mem_of_getElem? (i := 9) rfl)
theorem dX9_falls_15 : decode cX9_falls 15 = .ok (.iload_n 2, 1) := tX9_falls_ok (15, .iload_n 2, 1) (List.mem_of_getElem? (i := 10) rfl)
theorem dX9_falls_16 : decode cX9_falls 16 = .ok (.aload_n 0, 1) := tX9_falls_ok (16, .aload_n 0, 1) (List.mem_of_getElem? (i := 11) rfl)
theorem dX9_falls_17 : decode cX9_falls 17 = .ok (.getfield 19, 3) := tX9_falls_ok (17, .getfield 19, 3) (List.mem_of_getElem? (i := 12) rfl)
theorem dX9_falls_20 : decode cX9_falls 20 = .ok (.if_icmp .ge 21, 3) := tX9_falls_ok (20, .if_icmp .ge 21, 3) (List.mem_of_getElem? (i := 13) rfl)
theorem dX9_falls_23 : decode cX9_falls 23 = .ok (.aload_n 0, 1) := tX9_falls_ok (23, .aload_n 0, 1) (List.mem_of_getElem? (i := 14) rfl)
theorem dX9_falls_24 : decode cX9_falls 24 = .ok (.getfield 32, 3) := tX9_falls_ok (24, .getfield 32, 3) (List.mem_of_getElem? (i := 15) rfl)
theorem dX9_falls_27 : decode cX9_falls 27 = .ok (.iload_n 2, 1) := tX9_falls_ok (27, .iload_n 2, 1) (List.mem_of_getElem? (i := 16) rfl)
theorem dX9_falls_28 : decode cX9_falls 28 = .ok (.iaload, 1) := tX9_falls_ok (28, .iaload, 1) (List.mem_of_getElem? (i := 17) rfl)
theorem dX9_falls_29 : decode cX9_falls 29 = .ok (.iconst (-1), 1) := tX9_falls_ok (29, .iconst (-1), 1) (List.mem_of_getElem? (i := 18) rfl)
theorem dX9_falls_30 : decode cX9_falls 30 = .ok (.if_icmp .ge 5, 3) := tX9_falls_ok (30, .if_icmp .ge 5, 3) (List.mem_of_getElem? (i := 19) rfl)
theorem dX9_falls_33 : decode cX9_falls 33 = .ok (.iconst 5, 1) := tX9_falls_ok (33, .iconst 5, 1) (List.mem_of_getElem? (i := 20) rfl)
theorem dX9_falls_34 : decode cX9_falls 34 = .ok (.ireturn, 1) := tX9_falls_ok (34, .ireturn, 1) (List.mem_of_getElem? (i := 21) rfl)
theorem dX9_falls_35 : decode cX9_falls 35 = .ok (.iinc 2 1, 3) := tX9_falls_ok (35, .iinc 2 1, 3) (List.mem_of_getElem? (i := 22) rfl)
theorem dX9_falls_38 : decode cX9_falls 38 = .ok (.goto (-23), 3) := tX9_falls_ok (38, .goto (-23), 3) (List.mem_of_getElem? (i := 23) rfl)
theorem dX9_falls_41 : decode cX9_falls 41 = .ok (.aload_n 0, 1) := tX9_falls_ok (41, .aload_n 0, 1) (List.mem_of_getElem? (i := 24) rfl)
theorem dX9_falls_42 : decode cX9_falls 42 = .ok (.getfield 164, 3) := tX9_falls_ok (42, .getfield 164, 3) (List.mem_of_getElem? (i := 25) rfl)
theorem dX9_falls_45 : decode cX9_falls 45 = .ok (.ifCond .le 7, 3) := tX9_falls_ok (45, .ifCond .le 7, 3) (List.mem_of_getElem? (i := 26) rfl)
theorem dX9_falls_48 : decode cX9_falls 48 = .ok (.iconst 0, 1) := tX9_falls_ok (48, .iconst 0, 1) (List.mem_of_getElem? (i := 27) rfl)
theorem dX9_falls_49 : decode cX9_falls 49 = .ok (.goto 5, 3) := tX9_falls_ok (49, .goto 5, 3) (List.mem_of_getElem? (i := 28) rfl)
theorem dX9_falls_52 : decode cX9_falls 52 = .ok (.bipush 7, 2) := tX9_falls_ok (52, .bipush 7, 2) (List.mem_of_getElem? (i := 29) rfl)
theorem dX9_falls_54 : decode cX9_falls 54 = .ok (.ireturn, 1) := tX9_falls_ok (54, .ireturn, 1) (List.mem_of_getElem? (i := 30) rfl)

def tX9_comings : List (Nat × Instr × Nat) := [
  (0, .iconst 0, 1),
  (1, .istore_n 3, 1),
  (2, .iload_n 3, 1),
  (3, .sipush 400, 3),
  (6, .if_icmp .ge 16, 3),
  (9, .aload_n 0, 1),
  (10, .getfield 48, 3),
  (13, .iload_n 3, 1),
  (14, .lconst 0, 1),
  (15, .lastore, 1),
  (16, .iinc 3 1, 3),
  (19, .goto (-17), 3),
  (22, .aload_n 0, 1),
  (23, .getfield 48, 3),
  (26, .bipush 60, 2),
  (28, .aload_n 0, 1),
  (29, .getfield 164, 3),
  (32, .iadd, 1),
  (33, .lconst 1, 1),
  (34, .lastore, 1),
  (35, .iconst 1, 1),
  (36, .istore_n 3, 1),
  (37, .iload_n 3, 1),
  (38, .iload_n 1, 1),
  (39, .if_icmp .gt 179, 3),
  (42, .iconst 0, 1),
  (43, .istore 4, 2),
  (45, .iload 4, 2),
  (47, .sipush 400, 3),
  (50, .if_icmp .ge 17, 3),
  (53, .aload_n 0, 1),
  (54, .getfield 51, 3),
  (57, .iload 4, 2),
  (59, .lconst 0, 1),
  (60, .lastore, 1),
  (61, .iinc 4 1, 3),
  (64, .goto (-19), 3),
  (67, .iconst 0, 1),
  (68, .istore 4, 2),
  (70, .iload 4, 2),
  (72, .bipush 60, 2),
  (74, .iload_n 1, 1),
  (75, .iadd, 1),
  (76, .if_icmp .gt 105, 3),
  (79, .aload_n 0, 1),
  (80, .getfield 48, 3),
  (83, .iload 4, 2),
  (85, .laload, 1),
  (86, .lconst 0, 1),
  (87, .lcmp, 1),
  (88, .ifCond .eq 87, 3),
  (91, .iload_n 2, 1),
  (92, .ifCond .eq 13, 3),
  (95, .iload 4, 2),
  (97, .bipush 60, 2),
  (99, .if_icmp .gt 6, 3),
  (102, .goto 73, 3),
  (105, .iconst 0, 1),
  (106, .istore 5, 2),
  (108, .iload 5, 2),
  (110, .aload_n 0, 1),
  (111, .getfield 19, 3),
  (114, .if_icmp .ge 61, 3),
  (117, .iload 4, 2),
  (119, .aload_n 0, 1),
  (120, .getfield 32, 3),
  (123, .iload 5, 2),
  (125, .iaload, 1),
  (126, .iadd, 1),
  (127, .istore 6, 2),
  (129, .iload 6, 2),
  (131, .ifCond .lt 38, 3),
  (134, .iload 6, 2),
  (136, .bipush 60, 2),
  (138, .iload_n 1, 1),
  (139, .iadd, 1),
  (140, .iload_n 3, 1),
  (141, .isub, 1),
  (142, .if_icmp .gt 27, 3),
  (145, .aload_n 0, 1),
  (146, .getfield 51, 3),
  (149, .iload 6, 2),
  (151, .aload_n 0, 1),
  (152, .getfield 51, 3),
  (155, .iload 6, 2),
  (157, .laload, 1),
  (158, .aload_n 0, 1),
  (159, .getfield 48, 3),
  (162, .iload 4, 2),
  (164, .laload, 1),
  (165, .invokestatic 178, 3),
  (168, .lastore, 1),
  (169, .iinc 5 1, 3),
  (172, .goto (-64), 3),
  (175, .iinc 4 1, 3),
  (178, .goto (-108), 3),
  (181, .iconst 0, 1),
  (182, .istore 4, 2),
  (184, .iload 4, 2),
  (186, .sipush 400, 3),
  (189, .if_icmp .ge 23, 3),
  (192, .aload_n 0, 1),
  (193, .getfield 48, 3),
  (196, .iload 4, 2),
  (198, .aload_n 0, 1),
  (199, .getfield 51, 3),
  (202, .iload 4, 2),
  (204, .laload, 1),
  (205, .lastore, 1),
  (206, .iinc 4 1, 3),
  (209, .goto (-25), 3),
  (212, .iinc 3 1, 3),
  (215, .goto (-178), 3),
  (218, .aload_n 0, 1),
  (219, .getfield 48, 3),
  (222, .bipush 60, 2),
  (224, .laload, 1),
  (225, .lreturn, 1)]
set_option maxRecDepth 100000 in
theorem tX9_comings_ok : ∀ q ∈ tX9_comings, decode cX9_comings q.1 = .ok q.2 := by decide +kernel
theorem dX9_comings_0 : decode cX9_comings 0 = .ok (.iconst 0, 1) := tX9_comings_ok (0, .iconst 0, 1) (List.mem_of_getElem? (i := 0) rfl)
theorem dX9_comings_1 : decode cX9_comings 1 = .ok (.istore_n 3, 1) := tX9_comings_ok (1, .istore_n 3, 1) (List.mem_of_getElem? (i := 1) rfl)
theorem dX9_comings_2 : decode cX9_comings 2 = .ok (.iload_n 3, 1) := tX9_comings_ok (2, .iload_n 3, 1) (List.mem_of_getElem? (i := 2) rfl)
theorem dX9_comings_3 : decode cX9_comings 3 = .ok (.sipush 400, 3) := tX9_comings_ok (3, .sipush 400, 3) (List.mem_of_getElem? (i := 3) rfl)
theorem dX9_comings_6 : decode cX9_comings 6 = .ok (.if_icmp .ge 16, 3) := tX9_comings_ok (6, .if_icmp .ge 16, 3) (List.mem_of_getElem? (i := 4) rfl)
theorem dX9_comings_9 : decode cX9_comings 9 = .ok (.aload_n 0, 1) := tX9_comings_ok (9, .aload_n 0, 1) (List.mem_of_getElem? (i := 5) rfl)
theorem dX9_comings_10 : decode cX9_comings 10 = .ok (.getfield 48, 3) := tX9_comings_ok (10, .getfield 48, 3) (List.mem_of_getElem? (i := 6) rfl)
theorem dX9_comings_13 : decode cX9_comings 13 = .ok (.iload_n 3, 1) := tX9_comings_ok (13, .iload_n 3, 1) (List.mem_of_getElem? (i := 7) rfl)
theorem dX9_comings_14 : decode cX9_comings 14 = .ok (.lconst 0, 1) := tX9_comings_ok (14, .lconst 0, 1) (List.mem_of_getElem? (i := 8) rfl)
theorem dX9_comings_15 : decode cX9_comings 15 = .ok (.lastore, 1) := tX9_comings_ok (15, .lastore, 1) (List.mem_of_getElem? (i := 9) rfl)
theorem dX9_comings_16 : decode cX9_comings 16 = .ok (.iinc 3 1, 3) := tX9_comings_ok (16, .iinc 3 1, 3) (List.mem_of_getElem? (i := 10) rfl)
theorem dX9_comings_19 : decode cX9_comings 19 = .ok (.goto (-17), 3) := tX9_comings_ok (19, .goto (-17), 3) (List.mem_of_getElem? (i := 11) rfl)
theorem dX9_comings_22 : decode cX9_comings 22 = .ok (.aload_n 0, 1) := tX9_comings_ok (22, .aload_n 0, 1) (List.mem_of_getElem? (i := 12) rfl)
theorem dX9_comings_23 : decode cX9_comings 23 = .ok (.getfield 48, 3) := tX9_comings_ok (23, .getfield 48, 3) (List.mem_of_getElem? (i := 13) rfl)
theorem dX9_comings_26 : decode cX9_comings 26 = .ok (.bipush 60, 2) := tX9_comings_ok (26, .bipush 60, 2) (List.mem_of_getElem? (i := 14) rfl)
theorem dX9_comings_28 : decode cX9_comings 28 = .ok (.aload_n 0, 1) := tX9_comings_ok (28, .aload_n 0, 1) (List.mem_of_getElem? (i := 15) rfl)
theorem dX9_comings_29 : decode cX9_comings 29 = .ok (.getfield 164, 3) := tX9_comings_ok (29, .getfield 164, 3) (List.mem_of_getElem? (i := 16) rfl)
theorem dX9_comings_32 : decode cX9_comings 32 = .ok (.iadd, 1) := tX9_comings_ok (32, .iadd, 1) (List.mem_of_getElem? (i := 17) rfl)
theorem dX9_comings_33 : decode cX9_comings 33 = .ok (.lconst 1, 1) := tX9_comings_ok (33, .lconst 1, 1) (List.mem_of_getElem? (i := 18) rfl)
theorem dX9_comings_34 : decode cX9_comings 34 = .ok (.lastore, 1) := tX9_comings_ok (34, .lastore, 1) (List.mem_of_getElem? (i := 19) rfl)
theorem dX9_comings_35 : decode cX9_comings 35 = .ok (.iconst 1, 1) := tX9_comings_ok (35, .iconst 1, 1) (List.mem_of_getElem? (i := 20) rfl)
theorem dX9_comings_36 : decode cX9_comings 36 = .ok (.istore_n 3, 1) := tX9_comings_ok (36, .istore_n 3, 1) (List.mem_of_getElem? (i := 21) rfl)
theorem dX9_comings_37 : decode cX9_comings 37 = .ok (.iload_n 3, 1) := tX9_comings_ok (37, .iload_n 3, 1) (List.mem_of_getElem? (i := 22) rfl)
theorem dX9_comings_38 : decode cX9_comings 38 = .ok (.iload_n 1, 1) := tX9_comings_ok (38, .iload_n 1, 1) (List.mem_of_getElem? (i := 23) rfl)
theorem dX9_comings_39 : decode cX9_comings 39 = .ok (.if_icmp .gt 179, 3) := tX9_comings_ok (39, .if_icmp .gt 179, 3) (List.mem_of_getElem? (i := 24) rfl)
theorem dX9_comings_42 : decode cX9_comings 42 = .ok (.iconst 0, 1) := tX9_comings_ok (42, .iconst 0, 1) (List.mem_of_getElem? (i := 25) rfl)
theorem dX9_comings_43 : decode cX9_comings 43 = .ok (.istore 4, 2) := tX9_comings_ok (43, .istore 4, 2) (List.mem_of_getElem? (i := 26) rfl)
theorem dX9_comings_45 : decode cX9_comings 45 = .ok (.iload 4, 2) := tX9_comings_ok (45, .iload 4, 2) (List.mem_of_getElem? (i := 27) rfl)
theorem dX9_comings_47 : decode cX9_comings 47 = .ok (.sipush 400, 3) := tX9_comings_ok (47, .sipush 400, 3) (List.mem_of_getElem? (i := 28) rfl)
theorem dX9_comings_50 : decode cX9_comings 50 = .ok (.if_icmp .ge 17, 3) := tX9_comings_ok (50, .if_icmp .ge 17, 3) (List.mem_of_getElem? (i := 29) rfl)
theorem dX9_comings_53 : decode cX9_comings 53 = .ok (.aload_n 0, 1) := tX9_comings_ok (53, .aload_n 0, 1) (List.mem_of_getElem? (i := 30) rfl)
theorem dX9_comings_54 : decode cX9_comings 54 = .ok (.getfield 51, 3) := tX9_comings_ok (54, .getfield 51, 3) (List.mem_of_getElem? (i := 31) rfl)
theorem dX9_comings_57 : decode cX9_comings 57 = .ok (.iload 4, 2) := tX9_comings_ok (57, .iload 4, 2) (List.mem_of_getElem? (i := 32) rfl)
theorem dX9_comings_59 : decode cX9_comings 59 = .ok (.lconst 0, 1) := tX9_comings_ok (59, .lconst 0, 1) (List.mem_of_getElem? (i := 33) rfl)
theorem dX9_comings_60 : decode cX9_comings 60 = .ok (.lastore, 1) := tX9_comings_ok (60, .lastore, 1) (List.mem_of_getElem? (i := 34) rfl)
theorem dX9_comings_61 : decode cX9_comings 61 = .ok (.iinc 4 1, 3) := tX9_comings_ok (61, .iinc 4 1, 3) (List.mem_of_getElem? (i := 35) rfl)
theorem dX9_comings_64 : decode cX9_comings 64 = .ok (.goto (-19), 3) := tX9_comings_ok (64, .goto (-19), 3) (List.mem_of_getElem? (i := 36) rfl)
theorem dX9_comings_67 : decode cX9_comings 67 = .ok (.iconst 0, 1) := tX9_comings_ok (67, .iconst 0, 1) (List.mem_of_getElem? (i := 37) rfl)
theorem dX9_comings_68 : decode cX9_comings 68 = .ok (.istore 4, 2) := tX9_comings_ok (68, .istore 4, 2) (List.mem_of_getElem? (i := 38) rfl)
theorem dX9_comings_70 : decode cX9_comings 70 = .ok (.iload 4, 2) := tX9_comings_ok (70, .iload 4, 2) (List.mem_of_getElem? (i := 39) rfl)
theorem dX9_comings_72 : decode cX9_comings 72 = .ok (.bipush 60, 2) := tX9_comings_ok (72, .bipush 60, 2) (List.mem_of_getElem? (i := 40) rfl)
theorem dX9_comings_74 : decode cX9_comings 74 = .ok (.iload_n 1, 1) := tX9_comings_ok (74, .iload_n 1, 1) (List.mem_of_getElem? (i := 41) rfl)
theorem dX9_comings_75 : decode cX9_comings 75 = .ok (.iadd, 1) := tX9_comings_ok (75, .iadd, 1) (List.mem_of_getElem? (i := 42) rfl)
theorem dX9_comings_76 : decode cX9_comings 76 = .ok (.if_icmp .gt 105, 3) := tX9_comings_ok (76, .if_icmp .gt 105, 3) (List.mem_of_getElem? (i := 43) rfl)
theorem dX9_comings_79 : decode cX9_comings 79 = .ok (.aload_n 0, 1) := tX9_comings_ok (79, .aload_n 0, 1) (List.mem_of_getElem? (i := 44) rfl)
theorem dX9_comings_80 : decode cX9_comings 80 = .ok (.getfield 48, 3) := tX9_comings_ok (80, .getfield 48, 3) (List.mem_of_getElem? (i := 45) rfl)
theorem dX9_comings_83 : decode cX9_comings 83 = .ok (.iload 4, 2) := tX9_comings_ok (83, .iload 4, 2) (List.mem_of_getElem? (i := 46) rfl)
theorem dX9_comings_85 : decode cX9_comings 85 = .ok (.laload, 1) := tX9_comings_ok (85, .laload, 1) (List.mem_of_getElem? (i := 47) rfl)
theorem dX9_comings_86 : decode cX9_comings 86 = .ok (.lconst 0, 1) := tX9_comings_ok (86, .lconst 0, 1) (List.mem_of_getElem? (i := 48) rfl)
theorem dX9_comings_87 : decode cX9_comings 87 = .ok (.lcmp, 1) := tX9_comings_ok (87, .lcmp, 1) (List.mem_of_getElem? (i := 49) rfl)
theorem dX9_comings_88 : decode cX9_comings 88 = .ok (.ifCond .eq 87, 3) := tX9_comings_ok (88, .ifCond .eq 87, 3) (List.mem_of_getElem? (i := 50) rfl)
theorem dX9_comings_91 : decode cX9_comings 91 = .ok (.iload_n 2, 1) := tX9_comings_ok (91, .iload_n 2, 1) (List.mem_of_getElem? (i := 51) rfl)
theorem dX9_comings_92 : decode cX9_comings 92 = .ok (.ifCond .eq 13, 3) := tX9_comings_ok (92, .ifCond .eq 13, 3) (List.mem_of_getElem? (i := 52) rfl)
theorem dX9_comings_95 : decode cX9_comings 95 = .ok (.iload 4, 2) := tX9_comings_ok (95, .iload 4, 2) (List.mem_of_getElem? (i := 53) rfl)
theorem dX9_comings_97 : decode cX9_comings 97 = .ok (.bipush 60, 2) := tX9_comings_ok (97, .bipush 60, 2) (List.mem_of_getElem? (i := 54) rfl)
theorem dX9_comings_99 : decode cX9_comings 99 = .ok (.if_icmp .gt 6, 3) := tX9_comings_ok (99, .if_icmp .gt 6, 3) (List.mem_of_getElem? (i := 55) rfl)
theorem dX9_comings_102 : decode cX9_comings 102 = .ok (.goto 73, 3) := tX9_comings_ok (102, .goto 73, 3) (List.mem_of_getElem? (i := 56) rfl)
theorem dX9_comings_105 : decode cX9_comings 105 = .ok (.iconst 0, 1) := tX9_comings_ok (105, .iconst 0, 1) (List.mem_of_getElem? (i := 57) rfl)
theorem dX9_comings_106 : decode cX9_comings 106 = .ok (.istore 5, 2) := tX9_comings_ok (106, .istore 5, 2) (List.mem_of_getElem? (i := 58) rfl)
theorem dX9_comings_108 : decode cX9_comings 108 = .ok (.iload 5, 2) := tX9_comings_ok (108, .iload 5, 2) (List.mem_of_getElem? (i := 59) rfl)
theorem dX9_comings_110 : decode cX9_comings 110 = .ok (.aload_n 0, 1) := tX9_comings_ok (110, .aload_n 0, 1) (List.mem_of_getElem? (i := 60) rfl)
theorem dX9_comings_111 : decode cX9_comings 111 = .ok (.getfield 19, 3) := tX9_comings_ok (111, .getfield 19, 3) (List.mem_of_getElem? (i := 61) rfl)
theorem dX9_comings_114 : decode cX9_comings 114 = .ok (.if_icmp .ge 61, 3) := tX9_comings_ok (114, .if_icmp .ge 61, 3) (List.mem_of_getElem? (i := 62) rfl)
theorem dX9_comings_117 : decode cX9_comings 117 = .ok (.iload 4, 2) := tX9_comings_ok (117, .iload 4, 2) (List.mem_of_getElem? (i := 63) rfl)
theorem dX9_comings_119 : decode cX9_comings 119 = .ok (.aload_n 0, 1) := tX9_comings_ok (119, .aload_n 0, 1) (List.mem_of_getElem? (i := 64) rfl)
theorem dX9_comings_120 : decode cX9_comings 120 = .ok (.getfield 32, 3) := tX9_comings_ok (120, .getfield 32, 3) (List.mem_of_getElem? (i := 65) rfl)
theorem dX9_comings_123 : decode cX9_comings 123 = .ok (.iload 5, 2) := tX9_comings_ok (123, .iload 5, 2) (List.mem_of_getElem? (i := 66) rfl)
theorem dX9_comings_125 : decode cX9_comings 125 = .ok (.iaload, 1) := tX9_comings_ok (125, .iaload, 1) (List.mem_of_getElem? (i := 67) rfl)
theorem dX9_comings_126 : decode cX9_comings 126 = .ok (.iadd, 1) := tX9_comings_ok (126, .iadd, 1) (List.mem_of_getElem? (i := 68) rfl)
theorem dX9_comings_127 : decode cX9_comings 127 = .ok (.istore 6, 2) := tX9_comings_ok (127, .istore 6, 2) (List.mem_of_getElem? (i := 69) rfl)
theorem dX9_comings_129 : decode cX9_comings 129 = .ok (.iload 6, 2) := tX9_comings_ok (129, .iload 6, 2) (List.mem_of_getElem? (i := 70) rfl)
theorem dX9_comings_131 : decode cX9_comings 131 = .ok (.ifCond .lt 38, 3) := tX9_comings_ok (131, .ifCond .lt 38, 3) (List.mem_of_getElem? (i := 71) rfl)
theorem dX9_comings_134 : decode cX9_comings 134 = .ok (.iload 6, 2) := tX9_comings_ok (134, .iload 6, 2) (List.mem_of_getElem? (i := 72) rfl)
theorem dX9_comings_136 : decode cX9_comings 136 = .ok (.bipush 60, 2) := tX9_comings_ok (136, .bipush 60, 2) (List.mem_of_getElem? (i := 73) rfl)
theorem dX9_comings_138 : decode cX9_comings 138 = .ok (.iload_n 1, 1) := tX9_comings_ok (138, .iload_n 1, 1) (List.mem_of_getElem? (i := 74) rfl)
theorem dX9_comings_139 : decode cX9_comings 139 = .ok (.iadd, 1) := tX9_comings_ok (139, .iadd, 1) (List.mem_of_getElem? (i := 75) rfl)
theorem dX9_comings_140 : decode cX9_comings 140 = .ok (.iload_n 3, 1) := tX9_comings_ok (140, .iload_n 3, 1) (List.mem_of_getElem? (i := 76) rfl)
theorem dX9_comings_141 : decode cX9_comings 141 = .ok (.isub, 1) := tX9_comings_ok (141, .isub, 1) (List.mem_of_getElem? (i := 77) rfl)
theorem dX9_comings_142 : decode cX9_comings 142 = .ok (.if_icmp .gt 27, 3) := tX9_comings_ok (142, .if_icmp .gt 27, 3) (List.mem_of_getElem? (i := 78) rfl)
theorem dX9_comings_145 : decode cX9_comings 145 = .ok (.aload_n 0, 1) := tX9_comings_ok (145, .aload_n 0, 1) (List.mem_of_getElem? (i := 79) rfl)
theorem dX9_comings_146 : decode cX9_comings 146 = .ok (.getfield 51, 3) := tX9_comings_ok (146, .getfield 51, 3) (List.mem_of_getElem? (i := 80) rfl)
theorem dX9_comings_149 : decode cX9_comings 149 = .ok (.iload 6, 2) := tX9_comings_ok (149, .iload 6, 2) (List.mem_of_getElem? (i := 81) rfl)
theorem dX9_comings_151 : decode cX9_comings 151 = .ok (.aload_n 0, 1) := tX9_comings_ok (151, .aload_n 0, 1) (List.mem_of_getElem? (i := 82) rfl)
theorem dX9_comings_152 : decode cX9_comings 152 = .ok (.getfield 51, 3) := tX9_comings_ok (152, .getfield 51, 3) (List.mem_of_getElem? (i := 83) rfl)
theorem dX9_comings_155 : decode cX9_comings 155 = .ok (.iload 6, 2) := tX9_comings_ok (155, .iload 6, 2) (List.mem_of_getElem? (i := 84) rfl)
theorem dX9_comings_157 : decode cX9_comings 157 = .ok (.laload, 1) := tX9_comings_ok (157, .laload, 1) (List.mem_of_getElem? (i := 85) rfl)
theorem dX9_comings_158 : decode cX9_comings 158 = .ok (.aload_n 0, 1) := tX9_comings_ok (158, .aload_n 0, 1) (List.mem_of_getElem? (i := 86) rfl)
theorem dX9_comings_159 : decode cX9_comings 159 = .ok (.getfield 48, 3) := tX9_comings_ok (159, .getfield 48, 3) (List.mem_of_getElem? (i := 87) rfl)
theorem dX9_comings_162 : decode cX9_comings 162 = .ok (.iload 4, 2) := tX9_comings_ok (162, .iload 4, 2) (List.mem_of_getElem? (i := 88) rfl)
theorem dX9_comings_164 : decode cX9_comings 164 = .ok (.laload, 1) := tX9_comings_ok (164, .laload, 1) (List.mem_of_getElem? (i := 89) rfl)
theorem dX9_comings_165 : decode cX9_comings 165 = .ok (.invokestatic 178, 3) := tX9_comings_ok (165, .invokestatic 178, 3) (List.mem_of_getElem? (i := 90) rfl)
theorem dX9_comings_168 : decode cX9_comings 168 = .ok (.lastore, 1) := tX9_comings_ok (168, .lastore, 1) (List.mem_of_getElem? (i := 91) rfl)
theorem dX9_comings_169 : decode cX9_comings 169 = .ok (.iinc 5 1, 3) := tX9_comings_ok (169, .iinc 5 1, 3) (List.mem_of_getElem? (i := 92) rfl)
theorem dX9_comings_172 : decode cX9_comings 172 = .ok (.goto (-64), 3) := tX9_comings_ok (172, .goto (-64), 3) (List.mem_of_getElem? (i := 93) rfl)
theorem dX9_comings_175 : decode cX9_comings 175 = .ok (.iinc 4 1, 3) := tX9_comings_ok (175, .iinc 4 1, 3) (List.mem_of_getElem? (i := 94) rfl)
theorem dX9_comings_178 : decode cX9_comings 178 = .ok (.goto (-108), 3) := tX9_comings_ok (178, .goto (-108), 3) (List.mem_of_getElem? (i := 95) rfl)
theorem dX9_comings_181 : decode cX9_comings 181 = .ok (.iconst 0, 1) := tX9_comings_ok (181, .iconst 0, 1) (List.mem_of_getElem? (i := 96) rfl)
theorem dX9_comings_182 : decode cX9_comings 182 = .ok (.istore 4, 2) := tX9_comings_ok (182, .istore 4, 2) (List.mem_of_getElem? (i := 97) rfl)
theorem dX9_comings_184 : decode cX9_comings 184 = .ok (.iload 4, 2) := tX9_comings_ok (184, .iload 4, 2) (List.mem_of_getElem? (i := 98) rfl)
theorem dX9_comings_186 : decode cX9_comings 186 = .ok (.sipush 400, 3) := tX9_comings_ok (186, .sipush 400, 3) (List.mem_of_getElem? (i := 99) rfl)
theorem dX9_comings_189 : decode cX9_comings 189 = .ok (.if_icmp .ge 23, 3) := tX9_comings_ok (189, .if_icmp .ge 23, 3) (List.mem_of_getElem? (i := 100) rfl)
theorem dX9_comings_192 : decode cX9_comings 192 = .ok (.aload_n 0, 1) := tX9_comings_ok (192, .aload_n 0, 1) (List.mem_of_getElem? (i := 101) rfl)
theorem dX9_comings_193 : decode cX9_comings 193 = .ok (.getfield 48, 3) := tX9_comings_ok (193, .getfield 48, 3) (List.mem_of_getElem? (i := 102) rfl)
theorem dX9_comings_196 : decode cX9_comings 196 = .ok (.iload 4, 2) := tX9_comings_ok (196, .iload 4, 2) (List.mem_of_getElem? (i := 103) rfl)
theorem dX9_comings_198 : decode cX9_comings 198 = .ok (.aload_n 0, 1) := tX9_comings_ok (198, .aload_n 0, 1) (List.mem_of_getElem? (i := 104) rfl)
theorem dX9_comings_199 : decode cX9_comings 199 = .ok (.getfield 51, 3) := tX9_comings_ok (199, .getfield 51, 3) (List.mem_of_getElem? (i := 105) rfl)
theorem dX9_comings_202 : decode cX9_comings 202 = .ok (.iload 4, 2) := tX9_comings_ok (202, .iload 4, 2) (List.mem_of_getElem? (i := 106) rfl)
theorem dX9_comings_204 : decode cX9_comings 204 = .ok (.laload, 1) := tX9_comings_ok (204, .laload, 1) (List.mem_of_getElem? (i := 107) rfl)
theorem dX9_comings_205 : decode cX9_comings 205 = .ok (.lastore, 1) := tX9_comings_ok (205, .lastore, 1) (List.mem_of_getElem? (i := 108) rfl)
theorem dX9_comings_206 : decode cX9_comings 206 = .ok (.iinc 4 1, 3) := tX9_comings_ok (206, .iinc 4 1, 3) (List.mem_of_getElem? (i := 109) rfl)
theorem dX9_comings_209 : decode cX9_comings 209 = .ok (.goto (-25), 3) := tX9_comings_ok (209, .goto (-25), 3) (List.mem_of_getElem? (i := 110) rfl)
theorem dX9_comings_212 : decode cX9_comings 212 = .ok (.iinc 3 1, 3) := tX9_comings_ok (212, .iinc 3 1, 3) (List.mem_of_getElem? (i := 111) rfl)
theorem dX9_comings_215 : decode cX9_comings 215 = .ok (.goto (-178), 3) := tX9_comings_ok (215, .goto (-178), 3) (List.mem_of_getElem? (i := 112) rfl)
theorem dX9_comings_218 : decode cX9_comings 218 = .ok (.aload_n 0, 1) := tX9_comings_ok (218, .aload_n 0, 1) (List.mem_of_getElem? (i := 113) rfl)
theorem dX9_comings_219 : decode cX9_comings 219 = .ok (.getfield 48, 3) := tX9_comings_ok (219, .getfield 48, 3) (List.mem_of_getElem? (i := 114) rfl)
theorem dX9_comings_222 : decode cX9_comings 222 = .ok (.bipush 60, 2) := tX9_comings_ok (222, .bipush 60, 2) (List.mem_of_getElem? (i := 115) rfl)
theorem dX9_comings_224 : decode cX9_comings 224 = .ok (.laload, 1) := tX9_comings_ok (224, .laload, 1) (List.mem_of_getElem? (i := 116) rfl)
theorem dX9_comings_225 : decode cX9_comings 225 = .ok (.lreturn, 1) := tX9_comings_ok (225, .lreturn, 1) (List.mem_of_getElem? (i := 117) rfl)
