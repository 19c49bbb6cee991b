def tX9_first : List (Nat × Instr × Nat) := [
  (0, .aload_n 0, 1),
  (1, .iconst 0, 1),
  (2, .putfield 112, 3),
  (5, .aload_n 0, 1),
  (6, .aload_n 0, 1),
  (7, .iload_n 1, 1),
  (8, .invokevirtual 262, 3),
  (11, .putfield 115, 3),
  (14, .aload_n 0, 1),
  (15, .getfield 115, 3),
  (18, .ifCond .le 7, 3),
  (21, .ldc2_w 200, 3),
  (24, .lreturn, 1),
  (25, .aload_n 0, 1),
  (26, .iload_n 1, 1),
  (27, .iconst 1, 1),
  (28, .invokevirtual 265, 3),
  (31, .lstore_n 2, 1),
  (32, .lload_n 2, 1),
  (33, .ldc2_w 173, 3),
  (36, .lcmp, 1),
  (37, .ifCond .lt 13, 3),
  (40, .aload_n 0, 1),
  (41, .bipush 9, 2),
  (43, .invokevirtual 156, 3),
  (46, .i2l, 1),
  (47, .goto 4, 3),
  (50, .lload_n 2, 1),
  (51, .lreturn, 1)]
set_option maxRecDepth 100000 in
theorem tX9_first_ok : ∀ q ∈ tX9_first, decode cX9_first q.1 = .ok q.2 := by decide +kernel
theorem dX9_first_0 : decode cX9_first 0 = .ok (.aload_n 0, 1) := tX9_first_ok (0, .aload_n 0, 1) (List.mem_of_getElem? (i := 0) rfl)
theorem dX9_first_1 : decode cX9_first 1 = .ok (.iconst 0, 1) := tX9_first_ok (1, .iconst 0, 1) (List.mem_of_getElem? (i := 1) rfl)
theorem dX9_first_2 : decode cX9_first 2 = .ok (.putfield 112, 3) := tX9_first_ok (2, .putfield 112, 3) (List.mem_of_getElem? (i := 2) rfl)
theorem dX9_first_5 : decode cX9_first 5 = .ok (.aload_n 0, 1) := tX9_first_ok (5, .aload_n 0, 1) (List.mem_of_getElem? (i := 3) rfl)
theorem dX9_first_6 : decode cX9_first 6 = .ok (.aload_n 0, 1) := tX9_first_ok (6, .aload_n 0, 1) (List.mem_of_getElem? (i := 4) rfl)
theorem dX9_first_7 : decode cX9_first 7 = .ok (.iload_n 1, 1) := tX9_first_ok (7, .iload_n 1, 1) (List.mem_of_getElem? (i := 5) rfl)
theorem dX9_first_8 : decode cX9_first 8 = .ok (.invokevirtual 262, 3) := tX9_first_ok (8, .invokevirtual 262, 3) (List.mem_of_getElem? (i := 6) rfl)
theorem dX9_first_11 : decode cX9_first 11 = .ok (.putfield 115, 3) := tX9_first_ok (11, .putfield 115, 3) (List.mem_of_getElem? (i := 7) rfl)
theorem dX9_first_14 : decode cX9_first 14 = .ok (.aload_n 0, 1) := tX9_first_ok (14, .aload_n 0, 1) (List.mem_of_getElem? (i := 8) rfl)
theorem dX9_first_15 : decode cX9_first 15 = .ok (.getfield 115, 3) := tX9_first_ok (15, .getfield 115, 3) (List.mem_of_getElem? (i := 9) rfl)
theorem dX9_first_18 : decode cX9_first 18 = .ok (.ifCond .le 7, 3) := tX9_first_ok (18, .ifCond .le 7, 3) (List.mem_of_getElem? (i := 10) rfl)
theorem dX9_first_21 : decode cX9_first 21 = .ok (.ldc2_w 200, 3) := tX9_first_ok (21, .ldc2_w 200, 3) (List.mem_of_getElem? (i := 11) rfl)
theorem dX9_first_24 : decode cX9_first 24 = .ok (.lreturn, 1) := tX9_first_ok (24, .lreturn, 1) (List.mem_of_getElem? (i := 12) rfl)
theorem dX9_first_25 : decode cX9_first 25 = .ok (.aload_n 0, 1) := tX9_first_ok (25, .aload_n 0, 1) (List.mem_of_getElem? (i := 13) rfl)
theorem dX9_first_26 : decode cX9_first 26 = .ok (.iload_n 1, 1) := tX9_first_ok (26, .iload_n 1, 1) (List.mem_of_getElem? (i := 14) rfl)
theorem dX9_first_27 : decode cX9_first 27 = .ok (.iconst 1, 1) := tX9_first_ok (27, .iconst 1, 1) (List.mem_of_getElem? (i := 15) rfl)
theorem dX9_first_28 : decode cX9_first 28 = .ok (.invokevirtual 265, 3) := tX9_first_ok (28, .invokevirtual 265, 3) (List.mem_of_getElem? (i := 16) rfl)
theorem dX9_first_31 : decode cX9_first 31 = .ok (.lstore_n 2, 1) := tX9_first_ok (31, .lstore_n 2, 1) (List.mem_of_getElem? (i := 17) rfl)
theorem dX9_first_32 : decode cX9_first 32 = .ok (.lload_n 2, 1) := tX9_first_ok (32, .lload_n 2, 1) (List.mem_of_getElem? (i := 18) rfl)
theorem dX9_first_33 : decode cX9_first 33 = .ok (.ldc2_w 173, 3) := tX9_first_ok (33, .ldc2_w 173, 3) (List.mem_of_getElem? (i := 19) rfl)
theorem dX9_first_36 : decode cX9_first 36 = .ok (.lcmp, 1) := tX9_first_ok (36, .lcmp, 1) (List.mem_of_getElem? (i := 20) rfl)
theorem dX9_first_37 : decode cX9_first 37 = .ok (.ifCond .lt 13, 3) := tX9_first_ok (37, .ifCond .lt 13, 3) (List.mem_of_getElem? (i := 21) rfl)
theorem dX9_first_40 : decode cX9_first 40 = .ok (.aload_n 0, 1) := tX9_first_ok (40, .aload_n 0, 1) (List.mem_of_getElem? (i := 22) rfl)
theorem dX9_first_41 : decode cX9_first 41 = .ok (.bipush 9, 2) := tX9_first_ok (41, .bipush 9, 2) (List.mem_of_getElem? (i := 23) rfl)
theorem dX9_first_43 : decode cX9_first 43 = .ok (.invokevirtual 156, 3) := tX9_first_ok (43, .invokevirtual 156, 3) (List.mem_of_getElem? (i := 24) rfl)
theorem dX9_first_46 : decode cX9_first 46 = .ok (.i2l, 1) := tX9_first_ok (46, .i2l, 1) (List.mem_of_getElem? (i := 25) rfl)
theorem dX9_first_47 : decode cX9_first 47 = .ok (.goto 4, 3) := tX9_first_ok (47, .goto 4, 3) (List.mem_of_getElem? (i := 26) rfl)
theorem dX9_first_50 : decode cX9_first 50 = .ok (.lload_n 2, 1) := tX9_first_ok (50, .lload_n 2, 1) (List.mem_of_getElem? (i := 27) rfl)
theorem dX9_first_51 : decode cX9_first 51 = .ok (.lreturn, 1) := tX9_first_ok (51, .lreturn, 1) (List.mem_of_getElem? (i := 28) rfl)

def tX9_turnings : List (Nat × Instr × Nat) := [
  (0, .aload_n 0, 1),
  (1, .iconst 0, 1),
  (2, .putfield 112, 3),
  (5, .aload_n 0, 1),
  (6, .aload_n 0, 1),
  (7, .iload_n 1, 1),
  (8, .invokevirtual 262, 3),
  (11, .putfield 115, 3),
  (14, .aload_n 0, 1),
  (15, .getfield 115, 3),
  (18, .ifCond .le 7, 3),
  (21, .ldc2_w 200, 3),
  (24, .lreturn, 1),
  (25, .aload_n 0, 1),
  (26, .iload_n 1, 1),
  (27, .iconst 0, 1),
  (28, .invokevirtual 265, 3),
  (31, .lstore_n 2, 1),
  (32, .lload_n 2, 1),
  (33, .ldc2_w 173, 3),
  (36, .lcmp, 1),
  (37, .ifCond .lt 13, 3),
  (40, .aload_n 0, 1),
  (41, .bipush 9, 2),
  (43, .invokevirtual 156, 3),
  (46, .i2l, 1),
  (47, .goto 4, 3),
  (50, .lload_n 2, 1),
  (51, .lreturn, 1)]
set_option maxRecDepth 100000 in
theorem tX9_turnings_ok : ∀ q ∈ tX9_turnings, decode cX9_turnings q.1 = .ok q.2 := by decide +kernel
theorem dX9_turnings_0 : decode cX9_turnings 0 = .ok (.aload_n 0, 1) := tX9_turnings_ok (0, .aload_n 0, 1) (List.mem_of_getElem? (i := 0) rfl)
theorem dX9_turnings_1 : decode cX9_turnings 1 = .ok (.iconst 0, 1) := tX9_turnings_ok (1, .iconst 0, 1) (List.mem_of_getElem? (i := 1) rfl)
theorem dX9_turnings_2 : decode cX9_turnings 2 = .ok (.putfield 112, 3) := tX9_turnings_ok (2, .putfield 112, 3) (List.mem_of_getElem? (i := 2) rfl)
theorem dX9_turnings_5 : decode cX9_turnings 5 = .ok (.aload_n 0, 1) := tX9_turnings_ok (5, .aload_n 0, 1) (List.mem_of_getElem? (i := 3) rfl)
theorem dX9_turnings_6 : decode cX9_turnings 6 = .ok (.aload_n 0, 1) := tX9_turnings_ok (6, .aload_n 0, 1) (List.mem_of_getElem? (i := 4) rfl)
theorem dX9_turnings_7 : decode cX9_turnings 7 = .ok (.iload_n 1, 1) := tX9_turnings_ok (7, .iload_n 1, 1) (List.mem_of_getElem? (i := 5) rfl)
theorem dX9_turnings_8 : decode cX9_turnings 8 = .ok (.invokevirtual 262, 3) := tX9_turnings_ok (8, .invokevirtual 262, 3) (List.mem_of_getElem? (i := 6) rfl)
theorem dX9_turnings_11 : decode cX9_turnings 11 = .ok (.putfield 115, 3) := tX9_turnings_ok (11, .putfield 115, 3) (List.mem_of_getElem? (i := 7) rfl)
theorem dX9_turnings_14 : decode cX9_turnings 14 = .ok (.aload_n 0, 1) := tX9_turnings_ok (14, .aload_n 0, 1) (List.mem_of_getElem? (i := 8) rfl)
theorem dX9_turnings_15 : decode cX9_turnings 15 = .ok (.getfield 115, 3) := tX9_turnings_ok (15, .getfield 115, 3) (List.mem_of_getElem? (i := 9) rfl)
theorem dX9_turnings_18 : decode cX9_turnings 18 = .ok (.ifCond .le 7, 3) := tX9_turnings_ok (18, .ifCond .le 7, 3) (List.mem_of_getElem? (i := 10) rfl)
theorem dX9_turnings_21 : decode cX9_turnings 21 = .ok (.ldc2_w 200, 3) := tX9_turnings_ok (21, .ldc2_w 200, 3) (List.mem_of_getElem? (i := 11) rfl)
theorem dX9_turnings_24 : decode cX9_turnings 24 = .ok (.lreturn, 1) := tX9_turnings_ok (24, .lreturn, 1) (List.mem_of_getElem? (i := 12) rfl)
theorem dX9_turnings_25 : decode cX9_turnings 25 = .ok (.aload_n 0, 1) := tX9_turnings_ok (25, .aload_n 0, 1) (List.mem_of_getElem? (i := 13) rfl)
theorem dX9_turnings_26 : decode cX9_turnings 26 = .ok (.iload_n 1, 1) := tX9_turnings_ok (26, .iload_n 1, 1) (List.mem_of_getElem? (i := 14) rfl)
theorem dX9_turnings_27 : decode cX9_turnings 27 = .ok (.iconst 0, 1) := tX9_turnings_ok (27, .iconst 0, 1) (List.mem_of_getElem? (i := 15) rfl)
theorem dX9_turnings_28 : decode cX9_turnings 28 = .ok (.invokevirtual 265, 3) := tX9_turnings_ok (28, .invokevirtual 265, 3) (List.mem_of_getElem? (i := 16) rfl)
theorem dX9_turnings_31 : decode cX9_turnings 31 = .ok (.lstore_n 2, 1) := tX9_turnings_ok (31, .lstore_n 2, 1) (List.mem_of_getElem? (i := 17) rfl)
theorem dX9_turnings_32 : decode cX9_turnings 32 = .ok (.lload_n 2, 1) := tX9_turnings_ok (32, .lload_n 2, 1) (List.mem_of_getElem? (i := 18) rfl)
theorem dX9_turnings_33 : decode cX9_turnings 33 = .ok (.ldc2_w 173, 3) := tX9_turnings_ok (33, .ldc2_w 173, 3) (List.mem_of_getElem? (i := 19) rfl)
theorem dX9_turnings_36 : decode cX9_turnings 36 = .ok (.lcmp, 1) := tX9_turnings_ok (36, .lcmp, 1) (List.mem_of_getElem? (i := 20) rfl)
theorem dX9_turnings_37 : decode cX9_turnings 37 = .ok (.ifCond .lt 13, 3) := tX9_turnings_ok (37, .ifCond .lt 13, 3) (List.mem_of_getElem? (i := 21) rfl)
theorem dX9_turnings_40 : decode cX9_turnings 40 = .ok (.aload_n 0, 1) := tX9_turnings_ok (40, .aload_n 0, 1) (List.mem_of_getElem? (i := 22) rfl)
theorem dX9_turnings_41 : decode cX9_turnings 41 = .ok (.bipush 9, 2) := tX9_turnings_ok (41, .bipush 9, 2) (List.mem_of_getElem? (i := 23) rfl)
theorem dX9_turnings_43 : decode cX9_turnings 43 = .ok (.invokevirtual 156, 3) := tX9_turnings_ok (43, .invokevirtual 156, 3) (List.mem_of_getElem? (i := 24) rfl)
theorem dX9_turnings_46 : decode cX9_turnings 46 = .ok (.i2l, 1) := tX9_turnings_ok (46, .i2l, 1) (List.mem_of_getElem? (i := 25) rfl)
theorem dX9_turnings_47 : decode cX9_turnings 47 = .ok (.goto 4, 3) := tX9_turnings_ok (47, .goto 4, 3) (List.mem_of_getElem? (i := 26) rfl)
theorem dX9_turnings_50 : decode cX9_turnings 50 = .ok (.lload_n 2, 1) := tX9_turnings_ok (50, .lload_n 2, 1) (List.mem_of_getElem? (i := 27) rfl)
theorem dX9_turnings_51 : decode cX9_turnings 51 = .ok (.lreturn, 1) := tX9_turnings_ok (51, .lreturn, 1) (List.mem_of_getElem? (i := 28) rfl)

def tX9_family : List (Nat × Instr × Nat) := [
  (0, .aload_n 0, 1),
  (1, .iconst 0, 1),
  (2, .putfield 112, 3),
  (5, .aload_n 0, 1),
  (6, .iconst 0, 1),
  (7, .putfield 115, 3),
  (10, .iload_n 1, 1),
  (11, .iconst 1, 1),
  (12, .if_icmp .lt 8, 3),
  (15, .iload_n 1, 1),
  (16, .iconst 4, 1),
  (17, .if_icmp .le 9, 3),
  (20, .aload_n 0, 1),
  (21, .iconst 2, 1),
  (22, .invokevirtual 118, 3),
  (25, .ireturn, 1),
  (26, .aload_n 0, 1),
  (27, .iload_n 1, 1),
  (28, .putfield 269, 3),
  (31, .iconst 0, 1),
  (32, .istore_n 2, 1),
  (33, .iload_n 2, 1),
  (34, .iconst 4, 1),
  (35, .if_icmp .ge 37, 3),
  (38, .aload_n 0, 1),
  (39, .getfield 60, 3),
  (42, .iload_n 2, 1),
  (43, .iconst 0, 1),
  (44, .iastore, 1),
  (45, .aload_n 0, 1),
  (46, .getfield 63, 3),
  (49, .iload_n 2, 1),
  (50, .iconst 0, 1),
  (51, .iastore, 1),
  (52, .aload_n 0, 1),
  (53, .getfield 66, 3),
  (56, .iload_n 2, 1),
  (57, .iconst 0, 1),
  (58, .iastore, 1),
  (59, .aload_n 0, 1),
  (60, .getfield 69, 3),
  (63, .iload_n 2, 1),
  (64, .iconst 0, 1),
  (65, .iastore, 1),
  (66, .iinc 2 1, 3),
  (69, .goto (-36), 3),
  (72, .iconst 1, 1),
  (73, .ireturn, 1)]
set_option maxRecDepth 100000 in
theorem tX9_family_ok : ∀ q ∈ tX9_family, decode cX9_family q.1 = .ok q.2 := by decide +kernel
theorem dX9_family_0 : decode cX9_family 0 = .ok (.aload_n 0, 1) := tX9_family_ok (0, .aload_n 0, 1) (List.mem_of_getElem? (i := 0) rfl)
theorem dX9_family_1 : decode cX9_family 1 = .ok (.iconst 0, 1) := tX9_family_ok (1, .iconst 0, 1) (List.mem_of_getElem? (i := 1) rfl)
theorem dX9_family_2 : decode cX9_family 2 = .ok (.putfield 112, 3) := tX9_family_ok (2, .putfield 112, 3) (List.mem_of_getElem? (i := 2) rfl)
theorem dX9_family_5 : decode cX9_family 5 = .ok (.aload_n 0, 1) := tX9_family_ok (5, .aload_n 0, 1) (List.mem_of_getElem? (i := 3) rfl)
theorem dX9_family_6 : decode cX9_family 6 = .ok (.iconst 0, 1) := tX9_family_ok (6, .iconst 0, 1) (List.mem_of_getElem? (i := 4) rfl)
theorem dX9_family_7 : decode cX9_family 7 = .ok (.putfield 115, 3) := tX9_family_ok (7, .putfield 115, 3) (List.mem_of_getElem? (i := 5) rfl)
theorem dX9_family_10 : decode cX9_family 10 = .ok (.iload_n 1, 1) := tX9_family_ok (10, .iload_n 1, 1) (List.mem_of_getElem? (i := 6) rfl)
theorem dX9_family_11 : decode cX9_family 11 = .ok (.iconst 1, 1) := tX9_family_ok (11, .iconst 1, 1) (List.mem_of_getElem? (i := 7) rfl)
theorem dX9_family_12 : decode cX9_family 12 = .ok (.if_icmp .lt 8, 3) := tX9_family_ok (12, .if_icmp .lt 8, 3) (List.mem_of_getElem? (i := 8) rfl)
theorem dX9_family_15 : decode cX9_family 15 = .ok (.iload_n 1, 1) := tX9_family_ok (15, .iload_n 1, 1) (List.mem_of_getElem? (i := 9) rfl)
theorem dX9_family_16 : decode cX9_family 16 = .ok (.iconst 4, 1) := tX9_family_ok (16, .iconst 4, 1) (List.mem_of_getElem? (i := 10) rfl)
theorem dX9_family_17 : decode cX9_family 17 = .ok (.if_icmp .le 9, 3) := tX9_family_ok (17, .if_icmp .le 9, 3) (List.mem_of_getElem? (i := 11) rfl)
theorem dX9_family_20 : decode cX9_family 20 = .ok (.aload_n 0, 1) := tX9_family_ok (20, .aload_n 0, 1) (List.mem_of_getElem? (i := 12) rfl)
theorem dX9_family_21 : decode cX9_family 21 = .ok (.iconst 2, 1) := tX9_family_ok (21, .iconst 2, 1) (List.mem_of_getElem? (i := 13) rfl)
theorem dX9_family_22 : decode cX9_family 22 = .ok (.invokevirtual 118, 3) := tX9_family_ok (22, .invokevirtual 118, 3) (List.mem_of_getElem? (i := 14) rfl)
theorem dX9_family_25 : decode cX9_family 25 = .ok (.ireturn, 1) := tX9_family_ok (25, .ireturn, 1) (List.mem_of_getElem? (i := 15) rfl)
theorem dX9_family_26 : decode cX9_family 26 = .ok (.aload_n 0, 1) := tX9_family_ok (26, .aload_n 0, 1) (List.mem_of_getElem? (i := 16) rfl)
theorem dX9_family_27 : decode cX9_family 27 = .ok (.iload_n 1, 1) := tX9_family_ok (27, .iload_n 1, 1) (List.mem_of_getElem? (i := 17) rfl)
theorem dX9_family_28 : decode cX9_family 28 = .ok (.putfield 269, 3) := tX9_family_ok (28, .putfield 269, 3) (List.mem_of_getElem? (i := 18) rfl)
theorem dX9_family_31 : decode cX9_family 31 = .ok (.iconst 0, 1) := tX9_family_ok (31, .iconst 0, 1) (List.mem_of_getElem? (i := 19) rfl)
theorem dX9_family_32 : decode cX9_family 32 = .ok (.istore_n 2, 1) := tX9_family_ok (32, .istore_n 2, 1) (List.mem_of_getElem? (i := 20) rfl)
theorem dX9_family_33 : decode cX9_family 33 = .ok (.iload_n 2, 1) := tX9_family_ok (33, .iload_n 2, 1) (List.mem_of_getElem? (i := 21) rfl)
theorem dX9_family_34 : decode cX9_family 34 = .ok (.iconst 4, 1) := tX9_family_ok (34, .iconst 4, 1) (List.mem_of_getElem? (i := 22) rfl)
theorem dX9_family_35 : decode cX9_family 35 = .ok (.if_icmp .ge 37, 3) := tX9_family_ok (35, .if_icmp .ge 37, 3) (List.mem_of_getElem? (i := 23) rfl)
theorem dX9_family_38 : decode cX9_family 38 = .ok (.aload_n 0, 1) := tX9_family_ok (38, .aload_n 0, 1) (List.mem_of_getElem? (i := 24) rfl)
theorem dX9_family_39 : decode cX9_family 39 = .ok (.getfield 60, 3) := tX9_family_ok (39, .getfield 60, 3) (List.mem_of_getElem? (i := 25) rfl)
theorem dX9_family_42 : decode cX9_family 42 = .ok (.iload_n 2, 1) := tX9_family_ok (42, .iload_n 2, 1) (List.mem_of_getElem? (i := 26) rfl)
theorem dX9_family_43 : decode cX9_family 43 = .ok (.iconst 0, 1) := tX9_family_ok (43, .iconst 0, 1) (List.mem_of_getElem? (i := 27) rfl)
theorem dX9_family_44 : decode cX9_family 44 = .ok (.iastore, 1) := tX9_family_ok (44, .iastore, 1) (List.mem_of_getElem? (i := 28) rfl)
theorem dX9_family_45 : decode cX9_family 45 = .ok (.aload_n 0, 1) := tX9_family_ok (45, .aload_n 0, 1) (List.mem_of_getElem? (i := 29) rfl)
theorem dX9_family_46 : decode cX9_family 46 = .ok (.getfield 63, 3) := tX9_family_ok (46, .getfield 63, 3) (List.mem_of_getElem? (i := 30) rfl)
theorem dX9_family_49 : decode cX9_family 49 = .ok (.iload_n 2, 1) := tX9_family_ok (49, .iload_n 2, 1) (List.mem_of_getElem? (i := 31) rfl)
theorem dX9_family_50 : decode cX9_family 50 = .ok (.iconst 0, 1) := tX9_family_ok (50, .iconst 0, 1) (List.mem_of_getElem? (i := 32) rfl)
theorem dX9_family_51 : decode cX9_family 51 = .ok (.iastore, 1) := tX9_family_ok (51, .iastore, 1) (List.mem_of_getElem? (i := 33) rfl)
theorem dX9_family_52 : decode cX9_family 52 = .ok (.aload_n 0, 1) := tX9_family_ok (52, .aload_n 0, 1) (List.mem_of_getElem? (i := 34) rfl)
theorem dX9_family_53 : decode cX9_family 53 = .ok (.getfield 66, 3) := tX9_family_ok (53, .getfield 66, 3) (List.mem_of_getElem? (i := 35) rfl)
theorem dX9_family_56 : decode cX9_family 56 = .ok (.iload_n 2, 1) := tX9_family_ok (56, .iload_n 2, 1) (List.mem_of_getElem? (i := 36) rfl)
theorem dX9_family_57 : decode cX9_family 57 = .ok (.iconst 0, 1) := tX9_family_ok (57, .iconst 0, 1) (List.mem_of_getElem? (i := 37) rfl)
theorem dX9_family_58 : decode cX9_family 58 = .ok (.iastore, 1) := tX9_family_ok (58, .iastore, 1) (List.mem_of_getElem? (i := 38) rfl)
theorem dX9_family_59 : decode cX9_family 59 = .ok (.aload_n 0, 1) := tX9_family_ok (59, .aload_n 0, 1) (List.mem_of_getElem? (i := 39) rfl)
theorem dX9_family_60 : decode cX9_family 60 = .ok (.getfield 69, 3) := tX9_family_ok (60, .getfield 69, 3) (List.mem_of_getElem? (i := 40) rfl)
theorem dX9_family_63 : decode cX9_family 63 = .ok (.iload_n 2, 1) := tX9_family_ok (63, .iload_n 2, 1) (List.mem_of_getElem? (i := 41) rfl)
theorem dX9_family_64 : decode cX9_family 64 = .ok (.iconst 0, 1) := tX9_family_ok (64, .iconst 0, 1) (List.mem_of_getElem? (i := 42) rfl)
theorem dX9_family_65 : decode cX9_family 65 = .ok (.iastore, 1) := tX9_family_ok (65, .iastore, 1) (List.mem_of_getElem? (i := 43) rfl)
theorem dX9_family_66 : decode cX9_family 66 = .ok (.iinc 2 1, 3) := tX9_family_ok (66, .iinc 2 1, 3) (List.mem_of_getElem? (i := 44) rfl)
theorem dX9_family_69 : decode cX9_family 69 = .ok (.goto (-36), 3) := tX9_family_ok (69, .goto (-36), 3) (List.mem_of_getElem? (i := 45) rfl)
theorem dX9_family_72 : decode cX9_family 72 = .ok (.iconst 1, 1) := tX9_family_ok (72, .iconst 1, 1) (List.mem_of_getElem? (i := 46) rfl)
theorem dX9_family_73 : decode cX9_family 73 = .ok (.ireturn, 1) := tX9_family_ok (73, .ireturn, 1) (List.mem_of_getElem? (i := 47) rfl)

def tX9_place : List (Nat × Instr × Nat) := [
  (0, .aload_n 0, 1),
  (1, .iconst 0, 1),
  (2, .putfield 112, 3),
  (5, .aload_n 0, 1),
  (6, .iconst 0, 1),
  (7, .putfield 115, 3),
  (10, .iload_n 3, 1),
  (11, .iload 4, 2),
  (13, .invokestatic 133, 3),
  (16, .ifCond .ne 9, 3),
  (19, .aload_n 0, 1),
  (20, .iconst 2, 1),
  (21, .invokevirtual 118, 3),
  (24, .ireturn, 1),
  (25, .iload_n 1, 1),
  (26, .ifCond .lt 11, 3),
  (29, .iload_n 1, 1),
  (30, .aload_n 0, 1),
  (31, .getfield 269, 3),
  (34, .if_icmp .lt 10, 3),
  (37, .aload_n 0, 1),
  (38, .bipush 8, 2),
  (40, .invokevirtual 118, 3),
  (43, .ireturn, 1),
  (44, .iload_n 2, 1),
  (45, .ifCond .eq 21, 3),
  (48, .aload_n 0, 1),
  (49, .getfield 66, 3),
  (52, .iload_n 1, 1),
  (53, .iload_n 3, 1),
  (54, .iastore, 1),
  (55, .aload_n 0, 1),
  (56, .getfield 69, 3),
  (59, .iload_n 1, 1),
  (60, .iload 4, 2),
  (62, .iastore, 1),
  (63, .goto 18, 3),
  (66, .aload_n 0, 1),
  (67, .getfield 60, 3),
  (70, .iload_n 1, 1),
  (71, .iload_n 3, 1),
  (72, .iastore, 1),
  (73, .aload_n 0, 1),
  (74, .getfield 63, 3),
  (77, .iload_n 1, 1),
  (78, .iload 4, 2),
  (80, .iastore, 1),
  (81, .iconst 1, 1),
  (82, .ireturn, 1)]
set_option maxRecDepth 100000 in
theorem tX9_place_ok : ∀ q ∈ tX9_place, decode cX9_place q.1 = .ok q.2 := by decide +kernel
theorem dX9_place_0 : decode cX9_place 0 = .ok (.aload_n 0, 1) := tX9_place_ok (0, .aload_n 0, 1) (List.mem_of_getElem? (i := 0) rfl)
theorem dX9_place_1 : decode cX9_place 1 = .ok (.iconst 0, 1) := tX9_place_ok (1, .iconst 0, 1) (List.mem_of_getElem? (i := 1) rfl)
theorem dX9_place_2 : decode cX9_place 2 = .ok (.putfield 112, 3) := tX9_place_ok (2, .putfield 112, 3) (List.mem_of_getElem? (i := 2) rfl)
theorem dX9_place_5 : decode cX9_place 5 = .ok (.aload_n 0, 1) := tX9_place_ok (5, .aload_n 0, 1) (List.mem_of_getElem? (i := 3) rfl)
theorem dX9_place_6 : decode cX9_place 6 = .ok (.iconst 0, 1) := tX9_place_ok (6, .iconst 0, 1) (List.mem_of_getElem? (i := 4) rfl)
theorem dX9_place_7 : decode cX9_place 7 = .ok (.putfield 115, 3) := tX9_place_ok (7, .putfield 115, 3) (List.mem_of_getElem? (i := 5) rfl)
theorem dX9_place_10 : decode cX9_place 10 = .ok (.iload_n 3, 1) := tX9_place_ok (10, .iload_n 3, 1) (List.mem_of_getElem? (i := 6) rfl)
theorem dX9_place_11 : decode cX9_place 11 = .ok (.iload 4, 2) := tX9_place_ok (11, .iload 4, 2) (List.mem_of_getElem? (i := 7) rfl)
theorem dX9_place_13 : decode cX9_place 13 = .ok (.invokestatic 133, 3) := tX9_place_ok (13, .invokestatic 133, 3) (List.mem_of_getElem? (i := 8) rfl)
theorem dX9_place_16 : decode cX9_place 16 = .ok (.ifCond .ne 9, 3) := tX9_place_ok (16, .ifCond .ne 9, 3) (List.mem_of_getElem? (i := 9) rfl)
theorem dX9_place_19 : decode cX9_place 19 = .ok (.aload_n 0, 1) := tX9_place_ok (19, .aload_n 0, 1) (List.mem_of_getElem? (i := 10) rfl)
theorem dX9_place_20 : decode cX9_place 20 = .ok (.iconst 2, 1) := tX9_place_ok (20, .iconst 2, 1) (List.mem_of_getElem? (i := 11) rfl)
theorem dX9_place_21 : decode cX9_place 21 = .ok (.invokevirtual 118, 3) := tX9_place_ok (21, .invokevirtual 118, 3) (List.mem_of_getElem? (i := 12) rfl)
theorem dX9_place_24 : decode cX9_place 24 = .ok (.ireturn, 1) := tX9_place_ok (24, .ireturn, 1) (List.mem_of_getElem? (i := 13) rfl)
theorem dX9_place_25 : decode cX9_place 25 = .ok (.iload_n 1, 1) := tX9_place_ok (25, .iload_n 1, 1) (List.mem_of_getElem? (i := 14) rfl)
theorem dX9_place_26 : decode cX9_place 26 = .ok (.ifCond .lt 11, 3) := tX9_place_ok (26, .ifCond .lt 11, 3) (List.mem_of_getElem? (i := 15) rfl)
theorem dX9_place_29 : decode cX9_place 29 = .ok (.iload_n 1, 1) := tX9_place_ok (29, .iload_n 1, 1) (List.mem_of_getElem? (i := 16) rfl)
theorem dX9_place_30 : decode cX9_place 30 = .ok (.aload_n 0, 1) := tX9_place_ok (30, .aload_n 0, 1) (List.mem_of_getElem? (i := 17) rfl)
theorem dX9_place_31 : decode cX9_place 31 = .ok (.getfield 269, 3) := tX9_place_ok (31, .getfield 269, 3) (List.mem_of_getElem? (i := 18) rfl)
theorem dX9_place_34 : decode cX9_place 34 = .ok (.if_icmp .lt 10, 3) := tX9_place_ok (34, .if_icmp .lt 10, 3) (List.mem_of_getElem? (i := 19) rfl)
theorem dX9_place_37 : decode cX9_place 37 = .ok (.aload_n 0, 1) := tX9_place_ok (37, .aload_n 0, 1) (List.mem_of_getElem? (i := 20) rfl)
theorem dX9_place_38 : decode cX9_place 38 = .ok (.bipush 8, 2) := tX9_place_ok (38, .bipush 8, 2) (List.mem_of_getElem? (i := 21) rfl)
theorem dX9_place_40 : decode cX9_place 40 = .ok (.invokevirtual 118, 3) := tX9_place_ok (40, .invokevirtual 118, 3) (List.mem_of_getElem? (i := 22) rfl)
theorem dX9_place_43 : decode cX9_place 43 = .ok (.ireturn, 1) := tX9_place_ok (43, .ireturn, 1) (List.mem_of_getElem? (i := 23) rfl)
theorem dX9_place_44 : decode cX9_place 44 = .ok (.iload_n 2, 1) := tX9_place_ok (44, .iload_n 2, 1) (List.mem_of_getElem? (i := 24) rfl)
theorem dX9_place_45 : decode cX9_place 45 = .ok (.ifCond .eq 21, 3) := tX9_place_ok (45, .ifCond .eq 21, 3) (List.mem_of_getElem? (i := 25) rfl)
theorem dX9_place_48 : decode cX9_place 48 = .ok (.aload_n 0, 1) := tX9_place_ok (48, .aload_n 0, 1) (List.mem_of_getElem? (i := 26) rfl)
theorem dX9_place_49 : decode cX9_place 49 = .ok (.getfield 66, 3) := tX9_place_ok (49, .getfield 66, 3) (List.mem_of_getElem? (i := 27) rfl)
theorem dX9_place_52 : decode cX9_place 52 = .ok (.iload_n 1, 1) := tX9_place_ok (52, .iload_n 1, 1) (List.mem_of_getElem? (i := 28) rfl)
theorem dX9_place_53 : decode cX9_place 53 = .ok (.iload_n 3, 1) := tX9_place_ok (53, .iload_n 3, 1) (List.mem_of_getElem? (i := 29) rfl)
theorem dX9_place_54 : decode cX9_place 54 = .ok (.iastore, 1) := tX9_place_ok (54, .iastore, 1) (List.mem_of_getElem? (i := 30) rfl)
theorem dX9_place_55 : decode cX9_place 55 = .ok (.aload_n 0, 1) := tX9_place_ok (55, .aload_n 0, 1) (List.mem_of_getElem? (i := 31) rfl)
theorem dX9_place_56 : decode cX9_place 56 = .ok (.getfield 69, 3) := tX9_place_ok (56, .getfield 69, 3) (List.mem_of_getElem? (i := 32) rfl)
theorem dX9_place_59 : decode cX9_place 59 = .ok (.iload_n 1, 1) := tX9_place_ok (59, .iload_n 1, 1) (List.mem_of_getElem? (i := 33) rfl)
theorem dX9_place_60 : decode cX9_place 60 = .ok (.iload 4, 2) := tX9_place_ok (60, .iload 4, 2) (List.mem_of_getElem? (i := 34) rfl)
theorem dX9_place_62 : decode cX9_place 62 = .ok (.iastore, 1) := tX9_place_ok (62, .iastore, 1) (List.mem_of_getElem? (i := 35) rfl)
theorem dX9_place_63 : decode cX9_place 63 = .ok (.goto 18, 3) := tX9_place_ok (63, .goto 18, 3) (List.mem_of_getElem? (i := 36) rfl)
theorem dX9_place_66 : decode cX9_place 66 = .ok (.aload_n 0, 1) := tX9_place_ok (66, .aload_n 0, 1) (List.mem_of_getElem? (i := 37) rfl)
theorem dX9_place_67 : decode cX9_place 67 = .ok (.getfield 60, 3) := tX9_place_ok (67, .getfield 60, 3) (List.mem_of_getElem? (i := 38) rfl)
theorem dX9_place_70 : decode cX9_place 70 = .ok (.iload_n 1, 1) := tX9_place_ok (70, .iload_n 1, 1) (List.mem_of_getElem? (i := 39) rfl)
theorem dX9_place_71 : decode cX9_place 71 = .ok (.iload_n 3, 1) := tX9_place_ok (71, .iload_n 3, 1) (List.mem_of_getElem? (i := 40) rfl)
theorem dX9_place_72 : decode cX9_place 72 = .ok (.iastore, 1) := tX9_place_ok (72, .iastore, 1) (List.mem_of_getElem? (i := 41) rfl)
theorem dX9_place_73 : decode cX9_place 73 = .ok (.aload_n 0, 1) := tX9_place_ok (73, .aload_n 0, 1) (List.mem_of_getElem? (i := 42) rfl)
theorem dX9_place_74 : decode cX9_place 74 = .ok (.getfield 63, 3) := tX9_place_ok (74, .getfield 63, 3) (List.mem_of_getElem? (i := 43) rfl)
theorem dX9_place_77 : decode cX9_place 77 = .ok (.iload_n 1, 1) := tX9_place_ok (77, .iload_n 1, 1) (List.mem_of_getElem? (i := 44) rfl)
theorem dX9_place_78 : decode cX9_place 78 = .ok (.iload 4, 2) := tX9_place_ok (78, .iload 4, 2) (List.mem_of_getElem? (i := 45) rfl)
theorem dX9_place_80 : decode cX9_place 80 = .ok (.iastore, 1) := tX9_place_ok (80, .iastore, 1) (List.mem_of_getElem? (i := 46) rfl)
theorem dX9_place_81 : decode cX9_place 81 = .ok (.iconst 1, 1) := tX9_place_ok (81, .iconst 1, 1) (List.mem_of_getElem? (i := 47) rfl)
theorem dX9_place_82 : decode cX9_place 82 = .ok (.ireturn, 1) := tX9_place_ok (82, .ireturn, 1) (List.mem_of_getElem? (i := 48) rfl)

def tX9_isShut : List (Nat × Instr × Nat) := [
  (0, .aload_n 0, 1),
  (1, .getfield 38, 3),
  (4, .iload_n 1, 1),
  (5, .iload_n 2, 1),
  (6, .invokestatic 144, 3),
  (9, .baload, 1),
  (10, .ireturn, 1)]
set_option maxRecDepth 100000 in
theorem tX9_isShut_ok : ∀ q ∈ tX9_isShut, decode cX9_isShut q.1 = .ok q.2 := by decide +kernel
theorem dX9_isShut_0 : decode cX9_isShut 0 = .ok (.aload_n 0, 1) := tX9_isShut_ok (0, .aload_n 0, 1) (List.mem_of_getElem? (i := 0) rfl)
theorem dX9_isShut_1 : decode cX9_isShut 1 = .ok (.getfield 38, 3) := tX9_isShut_ok (1, .getfield 38, 3) (List.mem_of_getElem? (i := 1) rfl)
theorem dX9_isShut_4 : decode cX9_isShut 4 = .ok (.iload_n 1, 1) := tX9_isShut_ok (4, .iload_n 1, 1) (List.mem_of_getElem? (i := 2) rfl)
theorem dX9_isShut_5 : decode cX9_isShut 5 = .ok (.iload_n 2, 1) := tX9_isShut_ok (5, .iload_n 2, 1) (List.mem_of_getElem? (i := 3) rfl)
theorem dX9_isShut_6 : decode cX9_isShut 6 = .ok (.invokestatic 144, 3) := tX9_isShut_ok (6, .invokestatic 144, 3) (List.mem_of_getElem? (i := 4) rfl)
theorem dX9_isShut_9 : decode cX9_isShut 9 = .ok (.baload, 1) := tX9_isShut_ok (9, .baload, 1) (List.mem_of_getElem? (i := 5) rfl)
theorem dX9_isShut_10 : decode cX9_isShut 10 = .ok (.ireturn, 1) := tX9_isShut_ok (10, .ireturn, 1) (List.mem_of_getElem? (i := 6) rfl)

def tX9_ways : List (Nat × Instr × Nat) := [
  (0, .aload_n 0, 1),
  (1, .getfield 66, 3),
  (4, .iload_n 2, 1),
  (5, .iaload, 1),
  (6, .aload_n 0, 1),
  (7, .getfield 60, 3),
  (10, .iload_n 1, 1),
  (11, .iaload, 1),
  (12, .if_icmp .lt 18, 3),
  (15, .aload_n 0, 1),
  (16, .getfield 69, 3),
  (19, .iload_n 2, 1),
  (20, .iaload, 1),
  (21, .aload_n 0, 1),
  (22, .getfield 63, 3),
  (25, .iload_n 1, 1),
  (26, .iaload, 1),
  (27, .if_icmp .ge 5, 3),
  (30, .iconst 0, 1),
  (31, .ireturn, 1),
  (32, .aload_n 0, 1),
  (33, .getfield 63, 3),
  (36, .iload_n 1, 1),
  (37, .iaload, 1),
  (38, .istore_n 3, 1),
  (39, .iload_n 3, 1),
  (40, .aload_n 0, 1),
  (41, .getfield 69, 3),
  (44, .iload_n 2, 1),
  (45, .iaload, 1),
  (46, .if_icmp .gt 19, 3),
  (49, .aload_n 0, 1),
  (50, .getfield 48, 3),
  (53, .iload_n 3, 1),
  (54, .bipush 30, 2),
  (56, .iadd, 1),
  (57, .lconst 0, 1),
  (58, .lastore, 1),
  (59, .iinc 3 1, 3),
  (62, .goto (-23), 3),
  (65, .aload_n 0, 1),
  (66, .getfield 48, 3),
  (69, .aload_n 0, 1),
  (70, .getfield 63, 3),
  (73, .iload_n 1, 1),
  (74, .iaload, 1),
  (75, .bipush 30, 2),
  (77, .iadd, 1),
  (78, .lconst 1, 1),
  (79, .lastore, 1),
  (80, .aload_n 0, 1),
  (81, .getfield 60, 3),
  (84, .iload_n 1, 1),
  (85, .iaload, 1),
  (86, .istore_n 3, 1),
  (87, .iload_n 3, 1),
  (88, .aload_n 0, 1),
  (89, .getfield 66, 3),
  (92, .iload_n 2, 1),
  (93, .iaload, 1),
  (94, .if_icmp .gt 106, 3),
  (97, .aload_n 0, 1),
  (98, .getfield 63, 3),
  (101, .iload_n 1, 1),
  (102, .iaload, 1),
  (103, .istore 4, 2),
  (105, .iload 4, 2),
  (107, .aload_n 0, 1),
  (108, .getfield 69, 3),
  (111, .iload_n 2, 1),
  (112, .iaload, 1),
  (113, .if_icmp .gt 81, 3),
  (116, .iload 4, 2),
  (118, .aload_n 0, 1),
  (119, .getfield 63, 3),
  (122, .iload_n 1, 1),
  (123, .iaload, 1),
  (124, .if_icmp .le 18, 3),
  (127, .aload_n 0, 1),
  (128, .getfield 48, 3),
  (131, .iload 4, 2),
  (133, .bipush 30, 2),
  (135, .iadd, 1),
  (136, .iconst 1, 1),
  (137, .isub, 1),
  (138, .laload, 1),
  (139, .goto 4, 3),
  (142, .lconst 0, 1),
  (143, .lstore 5, 2),
  (145, .aload_n 0, 1),
  (146, .getfield 48, 3),
  (149, .iload 4, 2),
  (151, .bipush 30, 2),
  (153, .iadd, 1),
  (154, .aload_n 0, 1),
  (155, .iload_n 3, 1),
  (156, .iload 4, 2),
  (158, .invokevirtual 272, 3),
  (161, .ifCond .eq 7, 3),
  (164, .lconst 0, 1),
  (165, .goto 22, 3),
  (168, .ldc2_w 275, 3),
  (171, .aload_n 0, 1),
  (172, .getfield 48, 3),
  (175, .iload 4, 2),
  (177, .bipush 30, 2),
  (179, .iadd, 1),
  (180, .laload, 1),
  (181, .lload 5, 2),
  (183, .ladd, 1),
  (184, .invokestatic 277, 3),
  (187, .lastore, 1),
  (188, .iinc 4 1, 3),
  (191, .goto (-86), 3),
  (194, .iinc 3 1, 3),
  (197, .goto (-110), 3),
  (200, .ldc2_w 279, 3),
  (203, .aload_n 0, 1),
  (204, .getfield 48, 3),
  (207, .aload_n 0, 1),
  (208, .getfield 69, 3),
  (211, .iload_n 2, 1),
  (212, .iaload, 1),
  (213, .bipush 30, 2),
  (215, .iadd, 1),
  (216, .laload, 1),
  (217, .invokestatic 277, 3),
  (220, .l2i, 1),
  (221, .ireturn, 1)]
set_option maxRecDepth 100000 in
theorem tX9_ways_ok : ∀ q ∈ tX9_ways, decode cX9_ways q.1 = .ok q.2 := by decide +kernel
theorem dX9_ways_0 : decode cX9_ways 0 = .ok (.aload_n 0, 1) := tX9_ways_ok (0, .aload_n 0, 1) (List.mem_of_getElem? (i := 0) rfl)
theorem dX9_ways_1 : decode cX9_ways 1 = .ok (.getfield 66, 3) := tX9_ways_ok (1, .getfield 66, 3) (List.mem_of_getElem? (i := 1) rfl)
theorem dX9_ways_4 : decode cX9_ways 4 = .ok (.iload_n 2, 1) := tX9_ways_ok (4, .iload_n 2, 1) (List.mem_of_getElem? (i := 2) rfl)
theorem dX9_ways_5 : decode cX9_ways 5 = .ok (.iaload, 1) := tX9_ways_ok (5, .iaload, 1) (List.mem_of_getElem? (i := 3) rfl)
theorem dX9_ways_6 : decode cX9_ways 6 = .ok (.aload_n 0, 1) := tX9_ways_ok (6, .aload_n 0, 1) (List.mem_of_getElem? (i := 4) rfl)
theorem dX9_ways_7 : decode cX9_ways 7 = .ok (.getfield 60, 3) := tX9_ways_ok (7, .getfield 60, 3) (List.mem_of_getElem? (i := 5) rfl)
theorem dX9_ways_10 : decode cX9_ways 10 = .ok (.iload_n 1, 1) := tX9_ways_ok (10, .iload_n 1, 1) (List.mem_of_getElem? (i := 6) rfl)
theorem dX9_ways_11 : decode cX9_ways 11 = .ok (.iaload, 1) := tX9_ways_ok (11, .iaload, 1) (List.mem_of_getElem? (i := 7) rfl)
theorem dX9_ways_12 : decode cX9_ways 12 = .ok (.if_icmp .lt 18, 3) := tX9_ways_ok (12, .if_icmp .lt 18, 3) (List.mem_of_getElem? (i := 8) rfl)
theorem dX9_ways_15 : decode cX9_ways 15 = .ok (.aload_n 0, 1) := tX9_ways_ok (15, .aload_n 0, 1) (List.mem_of_getElem? (i := 9) rfl)
theorem dX9_ways_16 : decode cX9_ways 16 = .ok (.getfield 69, 3) := tX9_ways_ok (16, .getfield 69, 3) (List.mem_of_getElem? (i := 10) rfl)
theorem dX9_ways_19 : decode cX9_ways 19 = .ok (.iload_n 2, 1) := tX9_ways_ok (19, .iload_n 2, 1) (List.mem_of_getElem? (i := 11) rfl)
theorem dX9_ways_20 : decode cX9_ways 20 = .ok (.iaload, 1) := tX9_ways_ok (20, .iaload, 1) (List.mem_of_getElem? (i := 12) rfl)
theorem dX9_ways_21 : decode cX9_ways 21 = .ok (.aload_n 0, 1) := tX9_ways_ok (21, .aload_n 0, 1) (List.mem_of_getElem? (i := 13) rfl)
theorem dX9_ways_22 : decode cX9_ways 22 = .ok (.getfield 63, 3) := tX9_ways_ok (22, .getfield 63, 3) (List.mem_of_getElem? (i := 14) rfl)
theorem dX9_ways_25 : decode cX9_ways 25 = .ok (.iload_n 1, 1) := tX9_ways_ok (25, .iload_n 1, 1) (List.mem_of_getElem? (i := 15) rfl)
theorem dX9_ways_26 : decode cX9_ways 26 = .ok (.iaload, 1) := tX9_ways_ok (26, .iaload, 1) (List.mem_of_getElem? (i := 16) rfl)
theorem dX9_ways_27 : decode cX9_ways 27 = .ok (.if_icmp .ge 5, 3) := tX9_ways_ok (27, .if_icmp .ge 5, 3) (List.mem_of_getElem? (i := 17) rfl)
theorem dX9_ways_30 : decode cX9_ways 30 = .ok (.iconst 0, 1) := tX9_ways_ok (30, .iconst 0, 1) (List.mem_of_getElem? (i := 18) rfl)
theorem dX9_ways_31 : decode cX9_ways 31 = .ok (.ireturn, 1) := tX9_ways_ok (31, .ireturn, 1) (List.mem_of_getElem? (i := 19) rfl)
theorem dX9_ways_32 : decode cX9_ways 32 = .ok (.aload_n 0, 1) := tX9_ways_ok (32, .aload_n 0, 1) (List.mem_of_getElem? (i := 20) rfl)
theorem dX9_ways_33 : decode cX9_ways 33 = .ok (.getfield 63, 3) := tX9_ways_ok (33, .getfield 63, 3) (List.mem_of_getElem? (i := 21) rfl)
theorem dX9_ways_36 : decode cX9_ways 36 = .ok (.iload_n 1, 1) := tX9_ways_ok (36, .iload_n 1, 1) (List.mem_of_getElem? (i := 22) rfl)
theorem dX9_ways_37 : decode cX9_ways 37 = .ok (.iaload, 1) := tX9_ways_ok (37, .iaload, 1) (List.mem_of_getElem? (i := 23) rfl)
theorem dX9_ways_38 : decode cX9_ways 38 = .ok (.istore_n 3, 1) := tX9_ways_ok (38, .istore_n 3, 1) (List.mem_of_getElem? (i := 24) rfl)
theorem dX9_ways_39 : decode cX9_ways 39 = .ok (.iload_n 3, 1) := tX9_ways_ok (39, .iload_n 3, 1) (List.mem_of_getElem? (i := 25) rfl)
theorem dX9_ways_40 : decode cX9_ways 40 = .ok (.aload_n 0, 1) := tX9_ways_ok (40, .aload_n 0, 1) (List.mem_of_getElem? (i := 26) rfl)
theorem dX9_ways_41 : decode cX9_ways 41 = .ok (.getfield 69, 3) := tX9_ways_ok (41, .getfield 69, 3) (List.mem_of_getElem? (i := 27) rfl)
theorem dX9_ways_44 : decode cX9_ways 44 = .ok (.iload_n 2, 1) := tX9_ways_ok (44, .iload_n 2, 1) (List.mem_of_getElem? (i := 28) rfl)
theorem dX9_ways_45 : decode cX9_ways 45 = .ok (.iaload, 1) := tX9_ways_ok (45, .iaload, 1) (List.mem_of_getElem? (i := 29) rfl)
theorem dX9_ways_46 : decode cX9_ways 46 = .ok (.if_icmp .gt 19, 3) := tX9_ways_ok (46, .if_icmp .gt 19, 3) (List.mem_of_getElem? (i := 30) rfl)
theorem dX9_ways_49 : decode cX9_ways 49 = .ok (.aload_n 0, 1) := tX9_ways_ok (49, .aload_n 0, 1) (List.mem_of_getElem? (i := 31) rfl)
theorem dX9_ways_50 : decode cX9_ways 50 = .ok (.getfield 48, 3) := tX9_ways_ok (50, .getfield 48, 3) (List.mem_of_getElem? (i := 32) rfl)
theorem dX9_ways_53 : decode cX9_ways 53 = .ok (.iload_n 3, 1) := tX9_ways_ok (53, .iload_n 3, 1) (List.mem_of_getElem? (i := 33) rfl)
theorem dX9_ways_54 : decode cX9_ways 54 = .ok (.bipush 30, 2) := tX9_ways_ok (54, .bipush 30, 2) (List.mem_of_getElem? (i := 34) rfl)
theorem dX9_ways_56 : decode cX9_ways 56 = .ok (.iadd, 1) := tX9_ways_ok (56, .iadd, 1) (List.mem_of_getElem? (i := 35) rfl)
theorem dX9_ways_57 : decode cX9_ways 57 = .ok (.lconst 0, 1) := tX9_ways_ok (57, .lconst 0, 1) (List.mem_of_getElem? (i := 36) rfl)
theorem dX9_ways_58 : decode cX9_ways 58 = .ok (.lastore, 1) := tX9_ways_ok (58, .lastore, 1) (List.mem_of_getElem? (i := 37) rfl)
theorem dX9_ways_59 : decode cX9_ways 59 = .ok (.iinc 3 1, 3) := tX9_ways_ok (59, .iinc 3 1, 3) (List.mem_of_getElem? (i := 38) rfl)
theorem dX9_ways_62 : decode cX9_ways 62 = .ok (.goto (-23), 3) := tX9_ways_ok (62, .goto (-23), 3) (List.mem_of_getElem? (i := 39) rfl)
theorem dX9_ways_65 : decode cX9_ways 65 = .ok (.aload_n 0, 1) := tX9_ways_ok (65, .aload_n 0, 1) (List.mem_of_getElem? (i := 40) rfl)
theorem dX9_ways_66 : decode cX9_ways 66 = .ok (.getfield 48, 3) := tX9_ways_ok (66, .getfield 48, 3) (List.mem_of_getElem? (i := 41) rfl)
theorem dX9_ways_69 : decode cX9_ways 69 = .ok (.aload_n 0, 1) := tX9_ways_ok (69, .aload_n 0, 1) (List.mem_of_getElem? (i := 42) rfl)
theorem dX9_ways_70 : decode cX9_ways 70 = .ok (.getfield 63, 3) := tX9_ways_ok (70, .getfield 63, 3) (List.mem_of_getElem? (i := 43) rfl)
theorem dX9_ways_73 : decode cX9_ways 73 = .ok (.iload_n 1, 1) := tX9_ways_ok (73, .iload_n 1, 1) (List.mem_of_getElem? (i := 44) rfl)
theorem dX9_ways_74 : decode cX9_ways 74 = .ok (.iaload, 1) := tX9_ways_ok (74, .iaload, 1) (List.mem_of_getElem? (i := 45) rfl)
theorem dX9_ways_75 : decode cX9_ways 75 = .ok (.bipush 30, 2) := tX9_ways_ok (75, .bipush 30, 2) (List.mem_of_getElem? (i := 46) rfl)
theorem dX9_ways_77 : decode cX9_ways 77 = .ok (.iadd, 1) := tX9_ways_ok (77, .iadd, 1) (List.mem_of_getElem? (i := 47) rfl)
theorem dX9_ways_78 : decode cX9_ways 78 = .ok (.lconst 1, 1) := tX9_ways_ok (78, .lconst 1, 1) (List.mem_of_getElem? (i := 48) rfl)
theorem dX9_ways_79 : decode cX9_ways 79 = .ok (.lastore, 1) := tX9_ways_ok (79, .lastore, 1) (List.mem_of_getElem? (i := 49) rfl)
theorem dX9_ways_80 : decode cX9_ways 80 = .ok (.aload_n 0, 1) := tX9_ways_ok (80, .aload_n 0, 1) (List.mem_of_getElem? (i := 50) rfl)
theorem dX9_ways_81 : decode cX9_ways 81 = .ok (.getfield 60, 3) := tX9_ways_ok (81, .getfield 60, 3) (List.mem_of_getElem? (i := 51) rfl)
theorem dX9_ways_84 : decode cX9_ways 84 = .ok (.iload_n 1, 1) := tX9_ways_ok (84, .iload_n 1, 1) (List.mem_of_getElem? (i := 52) rfl)
theorem dX9_ways_85 : decode cX9_ways 85 = .ok (.iaload, 1) := tX9_ways_ok (85, .iaload, 1) (List.mem_of_getElem? (i := 53) rfl)
theorem dX9_ways_86 : decode cX9_ways 86 = .ok (.istore_n 3, 1) := tX9_ways_ok (86, .istore_n 3, 1) (List.mem_of_getElem? (i := 54) rfl)
theorem dX9_ways_87 : decode cX9_ways 87 = .ok (.iload_n 3, 1) := tX9_ways_ok (87, .iload_n 3, 1) (List.mem_of_getElem? (i := 55) rfl)
theorem dX9_ways_88 : decode cX9_ways 88 = .ok (.aload_n 0, 1) := tX9_ways_ok (88, .aload_n 0, 1) (List.mem_of_getElem? (i := 56) rfl)
theorem dX9_ways_89 : decode cX9_ways 89 = .ok (.getfield 66, 3) := tX9_ways_ok (89, .getfield 66, 3) (List.mem_of_getElem? (i := 57) rfl)
theorem dX9_ways_92 : decode cX9_ways 92 = .ok (.iload_n 2, 1) := tX9_ways_ok (92, .iload_n 2, 1) (List.mem_of_getElem? (i := 58) rfl)
theorem dX9_ways_93 : decode cX9_ways 93 = .ok (.iaload, 1) := tX9_ways_ok (93, .iaload, 1) (List.mem_of_getElem? (i := 59) rfl)
theorem dX9_ways_94 : decode cX9_ways 94 = .ok (.if_icmp .gt 106, 3) := tX9_ways_ok (94, .if_icmp .gt 106, 3) (List.mem_of_getElem? (i := 60) rfl)
theorem dX9_ways_97 : decode cX9_ways 97 = .ok (.aload_n 0, 1) := tX9_ways_ok (97, .aload_n 0, 1) (List.mem_of_getElem? (i := 61) rfl)
theorem dX9_ways_98 : decode cX9_ways 98 = .ok (.getfield 63, 3) := tX9_ways_ok (98, .getfield 63, 3) (List.mem_of_getElem? (i := 62) rfl)
theorem dX9_ways_101 : decode cX9_ways 101 = .ok (.iload_n 1, 1) := tX9_ways_ok (101, .iload_n 1, 1) (List.mem_of_getElem? (i := 63) rfl)
theorem dX9_ways_102 : decode cX9_ways 102 = .ok (.iaload, 1) := tX9_ways_ok (102, .iaload, 1) (List.mem_of_getElem? (i := 64) rfl)
theorem dX9_ways_103 : decode cX9_ways 103 = .ok (.istore 4, 2) := tX9_ways_ok (103, .istore 4, 2) (List.mem_of_getElem? (i := 65) rfl)
theorem dX9_ways_105 : decode cX9_ways 105 = .ok (.iload 4, 2) := tX9_ways_ok (105, .iload 4, 2) (List.mem_of_getElem? (i := 66) rfl)
theorem dX9_ways_107 : decode cX9_ways 107 = .ok (.aload_n 0, 1) := tX9_ways_ok (107, .aload_n 0, 1) (List.mem_of_getElem? (i := 67) rfl)
theorem dX9_ways_108 : decode cX9_ways 108 = .ok (.getfield 69, 3) := tX9_ways_ok (108, .getfield 69, 3) (List.mem_of_getElem? (i := 68) rfl)
theorem dX9_ways_111 : decode cX9_ways 111 = .ok (.iload_n 2, 1) := tX9_ways_ok (111, .iload_n 2, 1) (List.mem_of_getElem? (i := 69) rfl)
theorem dX9_ways_112 : decode cX9_ways 112 = .ok (.iaload, 1) := tX9_ways_ok (112, .iaload, 1) (List.mem_of_getElem? (i := 70) rfl)
theorem dX9_ways_113 : decode cX9_ways 113 = .ok (.if_icmp .gt 81, 3) := tX9_ways_ok (113, .if_icmp .gt 81, 3) (List.mem_of_getElem? (i := 71) rfl)
theorem dX9_ways_116 : decode cX9_ways 116 = .ok (.iload 4, 2) := tX9_ways_ok (116, .iload 4, 2) (List.mem_of_getElem? (i := 72) rfl)
theorem dX9_ways_118 : decode cX9_ways 118 = .ok (.aload_n 0, 1) := tX9_ways_ok (118, .aload_n 0, 1) (List.mem_of_getElem? (i := 73) rfl)
theorem dX9_ways_119 : decode cX9_ways 119 = .ok (.getfield 63, 3) := tX9_ways_ok (119, .getfield 63, 3) (List.mem_of_getElem? (i := 74) rfl)
theorem dX9_ways_122 : decode cX9_ways 122 = .ok (.iload_n 1, 1) := tX9_ways_ok (122, .iload_n 1, 1) (List.mem_of_getElem? (i := 75) rfl)
theorem dX9_ways_123 : decode cX9_ways 123 = .ok (.iaload, 1) := tX9_ways_ok (123, .iaload, 1) (List.mem_of_getElem? (i := 76) rfl)
theorem dX9_ways_124 : decode cX9_ways 124 = .ok (.if_icmp .le 18, 3) := tX9_ways_ok (124, .if_icmp .le 18, 3) (List.mem_of_getElem? (i := 77) rfl)
theorem dX9_ways_127 : decode cX9_ways 127 = .ok (.aload_n 0, 1) := tX9_ways_ok (127, .aload_n 0, 1) (List.mem_of_getElem? (i := 78) rfl)
theorem dX9_ways_128 : decode cX9_ways 128 = .ok (.getfield 48, 3) := tX9_ways_ok (128, .getfield 48, 3) (List.mem_of_getElem? (i := 79) rfl)
theorem dX9_ways_131 : decode cX9_ways 131 = .ok (.iload 4, 2) := tX9_ways_ok (131, .iload 4, 2) (List.mem_of_getElem? (i := 80) rfl)
theorem dX9_ways_133 : decode cX9_ways 133 = .ok (.bipush 30, 2) := tX9_ways_ok (133, .bipush 30, 2) (List.mem_of_getElem? (i := 81) rfl)
theorem dX9_ways_135 : decode cX9_ways 135 = .ok (.iadd, 1) := tX9_ways_ok (135, .iadd, 1) (List.mem_of_getElem? (i := 82) rfl)
theorem dX9_ways_136 : decode cX9_ways 136 = .ok (.iconst 1, 1) := tX9_ways_ok (136, .iconst 1, 1) (List.mem_of_getElem? (i := 83) rfl)
theorem dX9_ways_137 : decode cX9_ways 137 = .ok (.isub, 1) := tX9_ways_ok (137, .isub, 1) (List.mem_of_getElem? (i := 84) rfl)
theorem dX9_ways_138 : decode cX9_ways 138 = .ok (.laload, 1) := tX9_ways_ok (138, .laload, 1) (List.mem_of_getElem? (i := 85) rfl)
theorem dX9_ways_139 : decode cX9_ways 139 = .ok (.goto 4, 3) := tX9_ways_ok (139, .goto 4, 3) (List.mem_of_getElem? (i := 86) rfl)
theorem dX9_ways_142 : decode cX9_ways 142 = .ok (.lconst 0, 1) := tX9_ways_ok (142, .lconst 0, 1) (List.mem_of_getElem? (i := 87) rfl)
theorem dX9_ways_143 : decode cX9_ways 143 = .ok (.lstore 5, 2) := tX9_ways_ok (143, .lstore 5, 2) (List.mem_of_getElem? (i := 88) rfl)
theorem dX9_ways_145 : decode cX9_ways 145 = .ok (.aload_n 0, 1) := tX9_ways_ok (145, .aload_n 0, 1) (List.mem_of_getElem? (i := 89) rfl)
theorem dX9_ways_146 : decode cX9_ways 146 = .ok (.getfield 48, 3) := tX9_ways_ok (146, .getfield 48, 3) (List.mem_of_getElem? (i := 90) rfl)
theorem dX9_ways_149 : decode cX9_ways 149 = .ok (.iload 4, 2) := tX9_ways_ok (149, .iload 4, 2) (List.mem_of_getElem? (i := 91) rfl)
theorem dX9_ways_151 : decode cX9_ways 151 = .ok (.bipush 30, 2) := tX9_ways_ok (151, .bipush 30, 2) (List.mem_of_getElem? (i := 92) rfl)
theorem dX9_ways_153 : decode cX9_ways 153 = .ok (.iadd, 1) := tX9_ways_ok (153, .iadd, 1) (List.mem_of_getElem? (i := 93) rfl)
theorem dX9_ways_154 : decode cX9_ways 154 = .ok (.aload_n 0, 1) := tX9_ways_ok (154, .aload_n 0, 1) (List.mem_of_getElem? (i := 94) rfl)
theorem dX9_ways_155 : decode cX9_ways 155 = .ok (.iload_n 3, 1) := tX9_ways_ok (155, .iload_n 3, 1) (List.mem_of_getElem? (i := 95) rfl)
theorem dX9_ways_156 : decode cX9_ways 156 = .ok (.iload 4, 2) := tX9_ways_ok (156, .iload 4, 2) (List.mem_of_getElem? (i := 96) rfl)
theorem dX9_ways_158 : decode cX9_ways 158 = .ok (.invokevirtual 272, 3) := tX9_ways_ok (158, .invokevirtual 272, 3) (List.mem_of_getElem? (i := 97) rfl)
theorem dX9_ways_161 : decode cX9_ways 161 = .ok (.ifCond .eq 7, 3) := tX9_ways_ok (161, .ifCond .eq 7, 3) (List.mem_of_getElem? (i := 98) rfl)
theorem dX9_ways_164 : decode cX9_ways 164 = .ok (.lconst 0, 1) := tX9_ways_ok (164, .lconst 0, 1) (List.mem_of_getElem? (i := 99) rfl)
theorem dX9_ways_165 : decode cX9_ways 165 = .ok (.goto 22, 3) := tX9_ways_ok (165, .goto 22, 3) (List.mem_of_getElem? (i := 100) rfl)
theorem dX9_ways_168 : decode cX9_ways 168 = .ok (.ldc2_w 275, 3) := tX9_ways_ok (168, .ldc2_w 275, 3) (List.mem_of_getElem? (i := 101) rfl)
theorem dX9_ways_171 : decode cX9_ways 171 = .ok (.aload_n 0, 1) := tX9_ways_ok (171, .aload_n 0, 1) (List.mem_of_getElem? (i := 102) rfl)
theorem dX9_ways_172 : decode cX9_ways 172 = .ok (.getfield 48, 3) := tX9_ways_ok (172, .getfield 48, 3) (List.mem_of_getElem? (i := 103) rfl)
theorem dX9_ways_175 : decode cX9_ways 175 = .ok (.iload 4, 2) := tX9_ways_ok (175, .iload 4, 2) (List.mem_of_getElem? (i := 104) rfl)
theorem dX9_ways_177 : decode cX9_ways 177 = .ok (.bipush 30, 2) := tX9_ways_ok (177, .bipush 30, 2) (List.mem_of_getElem? (i := 105) rfl)
theorem dX9_ways_179 : decode cX9_ways 179 = .ok (.iadd, 1) := tX9_ways_ok (179, .iadd, 1) (List.mem_of_getElem? (i := 106) rfl)
theorem dX9_ways_180 : decode cX9_ways 180 = .ok (.laload, 1) := tX9_ways_ok (180, .laload, 1) (List.mem_of_getElem? (i := 107) rfl)
theorem dX9_ways_181 : decode cX9_ways 181 = .ok (.lload 5, 2) := tX9_ways_ok (181, .lload 5, 2) (List.mem_of_getElem? (i := 108) rfl)
theorem dX9_ways_183 : decode cX9_ways 183 = .ok (.ladd, 1) := tX9_ways_ok (183, .ladd, 1) (List.mem_of_getElem? (i := 109) rfl)
theorem dX9_ways_184 : decode cX9_ways 184 = .ok (.invokestatic 277, 3) := tX9_ways_ok (184, .invokestatic 277, 3) (List.mem_of_getElem? (i := 110) rfl)
theorem dX9_ways_187 : decode cX9_ways 187 = .ok (.lastore, 1) := tX9_ways_ok (187, .lastore, 1) (List.mem_of_getElem? (i := 111) rfl)
theorem dX9_ways_188 : decode cX9_ways 188 = .ok (.iinc 4 1, 3) := tX9_ways_ok (188, .iinc 4 1, 3) (List.mem_of_getElem? (i := 112) rfl)
theorem dX9_ways_191 : decode cX9_ways 191 = .ok (.goto (-86), 3) := tX9_ways_ok (191, .goto (-86), 3) (List.mem_of_getElem? (i := 113) rfl)
theorem dX9_ways_194 : decode cX9_ways 194 = .ok (.iinc 3 1, 3) := tX9_ways_ok (194, .iinc 3 1, 3) (List.mem_of_getElem? (i := 114) rfl)
theorem dX9_ways_197 : decode cX9_ways 197 = .ok (.goto (-110), 3) := tX9_ways_ok (197, .goto (-110), 3) (List.mem_of_getElem? (i := 115) rfl)
theorem dX9_ways_200 : decode cX9_ways 200 = .ok (.ldc2_w 279, 3) := tX9_ways_ok (200, .ldc2_w 279, 3) (List.mem_of_getElem? (i := 116) rfl)
theorem dX9_ways_203 : decode cX9_ways 203 = .ok (.aload_n 0, 1) := tX9_ways_ok (203, .aload_n 0, 1) (List.mem_of_getElem? (i := 117) rfl)
theorem dX9_ways_204 : decode cX9_ways 204 = .ok (.getfield 48, 3) := tX9_ways_ok (204, .getfield 48, 3) (List.mem_of_getElem? (i := 118) rfl)
theorem dX9_ways_207 : decode cX9_ways 207 = .ok (.aload_n 0, 1) := tX9_ways_ok (207, .aload_n 0, 1) (List.mem_of_getElem? (i := 119) rfl)
theorem dX9_ways_208 : decode cX9_ways 208 = .ok (.getfield 69, 3) := tX9_ways_ok (208, .getfield 69, 3) (List.mem_of_getElem? (i := 120) rfl)
theorem dX9_ways_211 : decode cX9_ways 211 = .ok (.iload_n 2, 1) := tX9_ways_ok (211, .iload_n 2, 1) (List.mem_of_getElem? (i := 121) rfl)
theorem dX9_ways_212 : decode cX9_ways 212 = .ok (.iaload, 1) := tX9_ways_ok (212, .iaload, 1) (List.mem_of_getElem? (i := 122) rfl)
theorem dX9_ways_213 : decode cX9_ways 213 = .ok (.bipush 30, 2) := tX9_ways_ok (213, .bipush 30, 2) (List.mem_of_getElem? (i := 123) rfl)
theorem dX9_ways_215 : decode cX9_ways 215 = .ok (.iadd, 1) := tX9_ways_ok (215, .iadd, 1) (List.mem_of_getElem? (i := 124) rfl)
theorem dX9_ways_216 : decode cX9_ways 216 = .ok (.laload, 1) := tX9_ways_ok (216, .laload, 1) (List.mem_of_getElem? (i := 125) rfl)
theorem dX9_ways_217 : decode cX9_ways 217 = .ok (.invokestatic 277, 3) := tX9_ways_ok (217, .invokestatic 277, 3) (List.mem_of_getElem? (i := 126) rfl)
theorem dX9_ways_220 : decode cX9_ways 220 = .ok (.l2i, 1) := tX9_ways_ok (220, .l2i, 1) (List.mem_of_getElem? (i := 127) rfl)
theorem dX9_ways_221 : decode cX9_ways 221 = .ok (.ireturn, 1) := tX9_ways_ok (221, .ireturn, 1) (List.mem_of_getElem? (i := 128) rfl)

def tX9_table : List (Nat × Instr × Nat) := [
  (0, .aload_n 0, 1),
  (1, .iconst 0, 1),
  (2, .putfield 112, 3),
  (5, .aload_n 0, 1),
  (6, .iconst 0, 1),
  (7, .putfield 115, 3),
  (10, .iload_n 1, 1),
  (11, .ifCond .lt 23, 3),
  (14, .iload_n 1, 1),
  (15, .aload_n 0, 1),
  (16, .getfield 269, 3),
  (19, .if_icmp .ge 15, 3),
  (22, .iload_n 2, 1),
  (23, .ifCond .lt 11, 3),
  (26, .iload_n 2, 1),
  (27, .aload_n 0, 1),
  (28, .getfield 269, 3),
  (31, .if_icmp .lt 10, 3),
  (34, .aload_n 0, 1),
  (35, .bipush 8, 2),
  (37, .invokevirtual 156, 3),
  (40, .ireturn, 1),
  (41, .aload_n 0, 1),
  (42, .aload_n 0, 1),
  (43, .getfield 60, 3),
  (46, .iload_n 1, 1),
  (47, .iaload, 1),
  (48, .aload_n 0, 1),
  (49, .getfield 63, 3),
  (52, .iload_n 1, 1),
  (53, .iaload, 1),
  (54, .invokevirtual 272, 3),
  (57, .ifCond .ne 22, 3),
  (60, .aload_n 0, 1),
  (61, .aload_n 0, 1),
  (62, .getfield 66, 3),
  (65, .iload_n 2, 1),
  (66, .iaload, 1),
  (67, .aload_n 0, 1),
  (68, .getfield 69, 3),
  (71, .iload_n 2, 1),
  (72, .iaload, 1),
  (73, .invokevirtual 272, 3),
  (76, .ifCond .eq 10, 3),
  (79, .aload_n 0, 1),
  (80, .bipush 7, 2),
  (82, .invokevirtual 156, 3),
  (85, .ireturn, 1),
  (86, .aload_n 0, 1),
  (87, .iload_n 1, 1),
  (88, .iload_n 2, 1),
  (89, .invokevirtual 281, 3),
  (92, .istore_n 3, 1),
  (93, .iload_n 3, 1),
  (94, .sipush 20000, 3),
  (97, .if_icmp .le 12, 3),
  (100, .aload_n 0, 1),
  (101, .bipush 9, 2),
  (103, .invokevirtual 156, 3),
  (106, .goto 4, 3),
  (109, .iload_n 3, 1),
  (110, .ireturn, 1)]
set_option maxRecDepth 100000 in
theorem tX9_table_ok : ∀ q ∈ tX9_table, decode cX9_table q.1 = .ok q.2 := by decide +kernel
theorem dX9_table_0 : decode cX9_table 0 = .ok (.aload_n 0, 1) := tX9_table_ok (0, .aload_n 0, 1) (List.mem_of_getElem? (i := 0) rfl)
theorem dX9_table_1 : decode cX9_table 1 = .ok (.iconst 0, 1) := tX9_table_ok (1, .iconst 0, 1) (List.mem_of_getElem? (i := 1) rfl)
theorem dX9_table_2 : decode cX9_table 2 = .ok (.putfield 112, 3) := tX9_table_ok (2, .putfield 112, 3) (List.mem_of_getElem? (i := 2) rfl)
theorem dX9_table_5 : decode cX9_table 5 = .ok (.aload_n 0, 1) := tX9_table_ok (5, .aload_n 0, 1) (List.mem_of_getElem? (i := 3) rfl)
theorem dX9_table_6 : decode cX9_table 6 = .ok (.iconst 0, 1) := tX9_table_ok (6, .iconst 0, 1) (List.mem_of_getElem? (i := 4) rfl)
theorem dX9_table_7 : decode cX9_table 7 = .ok (.putfield 115, 3) := tX9_table_ok (7, .putfield 115, 3) (List.mem_of_getElem? (i := 5) rfl)
theorem dX9_table_10 : decode cX9_table 10 = .ok (.iload_n 1, 1) := tX9_table_ok (10, .iload_n 1, 1) (List.mem_of_getElem? (i := 6) rfl)
theorem dX9_table_11 : decode cX9_table 11 = .ok (.ifCond .lt 23, 3) := tX9_table_ok (11, .ifCond .lt 23, 3) (List.mem_of_getElem? (i := 7) rfl)
theorem dX9_table_14 : decode cX9_table 14 = .ok (.iload_n 1, 1) := tX9_table_ok (14, .iload_n 1, 1) (List.mem_of_getElem? (i := 8) rfl)
theorem dX9_table_15 : decode cX9_table 15 = .ok (.aload_n 0, 1) := tX9_table_ok (15, .aload_n 0, 1) (List.mem_of_getElem? (i := 9) rfl)
theorem dX9_table_16 : decode cX9_table 16 = .ok (.getfield 269, 3) := tX9_table_ok (16, .getfield 269, 3) (List.mem_of_getElem? (i := 10) rfl)
theorem dX9_table_19 : decode cX9_table 19 = .ok (.if_icmp .ge 15, 3) := tX9_table_ok (19, .if_icmp .ge 15, 3) (List.mem_of_getElem? (i := 11) rfl)
theorem dX9_table_22 : decode cX9_table 22 = .ok (.iload_n 2, 1) := tX9_table_ok (22, .iload_n 2, 1) (List.mem_of_getElem? (i := 12) rfl)
theorem dX9_table_23 : decode cX9_table 23 = .ok (.ifCond .lt 11, 3) := tX9_table_ok (23, .ifCond .lt 11, 3) (List.mem_of_getElem? (i := 13) rfl)
theorem dX9_table_26 : decode cX9_table 26 = .ok (.iload_n 2, 1) := tX9_table_ok (26, .iload_n 2, 1) (List.mem_of_getElem? (i := 14) rfl)
theorem dX9_table_27 : decode cX9_table 27 = .ok (.aload_n 0, 1) := tX9_table_ok (27, .aload_n 0, 1) (List.mem_of_getElem? (i := 15) rfl)
theorem dX9_table_28 : decode cX9_table 28 = .ok (.getfield 269, 3) := tX9_table_ok (28, .getfield 269, 3) (List.mem_of_getElem? (i := 16) rfl)
theorem dX9_table_31 : decode cX9_table 31 = .ok (.if_icmp .lt 10, 3) := tX9_table_ok (31, .if_icmp .lt 10, 3) (List.mem_of_getElem? (i := 17) rfl)
theorem dX9_table_34 : decode cX9_table 34 = .ok (.aload_n 0, 1) := tX9_table_ok (34, .aload_n 0, 1) (List.mem_of_getElem? (i := 18) rfl)
theorem dX9_table_35 : decode cX9_table 35 = .ok (.bipush 8, 2) := tX9_table_ok (35, .bipush 8, 2) (List.mem_of_getElem? (i := 19) rfl)
theorem dX9_table_37 : decode cX9_table 37 = .ok (.invokevirtual 156, 3) := tX9_table_ok (37, .invokevirtual 156, 3) (List.mem_of_getElem? (i := 20) rfl)
theorem dX9_table_40 : decode cX9_table 40 = .ok (.ireturn, 1) := tX9_table_ok (40, .ireturn, 1) (List.mem_of_getElem? (i := 21) rfl)
theorem dX9_table_41 : decode cX9_table 41 = .ok (.aload_n 0, 1) := tX9_table_ok (41, .aload_n 0, 1) (List.mem_of_getElem? (i := 22) rfl)
theorem dX9_table_42 : decode cX9_table 42 = .ok (.aload_n 0, 1) := tX9_table_ok (42, .aload_n 0, 1) (List.mem_of_getElem? (i := 23) rfl)
theorem dX9_table_43 : decode cX9_table 43 = .ok (.getfield 60, 3) := tX9_table_ok (43, .getfield 60, 3) (List.mem_of_getElem? (i := 24) rfl)
theorem dX9_table_46 : decode cX9_table 46 = .ok (.iload_n 1, 1) := tX9_table_ok (46, .iload_n 1, 1) (List.mem_of_getElem? (i := 25) rfl)
theorem dX9_table_47 : decode cX9_table 47 = .ok (.iaload, 1) := tX9_table_ok (47, .iaload, 1) (List.mem_of_getElem? (i := 26) rfl)
theorem dX9_table_48 : decode cX9_table 48 = .ok (.aload_n 0, 1) := tX9_table_ok (48, .aload_n 0, 1) (List.mem_of_getElem? (i := 27) rfl)
theorem dX9_table_49 : decode cX9_table 49 = .ok (.getfield 63, 3) := tX9_table_ok (49, .getfield 63, 3) (List.mem_of_getElem? (i := 28) rfl)
theorem dX9_table_52 : decode cX9_table 52 = .ok (.iload_n 1, 1) := tX9_table_ok (52, .iload_n 1, 1) (List.mem_of_getElem? (i := 29) rfl)
theorem dX9_table_53 : decode cX9_table 53 = .ok (.iaload, 1) := tX9_table_ok (53, .iaload, 1) (List.mem_of_getElem? (i := 30) rfl)
theorem dX9_table_54 : decode cX9_table 54 = .ok (.invokevirtual 272, 3) := tX9_table_ok (54, .invokevirtual 272, 3) (List.mem_of_getElem? (i := 31) rfl)
theorem dX9_table_57 : decode cX9_table 57 = .ok (.ifCond .ne 22, 3) := tX9_table_ok (57, .ifCond .ne 22, 3) (List.mem_of_getElem? (i := 32) rfl)
theorem dX9_table_60 : decode cX9_table 60 = .ok (.aload_n 0, 1) := tX9_table_ok (60, .aload_n 0, 1) (List.mem_of_getElem? (i := 33) rfl)
theorem dX9_table_61 : decode cX9_table 61 = .ok (.aload_n 0, 1) := tX9_table_ok (61, .aload_n 0, 1) (List.mem_of_getElem? (i := 34) rfl)
theorem dX9_table_62 : decode cX9_table 62 = .ok (.getfield 66, 3) := tX9_table_ok (62, .getfield 66, 3) (List.mem_of_getElem? (i := 35) rfl)
theorem dX9_table_65 : decode cX9_table 65 = .ok (.iload_n 2, 1) := tX9_table_ok (65, .iload_n 2, 1) (List.mem_of_getElem? (i := 36) rfl)
theorem dX9_table_66 : decode cX9_table 66 = .ok (.iaload, 1) := tX9_table_ok (66, .iaload, 1) (List.mem_of_getElem? (i := 37) rfl)
theorem dX9_table_67 : decode cX9_table 67 = .ok (.aload_n 0, 1) := tX9_table_ok (67, .aload_n 0, 1) (List.mem_of_getElem? (i := 38) rfl)
theorem dX9_table_68 : decode cX9_table 68 = .ok (.getfield 69, 3) := tX9_table_ok (68, .getfield 69, 3) (List.mem_of_getElem? (i := 39) rfl)
theorem dX9_table_71 : decode cX9_table 71 = .ok (.iload_n 2, 1) := tX9_table_ok (71, .iload_n 2, 1) (List.mem_of_getElem? (i := 40) rfl)
theorem dX9_table_72 : decode cX9_table 72 = .ok (.iaload, 1) := tX9_table_ok (72, .iaload, 1) (List.mem_of_getElem? (i := 41) rfl)
theorem dX9_table_73 : decode cX9_table 73 = .ok (.invokevirtual 272, 3) := tX9_table_ok (73, .invokevirtual 272, 3) (List.mem_of_getElem? (i := 42) rfl)
theorem dX9_table_76 : decode cX9_table 76 = .ok (.ifCond .eq 10, 3) := tX9_table_ok (76, .ifCond .eq 10, 3) (List.mem_of_getElem? (i := 43) rfl)
theorem dX9_table_79 : decode cX9_table 79 = .ok (.aload_n 0, 1) := tX9_table_ok (79, .aload_n 0, 1) (List.mem_of_getElem? (i := 44) rfl)
theorem dX9_table_80 : decode cX9_table 80 = .ok (.bipush 7, 2) := tX9_table_ok (80, .bipush 7, 2) (List.mem_of_getElem? (i := 45) rfl)
theorem dX9_table_82 : decode cX9_table 82 = .ok (.invokevirtual 156, 3) := tX9_table_ok (82, .invokevirtual 156, 3) (List.mem_of_getElem? (i := 46) rfl)
theorem dX9_table_85 : decode cX9_table 85 = .ok (.ireturn, 1) := tX9_table_ok (85, .ireturn, 1) (List.mem_of_getElem? (i := 47) rfl)
theorem dX9_table_86 : decode cX9_table 86 = .ok (.aload_n 0, 1) := tX9_table_ok (86, .aload_n 0, 1) (List.mem_of_getElem? (i := 48) rfl)
theorem dX9_table_87 : decode cX9_table 87 = .ok (.iload_n 1, 1) := tX9_table_ok (87, .iload_n 1, 1) (List.mem_of_getElem? (i := 49) rfl)
theorem dX9_table_88 : decode cX9_table 88 = .ok (.iload_n 2, 1) := tX9_table_ok (88, .iload_n 2, 1) (List.mem_of_getElem? (i := 50) rfl)
theorem dX9_table_89 : decode cX9_table 89 = .ok (.invokevirtual 281, 3) := tX9_table_ok (89, .invokevirtual 281, 3) (List.mem_of_getElem? (i := 51) rfl)
theorem dX9_table_92 : decode cX9_table 92 = .ok (.istore_n 3, 1) := tX9_table_ok (92, .istore_n 3, 1) (List.mem_of_getElem? (i := 52) rfl)
theorem dX9_table_93 : decode cX9_table 93 = .ok (.iload_n 3, 1) := tX9_table_ok (93, .iload_n 3, 1) (List.mem_of_getElem? (i := 53) rfl)
theorem dX9_table_94 : decode cX9_table 94 = .ok (.sipush 20000, 3) := tX9_table_ok (94, .sipush 20000, 3) (List.mem_of_getElem? (i := 54) rfl)
theorem dX9_table_97 : decode cX9_table 97 = .ok (.if_icmp .le 12, 3) := tX9_table_ok (97, .if_icmp .le 12, 3) (List.mem_of_getElem? (i := 55) rfl)
theorem dX9_table_100 : decode cX9_table 100 = .ok (.aload_n 0, 1) := tX9_table_ok (100, .aload_n 0, 1) (List.mem_of_getElem? (i := 56) rfl)
theorem dX9_table_101 : decode cX9_table 101 = .ok (.bipush 9, 2) := tX9_table_ok (101, .bipush 9, 2) (List.mem_of_getElem? (i := 57) rfl)
theorem dX9_table_103 : decode cX9_table 103 = .ok (.invokevirtual 156, 3) := tX9_table_ok (103, .invokevirtual 156, 3) (List.mem_of_getElem? (i := 58) rfl)
theorem dX9_table_106 : decode cX9_table 106 = .ok (.goto 4, 3) := tX9_table_ok (106, .goto 4, 3) (List.mem_of_getElem? (i := 59) rfl)
theorem dX9_table_109 : decode cX9_table 109 = .ok (.iload_n 3, 1) := tX9_table_ok (109, .iload_n 3, 1) (List.mem_of_getElem? (i := 60) rfl)
theorem dX9_table_110 : decode cX9_table 110 = .ok (.ireturn, 1) := tX9_table_ok (110, .ireturn, 1) (List.mem_of_getElem? (i := 61) rfl)

def tX9_worth : List (Nat × Instr × Nat) := [
  (0, .aload_n 0, 1),
  (1, .iconst 0, 1),
  (2, .putfield 112, 3),
  (5, .aload_n 0, 1),
  (6, .iconst 0, 1),
  (7, .putfield 115, 3),
  (10, .aload_n 0, 1),
  (11, .getfield 269, 3),
  (14, .ifCond .ne 11, 3),
  (17, .aload_n 0, 1),
  (18, .bipush 8, 2),
  (20, .invokevirtual 156, 3),
  (23, .i2l, 1),
  (24, .lreturn, 1),
  (25, .iconst 0, 1),
  (26, .istore_n 1, 1),
  (27, .iload_n 1, 1),
  (28, .aload_n 0, 1),
  (29, .getfield 269, 3),
  (32, .if_icmp .ge 55, 3),
  (35, .aload_n 0, 1),
  (36, .aload_n 0, 1),
  (37, .getfield 60, 3),
  (40, .iload_n 1, 1),
  (41, .iaload, 1),
  (42, .aload_n 0, 1),
  (43, .getfield 63, 3),
  (46, .iload_n 1, 1),
  (47, .iaload, 1),
  (48, .invokevirtual 272, 3),
  (51, .ifCond .ne 22, 3),
  (54, .aload_n 0, 1),
  (55, .aload_n 0, 1),
  (56, .getfield 66, 3),
  (59, .iload_n 1, 1),
  (60, .iaload, 1),
  (61, .aload_n 0, 1),
  (62, .getfield 69, 3),
  (65, .iload_n 1, 1),
  (66, .iaload, 1),
  (67, .invokevirtual 272, 3),
  (70, .ifCond .eq 11, 3),
  (73, .aload_n 0, 1),
  (74, .bipush 7, 2),
  (76, .invokevirtual 156, 3),
  (79, .i2l, 1),
  (80, .lreturn, 1),
  (81, .iinc 1 1, 3),
  (84, .goto (-57), 3),
  (87, .iconst 0, 1),
  (88, .istore_n 1, 1),
  (89, .iload_n 1, 1),
  (90, .aload_n 0, 1),
  (91, .getfield 269, 3),
  (94, .if_icmp .ge 67, 3),
  (97, .iconst 0, 1),
  (98, .istore_n 2, 1),
  (99, .iload_n 2, 1),
  (100, .aload_n 0, 1),
  (101, .getfield 269, 3),
  (104, .if_icmp .ge 51, 3),
  (107, .aload_n 0, 1),
  (108, .getfield 82, 3),
  (111, .iconst 4, 1),
  (112, .iload_n 1, 1),
  (113, .imul, 1),
  (114, .iload_n 2, 1),
  (115, .iadd, 1),
  (116, .aload_n 0, 1),
  (117, .iload_n 1, 1),
  (118, .iload_n 2, 1),
  (119, .invokevirtual 281, 3),
  (122, .i2l, 1),
  (123, .lastore, 1),
  (124, .aload_n 0, 1),
  (125, .getfield 82, 3),
  (128, .iconst 4, 1),
  (129, .iload_n 1, 1),
  (130, .imul, 1),
  (131, .iload_n 2, 1),
  (132, .iadd, 1),
  (133, .laload, 1),
  (134, .ldc2_w 284, 3),
  (137, .lcmp, 1),
  (138, .ifCond .le 11, 3),
  (141, .aload_n 0, 1),
  (142, .bipush 9, 2),
  (144, .invokevirtual 156, 3),
  (147, .i2l, 1),
  (148, .lreturn, 1),
  (149, .iinc 2 1, 3),
  (152, .goto (-53), 3),
  (155, .iinc 1 1, 3),
  (158, .goto (-69), 3),
  (161, .aload_n 0, 1),
  (162, .invokevirtual 286, 3),
  (165, .lreturn, 1)]
set_option maxRecDepth 100000 in
theorem tX9_worth_ok : ∀ q ∈ tX9_worth, decode cX9_worth q.1 = .ok q.2 := by decide +kernel
theorem dX9_worth_0 : decode cX9_worth 0 = .ok (.aload_n 0, 1) := tX9_worth_ok (0, .aload_n 0, 1) (List.mem_of_getElem? (i := 0) rfl)
theorem dX9_worth_1 : decode cX9_worth 1 = .ok (.iconst 0, 1) := tX9_worth_ok (1, .iconst 0, 1) (List.mem_of_getElem? (i := 1) rfl)
theorem dX9_worth_2 : decode cX9_worth 2 = .ok (.putfield 112, 3) := tX9_worth_ok (2, .putfield 112, 3) (List.mem_of_getElem? (i := 2) rfl)
theorem dX9_worth_5 : decode cX9_worth 5 = .ok (.aload_n 0, 1) := tX9_worth_ok (5, .aload_n 0, 1) (List.mem_of_getElem? (i := 3) rfl)
theorem dX9_worth_6 : decode cX9_worth 6 = .ok (.iconst 0, 1) := tX9_worth_ok (6, .iconst 0, 1) (List.mem_of_getElem? (i := 4) rfl)
theorem dX9_worth_7 : decode cX9_worth 7 = .ok (.putfield 115, 3) := tX9_worth_ok (7, .putfield 115, 3) (List.mem_of_getElem? (i := 5) rfl)
theorem dX9_worth_10 : decode cX9_worth 10 = .ok (.aload_n 0, 1) := tX9_worth_ok (10, .aload_n 0, 1) (List.mem_of_getElem? (i := 6) rfl)
theorem dX9_worth_11 : decode cX9_worth 11 = .ok (.getfield 269, 3) := tX9_worth_ok (11, .getfield 269, 3) (List.mem_of_getElem? (i := 7) rfl)
theorem dX9_worth_14 : decode cX9_worth 14 = .ok (.ifCond .ne 11, 3) := tX9_worth_ok (14, .ifCond .ne 11, 3) (List.mem_of_getElem? (i := 8) rfl)
theorem dX9_worth_17 : decode cX9_worth 17 = .ok (.aload_n 0, 1) := tX9_worth_ok (17, .aload_n 0, 1) (List.mem_of_getElem? (i := 9) rfl)
theorem dX9_worth_18 : decode cX9_worth 18 = .ok (.bipush 8, 2) := tX9_worth_ok (18, .bipush 8, 2) (List.mem_of_getElem? (i := 10) rfl)
theorem dX9_worth_20 : decode cX9_worth 20 = .ok (.invokevirtual 156, 3) := tX9_worth_ok (20, .invokevirtual 156, 3) (List.mem_of_getElem? (i := 11) rfl)
theorem dX9_worth_23 : decode cX9_worth 23 = .ok (.i2l, 1) := tX9_worth_ok (23, .i2l, 1) (List.mem_of_getElem? (i := 12) rfl)
theorem dX9_worth_24 : decode cX9_worth 24 = .ok (.lreturn, 1) := tX9_worth_ok (24, .lreturn, 1) (List.mem_of_getElem? (i := 13) rfl)
theorem dX9_worth_25 : decode cX9_worth 25 = .ok (.iconst 0, 1) := tX9_worth_ok (25, .iconst 0, 1) (List.mem_of_getElem? (i := 14) rfl)
theorem dX9_worth_26 : decode cX9_worth 26 = .ok (.istore_n 1, 1) := tX9_worth_ok (26, .istore_n 1, 1) (List.mem_of_getElem? (i := 15) rfl)
theorem dX9_worth_27 : decode cX9_worth 27 = .ok (.iload_n 1, 1) := tX9_worth_ok (27, .iload_n 1, 1) (List.mem_of_getElem? (i := 16) rfl)
theorem dX9_worth_28 : decode cX9_worth 28 = .ok (.aload_n 0, 1) := tX9_worth_ok (28, .aload_n 0, 1) (List.mem_of_getElem? (i := 17) rfl)
theorem dX9_worth_29 : decode cX9_worth 29 = .ok (.getfield 269, 3) := tX9_worth_ok (29, .getfield 269, 3) (List.mem_of_getElem? (i := 18) rfl)
theorem dX9_worth_32 : decode cX9_worth 32 = .ok (.if_icmp .ge 55, 3) := tX9_worth_ok (32, .if_icmp .ge 55, 3) (List.mem_of_getElem? (i := 19) rfl)
theorem dX9_worth_35 : decode cX9_worth 35 = .ok (.aload_n 0, 1) := tX9_worth_ok (35, .aload_n 0, 1) (List.mem_of_getElem? (i := 20) rfl)
theorem dX9_worth_36 : decode cX9_worth 36 = .ok (.aload_n 0, 1) := tX9_worth_ok (36, .aload_n 0, 1) (List.mem_of_getElem? (i := 21) rfl)
theorem dX9_worth_37 : decode cX9_worth 37 = .ok (.getfield 60, 3) := tX9_worth_ok (37, .getfield 60, 3) (List.mem_of_getElem? (i := 22) rfl)
theorem dX9_worth_40 : decode cX9_worth 40 = .ok (.iload_n 1, 1) := tX9_worth_ok (40, .iload_n 1, 1) (List.mem_of_getElem? (i := 23) rfl)
theorem dX9_worth_41 : decode cX9_worth 41 = .ok (.iaload, 1) := tX9_worth_ok (41, .iaload, 1) (List.mem_of_getElem? (i := 24) rfl)
theorem dX9_worth_42 : decode cX9_worth 42 = .ok (.aload_n 0, 1) := tX9_worth_ok (42, .aload_n 0, 1) (List.mem_of_getElem? (i := 25) rfl)
theorem dX9_worth_43 : decode cX9_worth 43 = .ok (.getfield 63, 3) := tX9_worth_ok (43, .getfield 63, 3) (List.mem_of_getElem? (i := 26) rfl)
theorem dX9_worth_46 : decode cX9_worth 46 = .ok (.iload_n 1, 1) := tX9_worth_ok (46, .iload_n 1, 1) (List.mem_of_getElem? (i := 27) rfl)
theorem dX9_worth_47 : decode cX9_worth 47 = .ok (.iaload, 1) := tX9_worth_ok (47, .iaload, 1) (List.mem_of_getElem? (i := 28) rfl)
theorem dX9_worth_48 : decode cX9_worth 48 = .ok (.invokevirtual 272, 3) := tX9_worth_ok (48, .invokevirtual 272, 3) (List.mem_of_getElem? (i := 29) rfl)
theorem dX9_worth_51 : decode cX9_worth 51 = .ok (.ifCond .ne 22, 3) := tX9_worth_ok (51, .ifCond .ne 22, 3) (List.mem_of_getElem? (i := 30) rfl)
theorem dX9_worth_54 : decode cX9_worth 54 = .ok (.aload_n 0, 1) := tX9_worth_ok (54, .aload_n 0, 1) (List.mem_of_getElem? (i := 31) rfl)
theorem dX9_worth_55 : decode cX9_worth 55 = .ok (.aload_n 0, 1) := tX9_worth_ok (55, .aload_n 0, 1) (List.mem_of_getElem? (i := 32) rfl)
theorem dX9_worth_56 : decode cX9_worth 56 = .ok (.getfield 66, 3) := tX9_worth_ok (56, .getfield 66, 3) (List.mem_of_getElem? (i := 33) rfl)
theorem dX9_worth_59 : decode cX9_worth 59 = .ok (.iload_n 1, 1) := tX9_worth_ok (59, .iload_n 1, 1) (List.mem_of_getElem? (i := 34) rfl)
theorem dX9_worth_60 : decode cX9_worth 60 = .ok (.iaload, 1) := tX9_worth_ok (60, .iaload, 1) (List.mem_of_getElem? (i := 35) rfl)
theorem dX9_worth_61 : decode cX9_worth 61 = .ok (.aload_n 0, 1) := tX9_worth_ok (61, .aload_n 0, 1) (List.mem_of_getElem? (i := 36) rfl)
theorem dX9_worth_62 : decode cX9_worth 62 = .ok (.getfield 69, 3) := tX9_worth_ok (62, .getfield 69, 3) (List.mem_of_getElem? (i := 37) rfl)
theorem dX9_worth_65 : decode cX9_worth 65 = .ok (.iload_n 1, 1) := tX9_worth_ok (65, .iload_n 1, 1) (List.mem_of_getElem? (i := 38) rfl)
theorem dX9_worth_66 : decode cX9_worth 66 = .ok (.iaload, 1) := tX9_worth_ok (66, .iaload, 1) (List.mem_of_getElem? (i := 39) rfl)
theorem dX9_worth_67 : decode cX9_worth 67 = .ok (.invokevirtual 272, 3) := tX9_worth_ok (67, .invokevirtual 272, 3) (List.mem_of_getElem? (i := 40) rfl)
theorem dX9_worth_70 : decode cX9_worth 70 = .ok (.ifCond .eq 11, 3) := tX9_worth_ok (70, .ifCond .eq 11, 3) (List.mem_of_getElem? (i := 41) rfl)
theorem dX9_worth_73 : decode cX9_worth 73 = .ok (.aload_n 0, 1) := tX9_worth_ok (73, .aload_n 0, 1) (List.mem_of_getElem? (i := 42) rfl)
theorem dX9_worth_74 : decode cX9_worth 74 = .ok (.bipush 7, 2) := tX9_worth_ok (74, .bipush 7, 2) (List.mem_of_getElem? (i := 43) rfl)
theorem dX9_worth_76 : decode cX9_worth 76 = .ok (.invokevirtual 156, 3) := tX9_worth_ok (76, .invokevirtual 156, 3) (List.mem_of_getElem? (i := 44) rfl)
theorem dX9_worth_79 : decode cX9_worth 79 = .ok (.i2l, 1) := tX9_worth_ok (79, .i2l, 1) (List.mem_of_getElem? (i := 45) rfl)
theorem dX9_worth_80 : decode cX9_worth 80 = .ok (.lreturn, 1) := tX9_worth_ok (80, .lreturn, 1) (List.mem_of_getElem? (i := 46) rfl)
theorem dX9_worth_81 : decode cX9_worth 81 = .ok (.iinc 1 1, 3) := tX9_worth_ok (81, .iinc 1 1, 3) (List.mem_of_getElem? (i := 47) rfl)
theorem dX9_worth_84 : decode cX9_worth 84 = .ok (.goto (-57), 3) := tX9_worth_ok (84, .goto (-57), 3) (List.mem_of_getElem? (i := 48) rfl)
theorem dX9_worth_87 : decode cX9_worth 87 = .ok (.iconst 0, 1) := tX9_worth_ok (87, .iconst 0, 1) (List.mem_of_getElem? (i := 49) rfl)
theorem dX9_worth_88 : decode cX9_worth 88 = .ok (.istore_n 1, 1) := tX9_worth_ok (88, .istore_n 1, 1) (List.mem_of_getElem? (i := 50) rfl)
theorem dX9_worth_89 : decode cX9_worth 89 = .ok (.iload_n 1, 1) := tX9_worth_ok (89, .iload_n 1, 1) (List.mem_of_getElem? (i := 51) rfl)
theorem dX9_worth_90 : decode cX9_worth 90 = .ok (.aload_n 0, 1) := tX9_worth_ok (90, .aload_n 0, 1) (List.mem_of_getElem? (i := 52) rfl)
theorem dX9_worth_91 : decode cX9_worth 91 = .ok (.getfield 269, 3) := tX9_worth_ok (91, .getfield 269, 3) (List.mem_of_getElem? (i := 53) rfl)
theorem dX9_worth_94 : decode cX9_worth 94 = .ok (.if_icmp .ge 67, 3) := tX9_worth_ok (94, .if_icmp .ge 67, 3) (List.mem_of_getElem? (i := 54) rfl)
theorem dX9_worth_97 : decode cX9_worth 97 = .ok (.iconst 0, 1) := tX9_worth_ok (97, .iconst 0, 1) (List.mem_of_getElem? (i := 55) rfl)
theorem dX9_worth_98 : decode cX9_worth 98 = .ok (.istore_n 2, 1) := tX9_worth_ok (98, .istore_n 2, 1) (List.mem_of_getElem? (i := 56) rfl)
theorem dX9_worth_99 : decode cX9_worth 99 = .ok (.iload_n 2, 1) := tX9_worth_ok (99, .iload_n 2, 1) (List.mem_of_getElem? (i := 57) rfl)
theorem dX9_worth_100 : decode cX9_worth 100 = .ok (.aload_n 0, 1) := tX9_worth_ok (100, .aload_n 0, 1) (List.mem_of_getElem? (i := 58) rfl)
theorem dX9_worth_101 : decode cX9_worth 101 = .ok (.getfield 269, 3) := tX9_worth_ok (101, .getfield 269, 3) (List.mem_of_getElem? (i := 59) rfl)
theorem dX9_worth_104 : decode cX9_worth 104 = .ok (.if_icmp .ge 51, 3) := tX9_worth_ok (104, .if_icmp .ge 51, 3) (List.mem_of_getElem? (i := 60) rfl)
theorem dX9_worth_107 : decode cX9_worth 107 = .ok (.aload_n 0, 1) := tX9_worth_ok (107, .aload_n 0, 1) (List.mem_of_getElem? (i := 61) rfl)
theorem dX9_worth_108 : decode cX9_worth 108 = .ok (.getfield 82, 3) := tX9_worth_ok (108, .getfield 82, 3) (List.mem_of_getElem? (i := 62) rfl)
theorem dX9_worth_111 : decode cX9_worth 111 = .ok (.iconst 4, 1) := tX9_worth_ok (111, .iconst 4, 1) (List.mem_of_getElem? (i := 63) rfl)
theorem dX9_worth_112 : decode cX9_worth 112 = .ok (.iload_n 1, 1) := tX9_worth_ok (112, .iload_n 1, 1) (List.mem_of_getElem? (i := 64) rfl)
theorem dX9_worth_113 : decode cX9_worth 113 = .ok (.imul, 1) := tX9_worth_ok (113, .imul, 1) (List.mem_of_getElem? (i := 65) rfl)
theorem dX9_worth_114 : decode cX9_worth 114 = .ok (.iload_n 2, 1) := tX9_worth_ok (114, .iload_n 2, 1) (List.mem_of_getElem? (i := 66) rfl)
theorem dX9_worth_115 : decode cX9_worth 115 = .ok (.iadd, 1) := tX9_worth_ok (115, .iadd, 1) (List.mem_of_getElem? (i := 67) rfl)
theorem dX9_worth_116 : decode cX9_worth 116 = .ok (.aload_n 0, 1) := tX9_worth_ok (116, .aload_n 0, 1) (List.mem_of_getElem? (i := 68) rfl)
theorem dX9_worth_117 : decode cX9_worth 117 = .ok (.iload_n 1, 1) := tX9_worth_ok (117, .iload_n 1, 1) (List.mem_of_getElem? (i := 69) rfl)
theorem dX9_worth_118 : decode cX9_worth 118 = .ok (.iload_n 2, 1) := tX9_worth_ok (118, .iload_n 2, 1) (List.mem_of_getElem? (i := 70) rfl)
theorem dX9_worth_119 : decode cX9_worth 119 = .ok (.invokevirtual 281, 3) := tX9_worth_ok (119, .invokevirtual 281, 3) (List.mem_of_getElem? (i := 71) rfl)
theorem dX9_worth_122 : decode cX9_worth 122 = .ok (.i2l, 1) := tX9_worth_ok (122, .i2l, 1) (List.mem_of_getElem? (i := 72) rfl)
theorem dX9_worth_123 : decode cX9_worth 123 = .ok (.lastore, 1) := tX9_worth_ok (123, .lastore, 1) (List.mem_of_getElem? (i := 73) rfl)
theorem dX9_worth_124 : decode cX9_worth 124 = .ok (.aload_n 0, 1) := tX9_worth_ok (124, .aload_n 0, 1) (List.mem_of_getElem? (i := 74) rfl)
theorem dX9_worth_125 : decode cX9_worth 125 = .ok (.getfield 82, 3) := tX9_worth_ok (125, .getfield 82, 3) (List.mem_of_getElem? (i := 75) rfl)
theorem dX9_worth_128 : decode cX9_worth 128 = .ok (.iconst 4, 1) := tX9_worth_ok (128, .iconst 4, 1) (List.mem_of_getElem? (i := 76) rfl)
theorem dX9_worth_129 : decode cX9_worth 129 = .ok (.iload_n 1, 1) := tX9_worth_ok (129, .iload_n 1, 1) (List.mem_of_getElem? (i := 77) rfl)
theorem dX9_worth_130 : decode cX9_worth 130 = .ok (.imul, 1) := tX9_worth_ok (130, .imul, 1) (List.mem_of_getElem? (i := 78) rfl)
theorem dX9_worth_131 : decode cX9_worth 131 = .ok (.iload_n 2, 1) := tX9_worth_ok (131, .iload_n 2, 1) (List.mem_of_getElem? (i := 79) rfl)
theorem dX9_worth_132 : decode cX9_worth 132 = .ok (.iadd, 1) := tX9_worth_ok (132, .iadd, 1) (List.mem_of_getElem? (i := 80) rfl)
theorem dX9_worth_133 : decode cX9_worth 133 = .ok (.laload, 1) := tX9_worth_ok (133, .laload, 1) (List.mem_of_getElem? (i := 81) rfl)
theorem dX9_worth_134 : decode cX9_worth 134 = .ok (.ldc2_w 284, 3) := tX9_worth_ok (134, .ldc2_w 284, 3) (List.mem_of_getElem? (i := 82) rfl)
theorem dX9_worth_137 : decode cX9_worth 137 = .ok (.lcmp, 1) := tX9_worth_ok (137, .lcmp, 1) (List.mem_of_getElem? (i := 83) rfl)
theorem dX9_worth_138 : decode cX9_worth 138 = .ok (.ifCond .le 11, 3) := tX9_worth_ok (138, .ifCond .le 11, 3) (List.mem_of_getElem? (i := 84) rfl)
theorem dX9_worth_141 : decode cX9_worth 141 = .ok (.aload_n 0, 1) := tX9_worth_ok (141, .aload_n 0, 1) (List.mem_of_getElem? (i := 85) rfl)
theorem dX9_worth_142 : decode cX9_worth 142 = .ok (.bipush 9, 2) := tX9_worth_ok (142, .bipush 9, 2) (List.mem_of_getElem? (i := 86) rfl)
theorem dX9_worth_144 : decode cX9_worth 144 = .ok (.invokevirtual 156, 3) := tX9_worth_ok (144, .invokevirtual 156, 3) (List.mem_of_getElem? (i := 87) rfl)
theorem dX9_worth_147 : decode cX9_worth 147 = .ok (.i2l, 1) := tX9_worth_ok (147, .i2l, 1) (List.mem_of_getElem? (i := 88) rfl)
theorem dX9_worth_148 : decode cX9_worth 148 = .ok (.lreturn, 1) := tX9_worth_ok (148, .lreturn, 1) (List.mem_of_getElem? (i := 89) rfl)
theorem dX9_worth_149 : decode cX9_worth 149 = .ok (.iinc 2 1, 3) := tX9_worth_ok (149, .iinc 2 1, 3) (List.mem_of_getElem? (i := 90) rfl)
theorem dX9_worth_152 : decode cX9_worth 152 = .ok (.goto (-53), 3) := tX9_worth_ok (152, .goto (-53), 3) (List.mem_of_getElem? (i := 91) rfl)
theorem dX9_worth_155 : decode cX9_worth 155 = .ok (.iinc 1 1, 3) := tX9_worth_ok (155, .iinc 1 1, 3) (List.mem_of_getElem? (i := 92) rfl)
theorem dX9_worth_158 : decode cX9_worth 158 = .ok (.goto (-69), 3) := tX9_worth_ok (158, .goto (-69), 3) (List.mem_of_getElem? (i := 93) rfl)
theorem dX9_worth_161 : decode cX9_worth 161 = .ok (.aload_n 0, 1) := tX9_worth_ok (161, .aload_n 0, 1) (List.mem_of_getElem? (i := 94) rfl)
theorem dX9_worth_162 : decode cX9_worth 162 = .ok (.invokevirtual 286, 3) := tX9_worth_ok (162, .invokevirtual 286, 3) (List.mem_of_getElem? (i := 95) rfl)
theorem dX9_worth_165 : decode cX9_worth 165 = .ok (.lreturn, 1) := tX9_worth_ok (165, .lreturn, 1) (List.mem_of_getElem? (i := 96) rfl)

def tX9_signs : List (Nat × Instr × Nat) := [
  (0, .lconst 0, 1),
  (1, .lstore_n 1, 1),
  (2, .aload_n 0, 1),
  (3, .getfield 269, 3),
  (6, .istore_n 3, 1),
  (7, .iload_n 3, 1),
  (8, .iconst 1, 1),
  (9, .if_icmp .ne 7, 3),
  (12, .iconst 1, 1),
  (13, .goto 25, 3),
  (16, .iload_n 3, 1),
  (17, .iconst 2, 1),
  (18, .if_icmp .ne 7, 3),
  (21, .iconst 4, 1),
  (22, .goto 16, 3),
  (25, .iload_n 3, 1),
  (26, .iconst 3, 1),
  (27, .if_icmp .ne 8, 3),
  (30, .bipush 27, 2),
  (32, .goto 6, 3),
  (35, .sipush 256, 3),
  (38, .istore 4, 2),
  (40, .iconst 0, 1),
  (41, .istore 5, 2),
  (43, .iload 5, 2),
  (45, .iload 4, 2),
  (47, .if_icmp .ge 148, 3),
  (50, .iload 5, 2),
  (52, .istore 6, 2),
  (54, .iconst 0, 1),
  (55, .istore 7, 2),
  (57, .iconst 0, 1),
  (58, .istore 8, 2),
  (60, .lconst 1, 1),
  (61, .lstore 9, 2),
  (63, .iconst 0, 1),
  (64, .istore 11, 2),
  (66, .iload 11, 2),
  (68, .iload_n 3, 1),
  (69, .if_icmp .ge 92, 3),
  (72, .iload 6, 2),
  (74, .iload_n 3, 1),
  (75, .irem, 1),
  (76, .istore 12, 2),
  (78, .iload 6, 2),
  (80, .iload_n 3, 1),
  (81, .idiv, 1),
  (82, .istore 6, 2),
  (84, .iload 12, 2),
  (86, .iconst 1, 1),
  (87, .iadd, 1),
  (88, .istore 13, 2),
  (90, .iload 13, 2),
  (92, .iload_n 3, 1),
  (93, .if_icmp .ge 21, 3),
  (96, .iload 8, 2),
  (98, .iload 7, 2),
  (100, .iload 13, 2),
  (102, .ishr, 1),
  (103, .iconst 1, 1),
  (104, .iand, 1),
  (105, .iadd, 1),
  (106, .istore 8, 2),
  (108, .iinc 13 1, 3),
  (111, .goto (-21), 3),
  (114, .iload 7, 2),
  (116, .iload 12, 2),
  (118, .ishr, 1),
  (119, .iconst 1, 1),
  (120, .iand, 1),
  (121, .iconst 1, 1),
  (122, .if_icmp .ne 7, 3),
  (125, .lconst 0, 1),
  (126, .goto 18, 3),
  (129, .lload 9, 2),
  (131, .aload_n 0, 1),
  (132, .getfield 82, 3),
  (135, .iconst 4, 1),
  (136, .iload 11, 2),
  (138, .imul, 1),
  (139, .iload 12, 2),
  (141, .iadd, 1),
  (142, .laload, 1),
  (143, .lmul, 1),
  (144, .lstore 9, 2),
  (146, .iload 7, 2),
  (148, .iconst 1, 1),
  (149, .iload 12, 2),
  (151, .ishl, 1),
  (152, .ior, 1),
  (153, .istore 7, 2),
  (155, .iinc 11 1, 3),
  (158, .goto (-92), 3),
  (161, .iload 7, 2),
  (163, .iconst 1, 1),
  (164, .iload_n 3, 1),
  (165, .ishl, 1),
  (166, .iconst 1, 1),
  (167, .isub, 1),
  (168, .if_icmp .ne 21, 3),
  (171, .lload_n 1, 1),
  (172, .iload 8, 2),
  (174, .iconst 2, 1),
  (175, .irem, 1),
  (176, .ifCond .ne 8, 3),
  (179, .lload 9, 2),
  (181, .goto 6, 3),
  (184, .lload 9, 2),
  (186, .lneg, 1),
  (187, .ladd, 1),
  (188, .lstore_n 1, 1),
  (189, .iinc 5 1, 3),
  (192, .goto (-149), 3),
  (195, .lload_n 1, 1),
  (196, .lreturn, 1)]
set_option maxRecDepth 100000 in
theorem tX9_signs_ok : ∀ q ∈ tX9_signs, decode cX9_signs q.1 = .ok q.2 := by decide +kernel
theorem dX9_signs_0 : decode cX9_signs 0 = .ok (.lconst 0, 1) := tX9_signs_ok (0, .lconst 0, 1) (List.mem_of_getElem? (i := 0) rfl)
theorem dX9_signs_1 : decode cX9_signs 1 = .ok (.lstore_n 1, 1) := tX9_signs_ok (1, .lstore_n 1, 1) (List.mem_of_getElem? (i := 1) rfl)
theorem dX9_signs_2 : decode cX9_signs 2 = .ok (.aload_n 0, 1) := tX9_signs_ok (2, .aload_n 0, 1) (List.mem_of_getElem? (i := 2) rfl)
theorem dX9_signs_3 : decode cX9_signs 3 = .ok (.getfield 269, 3) := tX9_signs_ok (3, .getfield 269, 3) (List.mem_of_getElem? (i := 3) rfl)
theorem dX9_signs_6 : decode cX9_signs 6 = .ok (.istore_n 3, 1) := tX9_signs_ok (6, .istore_n 3, 1) (List.mem_of_getElem? (i := 4) rfl)
theorem dX9_signs_7 : decode cX9_signs 7 = .ok (.iload_n 3, 1) := tX9_signs_ok (7, .iload_n 3, 1) (List.mem_of_getElem? (i := 5) rfl)
theorem dX9_signs_8 : decode cX9_signs 8 = .ok (.iconst 1, 1) := tX9_signs_ok (8, .iconst 1, 1) (List.mem_of_getElem? (i := 6) rfl)
theorem dX9_signs_9 : decode cX9_signs 9 = .ok (.if_icmp .ne 7, 3) := tX9_signs_ok (9, .if_icmp .ne 7, 3) (List.mem_of_getElem? (i := 7) rfl)
theorem dX9_signs_12 : decode cX9_signs 12 = .ok (.iconst 1, 1) := tX9_signs_ok (12, .iconst 1, 1) (List.mem_of_getElem? (i := 8) rfl)
theorem dX9_signs_13 : decode cX9_signs 13 = .ok (.goto 25, 3) := tX9_signs_ok (13, .goto 25, 3) (List.mem_of_getElem? (i := 9) rfl)
theorem dX9_signs_16 : decode cX9_signs 16 = .ok (.iload_n 3, 1) := tX9_signs_ok (16, .iload_n 3, 1) (List.mem_of_getElem? (i := 10) rfl)
theorem dX9_signs_17 : decode cX9_signs 17 = .ok (.iconst 2, 1) := tX9_signs_ok (17, .iconst 2, 1) (List.mem_of_getElem? (i := 11) rfl)
theorem dX9_signs_18 : decode cX9_signs 18 = .ok (.if_icmp .ne 7, 3) := tX9_signs_ok (18, .if_icmp .ne 7, 3) (List.mem_of_getElem? (i := 12) rfl)
theorem dX9_signs_21 : decode cX9_signs 21 = .ok (.iconst 4, 1) := tX9_signs_ok (21, .iconst 4, 1) (List.mem_of_getElem? (i := 13) rfl)
theorem dX9_signs_22 : decode cX9_signs 22 = .ok (.goto 16, 3) := tX9_signs_ok (22, .goto 16, 3) (List.mem_of_getElem? (i := 14) rfl)
theorem dX9_signs_25 : decode cX9_signs 25 = .ok (.iload_n 3, 1) := tX9_signs_ok (25, .iload_n 3, 1) (List.mem_of_getElem? (i := 15) rfl)
theorem dX9_signs_26 : decode cX9_signs 26 = .ok (.iconst 3, 1) := tX9_signs_ok (26, .iconst 3, 1) (List.mem_of_getElem? (i := 16) rfl)
theorem dX9_signs_27 : decode cX9_signs 27 = .ok (.if_icmp .ne 8, 3) := tX9_signs_ok (27, .if_icmp .ne 8, 3) (List.mem_of_getElem? (i := 17) rfl)
theorem dX9_signs_30 : decode cX9_signs 30 = .ok (.bipush 27, 2) := tX9_signs_ok (30, .bipush 27, 2) (List.mem_of_getElem? (i := 18) rfl)
theorem dX9_signs_32 : decode cX9_signs 32 = .ok (.goto 6, 3) := tX9_signs_ok (32, .goto 6, 3) (List.mem_of_getElem? (i := 19) rfl)
theorem dX9_signs_35 : decode cX9_signs 35 = .ok (.sipush 256, 3) := tX9_signs_ok (35, .sipush 256, 3) (List.mem_of_getElem? (i := 20) rfl)
theorem dX9_signs_38 : decode cX9_signs 38 = .ok (.istore 4, 2) := tX9_signs_ok (38, .istore 4, 2) (List.mem_of_getElem? (i := 21) rfl)
theorem dX9_signs_40 : decode cX9_signs 40 = .ok (.iconst 0, 1) := tX9_signs_ok (40, .iconst 0, 1) (List.mem_of_getElem? (i := 22) rfl)
theorem dX9_signs_41 : decode cX9_signs 41 = .ok (.istore 5, 2) := tX9_signs_ok (41, .istore 5, 2) (List.mem_of_getElem? (i := 23) rfl)
theorem dX9_signs_43 : decode cX9_signs 43 = .ok (.iload 5, 2) := tX9_signs_ok (43, .iload 5, 2) (List.mem_of_getElem? (i := 24) rfl)
theorem dX9_signs_45 : decode cX9_signs 45 = .ok (.iload 4, 2) := tX9_signs_ok (45, .iload 4, 2) (List.mem_of_getElem? (i := 25) rfl)
theorem dX9_signs_47 : decode cX9_signs 47 = .ok (.if_icmp .ge 148, 3) := tX9_signs_ok (47, .if_icmp .ge 148, 3) (List.mem_of_getElem? (i := 26) rfl)
theorem dX9_signs_50 : decode cX9_signs 50 = .ok (.iload 5, 2) := tX9_signs_ok (50, .iload 5, 2) (List.mem_of_getElem? (i := 27) rfl)
theorem dX9_signs_52 : decode cX9_signs 52 = .ok (.istore 6, 2) := tX9_signs_ok (52, .istore 6, 2) (List.mem_of_getElem? (i := 28) rfl)
theorem dX9_signs_54 : decode cX9_signs 54 = .ok (.iconst 0, 1) := tX9_signs_ok (54, .iconst 0, 1) (List.mem_of_getElem? (i := 29) rfl)
theorem dX9_signs_55 : decode cX9_signs 55 = .ok (.istore 7, 2) := tX9_signs_ok (55, .istore 7, 2) (List.mem_of_getElem? (i := 30) rfl)
theorem dX9_signs_57 : decode cX9_signs 57 = .ok (.iconst 0, 1) := tX9_signs_ok (57, .iconst 0, 1) (List.mem_of_getElem? (i := 31) rfl)
theorem dX9_signs_58 : decode cX9_signs 58 = .ok (.istore 8, 2) := tX9_signs_ok (58, .istore 8, 2) (List.mem_of_getElem? (i := 32) rfl)
theorem dX9_signs_60 : decode cX9_signs 60 = .ok (.lconst 1, 1) := tX9_signs_ok (60, .lconst 1, 1) (List.mem_of_getElem? (i := 33) rfl)
theorem dX9_signs_61 : decode cX9_signs 61 = .ok (.lstore 9, 2) := tX9_signs_ok (61, .lstore 9, 2) (List.mem_of_getElem? (i := 34) rfl)
theorem dX9_signs_63 : decode cX9_signs 63 = .ok (.iconst 0, 1) := tX9_signs_ok (63, .iconst 0, 1) (List.mem_of_getElem? (i := 35) rfl)
theorem dX9_signs_64 : decode cX9_signs 64 = .ok (.istore 11, 2) := tX9_signs_ok (64, .istore 11, 2) (List.mem_of_getElem? (i := 36) rfl)
theorem dX9_signs_66 : decode cX9_signs 66 = .ok (.iload 11, 2) := tX9_signs_ok (66, .iload 11, 2) (List.mem_of_getElem? (i := 37) rfl)
theorem dX9_signs_68 : decode cX9_signs 68 = .ok (.iload_n 3, 1) := tX9_signs_ok (68, .iload_n 3, 1) (List.mem_of_getElem? (i := 38) rfl)
theorem dX9_signs_69 : decode cX9_signs 69 = .ok (.if_icmp .ge 92, 3) := tX9_signs_ok (69, .if_icmp .ge 92, 3) (List.mem_of_getElem? (i := 39) rfl)
theorem dX9_signs_72 : decode cX9_signs 72 = .ok (.iload 6, 2) := tX9_signs_ok (72, .iload 6, 2) (List.mem_of_getElem? (i := 40) rfl)
theorem dX9_signs_74 : decode cX9_signs 74 = .ok (.iload_n 3, 1) := tX9_signs_ok (74, .iload_n 3, 1) (List.mem_of_getElem? (i := 41) rfl)
theorem dX9_signs_75 : decode cX9_signs 75 = .ok (.irem, 1) := tX9_signs_ok (75, .irem, 1) (List.mem_of_getElem? (i := 42) rfl)
theorem dX9_signs_76 : decode cX9_signs 76 = .ok (.istore 12, 2) := tX9_signs_ok (76, .istore 12, 2) (List.mem_of_getElem? (i := 43) rfl)
theorem dX9_signs_78 : decode cX9_signs 78 = .ok (.iload 6, 2) := tX9_signs_ok (78, .iload 6, 2) (List.mem_of_getElem? (i := 44) rfl)
theorem dX9_signs_80 : decode cX9_signs 80 = .ok (.iload_n 3, 1) := tX9_signs_ok (80, .iload_n 3, 1) (List.mem_of_getElem? (i := 45) rfl)
theorem dX9_signs_81 : decode cX9_signs 81 = .ok (.idiv, 1) := tX9_signs_ok (81, .idiv, 1) (List.mem_of_getElem? (i := 46) rfl)
theorem dX9_signs_82 : decode cX9_signs 82 = .ok (.istore 6, 2) := tX9_signs_ok (82, .istore 6, 2) (List.mem_of_getElem? (i := 47) rfl)
theorem dX9_signs_84 : decode cX9_signs 84 = .ok (.iload 12, 2) := tX9_signs_ok (84, .iload 12, 2) (List.mem_of_getElem? (i := 48) rfl)
theorem dX9_signs_86 : decode cX9_signs 86 = .ok (.iconst 1, 1) := tX9_signs_ok (86, .iconst 1, 1) (List.mem_of_getElem? (i := 49) rfl)
theorem dX9_signs_87 : decode cX9_signs 87 = .ok (.iadd, 1) := tX9_signs_ok (87, .iadd, 1) (List.mem_of_getElem? (i := 50) rfl)
theorem dX9_signs_88 : decode cX9_signs 88 = .ok (.istore 13, 2) := tX9_signs_ok (88, .istore 13, 2) (List.mem_of_getElem? (i := 51) rfl)
theorem dX9_signs_90 : decode cX9_signs 90 = .ok (.iload 13, 2) := tX9_signs_ok (90, .iload 13, 2) (List.mem_of_getElem? (i := 52) rfl)
theorem dX9_signs_92 : decode cX9_signs 92 = .ok (.iload_n 3, 1) := tX9_signs_ok (92, .iload_n 3, 1) (List.mem_of_getElem? (i := 53) rfl)
theorem dX9_signs_93 : decode cX9_signs 93 = .ok (.if_icmp .ge 21, 3) := tX9_signs_ok (93, .if_icmp .ge 21, 3) (List.mem_of_getElem? (i := 54) rfl)
theorem dX9_signs_96 : decode cX9_signs 96 = .ok (.iload 8, 2) := tX9_signs_ok (96, .iload 8, 2) (List.mem_of_getElem? (i := 55) rfl)
theorem dX9_signs_98 : decode cX9_signs 98 = .ok (.iload 7, 2) := tX9_signs_ok (98, .iload 7, 2) (List.mem_of_getElem? (i := 56) rfl)
theorem dX9_signs_100 : decode cX9_signs 100 = .ok (.iload 13, 2) := tX9_signs_ok (100, .iload 13, 2) (List.mem_of_getElem? (i := 57) rfl)
theorem dX9_signs_102 : decode cX9_signs 102 = .ok (.ishr, 1) := tX9_signs_ok (102, .ishr, 1) (List.mem_of_getElem? (i := 58) rfl)
theorem dX9_signs_103 : decode cX9_signs 103 = .ok (.iconst 1, 1) := tX9_signs_ok (103, .iconst 1, 1) (List.mem_of_getElem? (i := 59) rfl)
theorem dX9_signs_104 : decode cX9_signs 104 = .ok (.iand, 1) := tX9_signs_ok (104, .iand, 1) (List.mem_of_getElem? (i := 60) rfl)
theorem dX9_signs_105 : decode cX9_signs 105 = .ok (.iadd, 1) := tX9_signs_ok (105, .iadd, 1) (List.mem_of_getElem? (i := 61) rfl)
theorem dX9_signs_106 : decode cX9_signs 106 = .ok (.istore 8, 2) := tX9_signs_ok (106, .istore 8, 2) (List.mem_of_getElem? (i := 62) rfl)
theorem dX9_signs_108 : decode cX9_signs 108 = .ok (.iinc 13 1, 3) := tX9_signs_ok (108, .iinc 13 1, 3) (List.mem_of_getElem? (i := 63) rfl)
theorem dX9_signs_111 : decode cX9_signs 111 = .ok (.goto (-21), 3) := tX9_signs_ok (111, .goto (-21), 3) (List.mem_of_getElem? (i := 64) rfl)
theorem dX9_signs_114 : decode cX9_signs 114 = .ok (.iload 7, 2) := tX9_signs_ok (114, .iload 7, 2) (List.mem_of_getElem? (i := 65) rfl)
theorem dX9_signs_116 : decode cX9_signs 116 = .ok (.iload 12, 2) := tX9_signs_ok (116, .iload 12, 2) (List.mem_of_getElem? (i := 66) rfl)
theorem dX9_signs_118 : decode cX9_signs 118 = .ok (.ishr, 1) := tX9_signs_ok (118, .ishr, 1) (List.mem_of_getElem? (i := 67) rfl)
theorem dX9_signs_119 : decode cX9_signs 119 = .ok (.iconst 1, 1) := tX9_signs_ok (119, .iconst 1, 1) (List.mem_of_getElem? (i := 68) rfl)
theorem dX9_signs_120 : decode cX9_signs 120 = .ok (.iand, 1) := tX9_signs_ok (120, .iand, 1) (List.mem_of_getElem? (i := 69) rfl)
theorem dX9_signs_121 : decode cX9_signs 121 = .ok (.iconst 1, 1) := tX9_signs_ok (121, .iconst 1, 1) (List.mem_of_getElem? (i := 70) rfl)
theorem dX9_signs_122 : decode cX9_signs 122 = .ok (.if_icmp .ne 7, 3) := tX9_signs_ok (122, .if_icmp .ne 7, 3) (List.mem_of_getElem? (i := 71) rfl)
theorem dX9_signs_125 : decode cX9_signs 125 = .ok (.lconst 0, 1) := tX9_signs_ok (125, .lconst 0, 1) (List.mem_of_getElem? (i := 72) rfl)
theorem dX9_signs_126 : decode cX9_signs 126 = .ok (.goto 18, 3) := tX9_signs_ok (126, .goto 18, 3) (List.mem_of_getElem? (i := 73) rfl)
theorem dX9_signs_129 : decode cX9_signs 129 = .ok (.lload 9, 2) := tX9_signs_ok (129, .lload 9, 2) (List.mem_of_getElem? (i := 74) rfl)
theorem dX9_signs_131 : decode cX9_signs 131 = .ok (.aload_n 0, 1) := tX9_signs_ok (131, .aload_n 0, 1) (List.mem_of_getElem? (i := 75) rfl)
theorem dX9_signs_132 : decode cX9_signs 132 = .ok (.getfield 82, 3) := tX9_signs_ok (132, .getfield 82, 3) (List.mem_of_getElem? (i := 76) rfl)
theorem dX9_signs_135 : decode cX9_signs 135 = .ok (.iconst 4, 1) := tX9_signs_ok (135, .iconst 4, 1) (List.mem_of_getElem? (i := 77) rfl)
theorem dX9_signs_136 : decode cX9_signs 136 = .ok (.iload 11, 2) := tX9_signs_ok (136, .iload 11, 2) (List.mem_of_getElem? (i := 78) rfl)
theorem dX9_signs_138 : decode cX9_signs 138 = .ok (.imul, 1) := tX9_signs_ok (138, .imul, 1) (List.mem_of_getElem? (i := 79) rfl)
theorem dX9_signs_139 : decode cX9_signs 139 = .ok (.iload 12, 2) := tX9_signs_ok (139, .iload 12, 2) (List.mem_of_getElem? (i := 80) rfl)
theorem dX9_signs_141 : decode cX9_signs 141 = .ok (.iadd, 1) := tX9_signs_ok (141, .iadd, 1) (List.mem_of_getElem? (i := 81) rfl)
theorem dX9_signs_142 : decode cX9_signs 142 = .ok (.laload, 1) := tX9_signs_ok (142, .laload, 1) (List.mem_of_getElem? (i := 82) rfl)
theorem dX9_signs_143 : decode cX9_signs 143 = .ok (.lmul, 1) := tX9_signs_ok (143, .lmul, 1) (List.mem_of_getElem? (i := 83) rfl)
theorem dX9_signs_144 : decode cX9_signs 144 = .ok (.lstore 9, 2) := tX9_signs_ok (144, .lstore 9, 2) (List.mem_of_getElem? (i := 84) rfl)
theorem dX9_signs_146 : decode cX9_signs 146 = .ok (.iload 7, 2) := tX9_signs_ok (146, .iload 7, 2) (List.mem_of_getElem? (i := 85) rfl)
theorem dX9_signs_148 : decode cX9_signs 148 = .ok (.iconst 1, 1) := tX9_signs_ok (148, .iconst 1, 1) (List.mem_of_getElem? (i := 86) rfl)
theorem dX9_signs_149 : decode cX9_signs 149 = .ok (.iload 12, 2) := tX9_signs_ok (149, .iload 12, 2) (List.mem_of_getElem? (i := 87) rfl)
theorem dX9_signs_151 : decode cX9_signs 151 = .ok (.ishl, 1) := tX9_signs_ok (151, .ishl, 1) (List.mem_of_getElem? (i := 88) rfl)
theorem dX9_signs_152 : decode cX9_signs 152 = .ok (.ior, 1) := tX9_signs_ok (152, .ior, 1) (List.mem_of_getElem? (i := 89) rfl)
theorem dX9_signs_153 : decode cX9_signs 153 = .ok (.istore 7, 2) := tX9_signs_ok (153, .istore 7, 2) (List.mem_of_getElem? (i := 90) rfl)
theorem dX9_signs_155 : decode cX9_signs 155 = .ok (.iinc 11 1, 3) := tX9_signs_ok (155, .iinc 11 1, 3) (List.mem_of_getElem? (i := 91) rfl)
theorem dX9_signs_158 : decode cX9_signs 158 = .ok (.goto (-92), 3) := tX9_signs_ok (158, .goto (-92), 3) (List.mem_of_getElem? (i := 92) rfl)
theorem dX9_signs_161 : decode cX9_signs 161 = .ok (.iload 7, 2) := tX9_signs_ok (161, .iload 7, 2) (List.mem_of_getElem? (i := 93) rfl)
theorem dX9_signs_163 : decode cX9_signs 163 = .ok (.iconst 1, 1) := tX9_signs_ok (163, .iconst 1, 1) (List.mem_of_getElem? (i := 94) rfl)
theorem dX9_signs_164 : decode cX9_signs 164 = .ok (.iload_n 3, 1) := tX9_signs_ok (164, .iload_n 3, 1) (List.mem_of_getElem? (i := 95) rfl)
theorem dX9_signs_165 : decode cX9_signs 165 = .ok (.ishl, 1) := tX9_signs_ok (165, .ishl, 1) (List.mem_of_getElem? (i := 96) rfl)
theorem dX9_signs_166 : decode cX9_signs 166 = .ok (.iconst 1, 1) := tX9_signs_ok (166, .iconst 1, 1) (List.mem_of_getElem? (i := 97) rfl)
theorem dX9_signs_167 : decode cX9_signs 167 = .ok (.isub, 1) := tX9_signs_ok (167, .isub, 1) (List.mem_of_getElem? (i := 98) rfl)
theorem dX9_signs_168 : decode cX9_signs 168 = .ok (.if_icmp .ne 21, 3) := tX9_signs_ok (168, .if_icmp .ne 21, 3) (List.mem_of_getElem? (i := 99) rfl)
theorem dX9_signs_171 : decode cX9_signs 171 = .ok (.lload_n 1, 1) := tX9_signs_ok (171, .lload_n 1, 1) (List.mem_of_getElem? (i := 100) rfl)
theorem dX9_signs_172 : decode cX9_signs 172 = .ok (.iload 8, 2) := tX9_signs_ok (172, .iload 8, 2) (List.mem_of_getElem? (i := 101) rfl)
theorem dX9_signs_174 : decode cX9_signs 174 = .ok (.iconst 2, 1) := tX9_signs_ok (174, .iconst 2, 1) (List.mem_of_getElem? (i := 102) rfl)
theorem dX9_signs_175 : decode cX9_signs 175 = .ok (.irem, 1) := tX9_signs_ok (175, .irem, 1) (List.mem_of_getElem? (i := 103) rfl)
theorem dX9_signs_176 : decode cX9_signs 176 = .ok (.ifCond .ne 8, 3) := tX9_signs_ok (176, .ifCond .ne 8, 3) (List.mem_of_getElem? (i := 104) rfl)
theorem dX9_signs_179 : decode cX9_signs 179 = .ok (.lload 9, 2) := tX9_signs_ok (179, .lload 9, 2) (List.mem_of_getElem? (i := 105) rfl)
theorem dX9_signs_181 : decode cX9_signs 181 = .ok (.goto 6, 3) := tX9_signs_ok (181, .goto 6, 3) (List.mem_of_getElem? (i := 106) rfl)
theorem dX9_signs_184 : decode cX9_signs 184 = .ok (.lload 9, 2) := tX9_signs_ok (184, .lload 9, 2) (List.mem_of_getElem? (i := 107) rfl)
theorem dX9_signs_186 : decode cX9_signs 186 = .ok (.lneg, 1) := tX9_signs_ok (186, .lneg, 1) (List.mem_of_getElem? (i := 108) rfl)
theorem dX9_signs_187 : decode cX9_signs 187 = .ok (.ladd, 1) := tX9_signs_ok (187, .ladd, 1) (List.mem_of_getElem? (i := 109) rfl)
theorem dX9_signs_188 : decode cX9_signs 188 = .ok (.lstore_n 1, 1) := tX9_signs_ok (188, .lstore_n 1, 1) (List.mem_of_getElem? (i := 110) rfl)
theorem dX9_signs_189 : decode cX9_signs 189 = .ok (.iinc 5 1, 3) := tX9_signs_ok (189, .iinc 5 1, 3) (List.mem_of_getElem? (i := 111) rfl)
theorem dX9_signs_192 : decode cX9_signs 192 = .ok (.goto (-149), 3) := tX9_signs_ok (192, .goto (-149), 3) (List.mem_of_getElem? (i := 112) rfl)
theorem dX9_signs_195 : decode cX9_signs 195 = .ok (.lload_n 1, 1) := tX9_signs_ok (195, .lload_n 1, 1) (List.mem_of_getElem? (i := 113) rfl)
theorem dX9_signs_196 : decode cX9_signs 196 = .ok (.lreturn, 1) := tX9_signs_ok (196, .lreturn, 1) (List.mem_of_getElem? (i := 114) rfl)

def tX9_boxes : List (Nat × Instr × Nat) := [
  (0, .aload_n 0, 1),
  (1, .iconst 0, 1),
  (2, .putfield 112, 3),
  (5, .aload_n 0, 1),
  (6, .iconst 0, 1),
  (7, .putfield 115, 3),
  (10, .iload_n 1, 1),
  (11, .ifCond .lt 29, 3),
  (14, .iload_n 1, 1),
  (15, .bipush 6, 2),
  (17, .if_icmp .gt 23, 3),
  (20, .iload_n 2, 1),
  (21, .ifCond .lt 19, 3),
  (24, .iload_n 2, 1),
  (25, .bipush 6, 2),
  (27, .if_icmp .gt 13, 3),
  (30, .iload_n 3, 1),
  (31, .ifCond .lt 9, 3),
  (34, .iload_n 3, 1),
  (35, .bipush 6, 2),
  (37, .if_icmp .le 10, 3),
  (40, .aload_n 0, 1),
  (41, .iconst 2, 1),
  (42, .invokevirtual 156, 3),
  (45, .i2l, 1),
  (46, .lreturn, 1),
  (47, .iconst 0, 1),
  (48, .istore 4, 2),
  (50, .iconst 1, 1),
  (51, .istore 5, 2),
  (53, .iconst 0, 1),
  (54, .istore 6, 2),
  (56, .iload 6, 2),
  (58, .iload_n 2, 1),
  (59, .if_icmp .ge 17, 3),
  (62, .iload 5, 2),
  (64, .iload_n 3, 1),
  (65, .iconst 1, 1),
  (66, .iadd, 1),
  (67, .imul, 1),
  (68, .istore 5, 2),
  (70, .iinc 6 1, 3),
  (73, .goto (-17), 3),
  (76, .iconst 0, 1),
  (77, .istore 6, 2),
  (79, .iload 6, 2),
  (81, .iload 5, 2),
  (83, .if_icmp .ge 129, 3),
  (86, .iload 6, 2),
  (88, .istore 7, 2),
  (90, .iconst 1, 1),
  (91, .istore 8, 2),
  (93, .iconst 0, 1),
  (94, .istore 9, 2),
  (96, .iload 9, 2),
  (98, .iload_n 2, 1),
  (99, .if_icmp .ge 92, 3),
  (102, .aload_n 0, 1),
  (103, .getfield 85, 3),
  (106, .bipush 6, 2),
  (108, .iload 4, 2),
  (110, .imul, 1),
  (111, .iload 9, 2),
  (113, .iadd, 1),
  (114, .iload 7, 2),
  (116, .iload_n 3, 1),
  (117, .iconst 1, 1),
  (118, .iadd, 1),
  (119, .irem, 1),
  (120, .iastore, 1),
  (121, .iload 7, 2),
  (123, .iload_n 3, 1),
  (124, .iconst 1, 1),
  (125, .iadd, 1),
  (126, .idiv, 1),
  (127, .istore 7, 2),
  (129, .iload 8, 2),
  (131, .ifCond .eq 43, 3),
  (134, .iload 9, 2),
  (136, .ifCond .eq 34, 3),
  (139, .aload_n 0, 1),
  (140, .getfield 85, 3),
  (143, .bipush 6, 2),
  (145, .iload 4, 2),
  (147, .imul, 1),
  (148, .iload 9, 2),
  (150, .iadd, 1),
  (151, .iaload, 1),
  (152, .aload_n 0, 1),
  (153, .getfield 85, 3),
  (156, .bipush 6, 2),
  (158, .iload 4, 2),
  (160, .imul, 1),
  (161, .iload 9, 2),
  (163, .iadd, 1),
  (164, .iconst 1, 1),
  (165, .isub, 1),
  (166, .iaload, 1),
  (167, .if_icmp .gt 7, 3),
  (170, .iconst 1, 1),
  (171, .goto 4, 3),
  (174, .iconst 0, 1),
  (175, .istore 8, 2),
  (177, .iload 8, 2),
  (179, .ifCond .ne 6, 3),
  (182, .iload_n 2, 1),
  (183, .istore 9, 2),
  (185, .iinc 9 1, 3),
  (188, .goto (-92), 3),
  (191, .iload 4, 2),
  (193, .iload 8, 2),
  (195, .ifCond .eq 7, 3),
  (198, .iconst 1, 1),
  (199, .goto 4, 3),
  (202, .iconst 0, 1),
  (203, .iadd, 1),
  (204, .istore 4, 2),
  (206, .iinc 6 1, 3),
  (209, .goto (-130), 3),
  (212, .iconst 0, 1),
  (213, .istore 6, 2),
  (215, .iload 6, 2),
  (217, .iload 4, 2),
  (219, .if_icmp .ge 17, 3),
  (222, .aload_n 0, 1),
  (223, .getfield 48, 3),
  (226, .iload 6, 2),
  (228, .lconst 1, 1),
  (229, .lastore, 1),
  (230, .iinc 6 1, 3),
  (233, .goto (-18), 3),
  (236, .iconst 1, 1),
  (237, .istore 6, 2),
  (239, .iload 6, 2),
  (241, .iload_n 1, 1),
  (242, .if_icmp .ge 108, 3),
  (245, .iconst 0, 1),
  (246, .istore 7, 2),
  (248, .iload 7, 2),
  (250, .iload 4, 2),
  (252, .if_icmp .ge 62, 3),
  (255, .aload_n 0, 1),
  (256, .getfield 51, 3),
  (259, .iload 7, 2),
  (261, .lconst 0, 1),
  (262, .lastore, 1),
  (263, .iconst 0, 1),
  (264, .istore 8, 2),
  (266, .iload 8, 2),
  (268, .iload 4, 2),
  (270, .if_icmp .ge 38, 3),
  (273, .aload_n 0, 1),
  (274, .iload 7, 2),
  (276, .iload 8, 2),
  (278, .iload_n 2, 1),
  (279, .invokevirtual 290, 3),
  (282, .ifCond .eq 20, 3),
  (285, .aload_n 0, 1),
  (286, .getfield 51, 3),
  (289, .iload 7, 2),
  (291, .dup2, 1),
  (292, .laload, 1),
  (293, .aload_n 0, 1),
  (294, .getfield 48, 3),
  (297, .iload 8, 2),
  (299, .laload, 1),
  (300, .ladd, 1),
  (301, .lastore, 1),
  (302, .iinc 8 1, 3),
  (305, .goto (-39), 3),
  (308, .iinc 7 1, 3),
  (311, .goto (-63), 3),
  (314, .iconst 0, 1),
  (315, .istore 7, 2),
  (317, .iload 7, 2),
  (319, .iload 4, 2),
  (321, .if_icmp .ge 23, 3),
  (324, .aload_n 0, 1),
  (325, .getfield 48, 3),
  (328, .iload 7, 2),
  (330, .aload_n 0, 1),
  (331, .getfield 51, 3),
  (334, .iload 7, 2),
  (336, .laload, 1),
  (337, .lastore, 1),
  (338, .iinc 7 1, 3),
  (341, .goto (-24), 3),
  (344, .iinc 6 1, 3),
  (347, .goto (-108), 3),
  (350, .iload_n 1, 1),
  (351, .ifCond .ne 5, 3),
  (354, .lconst 1, 1),
  (355, .lreturn, 1),
  (356, .lconst 0, 1),
  (357, .lstore 6, 2),
  (359, .iconst 0, 1),
  (360, .istore 8, 2),
  (362, .iload 8, 2),
  (364, .iload 4, 2),
  (366, .if_icmp .ge 21, 3),
  (369, .lload 6, 2),
  (371, .aload_n 0, 1),
  (372, .getfield 48, 3),
  (375, .iload 8, 2),
  (377, .laload, 1),
  (378, .ladd, 1),
  (379, .lstore 6, 2),
  (381, .iinc 8 1, 3),
  (384, .goto (-22), 3),
  (387, .lload 6, 2),
  (389, .lreturn, 1)]
set_option maxRecDepth 100000 in
theorem tX9_boxes_ok : ∀ q ∈ tX9_boxes, decode cX9_boxes q.1 = .ok q.2 := by decide +kernel
theorem dX9_boxes_0 : decode cX9_boxes 0 = .ok (.aload_n 0, 1) := tX9_boxes_ok (0, .aload_n 0, 1) (List.mem_of_getElem? (i := 0) rfl)
theorem dX9_boxes_1 : decode cX9_boxes 1 = .ok (.iconst 0, 1) := tX9_boxes_ok (1, .iconst 0, 1) (List.mem_of_getElem? (i := 1) rfl)
theorem dX9_boxes_2 : decode cX9_boxes 2 = .ok (.putfield 112, 3) := tX9_boxes_ok (2, .putfield 112, 3) (List.mem_of_getElem? (i := 2) rfl)
theorem dX9_boxes_5 : decode cX9_boxes 5 = .ok (.aload_n 0, 1) := tX9_boxes_ok (5, .aload_n 0, 1) (List.mem_of_getElem? (i := 3) rfl)
theorem dX9_boxes_6 : decode cX9_boxes 6 = .ok (.iconst 0, 1) := tX9_boxes_ok (6, .iconst 0, 1) (List.mem_of_getElem? (i := 4) rfl)
theorem dX9_boxes_7 : decode cX9_boxes 7 = .ok (.putfield 115, 3) := tX9_boxes_ok (7, .putfield 115, 3) (List.mem_of_getElem? (i := 5) rfl)
theorem dX9_boxes_10 : decode cX9_boxes 10 = .ok (.iload_n 1, 1) := tX9_boxes_ok (10, .iload_n 1, 1) (List.mem_of_getElem? (i := 6) rfl)
theorem dX9_boxes_11 : decode cX9_boxes 11 = .ok (.ifCond .lt 29, 3) := tX9_boxes_ok (11, .ifCond .lt 29, 3) (List.mem_of_getElem? (i := 7) rfl)
theorem dX9_boxes_14 : decode cX9_boxes 14 = .ok (.iload_n 1, 1) := tX9_boxes_ok (14, .iload_n 1, 1) (List.mem_of_getElem? (i := 8) rfl)
theorem dX9_boxes_15 : decode cX9_boxes 15 = .ok (.bipush 6, 2) := tX9_boxes_ok (15, .bipush 6, 2) (List.mem_of_getElem? (i := 9) rfl)
theorem dX9_boxes_17 : decode cX9_boxes 17 = .ok (.if_icmp .gt 23, 3) := tX9_boxes_ok (17, .if_icmp .gt 23, 3) (List.mem_of_getElem? (i := 10) rfl)
theorem dX9_boxes_20 : decode cX9_boxes 20 = .ok (.iload_n 2, 1) := tX9_boxes_ok (20, .iload_n 2, 1) (List.mem_of_getElem? (i := 11) rfl)
theorem dX9_boxes_21 : decode cX9_boxes 21 = .ok (.ifCond .lt 19, 3) := tX9_boxes_ok (21, .ifCond .lt 19, 3) (List.mem_of_getElem? (i := 12) rfl)
theorem dX9_boxes_24 : decode cX9_boxes 24 = .ok (.iload_n 2, 1) := tX9_boxes_ok (24, .iload_n 2, 1) (List.mem_of_getElem? (i := 13) rfl)
theorem dX9_boxes_25 : decode cX9_boxes 25 = .ok (.bipush 6, 2) := tX9_boxes_ok (25, .bipush 6, 2) (List.mem_of_getElem? (i := 14) rfl)
theorem dX9_boxes_27 : decode cX9_boxes 27 = .ok (.if_icmp .gt 13, 3) := tX9_boxes_ok (27, .if_icmp .gt 13, 3) (List.mem_of_getElem? (i := 15) rfl)
theorem dX9_boxes_30 : decode cX9_boxes 30 = .ok (.iload_n 3, 1) := tX9_boxes_ok (30, .iload_n 3, 1) (List.mem_of_getElem? (i := 16) rfl)
theorem dX9_boxes_31 : decode cX9_boxes 31 = .ok (.ifCond .lt 9, 3) := tX9_boxes_ok (31, .ifCond .lt 9, 3) (List.mem_of_getElem? (i := 17) rfl)
theorem dX9_boxes_34 : decode cX9_boxes 34 = .ok (.iload_n 3, 1) := tX9_boxes_ok (34, .iload_n 3, 1) (List.mem_of_getElem? (i := 18) rfl)
theorem dX9_boxes_35 : decode cX9_boxes 35 = .ok (.bipush 6, 2) := tX9_boxes_ok (35, .bipush 6, 2) (List.mem_of_getElem? (i := 19) rfl)
theorem dX9_boxes_37 : decode cX9_boxes 37 = .ok (.if_icmp .le 10, 3) := tX9_boxes_ok (37, .if_icmp .le 10, 3) (List.mem_of_getElem? (i := 20) rfl)
theorem dX9_boxes_40 : decode cX9_boxes 40 = .ok (.aload_n 0, 1) := tX9_boxes_ok (40, .aload_n 0, 1) (List.mem_of_getElem? (i := 21) rfl)
theorem dX9_boxes_41 : decode cX9_boxes 41 = .ok (.iconst 2, 1) := tX9_boxes_ok (41, .iconst 2, 1) (List.mem_of_getElem? (i := 22) rfl)
theorem dX9_boxes_42 : decode cX9_boxes 42 = .ok (.invokevirtual 156, 3) := tX9_boxes_ok (42, .invokevirtual 156, 3) (List.mem_of_getElem? (i := 23) rfl)
theorem dX9_boxes_45 : decode cX9_boxes 45 = .ok (.i2l, 1) := tX9_boxes_ok (45, .i2l, 1) (List.mem_of_getElem? (i := 24) rfl)
theorem dX9_boxes_46 : decode cX9_boxes 46 = .ok (.lreturn, 1) := tX9_boxes_ok (46, .lreturn, 1) (List.mem_of_getElem? (i := 25) rfl)
theorem dX9_boxes_47 : decode cX9_boxes 47 = .ok (.iconst 0, 1) := tX9_boxes_ok (47, .iconst 0, 1) (List.mem_of_getElem? (i := 26) rfl)
theorem dX9_boxes_48 : decode cX9_boxes 48 = .ok (.istore 4, 2) := tX9_boxes_ok (48, .istore 4, 2) (List.mem_of_getElem? (i := 27) rfl)
theorem dX9_boxes_50 : decode cX9_boxes 50 = .ok (.iconst 1, 1) := tX9_boxes_ok (50, .iconst 1, 1) (List.mem_of_getElem? (i := 28) rfl)
theorem dX9_boxes_51 : decode cX9_boxes 51 = .ok (.istore 5, 2) := tX9_boxes_ok (51, .istore 5, 2) (List.mem_of_getElem? (i := 29) rfl)
theorem dX9_boxes_53 : decode cX9_boxes 53 = .ok (.iconst 0, 1) := tX9_boxes_ok (53, .iconst 0, 1) (List.mem_of_getElem? (i := 30) rfl)
theorem dX9_boxes_54 : decode cX9_boxes 54 = .ok (.istore 6, 2) := tX9_boxes_ok (54, .istore 6, 2) (List.mem_of_getElem? (i := 31) rfl)
theorem dX9_boxes_56 : decode cX9_boxes 56 = .ok (.iload 6, 2) := tX9_boxes_ok (56, .iload 6, 2) (List.mem_of_getElem? (i := 32) rfl)
theorem dX9_boxes_58 : decode cX9_boxes 58 = .ok (.iload_n 2, 1) := tX9_boxes_ok (58, .iload_n 2, 1) (List.mem_of_getElem? (i := 33) rfl)
theorem dX9_boxes_59 : decode cX9_boxes 59 = .ok (.if_icmp .ge 17, 3) := tX9_boxes_ok (59, .if_icmp .ge 17, 3) (List.mem_of_getElem? (i := 34) rfl)
theorem dX9_boxes_62 : decode cX9_boxes 62 = .ok (.iload 5, 2) := tX9_boxes_ok (62, .iload 5, 2) (List.mem_of_getElem? (i := 35) rfl)
theorem dX9_boxes_64 : decode cX9_boxes 64 = .ok (.iload_n 3, 1) := tX9_boxes_ok (64, .iload_n 3, 1) (List.mem_of_getElem? (i := 36) rfl)
theorem dX9_boxes_65 : decode cX9_boxes 65 = .ok (.iconst 1, 1) := tX9_boxes_ok (65, .iconst 1, 1) (List.mem_of_getElem? (i := 37) rfl)
theorem dX9_boxes_66 : decode cX9_boxes 66 = .ok (.iadd, 1) := tX9_boxes_ok (66, .iadd, 1) (List.mem_of_getElem? (i := 38) rfl)
theorem dX9_boxes_67 : decode cX9_boxes 67 = .ok (.imul, 1) := tX9_boxes_ok (67, .imul, 1) (List.mem_of_getElem? (i := 39) rfl)
theorem dX9_boxes_68 : decode cX9_boxes 68 = .ok (.istore 5, 2) := tX9_boxes_ok (68, .istore 5, 2) (List.mem_of_getElem? (i := 40) rfl)
theorem dX9_boxes_70 : decode cX9_boxes 70 = .ok (.iinc 6 1, 3) := tX9_boxes_ok (70, .iinc 6 1, 3) (List.mem_of_getElem? (i := 41) rfl)
theorem dX9_boxes_73 : decode cX9_boxes 73 = .ok (.goto (-17), 3) := tX9_boxes_ok (73, .goto (-17), 3) (List.mem_of_getElem? (i := 42) rfl)
theorem dX9_boxes_76 : decode cX9_boxes 76 = .ok (.iconst 0, 1) := tX9_boxes_ok (76, .iconst 0, 1) (List.mem_of_getElem? (i := 43) rfl)
theorem dX9_boxes_77 : decode cX9_boxes 77 = .ok (.istore 6, 2) := tX9_boxes_ok (77, .istore 6, 2) (List.mem_of_getElem? (i := 44) rfl)
theorem dX9_boxes_79 : decode cX9_boxes 79 = .ok (.iload 6, 2) := tX9_boxes_ok (79, .iload 6, 2) (List.mem_of_getElem? (i := 45) rfl)
theorem dX9_boxes_81 : decode cX9_boxes 81 = .ok (.iload 5, 2) := tX9_boxes_ok (81, .iload 5, 2) (List.mem_of_getElem? (i := 46) rfl)
theorem dX9_boxes_83 : decode cX9_boxes 83 = .ok (.if_icmp .ge 129, 3) := tX9_boxes_ok (83, .if_icmp .ge 129, 3) (List.mem_of_getElem? (i := 47) rfl)
theorem dX9_boxes_86 : decode cX9_boxes 86 = .ok (.iload 6, 2) := tX9_boxes_ok (86, .iload 6, 2) (List.mem_of_getElem? (i := 48) rfl)
theorem dX9_boxes_88 : decode cX9_boxes 88 = .ok (.istore 7, 2) := tX9_boxes_ok (88, .istore 7, 2) (List.mem_of_getElem? (i := 49) rfl)
theorem dX9_boxes_90 : decode cX9_boxes 90 = .ok (.iconst 1, 1) := tX9_boxes_ok (90, .iconst 1, 1) (List.mem_of_getElem? (i := 50) rfl)
theorem dX9_boxes_91 : decode cX9_boxes 91 = .ok (.istore 8, 2) := tX9_boxes_ok (91, .istore 8, 2) (List.mem_of_getElem? (i := 51) rfl)
theorem dX9_boxes_93 : decode cX9_boxes 93 = .ok (.iconst 0, 1) := tX9_boxes_ok (93, .iconst 0, 1) (List.mem_of_getElem? (i := 52) rfl)
theorem dX9_boxes_94 : decode cX9_boxes 94 = .ok (.istore 9, 2) := tX9_boxes_ok (94, .istore 9, 2) (List.mem_of_getElem? (i := 53) rfl)
theorem dX9_boxes_96 : decode cX9_boxes 96 = .ok (.iload 9, 2) := tX9_boxes_ok (96, .iload 9, 2) (List.mem_of_getElem? (i := 54) rfl)
theorem dX9_boxes_98 : decode cX9_boxes 98 = .ok (.iload_n 2, 1) := tX9_boxes_ok (98, .iload_n 2, 1) (List.mem_of_getElem? (i := 55) rfl)
theorem dX9_boxes_99 : decode cX9_boxes 99 = .ok (.if_icmp .ge 92, 3) := tX9_boxes_ok (99, .if_icmp .ge 92, 3) (List.mem_of_getElem? (i := 56) rfl)
theorem dX9_boxes_102 : decode cX9_boxes 102 = .ok (.aload_n 0, 1) := tX9_boxes_ok (102, .aload_n 0, 1) (List.mem_of_getElem? (i := 57) rfl)
theorem dX9_boxes_103 : decode cX9_boxes 103 = .ok (.getfield 85, 3) := tX9_boxes_ok (103, .getfield 85, 3) (List.mem_of_getElem? (i := 58) rfl)
theorem dX9_boxes_106 : decode cX9_boxes 106 = .ok (.bipush 6, 2) := tX9_boxes_ok (106, .bipush 6, 2) (List.mem_of_getElem? (i := 59) rfl)
theorem dX9_boxes_108 : decode cX9_boxes 108 = .ok (.iload 4, 2) := tX9_boxes_ok (108, .iload 4, 2) (List.mem_of_getElem? (i := 60) rfl)
theorem dX9_boxes_110 : decode cX9_boxes 110 = .ok (.imul, 1) := tX9_boxes_ok (110, .imul, 1) (List.mem_of_getElem? (i := 61) rfl)
theorem dX9_boxes_111 : decode cX9_boxes 111 = .ok (.iload 9, 2) := tX9_boxes_ok (111, .iload 9, 2) (List.mem_of_getElem? (i := 62) rfl)
theorem dX9_boxes_113 : decode cX9_boxes 113 = .ok (.iadd, 1) := tX9_boxes_ok (113, .iadd, 1) (List.mem_of_getElem? (i := 63) rfl)
theorem dX9_boxes_114 : decode cX9_boxes 114 = .ok (.iload 7, 2) := tX9_boxes_ok (114, .iload 7, 2) (List.mem_of_getElem? (i := 64) rfl)
theorem dX9_boxes_116 : decode cX9_boxes 116 = .ok (.iload_n 3, 1) := tX9_boxes_ok (116, .iload_n 3, 1) (List.mem_of_getElem? (i := 65) rfl)
theorem dX9_boxes_117 : decode cX9_boxes 117 = .ok (.iconst 1, 1) := tX9_boxes_ok (117, .iconst 1, 1) (List.mem_of_getElem? (i := 66) rfl)
theorem dX9_boxes_118 : decode cX9_boxes 118 = .ok (.iadd, 1) := tX9_boxes_ok (118, .iadd, 1) (List.mem_of_getElem? (i := 67) rfl)
theorem dX9_boxes_119 : decode cX9_boxes 119 = .ok (.irem, 1) := tX9_boxes_ok (119, .irem, 1) (List.mem_of_getElem? (i := 68) rfl)
theorem dX9_boxes_120 : decode cX9_boxes 120 = .ok (.iastore, 1) := tX9_boxes_ok (120, .iastore, 1) (List.mem_of_getElem? (i := 69) rfl)
theorem dX9_boxes_121 : decode cX9_boxes 121 = .ok (.iload 7, 2) := tX9_boxes_ok (121, .iload 7, 2) (List.mem_of_getElem? (i := 70) rfl)
theorem dX9_boxes_123 : decode cX9_boxes 123 = .ok (.iload_n 3, 1) := tX9_boxes_ok (123, .iload_n 3, 1) (List.mem_of_getElem? (i := 71) rfl)
theorem dX9_boxes_124 : decode cX9_boxes 124 = .ok (.iconst 1, 1) := tX9_boxes_ok (124, .iconst 1, 1) (List.mem_of_getElem? (i := 72) rfl)
theorem dX9_boxes_125 : decode cX9_boxes 125 = .ok (.iadd, 1) := tX9_boxes_ok (125, .iadd, 1) (List.mem_of_getElem? (i := 73) rfl)
theorem dX9_boxes_126 : decode cX9_boxes 126 = .ok (.idiv, 1) := tX9_boxes_ok (126, .idiv, 1) (List.mem_of_getElem? (i := 74) rfl)
theorem dX9_boxes_127 : decode cX9_boxes 127 = .ok (.istore 7, 2) := tX9_boxes_ok (127, .istore 7, 2) (List.mem_of_getElem? (i := 75) rfl)
theorem dX9_boxes_129 : decode cX9_boxes 129 = .ok (.iload 8, 2) := tX9_boxes_ok (129, .iload 8, 2) (List.mem_of_getElem? (i := 76) rfl)
theorem dX9_boxes_131 : decode cX9_boxes 131 = .ok (.ifCond .eq 43, 3) := tX9_boxes_ok (131, .ifCond .eq 43, 3) (List.mem_of_getElem? (i := 77) rfl)
theorem dX9_boxes_134 : decode cX9_boxes 134 = .ok (.iload 9, 2) := tX9_boxes_ok (134, .iload 9, 2) (List.mem_of_getElem? (i := 78) rfl)
theorem dX9_boxes_136 : decode cX9_boxes 136 = .ok (.ifCond .eq 34, 3) := tX9_boxes_ok (136, .ifCond .eq 34, 3) (List.mem_of_getElem? (i := 79) rfl)
theorem dX9_boxes_139 : decode cX9_boxes 139 = .ok (.aload_n 0, 1) := tX9_boxes_ok (139, .aload_n 0, 1) (List.mem_of_getElem? (i := 80) rfl)
theorem dX9_boxes_140 : decode cX9_boxes 140 = .ok (.getfield 85, 3) := tX9_boxes_ok (140, .getfield 85, 3) (List.mem_of_getElem? (i := 81) rfl)
theorem dX9_boxes_143 : decode cX9_boxes 143 = .ok (.bipush 6, 2) := tX9_boxes_ok (143, .bipush 6, 2) (List.mem_of_getElem? (i := 82) rfl)
theorem dX9_boxes_145 : decode cX9_boxes 145 = .ok (.iload 4, 2) := tX9_boxes_ok (145, .iload 4, 2) (List.mem_of_getElem? (i := 83) rfl)
theorem dX9_boxes_147 : decode cX9_boxes 147 = .ok (.imul, 1) := tX9_boxes_ok (147, .imul, 1) (List.mem_of_getElem? (i := 84) rfl)
theorem dX9_boxes_148 : decode cX9_boxes 148 = .ok (.iload 9, 2) := tX9_boxes_ok (148, .iload 9, 2) (List.mem_of_getElem? (i := 85) rfl)
theorem dX9_boxes_150 : decode cX9_boxes 150 = .ok (.iadd, 1) := tX9_boxes_ok (150, .iadd, 1) (List.mem_of_getElem? (i := 86) rfl)
theorem dX9_boxes_151 : decode cX9_boxes 151 = .ok (.iaload, 1) := tX9_boxes_ok (151, .iaload, 1) (List.mem_of_getElem? (i := 87) rfl)
theorem dX9_boxes_152 : decode cX9_boxes 152 = .ok (.aload_n 0, 1) := tX9_boxes_ok (152, .aload_n 0, 1) (List.mem_of_getElem? (i := 88) rfl)
theorem dX9_boxes_153 : decode cX9_boxes 153 = .ok (.getfield 85, 3) := tX9_boxes_ok (153, .getfield 85, 3) (List.mem_of_getElem? (i := 89) rfl)
theorem dX9_boxes_156 : decode cX9_boxes 156 = .ok (.bipush 6, 2) := tX9_boxes_ok (156, .bipush 6, 2) (List.mem_of_getElem? (i := 90) rfl)
theorem dX9_boxes_158 : decode cX9_boxes 158 = .ok (.iload 4, 2) := tX9_boxes_ok (158, .iload 4, 2) (List.mem_of_getElem? (i := 91) rfl)
theorem dX9_boxes_160 : decode cX9_boxes 160 = .ok (.imul, 1) := tX9_boxes_ok (160, .imul, 1) (List.mem_of_getElem? (i := 92) rfl)
theorem dX9_boxes_161 : decode cX9_boxes 161 = .ok (.iload 9, 2) := tX9_boxes_ok (161, .iload 9, 2) (List.mem_of_getElem? (i := 93) rfl)
theorem dX9_boxes_163 : decode cX9_boxes 163 = .ok (.iadd, 1) := tX9_boxes_ok (163, .iadd, 1) (List.mem_of_getElem? (i := 94) rfl)
theorem dX9_boxes_164 : decode cX9_boxes 164 = .ok (.iconst 1, 1) := tX9_boxes_ok (164, .iconst 1, 1) (List.mem_of_getElem? (i := 95) rfl)
theorem dX9_boxes_165 : decode cX9_boxes 165 = .ok (.isub, 1) := tX9_boxes_ok (165, .isub, 1) (List.mem_of_getElem? (i := 96) rfl)
theorem dX9_boxes_166 : decode cX9_boxes 166 = .ok (.iaload, 1) := tX9_boxes_ok (166, .iaload, 1) (List.mem_of_getElem? (i := 97) rfl)
theorem dX9_boxes_167 : decode cX9_boxes 167 = .ok (.if_icmp .gt 7, 3) := tX9_boxes_ok (167, .if_icmp .gt 7, 3) (List.mem_of_getElem? (i := 98) rfl)
theorem dX9_boxes_170 : decode cX9_boxes 170 = .ok (.iconst 1, 1) := tX9_boxes_ok (170, .iconst 1, 1) (List.mem_of_getElem? (i := 99) rfl)
theorem dX9_boxes_171 : decode cX9_boxes 171 = .ok (.goto 4, 3) := tX9_boxes_ok (171, .goto 4, 3) (List.mem_of_getElem? (i := 100) rfl)
theorem dX9_boxes_174 : decode cX9_boxes 174 = .ok (.iconst 0, 1) := tX9_boxes_ok (174, .iconst 0, 1) (List.mem_of_getElem? (i := 101) rfl)
theorem dX9_boxes_175 : decode cX9_boxes 175 = .ok (.istore 8, 2) := tX9_boxes_ok (175, .istore 8, 2) (List.mem_of_getElem? (i := 102) rfl)
theorem dX9_boxes_177 : decode cX9_boxes 177 = .ok (.iload 8, 2) := tX9_boxes_ok (177, .iload 8, 2) (List.mem_of_getElem? (i := 103) rfl)
theorem dX9_boxes_179 : decode cX9_boxes 179 = .ok (.ifCond .ne 6, 3) := tX9_boxes_ok (179, .ifCond .ne 6, 3) (List.mem_of_getElem? (i := 104) rfl)
theorem dX9_boxes_182 : decode cX9_boxes 182 = .ok (.iload_n 2, 1) := tX9_boxes_ok (182, .iload_n 2, 1) (List.mem_of_getElem? (i := 105) rfl)
theorem dX9_boxes_183 : decode cX9_boxes 183 = .ok (.istore 9, 2) := tX9_boxes_ok (183, .istore 9, 2) (List.mem_of_getElem? (i := 106) rfl)
theorem dX9_boxes_185 : decode cX9_boxes 185 = .ok (.iinc 9 1, 3) := tX9_boxes_ok (185, .iinc 9 1, 3) (List.mem_of_getElem? (i := 107) rfl)
theorem dX9_boxes_188 : decode cX9_boxes 188 = .ok (.goto (-92), 3) := tX9_boxes_ok (188, .goto (-92), 3) (List.mem_of_getElem? (i := 108) rfl)
theorem dX9_boxes_191 : decode cX9_boxes 191 = .ok (.iload 4, 2) := tX9_boxes_ok (191, .iload 4, 2) (List.mem_of_getElem? (i := 109) rfl)
theorem dX9_boxes_193 : decode cX9_boxes 193 = .ok (.iload 8, 2) := tX9_boxes_ok (193, .iload 8, 2) (List.mem_of_getElem? (i := 110) rfl)
theorem dX9_boxes_195 : decode cX9_boxes 195 = .ok (.ifCond .eq 7, 3) := tX9_boxes_ok (195, .ifCond .eq 7, 3) (List.mem_of_getElem? (i := 111) rfl)
theorem dX9_boxes_198 : decode cX9_boxes 198 = .ok (.iconst 1, 1) := tX9_boxes_ok (198, .iconst 1, 1) (List.mem_of_getElem? (i := 112) rfl)
theorem dX9_boxes_199 : decode cX9_boxes 199 = .ok (.goto 4, 3) := tX9_boxes_ok (199, .goto 4, 3) (List.mem_of_getElem? (i := 113) rfl)
theorem dX9_boxes_202 : decode cX9_boxes 202 = .ok (.iconst 0, 1) := tX9_boxes_ok (202, .iconst 0, 1) (List.mem_of_getElem? (i := 114) rfl)
theorem dX9_boxes_203 : decode cX9_boxes 203 = .ok (.iadd, 1) := tX9_boxes_ok (203, .iadd, 1) (List.mem_of_getElem? (i := 115) rfl)
theorem dX9_boxes_204 : decode cX9_boxes 204 = .ok (.istore 4, 2) := tX9_boxes_ok (204, .istore 4, 2) (List.mem_of_getElem? (i := 116) rfl)
theorem dX9_boxes_206 : decode cX9_boxes 206 = .ok (.iinc 6 1, 3) := tX9_boxes_ok (206, .iinc 6 1, 3) (List.mem_of_getElem? (i := 117) rfl)
theorem dX9_boxes_209 : decode cX9_boxes 209 = .ok (.goto (-130), 3) := tX9_boxes_ok (209, .goto (-130), 3) (List.mem_of_getElem? (i := 118) rfl)
theorem dX9_boxes_212 : decode cX9_boxes 212 = .ok (.iconst 0, 1) := tX9_boxes_ok (212, .iconst 0, 1) (List.mem_of_getElem? (i := 119) rfl)
theorem dX9_boxes_213 : decode cX9_boxes 213 = .ok (.istore 6, 2) := tX9_boxes_ok (213, .istore 6, 2) (List.mem_of_getElem? (i := 120) rfl)
theorem dX9_boxes_215 : decode cX9_boxes 215 = .ok (.iload 6, 2) := tX9_boxes_ok (215, .iload 6, 2) (List.mem_of_getElem? (i := 121) rfl)
theorem dX9_boxes_217 : decode cX9_boxes 217 = .ok (.iload 4, 2) := tX9_boxes_ok (217, .iload 4, 2) (List.mem_of_getElem? (i := 122) rfl)
theorem dX9_boxes_219 : decode cX9_boxes 219 = .ok (.if_icmp .ge 17, 3) := tX9_boxes_ok (219, .if_icmp .ge 17, 3) (List.mem_of_getElem? (i := 123) rfl)
theorem dX9_boxes_222 : decode cX9_boxes 222 = .ok (.aload_n 0, 1) := tX9_boxes_ok (222, .aload_n 0, 1) (List.mem_of_getElem? (i := 124) rfl)
theorem dX9_boxes_223 : decode cX9_boxes 223 = .ok (.getfield 48, 3) := tX9_boxes_ok (223, .getfield 48, 3) (List.mem_of_getElem? (i := 125) rfl)
theorem dX9_boxes_226 : decode cX9_boxes 226 = .ok (.iload 6, 2) := tX9_boxes_ok (226, .iload 6, 2) (List.mem_of_getElem? (i := 126) rfl)
theorem dX9_boxes_228 : decode cX9_boxes 228 = .ok (.lconst 1, 1) := tX9_boxes_ok (228, .lconst 1, 1) (List.mem_of_getElem? (i := 127) rfl)
theorem dX9_boxes_229 : decode cX9_boxes 229 = .ok (.lastore, 1) := tX9_boxes_ok (229, .lastore, 1) (List.mem_of_getElem? (i := 128) rfl)
theorem dX9_boxes_230 : decode cX9_boxes 230 = .ok (.iinc 6 1, 3) := tX9_boxes_ok (230, .iinc 6 1, 3) (List.mem_of_getElem? (i := 129) rfl)
theorem dX9_boxes_233 : decode cX9_boxes 233 = .ok (.goto (-18), 3) := tX9_boxes_ok (233, .goto (-18), 3) (List.mem_of_getElem? (i := 130) rfl)
theorem dX9_boxes_236 : decode cX9_boxes 236 = .ok (.iconst 1, 1) := tX9_boxes_ok (236, .iconst 1, 1) (List.mem_of_getElem? (i := 131) rfl)
theorem dX9_boxes_237 : decode cX9_boxes 237 = .ok (.istore 6, 2) := tX9_boxes_ok (237, .istore 6, 2) (List.mem_of_getElem? (i := 132) rfl)
theorem dX9_boxes_239 : decode cX9_boxes 239 = .ok (.iload 6, 2) := tX9_boxes_ok (239, .iload 6, 2) (List.mem_of_getElem? (i := 133) rfl)
theorem dX9_boxes_241 : decode cX9_boxes 241 = .ok (.iload_n 1, 1) := tX9_boxes_ok (241, .iload_n 1, 1) (List.mem_of_getElem? (i := 134) rfl)
theorem dX9_boxes_242 : decode cX9_boxes 242 = .ok (.if_icmp .ge 108, 3) := tX9_boxes_ok (242, .if_icmp .ge 108, 3) (List.mem_of_getElem? (i := 135) rfl)
theorem dX9_boxes_245 : decode cX9_boxes 245 = .ok (.iconst 0, 1) := tX9_boxes_ok (245, .iconst 0, 1) (List.mem_of_getElem? (i := 136) rfl)
theorem dX9_boxes_246 : decode cX9_boxes 246 = .ok (.istore 7, 2) := tX9_boxes_ok (246, .istore 7, 2) (List.mem_of_getElem? (i := 137) rfl)
theorem dX9_boxes_248 : decode cX9_boxes 248 = .ok (.iload 7, 2) := tX9_boxes_ok (248, .iload 7, 2) (List.mem_of_getElem? (i := 138) rfl)
theorem dX9_boxes_250 : decode cX9_boxes 250 = .ok (.iload 4, 2) := tX9_boxes_ok (250, .iload 4, 2) (List.mem_of_getElem? (i := 139) rfl)
theorem dX9_boxes_252 : decode cX9_boxes 252 = .ok (.if_icmp .ge 62, 3) := tX9_boxes_ok (252, .if_icmp .ge 62, 3) (List.mem_of_getElem? (i := 140) rfl)
theorem dX9_boxes_255 : decode cX9_boxes 255 = .ok (.aload_n 0, 1) := tX9_boxes_ok (255, .aload_n 0, 1) (List.mem_of_getElem? (i := 141) rfl)
theorem dX9_boxes_256 : decode cX9_boxes 256 = .ok (.getfield 51, 3) := tX9_boxes_ok (256, .getfield 51, 3) (List.mem_of_getElem? (i := 142) rfl)
theorem dX9_boxes_259 : decode cX9_boxes 259 = .ok (.iload 7, 2) := tX9_boxes_ok (259, .iload 7, 2) (List.mem_of_getElem? (i := 143) rfl)
theorem dX9_boxes_261 : decode cX9_boxes 261 = .ok (.lconst 0, 1) := tX9_boxes_ok (261, .lconst 0, 1) (List.mem_of_getElem? (i := 144) rfl)
theorem dX9_boxes_262 : decode cX9_boxes 262 = .ok (.lastore, 1) := tX9_boxes_ok (262, .lastore, 1) (List.mem_of_getElem? (i := 145) rfl)
theorem dX9_boxes_263 : decode cX9_boxes 263 = .ok (.iconst 0, 1) := tX9_boxes_ok (263, .iconst 0, 1) (List.mem_of_getElem? (i := 146) rfl)
theorem dX9_boxes_264 : decode cX9_boxes 264 = .ok (.istore 8, 2) := tX9_boxes_ok (264, .istore 8, 2) (List.mem_of_getElem? (i := 147) rfl)
theorem dX9_boxes_266 : decode cX9_boxes 266 = .ok (.iload 8, 2) := tX9_boxes_ok (266, .iload 8, 2) (List.mem_of_getElem? (i := 148) rfl)
theorem dX9_boxes_268 : decode cX9_boxes 268 = .ok (.iload 4, 2) := tX9_boxes_ok (268, .iload 4, 2) (List.mem_of_getElem? (i := 149) rfl)
theorem dX9_boxes_270 : decode cX9_boxes 270 = .ok (.if_icmp .ge 38, 3) := tX9_boxes_ok (270, .if_icmp .ge 38, 3) (List.mem_of_getElem? (i := 150) rfl)
theorem dX9_boxes_273 : decode cX9_boxes 273 = .ok (.aload_n 0, 1) := tX9_boxes_ok (273, .aload_n 0, 1) (List.mem_of_getElem? (i := 151) rfl)
theorem dX9_boxes_274 : decode cX9_boxes 274 = .ok (.iload 7, 2) := tX9_boxes_ok (274, .iload 7, 2) (List.mem_of_getElem? (i := 152) rfl)
theorem dX9_boxes_276 : decode cX9_boxes 276 = .ok (.iload 8, 2) := tX9_boxes_ok (276, .iload 8, 2) (List.mem_of_getElem? (i := 153) rfl)
theorem dX9_boxes_278 : decode cX9_boxes 278 = .ok (.iload_n 2, 1) := tX9_boxes_ok (278, .iload_n 2, 1) (List.mem_of_getElem? (i := 154) rfl)
theorem dX9_boxes_279 : decode cX9_boxes 279 = .ok (.invokevirtual 290, 3) := tX9_boxes_ok (279, .invokevirtual 290, 3) (List.mem_of_getElem? (i := 155) rfl)
theorem dX9_boxes_282 : decode cX9_boxes 282 = .ok (.ifCond .eq 20, 3) := tX9_boxes_ok (282, .ifCond .eq 20, 3) (List.mem_of_getElem? (i := 156) rfl)
theorem dX9_boxes_285 : decode cX9_boxes 285 = .ok (.aload_n 0, 1) := tX9_boxes_ok (285, .aload_n 0, 1) (List.mem_of_getElem? (i := 157) rfl)
theorem dX9_boxes_286 : decode cX9_boxes 286 = .ok (.getfield 51, 3) := tX9_boxes_ok (286, .getfield 51, 3) (List.mem_of_getElem? (i := 158) rfl)
theorem dX9_boxes_289 : decode cX9_boxes 289 = .ok (.iload 7, 2) := tX9_boxes_ok (289, .iload 7, 2) (List.mem_of_getElem? (i := 159) rfl)
theorem dX9_boxes_291 : decode cX9_boxes 291 = .ok (.dup2, 1) := tX9_boxes_ok (291, .dup2, 1) (List.mem_of_getElem? (i := 160) rfl)
theorem dX9_boxes_292 : decode cX9_boxes 292 = .ok (.laload, 1) := tX9_boxes_ok (292, .laload, 1) (List.mem_of_getElem? (i := 161) rfl)
theorem dX9_boxes_293 : decode cX9_boxes 293 = .ok (.aload_n 0, 1) := tX9_boxes_ok (293, .aload_n 0, 1) (List.mem_of_getElem? (i := 162) rfl)
theorem dX9_boxes_294 : decode cX9_boxes 294 = .ok (.getfield 48, 3) := tX9_boxes_ok (294, .getfield 48, 3) (List.mem_of_getElem? (i := 163) rfl)
theorem dX9_boxes_297 : decode cX9_boxes 297 = .ok (.iload 8, 2) := tX9_boxes_ok (297, .iload 8, 2) (List.mem_of_getElem? (i := 164) rfl)
theorem dX9_boxes_299 : decode cX9_boxes 299 = .ok (.laload, 1) := tX9_boxes_ok (299, .laload, 1) (List.mem_of_getElem? (i := 165) rfl)
theorem dX9_boxes_300 : decode cX9_boxes 300 = .ok (.ladd, 1) := tX9_boxes_ok (300, .ladd, 1) (List.mem_of_getElem? (i := 166) rfl)
theorem dX9_boxes_301 : decode cX9_boxes 301 = .ok (.lastore, 1) := tX9_boxes_ok (301, .lastore, 1) (List.mem_of_getElem? (i := 167) rfl)
theorem dX9_boxes_302 : decode cX9_boxes 302 = .ok (.iinc 8 1, 3) := tX9_boxes_ok (302, .iinc 8 1, 3) (List.mem_of_getElem? (i := 168) rfl)
theorem dX9_boxes_305 : decode cX9_boxes 305 = .ok (.goto (-39), 3) := tX9_boxes_ok (305, .goto (-39), 3) (List.mem_of_getElem? (i := 169) rfl)
theorem dX9_boxes_308 : decode cX9_boxes 308 = .ok (.iinc 7 1, 3) := tX9_boxes_ok (308, .iinc 7 1, 3) (List.mem_of_getElem? (i := 170) rfl)
theorem dX9_boxes_311 : decode cX9_boxes 311 = .ok (.goto (-63), 3) := tX9_boxes_ok (311, .goto (-63), 3) (List.mem_of_getElem? (i := 171) rfl)
theorem dX9_boxes_314 : decode cX9_boxes 314 = .ok (.iconst 0, 1) := tX9_boxes_ok (314, .iconst 0, 1) (List.mem_of_getElem? (i := 172) rfl)
theorem dX9_boxes_315 : decode cX9_boxes 315 = .ok (.istore 7, 2) := tX9_boxes_ok (315, .istore 7, 2) (List.mem_of_getElem? (i := 173) rfl)
theorem dX9_boxes_317 : decode cX9_boxes 317 = .ok (.iload 7, 2) := tX9_boxes_ok (317, .iload 7, 2) (List.mem_of_getElem? (i := 174) rfl)
theorem dX9_boxes_319 : decode cX9_boxes 319 = .ok (.iload 4, 2) := tX9_boxes_ok (319, .iload 4, 2) (List.mem_of_getElem? (i := 175) rfl)
theorem dX9_boxes_321 : decode cX9_boxes 321 = .ok (.if_icmp .ge 23, 3) := tX9_boxes_ok (321, .if_icmp .ge 23, 3) (List.mem_of_getElem? (i := 176) rfl)
theorem dX9_boxes_324 : decode cX9_boxes 324 = .ok (.aload_n 0, 1) := tX9_boxes_ok (324, .aload_n 0, 1) (List.mem_of_getElem? (i := 177) rfl)
theorem dX9_boxes_325 : decode cX9_boxes 325 = .ok (.getfield 48, 3) := tX9_boxes_ok (325, .getfield 48, 3) (List.mem_of_getElem? (i := 178) rfl)
theorem dX9_boxes_328 : decode cX9_boxes 328 = .ok (.iload 7, 2) := tX9_boxes_ok (328, .iload 7, 2) (List.mem_of_getElem? (i := 179) rfl)
theorem dX9_boxes_330 : decode cX9_boxes 330 = .ok (.aload_n 0, 1) := tX9_boxes_ok (330, .aload_n 0, 1) (List.mem_of_getElem? (i := 180) rfl)
theorem dX9_boxes_331 : decode cX9_boxes 331 = .ok (.getfield 51, 3) := tX9_boxes_ok (331, .getfield 51, 3) (List.mem_of_getElem? (i := 181) rfl)
theorem dX9_boxes_334 : decode cX9_boxes 334 = .ok (.iload 7, 2) := tX9_boxes_ok (334, .iload 7, 2) (List.mem_of_getElem? (i := 182) rfl)
theorem dX9_boxes_336 : decode cX9_boxes 336 = .ok (.laload, 1) := tX9_boxes_ok (336, .laload, 1) (List.mem_of_getElem? (i := 183) rfl)
theorem dX9_boxes_337 : decode cX9_boxes 337 = .ok (.lastore, 1) := tX9_boxes_ok (337, .lastore, 1) (List.mem_of_getElem? (i := 184) rfl)
theorem dX9_boxes_338 : decode cX9_boxes 338 = .ok (.iinc 7 1, 3) := tX9_boxes_ok (338, .iinc 7 1, 3) (List.mem_of_getElem? (i := 185) rfl)
theorem dX9_boxes_341 : decode cX9_boxes 341 = .ok (.goto (-24), 3) := tX9_boxes_ok (341, .goto (-24), 3) (List.mem_of_getElem? (i := 186) rfl)
theorem dX9_boxes_344 : decode cX9_boxes 344 = .ok (.iinc 6 1, 3) := tX9_boxes_ok (344, .iinc 6 1, 3) (List.mem_of_getElem? (i := 187) rfl)
theorem dX9_boxes_347 : decode cX9_boxes 347 = .ok (.goto (-108), 3) := tX9_boxes_ok (347, .goto (-108), 3) (List.mem_of_getElem? (i := 188) rfl)
theorem dX9_boxes_350 : decode cX9_boxes 350 = .ok (.iload_n 1, 1) := tX9_boxes_ok (350, .iload_n 1, 1) (List.mem_of_getElem? (i := 189) rfl)
theorem dX9_boxes_351 : decode cX9_boxes 351 = .ok (.ifCond .ne 5, 3) := tX9_boxes_ok (351, .ifCond .ne 5, 3) (List.mem_of_getElem? (i := 190) rfl)
theorem dX9_boxes_354 : decode cX9_boxes 354 = .ok (.lconst 1, 1) := tX9_boxes_ok (354, .lconst 1, 1) (List.mem_of_getElem? (i := 191) rfl)
theorem dX9_boxes_355 : decode cX9_boxes 355 = .ok (.lreturn, 1) := tX9_boxes_ok (355, .lreturn, 1) (List.mem_of_getElem? (i := 192) rfl)
theorem dX9_boxes_356 : decode cX9_boxes 356 = .ok (.lconst 0, 1) := tX9_boxes_ok (356, .lconst 0, 1) (List.mem_of_getElem? (i := 193) rfl)
theorem dX9_boxes_357 : decode cX9_boxes 357 = .ok (.lstore 6, 2) := tX9_boxes_ok (357, .lstore 6, 2) (List.mem_of_getElem? (i := 194) rfl)
theorem dX9_boxes_359 : decode cX9_boxes 359 = .ok (.iconst 0, 1) := tX9_boxes_ok (359, .iconst 0, 1) (List.mem_of_getElem? (i := 195) rfl)
theorem dX9_boxes_360 : decode cX9_boxes 360 = .ok (.istore 8, 2) := tX9_boxes_ok (360, .istore 8, 2) (List.mem_of_getElem? (i := 196) rfl)
theorem dX9_boxes_362 : decode cX9_boxes 362 = .ok (.iload 8, 2) := tX9_boxes_ok (362, .iload 8, 2) (List.mem_of_getElem? (i := 197) rfl)
theorem dX9_boxes_364 : decode cX9_boxes 364 = .ok (.iload 4, 2) := tX9_boxes_ok (364, .iload 4, 2) (List.mem_of_getElem? (i := 198) rfl)
theorem dX9_boxes_366 : decode cX9_boxes 366 = .ok (.if_icmp .ge 21, 3) := tX9_boxes_ok (366, .if_icmp .ge 21, 3) (List.mem_of_getElem? (i := 199) rfl)
theorem dX9_boxes_369 : decode cX9_boxes 369 = .ok (.lload 6, 2) := tX9_boxes_ok (369, .lload 6, 2) (List.mem_of_getElem? (i := 200) rfl)
theorem dX9_boxes_371 : decode cX9_boxes 371 = .ok (.aload_n 0, 1) := tX9_boxes_ok (371, .aload_n 0, 1) (List.mem_of_getElem? (i := 201) rfl)
theorem dX9_boxes_372 : decode cX9_boxes 372 = .ok (.getfield 48, 3) := tX9_boxes_ok (372, .getfield 48, 3) (List.mem_of_getElem? (i := 202) rfl)
theorem dX9_boxes_375 : decode cX9_boxes 375 = .ok (.iload 8, 2) := tX9_boxes_ok (375, .iload 8, 2) (List.mem_of_getElem? (i := 203) rfl)
theorem dX9_boxes_377 : decode cX9_boxes 377 = .ok (.laload, 1) := tX9_boxes_ok (377, .laload, 1) (List.mem_of_getElem? (i := 204) rfl)
theorem dX9_boxes_378 : decode cX9_boxes 378 = .ok (.ladd, 1) := tX9_boxes_ok (378, .ladd, 1) (List.mem_of_getElem? (i := 205) rfl)
theorem dX9_boxes_379 : decode cX9_boxes 379 = .ok (.lstore 6, 2) := tX9_boxes_ok (379, .lstore 6, 2) (List.mem_of_getElem? (i := 206) rfl)
theorem dX9_boxes_381 : decode cX9_boxes 381 = .ok (.iinc 8 1, 3) := tX9_boxes_ok (381, .iinc 8 1, 3) (List.mem_of_getElem? (i := 207) rfl)
theorem dX9_boxes_384 : decode cX9_boxes 384 = .ok (.goto (-22), 3) := tX9_boxes_ok (384, .goto (-22), 3) (List.mem_of_getElem? (i := 208) rfl)
theorem dX9_boxes_387 : decode cX9_boxes 387 = .ok (.lload 6, 2) := tX9_boxes_ok (387, .lload 6, 2) (List.mem_of_getElem? (i := 209) rfl)
theorem dX9_boxes_389 : decode cX9_boxes 389 = .ok (.lreturn, 1) := tX9_boxes_ok (389, .lreturn, 1) (List.mem_of_getElem? (i := 210) rfl)

def tX9_isUnder : List (Nat × Instr × Nat) := [
  (0, .iconst 0, 1),
  (1, .istore 4, 2),
  (3, .iload 4, 2),
  (5, .iload_n 3, 1),
  (6, .if_icmp .ge 38, 3),
  (9, .aload_n 0, 1),
  (10, .getfield 85, 3),
  (13, .bipush 6, 2),
  (15, .iload_n 1, 1),
  (16, .imul, 1),
  (17, .iload 4, 2),
  (19, .iadd, 1),
  (20, .iaload, 1),
  (21, .aload_n 0, 1),
  (22, .getfield 85, 3),
  (25, .bipush 6, 2),
  (27, .iload_n 2, 1),
  (28, .imul, 1),
  (29, .iload 4, 2),
  (31, .iadd, 1),
  (32, .iaload, 1),
  (33, .if_icmp .le 5, 3),
  (36, .iconst 0, 1),
  (37, .ireturn, 1),
  (38, .iinc 4 1, 3),
  (41, .goto (-38), 3),
  (44, .iconst 1, 1),
  (45, .ireturn, 1)]
set_option maxRecDepth 100000 in
theorem tX9_isUnder_ok : ∀ q ∈ tX9_isUnder, decode cX9_isUnder q.1 = .ok q.2 := by decide +kernel
theorem dX9_isUnder_0 : decode cX9_isUnder 0 = .ok (.iconst 0, 1) := tX9_isUnder_ok (0, .iconst 0, 1) (List.mem_of_getElem? (i := 0) rfl)
theorem dX9_isUnder_1 : decode cX9_isUnder 1 = .ok (.istore 4, 2) := tX9_isUnder_ok (1, .istore 4, 2) (List.mem_of_getElem? (i := 1) rfl)
theorem dX9_isUnder_3 : decode cX9_isUnder 3 = .ok (.iload 4, 2) := tX9_isUnder_ok (3, .iload 4, 2) (List.mem_of_getElem? (i := 2) rfl)
theorem dX9_isUnder_5 : decode cX9_isUnder 5 = .ok (.iload_n 3, 1) := tX9_isUnder_ok (5, .iload_n 3, 1) (List.mem_of_getElem? (i := 3) rfl)
theorem dX9_isUnder_6 : decode cX9_isUnder 6 = .ok (.if_icmp .ge 38, 3) := tX9_isUnder_ok (6, .if_icmp .ge 38, 3) (List.mem_of_getElem? (i := 4) rfl)
theorem dX9_isUnder_9 : decode cX9_isUnder 9 = .ok (.aload_n 0, 1) := tX9_isUnder_ok (9, .aload_n 0, 1) (List.mem_of_getElem? (i := 5) rfl)
theorem dX9_isUnder_10 : decode cX9_isUnder 10 = .ok (.getfield 85, 3) := tX9_isUnder_ok (10, .getfield 85, 3) (List.mem_of_getElem? (i := 6) rfl)
theorem dX9_isUnder_13 : decode cX9_isUnder 13 = .ok (.bipush 6, 2) := tX9_isUnder_ok (13, .bipush 6, 2) (List.mem_of_getElem? (i := 7) rfl)
theorem dX9_isUnder_15 : decode cX9_isUnder 15 = .ok (.iload_n 1, 1) := tX9_isUnder_ok (15, .iload_n 1, 1) (List.mem_of_getElem? (i := 8) rfl)
theorem dX9_isUnder_16 : decode cX9_isUnder 16 = .ok (.imul, 1) := tX9_isUnder_ok (16, .imul, 1) (List.mem_of_getElem? (i := 9) rfl)
theorem dX9_isUnder_17 : decode cX9_isUnder 17 = .ok (.iload 4, 2) := tX9_isUnder_ok (17, .iload 4, 2) (List.mem_of_getElem? (i := 10) rfl)
theorem dX9_isUnder_19 : decode cX9_isUnder 19 = .ok (.iadd, 1) := tX9_isUnder_ok (19, .iadd, 1) (List.mem_of_getElem? (i := 11) rfl)
theorem dX9_isUnder_20 : decode cX9_isUnder 20 = .ok (.iaload, 1) := tX9_isUnder_ok (20, .iaload, 1) (List.mem_of_getElem? (i := 12) rfl)
theorem dX9_isUnder_21 : decode cX9_isUnder 21 = .ok (.aload_n 0, 1) := tX9_isUnder_ok (21, .aload_n 0, 1) (List.mem_of_getElem? (i := 13) rfl)
theorem dX9_isUnder_22 : decode cX9_isUnder 22 = .ok (.getfield 85, 3) := tX9_isUnder_ok (22, .getfield 85, 3) (List.mem_of_getElem? (i := 14) rfl)
theorem dX9_isUnder_25 : decode cX9_isUnder 25 = .ok (.bipush 6, 2) := tX9_isUnder_ok (25, .bipush 6, 2) (List.mem_of_getElem? (i := 15) rfl)
theorem dX9_isUnder_27 : decode cX9_isUnder 27 = .ok (.iload_n 2, 1) := tX9_isUnder_ok (27, .iload_n 2, 1) (List.mem_of_getElem? (i := 16) rfl)
theorem dX9_isUnder_28 : decode cX9_isUnder 28 = .ok (.imul, 1) := tX9_isUnder_ok (28, .imul, 1) (List.mem_of_getElem? (i := 17) rfl)
theorem dX9_isUnder_29 : decode cX9_isUnder 29 = .ok (.iload 4, 2) := tX9_isUnder_ok (29, .iload 4, 2) (List.mem_of_getElem? (i := 18) rfl)
theorem dX9_isUnder_31 : decode cX9_isUnder 31 = .ok (.iadd, 1) := tX9_isUnder_ok (31, .iadd, 1) (List.mem_of_getElem? (i := 19) rfl)
theorem dX9_isUnder_32 : decode cX9_isUnder 32 = .ok (.iaload, 1) := tX9_isUnder_ok (32, .iaload, 1) (List.mem_of_getElem? (i := 20) rfl)
theorem dX9_isUnder_33 : decode cX9_isUnder 33 = .ok (.if_icmp .le 5, 3) := tX9_isUnder_ok (33, .if_icmp .le 5, 3) (List.mem_of_getElem? (i := 21) rfl)
theorem dX9_isUnder_36 : decode cX9_isUnder 36 = .ok (.iconst 0, 1) := tX9_isUnder_ok (36, .iconst 0, 1) (List.mem_of_getElem? (i := 22) rfl)
theorem dX9_isUnder_37 : decode cX9_isUnder 37 = .ok (.ireturn, 1) := tX9_isUnder_ok (37, .ireturn, 1) (List.mem_of_getElem? (i := 23) rfl)
theorem dX9_isUnder_38 : decode cX9_isUnder 38 = .ok (.iinc 4 1, 3) := tX9_isUnder_ok (38, .iinc 4 1, 3) (List.mem_of_getElem? (i := 24) rfl)
theorem dX9_isUnder_41 : decode cX9_isUnder 41 = .ok (.goto (-38), 3) := tX9_isUnder_ok (41, .goto (-38), 3) (List.mem_of_getElem? (i := 25) rfl)
theorem dX9_isUnder_44 : decode cX9_isUnder 44 = .ok (.iconst 1, 1) := tX9_isUnder_ok (44, .iconst 1, 1) (List.mem_of_getElem? (i := 26) rfl)
theorem dX9_isUnder_45 : decode cX9_isUnder 45 = .ok (.ireturn, 1) := tX9_isUnder_ok (45, .ireturn, 1) (List.mem_of_getElem? (i := 27) rfl)

def tX9_endsOf : List (Nat × Instr × Nat) := [
  (0, .iload_n 2, 1),
  (1, .ifCond .lt 9, 3),
  (4, .iload_n 2, 1),
  (5, .bipush 61, 2),
  (7, .if_icmp .le 7, 3),
  (10, .lconst 0, 1),
  (11, .goto 14, 3),
  (14, .aload_n 0, 1),
  (15, .getfield 88, 3),
  (18, .bipush 62, 2),
  (20, .iload_n 1, 1),
  (21, .imul, 1),
  (22, .iload_n 2, 1),
  (23, .iadd, 1),
  (24, .laload, 1),
  (25, .lreturn, 1)]
set_option maxRecDepth 100000 in
theorem tX9_endsOf_ok : ∀ q ∈ tX9_endsOf, decode cX9_endsOf q.1 = .ok q.2 := by decide +kernel
theorem dX9_endsOf_0 : decode cX9_endsOf 0 = .ok (.iload_n 2, 1) := tX9_endsOf_ok (0, .iload_n 2, 1) (List.mem_of_getElem? (i := 0) rfl)
theorem dX9_endsOf_1 : decode cX9_endsOf 1 = .ok (.ifCond .lt 9, 3) := tX9_endsOf_ok (1, .ifCond .lt 9, 3) (List.mem_of_getElem? (i := 1) rfl)
theorem dX9_endsOf_4 : decode cX9_endsOf 4 = .ok (.iload_n 2, 1) := tX9_endsOf_ok (4, .iload_n 2, 1) (List.mem_of_getElem? (i := 2) rfl)
theorem dX9_endsOf_5 : decode cX9_endsOf 5 = .ok (.bipush 61, 2) := tX9_endsOf_ok (5, .bipush 61, 2) (List.mem_of_getElem? (i := 3) rfl)
theorem dX9_endsOf_7 : decode cX9_endsOf 7 = .ok (.if_icmp .le 7, 3) := tX9_endsOf_ok (7, .if_icmp .le 7, 3) (List.mem_of_getElem? (i := 4) rfl)
theorem dX9_endsOf_10 : decode cX9_endsOf 10 = .ok (.lconst 0, 1) := tX9_endsOf_ok (10, .lconst 0, 1) (List.mem_of_getElem? (i := 5) rfl)
theorem dX9_endsOf_11 : decode cX9_endsOf 11 = .ok (.goto 14, 3) := tX9_endsOf_ok (11, .goto 14, 3) (List.mem_of_getElem? (i := 6) rfl)
theorem dX9_endsOf_14 : decode cX9_endsOf 14 = .ok (.aload_n 0, 1) := tX9_endsOf_ok (14, .aload_n 0, 1) (List.mem_of_getElem? (i := 7) rfl)
theorem dX9_endsOf_15 : decode cX9_endsOf 15 = .ok (.getfield 88, 3) := tX9_endsOf_ok (15, .getfield 88, 3) (List.mem_of_getElem? (i := 8) rfl)
theorem dX9_endsOf_18 : decode cX9_endsOf 18 = .ok (.bipush 62, 2) := tX9_endsOf_ok (18, .bipush 62, 2) (List.mem_of_getElem? (i := 9) rfl)
theorem dX9_endsOf_20 : decode cX9_endsOf 20 = .ok (.iload_n 1, 1) := tX9_endsOf_ok (20, .iload_n 1, 1) (List.mem_of_getElem? (i := 10) rfl)
theorem dX9_endsOf_21 : decode cX9_endsOf 21 = .ok (.imul, 1) := tX9_endsOf_ok (21, .imul, 1) (List.mem_of_getElem? (i := 11) rfl)
theorem dX9_endsOf_22 : decode cX9_endsOf 22 = .ok (.iload_n 2, 1) := tX9_endsOf_ok (22, .iload_n 2, 1) (List.mem_of_getElem? (i := 12) rfl)
theorem dX9_endsOf_23 : decode cX9_endsOf 23 = .ok (.iadd, 1) := tX9_endsOf_ok (23, .iadd, 1) (List.mem_of_getElem? (i := 13) rfl)
theorem dX9_endsOf_24 : decode cX9_endsOf 24 = .ok (.laload, 1) := tX9_endsOf_ok (24, .laload, 1) (List.mem_of_getElem? (i := 14) rfl)
theorem dX9_endsOf_25 : decode cX9_endsOf 25 = .ok (.lreturn, 1) := tX9_endsOf_ok (25, .lreturn, 1) (List.mem_of_getElem? (i := 15) rfl)

def tX9_fillEnds : List (Nat × Instr × Nat) := [
  (0, .iconst 0, 1),
  (1, .istore_n 2, 1),
  (2, .iload_n 2, 1),
  (3, .bipush 62, 2),
  (5, .if_icmp .ge 24, 3),
  (8, .aload_n 0, 1),
  (9, .getfield 88, 3),
  (12, .iload_n 2, 1),
  (13, .iload_n 2, 1),
  (14, .ifCond .ne 7, 3),
  (17, .lconst 1, 1),
  (18, .goto 4, 3),
  (21, .lconst 0, 1),
  (22, .lastore, 1),
  (23, .iinc 2 1, 3),
  (26, .goto (-24), 3),
  (29, .iconst 1, 1),
  (30, .istore_n 2, 1),
  (31, .iload_n 2, 1),
  (32, .iload_n 1, 1),
  (33, .if_icmp .gt 64, 3),
  (36, .iconst 0, 1),
  (37, .istore_n 3, 1),
  (38, .iload_n 3, 1),
  (39, .bipush 62, 2),
  (41, .if_icmp .ge 50, 3),
  (44, .aload_n 0, 1),
  (45, .getfield 88, 3),
  (48, .bipush 62, 2),
  (50, .iload_n 2, 1),
  (51, .imul, 1),
  (52, .iload_n 3, 1),
  (53, .iadd, 1),
  (54, .iload_n 3, 1),
  (55, .iload_n 2, 1),
  (56, .if_icmp .le 7, 3),
  (59, .lconst 0, 1),
  (60, .goto 24, 3),
  (63, .aload_n 0, 1),
  (64, .iload_n 2, 1),
  (65, .iconst 1, 1),
  (66, .isub, 1),
  (67, .iload_n 3, 1),
  (68, .iconst 1, 1),
  (69, .iadd, 1),
  (70, .invokevirtual 293, 3),
  (73, .aload_n 0, 1),
  (74, .iload_n 2, 1),
  (75, .iconst 1, 1),
  (76, .isub, 1),
  (77, .iload_n 3, 1),
  (78, .iconst 1, 1),
  (79, .isub, 1),
  (80, .invokevirtual 293, 3),
  (83, .ladd, 1),
  (84, .lastore, 1),
  (85, .iinc 3 1, 3),
  (88, .goto (-50), 3),
  (91, .iinc 2 1, 3),
  (94, .goto (-63), 3),
  (97, .return_, 1)]
set_option maxRecDepth 100000 in
theorem tX9_fillEnds_ok : ∀ q ∈ tX9_fillEnds, decode cX9_fillEnds q.1 = .ok q.2 := by decide +kernel
theorem dX9_fillEnds_0 : decode cX9_fillEnds 0 = .ok (.iconst 0, 1) := tX9_fillEnds_ok (0, .iconst 0, 1) (List.mem_of_getElem? (i := 0) rfl)
theorem dX9_fillEnds_1 : decode cX9_fillEnds 1 = .ok (.istore_n 2, 1) := tX9_fillEnds_ok (1, .istore_n 2, 1) (List.mem_of_getElem? (i := 1) rfl)
theorem dX9_fillEnds_2 : decode cX9_fillEnds 2 = .ok (.iload_n 2, 1) := tX9_fillEnds_ok (2, .iload_n 2, 1) (List.mem_of_getElem? (i := 2) rfl)
theorem dX9_fillEnds_3 : decode cX9_fillEnds 3 = .ok (.bipush 62, 2) := tX9_fillEnds_ok (3, .bipush 62, 2) (List.mem_of_getElem? (i := 3) rfl)
theorem dX9_fillEnds_5 : decode cX9_fillEnds 5 = .ok (.if_icmp .ge 24, 3) := tX9_fillEnds_ok (5, .if_icmp .ge 24, 3) (List.mem_of_getElem? (i := 4) rfl)
theorem dX9_fillEnds_8 : decode cX9_fillEnds 8 = .ok (.aload_n 0, 1) := tX9_fillEnds_ok (8, .aload_n 0, 1) (List.mem_of_getElem? (i := 5) rfl)
theorem dX9_fillEnds_9 : decode cX9_fillEnds 9 = .ok (.getfield 88, 3) := tX9_fillEnds_ok (9, .getfield 88, 3) (List.mem_of_getElem? (i := 6) rfl)
theorem dX9_fillEnds_12 : decode cX9_fillEnds 12 = .ok (.iload_n 2, 1) := tX9_fillEnds_ok (12, .iload_n 2, 1) (List.mem_of_getElem? (i := 7) rfl)
theorem dX9_fillEnds_13 : decode cX9_fillEnds 13 = .ok (.iload_n 2, 1) := tX9_fillEnds_ok (13, .iload_n 2, 1) (List.mem_of_getElem? (i := 8) rfl)
theorem dX9_fillEnds_14 : decode cX9_fillEnds 14 = .ok (.ifCond .ne 7, 3) := tX9_fillEnds_ok (14, .ifCond .ne 7, 3) (List.mem_of_getElem? (i := 9) rfl)
theorem dX9_fillEnds_17 : decode cX9_fillEnds 17 = .ok (.lconst 1, 1) := tX9_fillEnds_ok (17, .lconst 1, 1) (List.mem_of_getElem? (i := 10) rfl)
theorem dX9_fillEnds_18 : decode cX9_fillEnds 18 = .ok (.goto 4, 3) := tX9_fillEnds_ok (18, .goto 4, 3) (List.mem_of_getElem? (i := 11) rfl)
theorem dX9_fillEnds_21 : decode cX9_fillEnds 21 = .ok (.lconst 0, 1) := tX9_fillEnds_ok (21, .lconst 0, 1) (List.mem_of_getElem? (i := 12) rfl)
theorem dX9_fillEnds_22 : decode cX9_fillEnds 22 = .ok (.lastore, 1) := tX9_fillEnds_ok (22, .lastore, 1) (List.mem_of_getElem? (i := 13) rfl)
theorem dX9_fillEnds_23 : decode cX9_fillEnds 23 = .ok (.iinc 2 1, 3) := tX9_fillEnds_ok (23, .iinc 2 1, 3) (List.mem_of_getElem? (i := 14) rfl)
theorem dX9_fillEnds_26 : decode cX9_fillEnds 26 = .ok (.goto (-24), 3) := tX9_fillEnds_ok (26, .goto (-24), 3) (List.mem_of_getElem? (i := 15) rfl)
theorem dX9_fillEnds_29 : decode cX9_fillEnds 29 = .ok (.iconst 1, 1) := tX9_fillEnds_ok (29, .iconst 1, 1) (List.mem_of_getElem? (i := 16) rfl)
theorem dX9_fillEnds_30 : decode cX9_fillEnds 30 = .ok (.istore_n 2, 1) := tX9_fillEnds_ok (30, .istore_n 2, 1) (List.mem_of_getElem? (i := 17) rfl)
theorem dX9_fillEnds_31 : decode cX9_fillEnds 31 = .ok (.iload_n 2, 1) := tX9_fillEnds_ok (31, .iload_n 2, 1) (List.mem_of_getElem? (i := 18) rfl)
theorem dX9_fillEnds_32 : decode cX9_fillEnds 32 = .ok (.iload_n 1, 1) := tX9_fillEnds_ok (32, .iload_n 1, 1) (List.mem_of_getElem? (i := 19) rfl)
theorem dX9_fillEnds_33 : decode cX9_fillEnds 33 = .ok (.if_icmp .gt 64, 3) := tX9_fillEnds_ok (33, .if_icmp .gt 64, 3) (List.mem_of_getElem? (i := 20) rfl)
theorem dX9_fillEnds_36 : decode cX9_fillEnds 36 = .ok (.iconst 0, 1) := tX9_fillEnds_ok (36, .iconst 0, 1) (List.mem_of_getElem? (i := 21) rfl)
theorem dX9_fillEnds_37 : decode cX9_fillEnds 37 = .ok (.istore_n 3, 1) := tX9_fillEnds_ok (37, .istore_n 3, 1) (List.mem_of_getElem? (i := 22) rfl)
theorem dX9_fillEnds_38 : decode cX9_fillEnds 38 = .ok (.iload_n 3, 1) := tX9_fillEnds_ok (38, .iload_n 3, 1) (List.mem_of_getElem? (i := 23) rfl)
theorem dX9_fillEnds_39 : decode cX9_fillEnds 39 = .ok (.bipush 62, 2) := tX9_fillEnds_ok (39, .bipush 62, 2) (List.mem_of_getElem? (i := 24) rfl)
theorem dX9_fillEnds_41 : decode cX9_fillEnds 41 = .ok (.if_icmp .ge 50, 3) := tX9_fillEnds_ok (41, .if_icmp .ge 50, 3) (List.mem_of_getElem? (i := 25) rfl)
theorem dX9_fillEnds_44 : decode cX9_fillEnds 44 = .ok (.aload_n 0, 1) := tX9_fillEnds_ok (44, .aload_n 0, 1) (List.mem_of_getElem? (i := 26) rfl)
theorem dX9_fillEnds_45 : decode cX9_fillEnds 45 = .ok (.getfield 88, 3) := tX9_fillEnds_ok (45, .getfield 88, 3) (List.mem_of_getElem? (i := 27) rfl)
theorem dX9_fillEnds_48 : decode cX9_fillEnds 48 = .ok (.bipush 62, 2) := tX9_fillEnds_ok (48, .bipush 62, 2) (List.mem_of_getElem? (i := 28) rfl)
theorem dX9_fillEnds_50 : decode cX9_fillEnds 50 = .ok (.iload_n 2, 1) := tX9_fillEnds_ok (50, .iload_n 2, 1) (List.mem_of_getElem? (i := 29) rfl)
theorem dX9_fillEnds_51 : decode cX9_fillEnds 51 = .ok (.imul, 1) := tX9_fillEnds_ok (51, .imul, 1) (List.mem_of_getElem? (i := 30) rfl)
theorem dX9_fillEnds_52 : decode cX9_fillEnds 52 = .ok (.iload_n 3, 1) := tX9_fillEnds_ok (52, .iload_n 3, 1) (List.mem_of_getElem? (i := 31) rfl)
theorem dX9_fillEnds_53 : decode cX9_fillEnds 53 = .ok (.iadd, 1) := tX9_fillEnds_ok (53, .iadd, 1) (List.mem_of_getElem? (i := 32) rfl)
theorem dX9_fillEnds_54 : decode cX9_fillEnds 54 = .ok (.iload_n 3, 1) := tX9_fillEnds_ok (54, .iload_n 3, 1) (List.mem_of_getElem? (i := 33) rfl)
theorem dX9_fillEnds_55 : decode cX9_fillEnds 55 = .ok (.iload_n 2, 1) := tX9_fillEnds_ok (55, .iload_n 2, 1) (List.mem_of_getElem? (i := 34) rfl)
theorem dX9_fillEnds_56 : decode cX9_fillEnds 56 = .ok (.if_icmp .le 7, 3) := tX9_fillEnds_ok (56, .if_icmp .le 7, 3) (List.mem_of_getElem? (i := 35) rfl)
theorem dX9_fillEnds_59 : decode cX9_fillEnds 59 = .ok (.lconst 0, 1) := tX9_fillEnds_ok (59, .lconst 0, 1) (List.mem_of_getElem? (i := 36) rfl)
theorem dX9_fillEnds_60 : decode cX9_fillEnds 60 = .ok (.goto 24, 3) := tX9_fillEnds_ok (60, .goto 24, 3) (List.mem_of_getElem? (i := 37) rfl)
theorem dX9_fillEnds_63 : decode cX9_fillEnds 63 = .ok (.aload_n 0, 1) := tX9_fillEnds_ok (63, .aload_n 0, 1) (List.mem_of_getElem? (i := 38) rfl)
theorem dX9_fillEnds_64 : decode cX9_fillEnds 64 = .ok (.iload_n 2, 1) := tX9_fillEnds_ok (64, .iload_n 2, 1) (List.mem_of_getElem? (i := 39) rfl)
theorem dX9_fillEnds_65 : decode cX9_fillEnds 65 = .ok (.iconst 1, 1) := tX9_fillEnds_ok (65, .iconst 1, 1) (List.mem_of_getElem? (i := 40) rfl)
theorem dX9_fillEnds_66 : decode cX9_fillEnds 66 = .ok (.isub, 1) := tX9_fillEnds_ok (66, .isub, 1) (List.mem_of_getElem? (i := 41) rfl)
theorem dX9_fillEnds_67 : decode cX9_fillEnds 67 = .ok (.iload_n 3, 1) := tX9_fillEnds_ok (67, .iload_n 3, 1) (List.mem_of_getElem? (i := 42) rfl)
theorem dX9_fillEnds_68 : decode cX9_fillEnds 68 = .ok (.iconst 1, 1) := tX9_fillEnds_ok (68, .iconst 1, 1) (List.mem_of_getElem? (i := 43) rfl)
theorem dX9_fillEnds_69 : decode cX9_fillEnds 69 = .ok (.iadd, 1) := tX9_fillEnds_ok (69, .iadd, 1) (List.mem_of_getElem? (i := 44) rfl)
theorem dX9_fillEnds_70 : decode cX9_fillEnds 70 = .ok (.invokevirtual 293, 3) := tX9_fillEnds_ok (70, .invokevirtual 293, 3) (List.mem_of_getElem? (i := 45) rfl)
theorem dX9_fillEnds_73 : decode cX9_fillEnds 73 = .ok (.aload_n 0, 1) := tX9_fillEnds_ok (73, .aload_n 0, 1) (List.mem_of_getElem? (i := 46) rfl)
theorem dX9_fillEnds_74 : decode cX9_fillEnds 74 = .ok (.iload_n 2, 1) := tX9_fillEnds_ok (74, .iload_n 2, 1) (List.mem_of_getElem? (i := 47) rfl)
theorem dX9_fillEnds_75 : decode cX9_fillEnds 75 = .ok (.iconst 1, 1) := tX9_fillEnds_ok (75, .iconst 1, 1) (List.mem_of_getElem? (i := 48) rfl)
theorem dX9_fillEnds_76 : decode cX9_fillEnds 76 = .ok (.isub, 1) := tX9_fillEnds_ok (76, .isub, 1) (List.mem_of_getElem? (i := 49) rfl)
theorem dX9_fillEnds_77 : decode cX9_fillEnds 77 = .ok (.iload_n 3, 1) := tX9_fillEnds_ok (77, .iload_n 3, 1) (List.mem_of_getElem? (i := 50) rfl)
theorem dX9_fillEnds_78 : decode cX9_fillEnds 78 = .ok (.iconst 1, 1) := tX9_fillEnds_ok (78, .iconst 1, 1) (List.mem_of_getElem? (i := 51) rfl)
theorem dX9_fillEnds_79 : decode cX9_fillEnds 79 = .ok (.isub, 1) := tX9_fillEnds_ok (79, .isub, 1) (List.mem_of_getElem? (i := 52) rfl)
theorem dX9_fillEnds_80 : decode cX9_fillEnds 80 = .ok (.invokevirtual 293, 3) := tX9_fillEnds_ok (80, .invokevirtual 293, 3) (List.mem_of_getElem? (i := 53) rfl)
theorem dX9_fillEnds_83 : decode cX9_fillEnds 83 = .ok (.ladd, 1) := tX9_fillEnds_ok (83, .ladd, 1) (List.mem_of_getElem? (i := 54) rfl)
theorem dX9_fillEnds_84 : decode cX9_fillEnds 84 = .ok (.lastore, 1) := tX9_fillEnds_ok (84, .lastore, 1) (List.mem_of_getElem? (i := 55) rfl)
theorem dX9_fillEnds_85 : decode cX9_fillEnds 85 = .ok (.iinc 3 1, 3) := tX9_fillEnds_ok (85, .iinc 3 1, 3) (List.mem_of_getElem? (i := 56) rfl)
theorem dX9_fillEnds_88 : decode cX9_fillEnds 88 = .ok (.goto (-50), 3) := tX9_fillEnds_ok (88, .goto (-50), 3) (List.mem_of_getElem? (i := 57) rfl)
theorem dX9_fillEnds_91 : decode cX9_fillEnds 91 = .ok (.iinc 2 1, 3) := tX9_fillEnds_ok (91, .iinc 2 1, 3) (List.mem_of_getElem? (i := 58) rfl)
theorem dX9_fillEnds_94 : decode cX9_fillEnds 94 = .ok (.goto (-63), 3) := tX9_fillEnds_ok (94, .goto (-63), 3) (List.mem_of_getElem? (i := 59) rfl)
theorem dX9_fillEnds_97 : decode cX9_fillEnds 97 = .ok (.return_, 1) := tX9_fillEnds_ok (97, .return_, 1) (List.mem_of_getElem? (i := 60) rfl)

def tX9_brackets : List (Nat × Instr × Nat) := [
  (0, .aload_n 0, 1),
  (1, .iconst 0, 1),
  (2, .putfield 112, 3),
  (5, .aload_n 0, 1),
  (6, .iconst 0, 1),
  (7, .putfield 115, 3),
  (10, .iload_n 1, 1),
  (11, .ifCond .lt 9, 3),
  (14, .iload_n 1, 1),
  (15, .bipush 30, 2),
  (17, .if_icmp .le 9, 3),
  (20, .aload_n 0, 1),
  (21, .iconst 2, 1),
  (22, .invokevirtual 156, 3),
  (25, .ireturn, 1),
  (26, .aload_n 0, 1),
  (27, .iconst 2, 1),
  (28, .iload_n 1, 1),
  (29, .imul, 1),
  (30, .invokevirtual 296, 3),
  (33, .lload_n 2, 1),
  (34, .lconst 0, 1),
  (35, .lcmp, 1),
  (36, .ifCond .lt 16, 3),
  (39, .lload_n 2, 1),
  (40, .aload_n 0, 1),
  (41, .iconst 2, 1),
  (42, .iload_n 1, 1),
  (43, .imul, 1),
  (44, .iconst 0, 1),
  (45, .invokevirtual 293, 3),
  (48, .lcmp, 1),
  (49, .ifCond .lt 10, 3),
  (52, .aload_n 0, 1),
  (53, .bipush 8, 2),
  (55, .invokevirtual 156, 3),
  (58, .ireturn, 1),
  (59, .aload_n 0, 1),
  (60, .iconst 2, 1),
  (61, .iload_n 1, 1),
  (62, .imul, 1),
  (63, .putfield 234, 3),
  (66, .lload_n 2, 1),
  (67, .lstore 4, 2),
  (69, .iconst 0, 1),
  (70, .istore 6, 2),
  (72, .iconst 0, 1),
  (73, .istore 7, 2),
  (75, .iload 7, 2),
  (77, .iconst 2, 1),
  (78, .iload_n 1, 1),
  (79, .imul, 1),
  (80, .if_icmp .ge 89, 3),
  (83, .aload_n 0, 1),
  (84, .iconst 2, 1),
  (85, .iload_n 1, 1),
  (86, .imul, 1),
  (87, .iconst 1, 1),
  (88, .isub, 1),
  (89, .iload 7, 2),
  (91, .isub, 1),
  (92, .iload 6, 2),
  (94, .iconst 1, 1),
  (95, .iadd, 1),
  (96, .invokevirtual 293, 3),
  (99, .lstore 8, 2),
  (101, .lload 4, 2),
  (103, .lload 8, 2),
  (105, .lcmp, 1),
  (106, .ifCond .ge 7, 3),
  (109, .iconst 1, 1),
  (110, .goto 4, 3),
  (113, .iconst 0, 1),
  (114, .istore 10, 2),
  (116, .iload 10, 2),
  (118, .ifCond .ne 10, 3),
  (121, .lload 4, 2),
  (123, .lload 8, 2),
  (125, .lsub, 1),
  (126, .lstore 4, 2),
  (128, .aload_n 0, 1),
  (129, .getfield 78, 3),
  (132, .iload 7, 2),
  (134, .iload 10, 2),
  (136, .ifCond .eq 8, 3),
  (139, .bipush 40, 2),
  (141, .goto 5, 3),
  (144, .bipush 41, 2),
  (146, .i2b, 1),
  (147, .bastore, 1),
  (148, .iload 6, 2),
  (150, .iload 10, 2),
  (152, .ifCond .eq 7, 3),
  (155, .iconst 1, 1),
  (156, .goto 4, 3),
  (159, .iconst (-1), 1),
  (160, .iadd, 1),
  (161, .istore 6, 2),
  (163, .iinc 7 1, 3),
  (166, .goto (-91), 3),
  (169, .aload_n 0, 1),
  (170, .getfield 234, 3),
  (173, .ireturn, 1)]
set_option maxRecDepth 100000 in
theorem tX9_brackets_ok : ∀ q ∈ tX9_brackets, decode cX9_brackets q.1 = .ok q.2 := by decide +kernel
theorem dX9_brackets_0 : decode cX9_brackets 0 = .ok (.aload_n 0, 1) := tX9_brackets_ok (0, .aload_n 0, 1) (List.mem_of_getElem? (i := 0) rfl)
theorem dX9_brackets_1 : decode cX9_brackets 1 = .ok (.iconst 0, 1) := tX9_brackets_ok (1, .iconst 0, 1) (List.mem_of_getElem? (i := 1) rfl)
theorem dX9_brackets_2 : decode cX9_brackets 2 = .ok (.putfield 112, 3) := tX9_brackets_ok (2, .putfield 112, 3) (List.mem_of_getElem? (i := 2) rfl)
theorem dX9_brackets_5 : decode cX9_brackets 5 = .ok (.aload_n 0, 1) := tX9_brackets_ok (5, .aload_n 0, 1) (List.mem_of_getElem? (i := 3) rfl)
theorem dX9_brackets_6 : decode cX9_brackets 6 = .ok (.iconst 0, 1) := tX9_brackets_ok (6, .iconst 0, 1) (List.mem_of_getElem? (i := 4) rfl)
theorem dX9_brackets_7 : decode cX9_brackets 7 = .ok (.putfield 115, 3) := tX9_brackets_ok (7, .putfield 115, 3) (List.mem_of_getElem? (i := 5) rfl)
theorem dX9_brackets_10 : decode cX9_brackets 10 = .ok (.iload_n 1, 1) := tX9_brackets_ok (10, .iload_n 1, 1) (List.mem_of_getElem? (i := 6) rfl)
theorem dX9_brackets_11 : decode cX9_brackets 11 = .ok (.ifCond .lt 9, 3) := tX9_brackets_ok (11, .ifCond .lt 9, 3) (List.mem_of_getElem? (i := 7) rfl)
theorem dX9_brackets_14 : decode cX9_brackets 14 = .ok (.iload_n 1, 1) := tX9_brackets_ok (14, .iload_n 1, 1) (List.mem_of_getElem? (i := 8) rfl)
theorem dX9_brackets_15 : decode cX9_brackets 15 = .ok (.bipush 30, 2) := tX9_brackets_ok (15, .bipush 30, 2) (List.mem_of_getElem? (i := 9) rfl)
theorem dX9_brackets_17 : decode cX9_brackets 17 = .ok (.if_icmp .le 9, 3) := tX9_brackets_ok (17, .if_icmp .le 9, 3) (List.mem_of_getElem? (i := 10) rfl)
theorem dX9_brackets_20 : decode cX9_brackets 20 = .ok (.aload_n 0, 1) := tX9_brackets_ok (20, .aload_n 0, 1) (List.mem_of_getElem? (i := 11) rfl)
theorem dX9_brackets_21 : decode cX9_brackets 21 = .ok (.iconst 2, 1) := tX9_brackets_ok (21, .iconst 2, 1) (List.mem_of_getElem? (i := 12) rfl)
theorem dX9_brackets_22 : decode cX9_brackets 22 = .ok (.invokevirtual 156, 3) := tX9_brackets_ok (22, .invokevirtual 156, 3) (List.mem_of_getElem? (i := 13) rfl)
theorem dX9_brackets_25 : decode cX9_brackets 25 = .ok (.ireturn, 1) := tX9_brackets_ok (25, .ireturn, 1) (List.mem_of_getElem? (i := 14) rfl)
theorem dX9_brackets_26 : decode cX9_brackets 26 = .ok (.aload_n 0, 1) := tX9_brackets_ok (26, .aload_n 0, 1) (List.mem_of_getElem? (i := 15) rfl)
theorem dX9_brackets_27 : decode cX9_brackets 27 = .ok (.iconst 2, 1) := tX9_brackets_ok (27, .iconst 2, 1) (List.mem_of_getElem? (i := 16) rfl)
theorem dX9_brackets_28 : decode cX9_brackets 28 = .ok (.iload_n 1, 1) := tX9_brackets_ok (28, .iload_n 1, 1) (List.mem_of_getElem? (i := 17) rfl)
theorem dX9_brackets_29 : decode cX9_brackets 29 = .ok (.imul, 1) := tX9_brackets_ok (29, .imul, 1) (List.mem_of_getElem? (i := 18) rfl)
theorem dX9_brackets_30 : decode cX9_brackets 30 = .ok (.invokevirtual 296, 3) := tX9_brackets_ok (30, .invokevirtual 296, 3) (List.mem_of_getElem? (i := 19) rfl)
theorem dX9_brackets_33 : decode cX9_brackets 33 = .ok (.lload_n 2, 1) := tX9_brackets_ok (33, .lload_n 2, 1) (List.mem_of_getElem? (i := 20) rfl)
theorem dX9_brackets_34 : decode cX9_brackets 34 = .ok (.lconst 0, 1) := tX9_brackets_ok (34, .lconst 0, 1) (List.mem_of_getElem? (i := 21) rfl)
theorem dX9_brackets_35 : decode cX9_brackets 35 = .ok (.lcmp, 1) := tX9_brackets_ok (35, .lcmp, 1) (List.mem_of_getElem? (i := 22) rfl)
theorem dX9_brackets_36 : decode cX9_brackets 36 = .ok (.ifCond .lt 16, 3) := tX9_brackets_ok (36, .ifCond .lt 16, 3) (List.mem_of_getElem? (i := 23) rfl)
theorem dX9_brackets_39 : decode cX9_brackets 39 = .ok (.lload_n 2, 1) := tX9_brackets_ok (39, .lload_n 2, 1) (List.mem_of_getElem? (i := 24) rfl)
theorem dX9_brackets_40 : decode cX9_brackets 40 = .ok (.aload_n 0, 1) := tX9_brackets_ok (40, .aload_n 0, 1) (List.mem_of_getElem? (i := 25) rfl)
theorem dX9_brackets_41 : decode cX9_brackets 41 = .ok (.iconst 2, 1) := tX9_brackets_ok (41, .iconst 2, 1) (List.mem_of_getElem? (i := 26) rfl)
theorem dX9_brackets_42 : decode cX9_brackets 42 = .ok (.iload_n 1, 1) := tX9_brackets_ok (42, .iload_n 1, 1) (List.mem_of_getElem? (i := 27) rfl)
theorem dX9_brackets_43 : decode cX9_brackets 43 = .ok (.imul, 1) := tX9_brackets_ok (43, .imul, 1) (List.mem_of_getElem? (i := 28) rfl)
theorem dX9_brackets_44 : decode cX9_brackets 44 = .ok (.iconst 0, 1) := tX9_brackets_ok (44, .iconst 0, 1) (List.mem_of_getElem? (i := 29) rfl)
theorem dX9_brackets_45 : decode cX9_brackets 45 = .ok (.invokevirtual 293, 3) := tX9_brackets_ok (45, .invokevirtual 293, 3) (List.mem_of_getElem? (i := 30) rfl)
theorem dX9_brackets_48 : decode cX9_brackets 48 = .ok (.lcmp, 1) := tX9_brackets_ok (48, .lcmp, 1) (List.mem_of_getElem? (i := 31) rfl)
theorem dX9_brackets_49 : decode cX9_brackets 49 = .ok (.ifCond .lt 10, 3) := tX9_brackets_ok (49, .ifCond .lt 10, 3) (List.mem_of_getElem? (i := 32) rfl)
theorem dX9_brackets_52 : decode cX9_brackets 52 = .ok (.aload_n 0, 1) := tX9_brackets_ok (52, .aload_n 0, 1) (List.mem_of_getElem? (i := 33) rfl)
theorem dX9_brackets_53 : decode cX9_brackets 53 = .ok (.bipush 8, 2) := tX9_brackets_ok (53, .bipush 8, 2) (List.mem_of_getElem? (i := 34) rfl)
theorem dX9_brackets_55 : decode cX9_brackets 55 = .ok (.invokevirtual 156, 3) := tX9_brackets_ok (55, .invokevirtual 156, 3) (List.mem_of_getElem? (i := 35) rfl)
theorem dX9_brackets_58 : decode cX9_brackets 58 = .ok (.ireturn, 1) := tX9_brackets_ok (58, .ireturn, 1) (List.mem_of_getElem? (i := 36) rfl)
theorem dX9_brackets_59 : decode cX9_brackets 59 = .ok (.aload_n 0, 1) := tX9_brackets_ok (59, .aload_n 0, 1) (List.mem_of_getElem? (i := 37) rfl)
theorem dX9_brackets_60 : decode cX9_brackets 60 = .ok (.iconst 2, 1) := tX9_brackets_ok (60, .iconst 2, 1) (List.mem_of_getElem? (i := 38) rfl)
theorem dX9_brackets_61 : decode cX9_brackets 61 = .ok (.iload_n 1, 1) := tX9_brackets_ok (61, .iload_n 1, 1) (List.mem_of_getElem? (i := 39) rfl)
theorem dX9_brackets_62 : decode cX9_brackets 62 = .ok (.imul, 1) := tX9_brackets_ok (62, .imul, 1) (List.mem_of_getElem? (i := 40) rfl)
theorem dX9_brackets_63 : decode cX9_brackets 63 = .ok (.putfield 234, 3) := tX9_brackets_ok (63, .putfield 234, 3) (List.mem_of_getElem? (i := 41) rfl)
theorem dX9_brackets_66 : decode cX9_brackets 66 = .ok (.lload_n 2, 1) := tX9_brackets_ok (66, .lload_n 2, 1) (List.mem_of_getElem? (i := 42) rfl)
theorem dX9_brackets_67 : decode cX9_brackets 67 = .ok (.lstore 4, 2) := tX9_brackets_ok (67, .lstore 4, 2) (List.mem_of_getElem? (i := 43) rfl)
theorem dX9_brackets_69 : decode cX9_brackets 69 = .ok (.iconst 0, 1) := tX9_brackets_ok (69, .iconst 0, 1) (List.mem_of_getElem? (i := 44) rfl)
theorem dX9_brackets_70 : decode cX9_brackets 70 = .ok (.istore 6, 2) := tX9_brackets_ok (70, .istore 6, 2) (List.mem_of_getElem? (i := 45) rfl)
theorem dX9_brackets_72 : decode cX9_brackets 72 = .ok (.iconst 0, 1) := tX9_brackets_ok (72, .iconst 0, 1) (List.mem_of_getElem? (i := 46) rfl)
theorem dX9_brackets_73 : decode cX9_brackets 73 = .ok (.istore 7, 2) := tX9_brackets_ok (73, .istore 7, 2) (List.mem_of_getElem? (i := 47) rfl)
theorem dX9_brackets_75 : decode cX9_brackets 75 = .ok (.iload 7, 2) := tX9_brackets_ok (75, .iload 7, 2) (List.mem_of_getElem? (i := 48) rfl)
theorem dX9_brackets_77 : decode cX9_brackets 77 = .ok (.iconst 2, 1) := tX9_brackets_ok (77, .iconst 2, 1) (List.mem_of_getElem? (i := 49) rfl)
theorem dX9_brackets_78 : decode cX9_brackets 78 = .ok (.iload_n 1, 1) := tX9_brackets_ok (78, .iload_n 1, 1) (List.mem_of_getElem? (i := 50) rfl)
theorem dX9_brackets_79 : decode cX9_brackets 79 = .ok (.imul, 1) := tX9_brackets_ok (79, .imul, 1) (List.mem_of_getElem? (i := 51) rfl)
theorem dX9_brackets_80 : decode cX9_brackets 80 = .ok (.if_icmp .ge 89, 3) := tX9_brackets_ok (80, .if_icmp .ge 89, 3) (List.mem_of_getElem? (i := 52) rfl)
theorem dX9_brackets_83 : decode cX9_brackets 83 = .ok (.aload_n 0, 1) := tX9_brackets_ok (83, .aload_n 0, 1) (List.mem_of_getElem? (i := 53) rfl)
theorem dX9_brackets_84 : decode cX9_brackets 84 = .ok (.iconst 2, 1) := tX9_brackets_ok (84, .iconst 2, 1) (List.mem_of_getElem? (i := 54) rfl)
theorem dX9_brackets_85 : decode cX9_brackets 85 = .ok (.iload_n 1, 1) := tX9_brackets_ok (85, .iload_n 1, 1) (List.mem_of_getElem? (i := 55) rfl)
theorem dX9_brackets_86 : decode cX9_brackets 86 = .ok (.imul, 1) := tX9_brackets_ok (86, .imul, 1) (List.mem_of_getElem? (i := 56) rfl)
theorem dX9_brackets_87 : decode cX9_brackets 87 = .ok (.iconst 1, 1) := tX9_brackets_ok (87, .iconst 1, 1) (List.mem_of_getElem? (i := 57) rfl)
theorem dX9_brackets_88 : decode cX9_brackets 88 = .ok (.isub, 1) := tX9_brackets_ok (88, .isub, 1) (List.mem_of_getElem? (i := 58) rfl)
theorem dX9_brackets_89 : decode cX9_brackets 89 = .ok (.iload 7, 2) := tX9_brackets_ok (89, .iload 7, 2) (List.mem_of_getElem? (i := 59) rfl)
theorem dX9_brackets_91 : decode cX9_brackets 91 = .ok (.isub, 1) := tX9_brackets_ok (91, .isub, 1) (List.mem_of_getElem? (i := 60) rfl)
theorem dX9_brackets_92 : decode cX9_brackets 92 = .ok (.iload 6, 2) := tX9_brackets_ok (92, .iload 6, 2) (List.mem_of_getElem? (i := 61) rfl)
theorem dX9_brackets_94 : decode cX9_brackets 94 = .ok (.iconst 1, 1) := tX9_brackets_ok (94, .iconst 1, 1) (List.mem_of_getElem? (i := 62) rfl)
theorem dX9_brackets_95 : decode cX9_brackets 95 = .ok (.iadd, 1) := tX9_brackets_ok (95, .iadd, 1) (List.mem_of_getElem? (i := 63) rfl)
theorem dX9_brackets_96 : decode cX9_brackets 96 = .ok (.invokevirtual 293, 3) := tX9_brackets_ok (96, .invokevirtual 293, 3) (List.mem_of_getElem? (i := 64) rfl)
theorem dX9_brackets_99 : decode cX9_brackets 99 = .ok (.lstore 8, 2) := tX9_brackets_ok (99, .lstore 8, 2) (List.mem_of_getElem? (i := 65) rfl)
theorem dX9_brackets_101 : decode cX9_brackets 101 = .ok (.lload 4, 2) := tX9_brackets_ok (101, .lload 4, 2) (List.mem_of_getElem? (i := 66) rfl)
theorem dX9_brackets_103 : decode cX9_brackets 103 = .ok (.lload 8, 2) := tX9_brackets_ok (103, .lload 8, 2) (List.mem_of_getElem? (i := 67) rfl)
theorem dX9_brackets_105 : decode cX9_brackets 105 = .ok (.lcmp, 1) := tX9_brackets_ok (105, .lcmp, 1) (List.mem_of_getElem? (i := 68) rfl)
theorem dX9_brackets_106 : decode cX9_brackets 106 = .ok (.ifCond .ge 7, 3) := tX9_brackets_ok (106, .ifCond .ge 7, 3) (List.mem_of_getElem? (i := 69) rfl)
theorem dX9_brackets_109 : decode cX9_brackets 109 = .ok (.iconst 1, 1) := tX9_brackets_ok (109, .iconst 1, 1) (List.mem_of_getElem? (i := 70) rfl)
theorem dX9_brackets_110 : decode cX9_brackets 110 = .ok (.goto 4, 3) := tX9_brackets_ok (110, .goto 4, 3) (List.mem_of_getElem? (i := 71) rfl)
theorem dX9_brackets_113 : decode cX9_brackets 113 = .ok (.iconst 0, 1) := tX9_brackets_ok (113, .iconst 0, 1) (List.mem_of_getElem? (i := 72) rfl)
theorem dX9_brackets_114 : decode cX9_brackets 114 = .ok (.istore 10, 2) := tX9_brackets_ok (114, .istore 10, 2) (List.mem_of_getElem? (i := 73) rfl)
theorem dX9_brackets_116 : decode cX9_brackets 116 = .ok (.iload 10, 2) := tX9_brackets_ok (116, .iload 10, 2) (List.mem_of_getElem? (i := 74) rfl)
theorem dX9_brackets_118 : decode cX9_brackets 118 = .ok (.ifCond .ne 10, 3) := tX9_brackets_ok (118, .ifCond .ne 10, 3) (List.mem_of_getElem? (i := 75) rfl)
theorem dX9_brackets_121 : decode cX9_brackets 121 = .ok (.lload 4, 2) := tX9_brackets_ok (121, .lload 4, 2) (List.mem_of_getElem? (i := 76) rfl)
theorem dX9_brackets_123 : decode cX9_brackets 123 = .ok (.lload 8, 2) := tX9_brackets_ok (123, .lload 8, 2) (List.mem_of_getElem? (i := 77) rfl)
theorem dX9_brackets_125 : decode cX9_brackets 125 = .ok (.lsub, 1) := tX9_brackets_ok (125, .lsub, 1) (List.mem_of_getElem? (i := 78) rfl)
theorem dX9_brackets_126 : decode cX9_brackets 126 = .ok (.lstore 4, 2) := tX9_brackets_ok (126, .lstore 4, 2) (List.mem_of_getElem? (i := 79) rfl)
theorem dX9_brackets_128 : decode cX9_brackets 128 = .ok (.aload_n 0, 1) := tX9_brackets_ok (128, .aload_n 0, 1) (List.mem_of_getElem? (i := 80) rfl)
theorem dX9_brackets_129 : decode cX9_brackets 129 = .ok (.getfield 78, 3) := tX9_brackets_ok (129, .getfield 78, 3) (List.mem_of_getElem? (i := 81) rfl)
theorem dX9_brackets_132 : decode cX9_brackets 132 = .ok (.iload 7, 2) := tX9_brackets_ok (132, .iload 7, 2) (List.mem_of_getElem? (i := 82) rfl)
theorem dX9_brackets_134 : decode cX9_brackets 134 = .ok (.iload 10, 2) := tX9_brackets_ok (134, .iload 10, 2) (List.mem_of_getElem? (i := 83) rfl)
theorem dX9_brackets_136 : decode cX9_brackets 136 = .ok (.ifCond .eq 8, 3) := tX9_brackets_ok (136, .ifCond .eq 8, 3) (List.mem_of_getElem? (i := 84) rfl)
theorem dX9_brackets_139 : decode cX9_brackets 139 = .ok (.bipush 40, 2) := tX9_brackets_ok (139, .bipush 40, 2) (List.mem_of_getElem? (i := 85) rfl)
theorem dX9_brackets_141 : decode cX9_brackets 141 = .ok (.goto 5, 3) := tX9_brackets_ok (141, .goto 5, 3) (List.mem_of_getElem? (i := 86) rfl)
theorem dX9_brackets_144 : decode cX9_brackets 144 = .ok (.bipush 41, 2) := tX9_brackets_ok (144, .bipush 41, 2) (List.mem_of_getElem? (i := 87) rfl)
theorem dX9_brackets_146 : decode cX9_brackets 146 = .ok (.i2b, 1) := tX9_brackets_ok (146, .i2b, 1) (List.mem_of_getElem? (i := 88) rfl)
theorem dX9_brackets_147 : decode cX9_brackets 147 = .ok (.bastore, 1) := tX9_brackets_ok (147, .bastore, 1) (List.mem_of_getElem? (i := 89) rfl)
theorem dX9_brackets_148 : decode cX9_brackets 148 = .ok (.iload 6, 2) := tX9_brackets_ok (148, .iload 6, 2) (List.mem_of_getElem? (i := 90) rfl)
theorem dX9_brackets_150 : decode cX9_brackets 150 = .ok (.iload 10, 2) := tX9_brackets_ok (150, .iload 10, 2) (List.mem_of_getElem? (i := 91) rfl)
theorem dX9_brackets_152 : decode cX9_brackets 152 = .ok (.ifCond .eq 7, 3) := tX9_brackets_ok (152, .ifCond .eq 7, 3) (List.mem_of_getElem? (i := 92) rfl)
theorem dX9_brackets_155 : decode cX9_brackets 155 = .ok (.iconst 1, 1) := tX9_brackets_ok (155, .iconst 1, 1) (List.mem_of_getElem? (i := 93) rfl)
theorem dX9_brackets_156 : decode cX9_brackets 156 = .ok (.goto 4, 3) := tX9_brackets_ok (156, .goto 4, 3) (List.mem_of_getElem? (i := 94) rfl)
theorem dX9_brackets_159 : decode cX9_brackets 159 = .ok (.iconst (-1), 1) := tX9_brackets_ok (159, .iconst (-1), 1) (List.mem_of_getElem? (i := 95) rfl)
theorem dX9_brackets_160 : decode cX9_brackets 160 = .ok (.iadd, 1) := tX9_brackets_ok (160, .iadd, 1) (List.mem_of_getElem? (i := 96) rfl)
theorem dX9_brackets_161 : decode cX9_brackets 161 = .ok (.istore 6, 2) := tX9_brackets_ok (161, .istore 6, 2) (List.mem_of_getElem? (i := 97) rfl)
theorem dX9_brackets_163 : decode cX9_brackets 163 = .ok (.iinc 7 1, 3) := tX9_brackets_ok (163, .iinc 7 1, 3) (List.mem_of_getElem? (i := 98) rfl)
theorem dX9_brackets_166 : decode cX9_brackets 166 = .ok (.goto (-91), 3) := tX9_brackets_ok (166, .goto (-91), 3) (List.mem_of_getElem? (i := 99) rfl)
theorem dX9_brackets_169 : decode cX9_brackets 169 = .ok (.aload_n 0, 1) := tX9_brackets_ok (169, .aload_n 0, 1) (List.mem_of_getElem? (i := 100) rfl)
theorem dX9_brackets_170 : decode cX9_brackets 170 = .ok (.getfield 234, 3) := tX9_brackets_ok (170, .getfield 234, 3) (List.mem_of_getElem? (i := 101) rfl)
theorem dX9_brackets_173 : decode cX9_brackets 173 = .ok (.ireturn, 1) := tX9_brackets_ok (173, .ireturn, 1) (List.mem_of_getElem? (i := 102) rfl)

def tX9_order : List (Nat × Instr × Nat) := [
  (0, .aload_n 0, 1),
  (1, .iconst 0, 1),
  (2, .putfield 112, 3),
  (5, .aload_n 0, 1),
  (6, .iconst 0, 1),
  (7, .putfield 115, 3),
  (10, .iload_n 1, 1),
  (11, .ifCond .lt 8, 3),
  (14, .iload_n 1, 1),
  (15, .iconst 4, 1),
  (16, .if_icmp .lt 10, 3),
  (19, .aload_n 0, 1),
  (20, .iconst 1, 1),
  (21, .invokevirtual 156, 3),
  (24, .i2l, 1),
  (25, .lreturn, 1),
  (26, .iload_n 2, 1),
  (27, .ifCond .lt 15, 3),
  (30, .iload_n 2, 1),
  (31, .bipush 60, 2),
  (33, .if_icmp .gt 9, 3),
  (36, .iload_n 2, 1),
  (37, .iconst 2, 1),
  (38, .irem, 1),
  (39, .ifCond .eq 10, 3),
  (42, .aload_n 0, 1),
  (43, .iconst 2, 1),
  (44, .invokevirtual 156, 3),
  (47, .i2l, 1),
  (48, .lreturn, 1),
  (49, .aload_n 0, 1),
  (50, .getfield 13, 3),
  (53, .iload_n 1, 1),
  (54, .iaload, 1),
  (55, .ifCond .ge 10, 3),
  (58, .aload_n 0, 1),
  (59, .iconst 3, 1),
  (60, .invokevirtual 156, 3),
  (63, .i2l, 1),
  (64, .lreturn, 1),
  (65, .iload_n 2, 1),
  (66, .aload_n 0, 1),
  (67, .getfield 13, 3),
  (70, .iload_n 1, 1),
  (71, .iaload, 1),
  (72, .if_icmp .le 10, 3),
  (75, .aload_n 0, 1),
  (76, .iconst 4, 1),
  (77, .invokevirtual 156, 3),
  (80, .i2l, 1),
  (81, .lreturn, 1),
  (82, .aload_n 0, 1),
  (83, .iload_n 2, 1),
  (84, .invokevirtual 296, 3),
  (87, .lconst 0, 1),
  (88, .lstore_n 3, 1),
  (89, .iconst 0, 1),
  (90, .istore 5, 2),
  (92, .iconst 0, 1),
  (93, .istore 6, 2),
  (95, .iload 6, 2),
  (97, .iload_n 2, 1),
  (98, .if_icmp .ge 93, 3),
  (101, .aload_n 0, 1),
  (102, .getfield 16, 3),
  (105, .bipush 64, 2),
  (107, .iload_n 1, 1),
  (108, .imul, 1),
  (109, .iload 6, 2),
  (111, .iadd, 1),
  (112, .iaload, 1),
  (113, .istore 7, 2),
  (115, .iload 7, 2),
  (117, .ifCond .lt 9, 3),
  (120, .iload 7, 2),
  (122, .iconst 1, 1),
  (123, .if_icmp .le 11, 3),
  (126, .aload_n 0, 1),
  (127, .bipush 8, 2),
  (129, .invokevirtual 156, 3),
  (132, .i2l, 1),
  (133, .lreturn, 1),
  (134, .iload 7, 2),
  (136, .iconst 1, 1),
  (137, .if_icmp .ne 20, 3),
  (140, .lload_n 3, 1),
  (141, .aload_n 0, 1),
  (142, .iload_n 2, 1),
  (143, .iconst 1, 1),
  (144, .isub, 1),
  (145, .iload 6, 2),
  (147, .isub, 1),
  (148, .iload 5, 2),
  (150, .iconst 1, 1),
  (151, .iadd, 1),
  (152, .invokevirtual 293, 3),
  (155, .ladd, 1),
  (156, .lstore_n 3, 1),
  (157, .iload 5, 2),
  (159, .iload 7, 2),
  (161, .ifCond .ne 7, 3),
  (164, .iconst 1, 1),
  (165, .goto 4, 3),
  (168, .iconst (-1), 1),
  (169, .iadd, 1),
  (170, .istore 5, 2),
  (172, .iload 5, 2),
  (174, .ifCond .ge 11, 3),
  (177, .aload_n 0, 1),
  (178, .bipush 8, 2),
  (180, .invokevirtual 156, 3),
  (183, .i2l, 1),
  (184, .lreturn, 1),
  (185, .iinc 6 1, 3),
  (188, .goto (-93), 3),
  (191, .iload 5, 2),
  (193, .ifCond .ne 7, 3),
  (196, .lload_n 3, 1),
  (197, .goto 10, 3),
  (200, .aload_n 0, 1),
  (201, .bipush 8, 2),
  (203, .invokevirtual 156, 3),
  (206, .i2l, 1),
  (207, .lreturn, 1)]
set_option maxRecDepth 100000 in
theorem tX9_order_ok : ∀ q ∈ tX9_order, decode cX9_order q.1 = .ok q.2 := by decide +kernel
theorem dX9_order_0 : decode cX9_order 0 = .ok (.aload_n 0, 1) := tX9_order_ok (0, .aload_n 0, 1) (List.mem_of_getElem? (i := 0) rfl)
theorem dX9_order_1 : decode cX9_order 1 = .ok (.iconst 0, 1) := tX9_order_ok (1, .iconst 0, 1) (List.mem_of_getElem? (i := 1) rfl)
theorem dX9_order_2 : decode cX9_order 2 = .ok (.putfield 112, 3) := tX9_order_ok (2, .putfield 112, 3) (List.mem_of_getElem? (i := 2) rfl)
theorem dX9_order_5 : decode cX9_order 5 = .ok (.aload_n 0, 1) := tX9_order_ok (5, .aload_n 0, 1) (List.mem_of_getElem? (i := 3) rfl)
theorem dX9_order_6 : decode cX9_order 6 = .ok (.iconst 0, 1) := tX9_order_ok (6, .iconst 0, 1) (List.mem_of_getElem? (i := 4) rfl)
theorem dX9_order_7 : decode cX9_order 7 = .ok (.putfield 115, 3) := tX9_order_ok (7, .putfield 115, 3) (List.mem_of_getElem? (i := 5) rfl)
theorem dX9_order_10 : decode cX9_order 10 = .ok (.iload_n 1, 1) := tX9_order_ok (10, .iload_n 1, 1) (List.mem_of_getElem? (i := 6) rfl)
theorem dX9_order_11 : decode cX9_order 11 = .ok (.ifCond .lt 8, 3) := tX9_order_ok (11, .ifCond .lt 8, 3) (List.mem_of_getElem? (i := 7) rfl)
theorem dX9_order_14 : decode cX9_order 14 = .ok (.iload_n 1, 1) := tX9_order_ok (14, .iload_n 1, 1) (List.mem_of_getElem? (i := 8) rfl)
theorem dX9_order_15 : decode cX9_order 15 = .ok (.iconst 4, 1) := tX9_order_ok (15, .iconst 4, 1) (List.mem_of_getElem? (i := 9) rfl)
theorem dX9_order_16 : decode cX9_order 16 = .ok (.if_icmp .lt 10, 3) := tX9_order_ok (16, .if_icmp .lt 10, 3) (List.mem_of_getElem? (i := 10) rfl)
theorem dX9_order_19 : decode cX9_order 19 = .ok (.aload_n 0, 1) := tX9_order_ok (19, .aload_n 0, 1) (List.mem_of_getElem? (i := 11) rfl)
theorem dX9_order_20 : decode cX9_order 20 = .ok (.iconst 1, 1) := tX9_order_ok (20, .iconst 1, 1) (List.mem_of_getElem? (i := 12) rfl)
theorem dX9_order_21 : decode cX9_order 21 = .ok (.invokevirtual 156, 3) := tX9_order_ok (21, .invokevirtual 156, 3) (List.mem_of_getElem? (i := 13) rfl)
theorem dX9_order_24 : decode cX9_order 24 = .ok (.i2l, 1) := tX9_order_ok (24, .i2l, 1) (List.mem_of_getElem? (i := 14) rfl)
theorem dX9_order_25 : decode cX9_order 25 = .ok (.lreturn, 1) := tX9_order_ok (25, .lreturn, 1) (List.mem_of_getElem? (i := 15) rfl)
theorem dX9_order_26 : decode cX9_order 26 = .ok (.iload_n 2, 1) := tX9_order_ok (26, .iload_n 2, 1) (List.mem_of_getElem? (i := 16) rfl)
theorem dX9_order_27 : decode cX9_order 27 = .ok (.ifCond .lt 15, 3) := tX9_order_ok (27, .ifCond .lt 15, 3) (List.mem_of_getElem? (i := 17) rfl)
theorem dX9_order_30 : decode cX9_order 30 = .ok (.iload_n 2, 1) := tX9_order_ok (30, .iload_n 2, 1) (List.mem_of_getElem? (i := 18) rfl)
theorem dX9_order_31 : decode cX9_order 31 = .ok (.bipush 60, 2) := tX9_order_ok (31, .bipush 60, 2) (List.mem_of_getElem? (i := 19) rfl)
theorem dX9_order_33 : decode cX9_order 33 = .ok (.if_icmp .gt 9, 3) := tX9_order_ok (33, .if_icmp .gt 9, 3) (List.mem_of_getElem? (i := 20) rfl)
theorem dX9_order_36 : decode cX9_order 36 = .ok (.iload_n 2, 1) := tX9_order_ok (36, .iload_n 2, 1) (List.mem_of_getElem? (i := 21) rfl)
theorem dX9_order_37 : decode cX9_order 37 = .ok (.iconst 2, 1) := tX9_order_ok (37, .iconst 2, 1) (List.mem_of_getElem? (i := 22) rfl)
theorem dX9_order_38 : decode cX9_order 38 = .ok (.irem, 1) := tX9_order_ok (38, .irem, 1) (List.mem_of_getElem? (i := 23) rfl)
theorem dX9_order_39 : decode cX9_order 39 = .ok (.ifCond .eq 10, 3) := tX9_order_ok (39, .ifCond .eq 10, 3) (List.mem_of_getElem? (i := 24) rfl)
theorem dX9_order_42 : decode cX9_order 42 = .ok (.aload_n 0, 1) := tX9_order_ok (42, .aload_n 0, 1) (List.mem_of_getElem? (i := 25) rfl)
theorem dX9_order_43 : decode cX9_order 43 = .ok (.iconst 2, 1) := tX9_order_ok (43, .iconst 2, 1) (List.mem_of_getElem? (i := 26) rfl)
theorem dX9_order_44 : decode cX9_order 44 = .ok (.invokevirtual 156, 3) := tX9_order_ok (44, .invokevirtual 156, 3) (List.mem_of_getElem? (i := 27) rfl)
theorem dX9_order_47 : decode cX9_order 47 = .ok (.i2l, 1) := tX9_order_ok (47, .i2l, 1) (List.mem_of_getElem? (i := 28) rfl)
theorem dX9_order_48 : decode cX9_order 48 = .ok (.lreturn, 1) := tX9_order_ok (48, .lreturn, 1) (List.mem_of_getElem? (i := 29) rfl)
theorem dX9_order_49 : decode cX9_order 49 = .ok (.aload_n 0, 1) := tX9_order_ok (49, .aload_n 0, 1) (List.mem_of_getElem? (i := 30) rfl)
theorem dX9_order_50 : decode cX9_order 50 = .ok (.getfield 13, 3) := tX9_order_ok (50, .getfield 13, 3) (List.mem_of_getElem? (i := 31) rfl)
theorem dX9_order_53 : decode cX9_order 53 = .ok (.iload_n 1, 1) := tX9_order_ok (53, .iload_n 1, 1) (List.mem_of_getElem? (i := 32) rfl)
theorem dX9_order_54 : decode cX9_order 54 = .ok (.iaload, 1) := tX9_order_ok (54, .iaload, 1) (List.mem_of_getElem? (i := 33) rfl)
theorem dX9_order_55 : decode cX9_order 55 = .ok (.ifCond .ge 10, 3) := tX9_order_ok (55, .ifCond .ge 10, 3) (List.mem_of_getElem? (i := 34) rfl)
theorem dX9_order_58 : decode cX9_order 58 = .ok (.aload_n 0, 1) := tX9_order_ok (58, .aload_n 0, 1) (List.mem_of_getElem? (i := 35) rfl)
theorem dX9_order_59 : decode cX9_order 59 = .ok (.iconst 3, 1) := tX9_order_ok (59, .iconst 3, 1) (List.mem_of_getElem? (i := 36) rfl)
theorem dX9_order_60 : decode cX9_order 60 = .ok (.invokevirtual 156, 3) := tX9_order_ok (60, .invokevirtual 156, 3) (List.mem_of_getElem? (i := 37) rfl)
theorem dX9_order_63 : decode cX9_order 63 = .ok (.i2l, 1) := tX9_order_ok (63, .i2l, 1) (List.mem_of_getElem? (i := 38) rfl)
theorem dX9_order_64 : decode cX9_order 64 = .ok (.lreturn, 1) := tX9_order_ok (64, .lreturn, 1) (List.mem_of_getElem? (i := 39) rfl)
theorem dX9_order_65 : decode cX9_order 65 = .ok (.iload_n 2, 1) := tX9_order_ok (65, .iload_n 2, 1) (List.mem_of_getElem? (i := 40) rfl)
theorem dX9_order_66 : decode cX9_order 66 = .ok (.aload_n 0, 1) := tX9_order_ok (66, .aload_n 0, 1) (List.mem_of_getElem? (i := 41) rfl)
theorem dX9_order_67 : decode cX9_order 67 = .ok (.getfield 13, 3) := tX9_order_ok (67, .getfield 13, 3) (List.mem_of_getElem? (i := 42) rfl)
theorem dX9_order_70 : decode cX9_order 70 = .ok (.iload_n 1, 1) := tX9_order_ok (70, .iload_n 1, 1) (List.mem_of_getElem? (i := 43) rfl)
theorem dX9_order_71 : decode cX9_order 71 = .ok (.iaload, 1) := tX9_order_ok (71, .iaload, 1) (List.mem_of_getElem? (i := 44) rfl)
theorem dX9_order_72 : decode cX9_order 72 = .ok (.if_icmp .le 10, 3) := tX9_order_ok (72, .if_icmp .le 10, 3) (List.mem_of_getElem? (i := 45) rfl)
theorem dX9_order_75 : decode cX9_order 75 = .ok (.aload_n 0, 1) := tX9_order_ok (75, .aload_n 0, 1) (List.mem_of_getElem? (i := 46) rfl)
theorem dX9_order_76 : decode cX9_order 76 = .ok (.iconst 4, 1) := tX9_order_ok (76, .iconst 4, 1) (List.mem_of_getElem? (i := 47) rfl)
theorem dX9_order_77 : decode cX9_order 77 = .ok (.invokevirtual 156, 3) := tX9_order_ok (77, .invokevirtual 156, 3) (List.mem_of_getElem? (i := 48) rfl)
theorem dX9_order_80 : decode cX9_order 80 = .ok (.i2l, 1) := tX9_order_ok (80, .i2l, 1) (List.mem_of_getElem? (i := 49) rfl)
theorem dX9_order_81 : decode cX9_order 81 = .ok (.lreturn, 1) := tX9_order_ok (81, .lreturn, 1) (List.mem_of_getElem? (i := 50) rfl)
theorem dX9_order_82 : decode cX9_order 82 = .ok (.aload_n 0, 1) := tX9_order_ok (82, .aload_n 0, 1) (List.mem_of_getElem? (i := 51) rfl)
theorem dX9_order_83 : decode cX9_order 83 = .ok (.iload_n 2, 1) := tX9_order_ok (83, .iload_n 2, 1) (List.mem_of_getElem? (i := 52) rfl)
theorem dX9_order_84 : decode cX9_order 84 = .ok (.invokevirtual 296, 3) := tX9_order_ok (84, .invokevirtual 296, 3) (List.mem_of_getElem? (i := 53) rfl)
theorem dX9_order_87 : decode cX9_order 87 = .ok (.lconst 0, 1) := tX9_order_ok (87, .lconst 0, 1) (List.mem_of_getElem? (i := 54) rfl)
theorem dX9_order_88 : decode cX9_order 88 = .ok (.lstore_n 3, 1) := tX9_order_ok (88, .lstore_n 3, 1) (List.mem_of_getElem? (i := 55) rfl)
theorem dX9_order_89 : decode cX9_order 89 = .ok (.iconst 0, 1) := tX9_order_ok (89, .iconst 0, 1) (List.mem_of_getElem? (i := 56) rfl)
theorem dX9_order_90 : decode cX9_order 90 = .ok (.istore 5, 2) := tX9_order_ok (90, .istore 5, 2) (List.mem_of_getElem? (i := 57) rfl)
theorem dX9_order_92 : decode cX9_order 92 = .ok (.iconst 0, 1) := tX9_order_ok (92, .iconst 0, 1) (List.mem_of_getElem? (i := 58) rfl)
theorem dX9_order_93 : decode cX9_order 93 = .ok (.istore 6, 2) := tX9_order_ok (93, .istore 6, 2) (List.mem_of_getElem? (i := 59) rfl)
theorem dX9_order_95 : decode cX9_order 95 = .ok (.iload 6, 2) := tX9_order_ok (95, .iload 6, 2) (List.mem_of_getElem? (i := 60) rfl)
theorem dX9_order_97 : decode cX9_order 97 = .ok (.iload_n 2, 1) := tX9_order_ok (97, .iload_n 2, 1) (List.mem_of_getElem? (i := 61) rfl)
theorem dX9_order_98 : decode cX9_order 98 = .ok (.if_icmp .ge 93, 3) := tX9_order_ok (98, .if_icmp .ge 93, 3) (List.mem_of_getElem? (i := 62) rfl)
theorem dX9_order_101 : decode cX9_order 101 = .ok (.aload_n 0, 1) := tX9_order_ok (101, .aload_n 0, 1) (List.mem_of_getElem? (i := 63) rfl)
theorem dX9_order_102 : decode cX9_order 102 = .ok (.getfield 16, 3) := tX9_order_ok (102, .getfield 16, 3) (List.mem_of_getElem? (i := 64) rfl)
theorem dX9_order_105 : decode cX9_order 105 = .ok (.bipush 64, 2) := tX9_order_ok (105, .bipush 64, 2) (List.mem_of_getElem? (i := 65) rfl)
theorem dX9_order_107 : decode cX9_order 107 = .ok (.iload_n 1, 1) := tX9_order_ok (107, .iload_n 1, 1) (List.mem_of_getElem? (i := 66) rfl)
theorem dX9_order_108 : decode cX9_order 108 = .ok (.imul, 1) := tX9_order_ok (108, .imul, 1) (List.mem_of_getElem? (i := 67) rfl)
theorem dX9_order_109 : decode cX9_order 109 = .ok (.iload 6, 2) := tX9_order_ok (109, .iload 6, 2) (List.mem_of_getElem? (i := 68) rfl)
theorem dX9_order_111 : decode cX9_order 111 = .ok (.iadd, 1) := tX9_order_ok (111, .iadd, 1) (List.mem_of_getElem? (i := 69) rfl)
theorem dX9_order_112 : decode cX9_order 112 = .ok (.iaload, 1) := tX9_order_ok (112, .iaload, 1) (List.mem_of_getElem? (i := 70) rfl)
theorem dX9_order_113 : decode cX9_order 113 = .ok (.istore 7, 2) := tX9_order_ok (113, .istore 7, 2) (List.mem_of_getElem? (i := 71) rfl)
theorem dX9_order_115 : decode cX9_order 115 = .ok (.iload 7, 2) := tX9_order_ok (115, .iload 7, 2) (List.mem_of_getElem? (i := 72) rfl)
theorem dX9_order_117 : decode cX9_order 117 = .ok (.ifCond .lt 9, 3) := tX9_order_ok (117, .ifCond .lt 9, 3) (List.mem_of_getElem? (i := 73) rfl)
theorem dX9_order_120 : decode cX9_order 120 = .ok (.iload 7, 2) := tX9_order_ok (120, .iload 7, 2) (List.mem_of_getElem? (i := 74) rfl)
theorem dX9_order_122 : decode cX9_order 122 = .ok (.iconst 1, 1) := tX9_order_ok (122, .iconst 1, 1) (List.mem_of_getElem? (i := 75) rfl)
theorem dX9_order_123 : decode cX9_order 123 = .ok (.if_icmp .le 11, 3) := tX9_order_ok (123, .if_icmp .le 11, 3) (List.mem_of_getElem? (i := 76) rfl)
theorem dX9_order_126 : decode cX9_order 126 = .ok (.aload_n 0, 1) := tX9_order_ok (126, .aload_n 0, 1) (List.mem_of_getElem? (i := 77) rfl)
theorem dX9_order_127 : decode cX9_order 127 = .ok (.bipush 8, 2) := tX9_order_ok (127, .bipush 8, 2) (List.mem_of_getElem? (i := 78) rfl)
theorem dX9_order_129 : decode cX9_order 129 = .ok (.invokevirtual 156, 3) := tX9_order_ok (129, .invokevirtual 156, 3) (List.mem_of_getElem? (i := 79) rfl)
theorem dX9_order_132 : decode cX9_order 132 = .ok (.i2l, 1) := tX9_order_ok (132, .i2l, 1) (List.mem_of_getElem? (i := 80) rfl)
theorem dX9_order_133 : decode cX9_order 133 = .ok (.lreturn, 1) := tX9_order_ok (133, .lreturn, 1) (List.mem_of_getElem? (i := 81) rfl)
theorem dX9_order_134 : decode cX9_order 134 = .ok (.iload 7, 2) := tX9_order_ok (134, .iload 7, 2) (List.mem_of_getElem? (i := 82) rfl)
theorem dX9_order_136 : decode cX9_order 136 = .ok (.iconst 1, 1) := tX9_order_ok (136, .iconst 1, 1) (List.mem_of_getElem? (i := 83) rfl)
theorem dX9_order_137 : decode cX9_order 137 = .ok (.if_icmp .ne 20, 3) := tX9_order_ok (137, .if_icmp .ne 20, 3) (List.mem_of_getElem? (i := 84) rfl)
theorem dX9_order_140 : decode cX9_order 140 = .ok (.lload_n 3, 1) := tX9_order_ok (140, .lload_n 3, 1) (List.mem_of_getElem? (i := 85) rfl)
theorem dX9_order_141 : decode cX9_order 141 = .ok (.aload_n 0, 1) := tX9_order_ok (141, .aload_n 0, 1) (List.mem_of_getElem? (i := 86) rfl)
theorem dX9_order_142 : decode cX9_order 142 = .ok (.iload_n 2, 1) := tX9_order_ok (142, .iload_n 2, 1) (List.mem_of_getElem? (i := 87) rfl)
theorem dX9_order_143 : decode cX9_order 143 = .ok (.iconst 1, 1) := tX9_order_ok (143, .iconst 1, 1) (List.mem_of_getElem? (i := 88) rfl)
theorem dX9_order_144 : decode cX9_order 144 = .ok (.isub, 1) := tX9_order_ok (144, .isub, 1) (List.mem_of_getElem? (i := 89) rfl)
theorem dX9_order_145 : decode cX9_order 145 = .ok (.iload 6, 2) := tX9_order_ok (145, .iload 6, 2) (List.mem_of_getElem? (i := 90) rfl)
theorem dX9_order_147 : decode cX9_order 147 = .ok (.isub, 1) := tX9_order_ok (147, .isub, 1) (List.mem_of_getElem? (i := 91) rfl)
theorem dX9_order_148 : decode cX9_order 148 = .ok (.iload 5, 2) := tX9_order_ok (148, .iload 5, 2) (List.mem_of_getElem? (i := 92) rfl)
theorem dX9_order_150 : decode cX9_order 150 = .ok (.iconst 1, 1) := tX9_order_ok (150, .iconst 1, 1) (List.mem_of_getElem? (i := 93) rfl)
theorem dX9_order_151 : decode cX9_order 151 = .ok (.iadd, 1) := tX9_order_ok (151, .iadd, 1) (List.mem_of_getElem? (i := 94) rfl)
theorem dX9_order_152 : decode cX9_order 152 = .ok (.invokevirtual 293, 3) := tX9_order_ok (152, .invokevirtual 293, 3) (List.mem_of_getElem? (i := 95) rfl)
theorem dX9_order_155 : decode cX9_order 155 = .ok (.ladd, 1) := tX9_order_ok (155, .ladd, 1) (List.mem_of_getElem? (i := 96) rfl)
theorem dX9_order_156 : decode cX9_order 156 = .ok (.lstore_n 3, 1) := tX9_order_ok (156, .lstore_n 3, 1) (List.mem_of_getElem? (i := 97) rfl)
theorem dX9_order_157 : decode cX9_order 157 = .ok (.iload 5, 2) := tX9_order_ok (157, .iload 5, 2) (List.mem_of_getElem? (i := 98) rfl)
theorem dX9_order_159 : decode cX9_order 159 = .ok (.iload 7, 2) := tX9_order_ok (159, .iload 7, 2) (List.mem_of_getElem? (i := 99) rfl)
theorem dX9_order_161 : decode cX9_order 161 = .ok (.ifCond .ne 7, 3) := tX9_order_ok (161, .ifCond .ne 7, 3) (List.mem_of_getElem? (i := 100) rfl)
theorem dX9_order_164 : decode cX9_order 164 = .ok (.iconst 1, 1) := tX9_order_ok (164, .iconst 1, 1) (List.mem_of_getElem? (i := 101) rfl)
theorem dX9_order_165 : decode cX9_order 165 = .ok (.goto 4, 3) := tX9_order_ok (165, .goto 4, 3) (List.mem_of_getElem? (i := 102) rfl)
theorem dX9_order_168 : decode cX9_order 168 = .ok (.iconst (-1), 1) := tX9_order_ok (168, .iconst (-1), 1) (List.mem_of_getElem? (i := 103) rfl)
theorem dX9_order_169 : decode cX9_order 169 = .ok (.iadd, 1) := tX9_order_ok (169, .iadd, 1) (List.mem_of_getElem? (i := 104) rfl)
theorem dX9_order_170 : decode cX9_order 170 = .ok (.istore 5, 2) := tX9_order_ok (170, .istore 5, 2) (List.mem_of_getElem? (i := 105) rfl)
theorem dX9_order_172 : decode cX9_order 172 = .ok (.iload 5, 2) := tX9_order_ok (172, .iload 5, 2) (List.mem_of_getElem? (i := 106) rfl)
theorem dX9_order_174 : decode cX9_order 174 = .ok (.ifCond .ge 11, 3) := tX9_order_ok (174, .ifCond .ge 11, 3) (List.mem_of_getElem? (i := 107) rfl)
theorem dX9_order_177 : decode cX9_order 177 = .ok (.aload_n 0, 1) := tX9_order_ok (177, .aload_n 0, 1) (List.mem_of_getElem? (i := 108) rfl)
theorem dX9_order_178 : decode cX9_order 178 = .ok (.bipush 8, 2) := tX9_order_ok (178, .bipush 8, 2) (List.mem_of_getElem? (i := 109) rfl)
theorem dX9_order_180 : decode cX9_order 180 = .ok (.invokevirtual 156, 3) := tX9_order_ok (180, .invokevirtual 156, 3) (List.mem_of_getElem? (i := 110) rfl)
theorem dX9_order_183 : decode cX9_order 183 = .ok (.i2l, 1) := tX9_order_ok (183, .i2l, 1) (List.mem_of_getElem? (i := 111) rfl)
theorem dX9_order_184 : decode cX9_order 184 = .ok (.lreturn, 1) := tX9_order_ok (184, .lreturn, 1) (List.mem_of_getElem? (i := 112) rfl)
theorem dX9_order_185 : decode cX9_order 185 = .ok (.iinc 6 1, 3) := tX9_order_ok (185, .iinc 6 1, 3) (List.mem_of_getElem? (i := 113) rfl)
theorem dX9_order_188 : decode cX9_order 188 = .ok (.goto (-93), 3) := tX9_order_ok (188, .goto (-93), 3) (List.mem_of_getElem? (i := 114) rfl)
theorem dX9_order_191 : decode cX9_order 191 = .ok (.iload 5, 2) := tX9_order_ok (191, .iload 5, 2) (List.mem_of_getElem? (i := 115) rfl)
theorem dX9_order_193 : decode cX9_order 193 = .ok (.ifCond .ne 7, 3) := tX9_order_ok (193, .ifCond .ne 7, 3) (List.mem_of_getElem? (i := 116) rfl)
theorem dX9_order_196 : decode cX9_order 196 = .ok (.lload_n 3, 1) := tX9_order_ok (196, .lload_n 3, 1) (List.mem_of_getElem? (i := 117) rfl)
theorem dX9_order_197 : decode cX9_order 197 = .ok (.goto 10, 3) := tX9_order_ok (197, .goto 10, 3) (List.mem_of_getElem? (i := 118) rfl)
theorem dX9_order_200 : decode cX9_order 200 = .ok (.aload_n 0, 1) := tX9_order_ok (200, .aload_n 0, 1) (List.mem_of_getElem? (i := 119) rfl)
theorem dX9_order_201 : decode cX9_order 201 = .ok (.bipush 8, 2) := tX9_order_ok (201, .bipush 8, 2) (List.mem_of_getElem? (i := 120) rfl)
theorem dX9_order_203 : decode cX9_order 203 = .ok (.invokevirtual 156, 3) := tX9_order_ok (203, .invokevirtual 156, 3) (List.mem_of_getElem? (i := 121) rfl)
theorem dX9_order_206 : decode cX9_order 206 = .ok (.i2l, 1) := tX9_order_ok (206, .i2l, 1) (List.mem_of_getElem? (i := 122) rfl)
theorem dX9_order_207 : decode cX9_order 207 = .ok (.lreturn, 1) := tX9_order_ok (207, .lreturn, 1) (List.mem_of_getElem? (i := 123) rfl)

def tX9_isBetween : List (Nat × Instr × Nat) := [
  (0, .aload_n 0, 1),
  (1, .getfield 164, 3),
  (4, .ifCond .lt 36, 3),
  (7, .aload_n 0, 1),
  (8, .getfield 164, 3),
  (11, .aload_n 0, 1),
  (12, .getfield 23, 3),
  (15, .if_icmp .gt 25, 3),
  (18, .aload_n 0, 1),
  (19, .getfield 170, 3),
  (22, .ifCond .lt 18, 3),
  (25, .aload_n 0, 1),
  (26, .getfield 170, 3),
  (29, .aload_n 0, 1),
  (30, .getfield 23, 3),
  (33, .if_icmp .gt 7, 3),
  (36, .iconst 1, 1),
  (37, .goto 4, 3),
  (40, .iconst 0, 1),
  (41, .ireturn, 1)]
set_option maxRecDepth 100000 in
theorem tX9_isBetween_ok : ∀ q ∈ tX9_isBetween, decode cX9_isBetween q.1 = .ok q.2 := by decide +kernel
theorem dX9_isBetween_0 : decode cX9_isBetween 0 = .ok (.aload_n 0, 1) := tX9_isBetween_ok (0, .aload_n 0, 1) (List.mem_of_getElem? (i := 0) rfl)
theorem dX9_isBetween_1 : decode cX9_isBetween 1 = .ok (.getfield 164, 3) := tX9_isBetween_ok (1, .getfield 164, 3) (List.mem_of_getElem? (i := 1) rfl)
theorem dX9_isBetween_4 : decode cX9_isBetween 4 = .ok (.ifCond .lt 36, 3) := tX9_isBetween_ok (4, .ifCond .lt 36, 3) (List.mem_of_getElem? (i := 2) rfl)
theorem dX9_isBetween_7 : decode cX9_isBetween 7 = .ok (.aload_n 0, 1) := tX9_isBetween_ok (7, .aload_n 0, 1) (List.mem_of_getElem? (i := 3) rfl)
theorem dX9_isBetween_8 : decode cX9_isBetween 8 = .ok (.getfield 164, 3) := tX9_isBetween_ok (8, .getfield 164, 3) (List.mem_of_getElem? (i := 4) rfl)
theorem dX9_isBetween_11 : decode cX9_isBetween 11 = .ok (.aload_n 0, 1) := tX9_isBetween_ok (11, .aload_n 0, 1) (List.mem_of_getElem? (i := 5) rfl)
theorem dX9_isBetween_12 : decode cX9_isBetween 12 = .ok (.getfield 23, 3) := tX9_isBetween_ok (12, .getfield 23, 3) (List.mem_of_getElem? (i := 6) rfl)
theorem dX9_isBetween_15 : decode cX9_isBetween 15 = .ok (.if_icmp .gt 25, 3) := tX9_isBetween_ok (15, .if_icmp .gt 25, 3) (List.mem_of_getElem? (i := 7) rfl)
theorem dX9_isBetween_18 : decode cX9_isBetween 18 = .ok (.aload_n 0, 1) := tX9_isBetween_ok (18, .aload_n 0, 1) (List.mem_of_getElem? (i := 8) rfl)
theorem dX9_isBetween_19 : decode cX9_isBetween 19 = .ok (.getfield 170, 3) := tX9_isBetween_ok (19, .getfield 170, 3) (List.mem_of_getElem? (i := 9) rfl)
theorem dX9_isBetween_22 : decode cX9_isBetween 22 = .ok (.ifCond .lt 18, 3) := tX9_isBetween_ok (22, .ifCond .lt 18, 3) (List.mem_of_getElem? (i := 10) rfl)
theorem dX9_isBetween_25 : decode cX9_isBetween 25 = .ok (.aload_n 0, 1) := tX9_isBetween_ok (25, .aload_n 0, 1) (List.mem_of_getElem? (i := 11) rfl)
theorem dX9_isBetween_26 : decode cX9_isBetween 26 = .ok (.getfield 170, 3) := tX9_isBetween_ok (26, .getfield 170, 3) (List.mem_of_getElem? (i := 12) rfl)
theorem dX9_isBetween_29 : decode cX9_isBetween 29 = .ok (.aload_n 0, 1) := tX9_isBetween_ok (29, .aload_n 0, 1) (List.mem_of_getElem? (i := 13) rfl)
theorem dX9_isBetween_30 : decode cX9_isBetween 30 = .ok (.getfield 23, 3) := tX9_isBetween_ok (30, .getfield 23, 3) (List.mem_of_getElem? (i := 14) rfl)
theorem dX9_isBetween_33 : decode cX9_isBetween 33 = .ok (.if_icmp .gt 7, 3) := tX9_isBetween_ok (33, .if_icmp .gt 7, 3) (List.mem_of_getElem? (i := 15) rfl)
theorem dX9_isBetween_36 : decode cX9_isBetween 36 = .ok (.iconst 1, 1) := tX9_isBetween_ok (36, .iconst 1, 1) (List.mem_of_getElem? (i := 16) rfl)
theorem dX9_isBetween_37 : decode cX9_isBetween 37 = .ok (.goto 4, 3) := tX9_isBetween_ok (37, .goto 4, 3) (List.mem_of_getElem? (i := 17) rfl)
theorem dX9_isBetween_40 : decode cX9_isBetween 40 = .ok (.iconst 0, 1) := tX9_isBetween_ok (40, .iconst 0, 1) (List.mem_of_getElem? (i := 18) rfl)
theorem dX9_isBetween_41 : decode cX9_isBetween 41 = .ok (.ireturn, 1) := tX9_isBetween_ok (41, .ireturn, 1) (List.mem_of_getElem? (i := 19) rfl)

def tX9_multiply : List (Nat × Instr × Nat) := [
  (0, .aload_n 0, 1),
  (1, .getfield 23, 3),
  (4, .iconst 1, 1),
  (5, .iadd, 1),
  (6, .istore 4, 2),
  (8, .iconst 0, 1),
  (9, .istore 5, 2),
  (11, .iload 5, 2),
  (13, .iload 4, 2),
  (15, .if_icmp .ge 89, 3),
  (18, .iconst 0, 1),
  (19, .istore 6, 2),
  (21, .iload 6, 2),
  (23, .iload 4, 2),
  (25, .if_icmp .ge 73, 3),
  (28, .lconst 0, 1),
  (29, .lstore 7, 2),
  (31, .iconst 0, 1),
  (32, .istore 9, 2),
  (34, .iload 9, 2),
  (36, .iload 4, 2),
  (38, .if_icmp .ge 39, 3),
  (41, .lload 7, 2),
  (43, .aload_n 1, 1),
  (44, .bipush 31, 2),
  (46, .iload 5, 2),
  (48, .imul, 1),
  (49, .iload 9, 2),
  (51, .iadd, 1),
  (52, .laload, 1),
  (53, .aload_n 2, 1),
  (54, .bipush 31, 2),
  (56, .iload 9, 2),
  (58, .imul, 1),
  (59, .iload 6, 2),
  (61, .iadd, 1),
  (62, .laload, 1),
  (63, .lmul, 1),
  (64, .ladd, 1),
  (65, .ldc2_w 300, 3),
  (68, .lrem, 1),
  (69, .lstore 7, 2),
  (71, .iinc 9 1, 3),
  (74, .goto (-40), 3),
  (77, .aload_n 0, 1),
  (78, .getfield 97, 3),
  (81, .bipush 31, 2),
  (83, .iload 5, 2),
  (85, .imul, 1),
  (86, .iload 6, 2),
  (88, .iadd, 1),
  (89, .lload 7, 2),
  (91, .lastore, 1),
  (92, .iinc 6 1, 3),
  (95, .goto (-74), 3),
  (98, .iinc 5 1, 3),
  (101, .goto (-90), 3),
  (104, .iconst 0, 1),
  (105, .istore 5, 2),
  (107, .iload 5, 2),
  (109, .sipush 961, 3),
  (112, .if_icmp .ge 20, 3),
  (115, .aload_n 3, 1),
  (116, .iload 5, 2),
  (118, .aload_n 0, 1),
  (119, .getfield 97, 3),
  (122, .iload 5, 2),
  (124, .laload, 1),
  (125, .lastore, 1),
  (126, .iinc 5 1, 3),
  (129, .goto (-22), 3),
  (132, .return_, 1)]
set_option maxRecDepth 100000 in
theorem tX9_multiply_ok : ∀ q ∈ tX9_multiply, decode cX9_multiply q.1 = .ok q.2 := by decide +kernel
theorem dX9_multiply_0 : decode cX9_multiply 0 = .ok (.aload_n 0, 1) := tX9_multiply_ok (0, .aload_n 0, 1) (List.mem_of_getElem? (i := 0) rfl)
theorem dX9_multiply_1 : decode cX9_multiply 1 = .ok (.getfield 23, 3) := tX9_multiply_ok (1, .getfield 23, 3) (List.mem_of_getElem? (i := 1) rfl)
theorem dX9_multiply_4 : decode cX9_multiply 4 = .ok (.iconst 1, 1) := tX9_multiply_ok (4, .iconst 1, 1) (List.mem_of_getElem? (i := 2) rfl)
theorem dX9_multiply_5 : decode cX9_multiply 5 = .ok (.iadd, 1) := tX9_multiply_ok (5, .iadd, 1) (List.mem_of_getElem? (i := 3) rfl)
theorem dX9_multiply_6 : decode cX9_multiply 6 = .ok (.istore 4, 2) := tX9_multiply_ok (6, .istore 4, 2) (List.mem_of_getElem? (i := 4) rfl)
theorem dX9_multiply_8 : decode cX9_multiply 8 = .ok (.iconst 0, 1) := tX9_multiply_ok (8, .iconst 0, 1) (List.mem_of_getElem? (i := 5) rfl)
theorem dX9_multiply_9 : decode cX9_multiply 9 = .ok (.istore 5, 2) := tX9_multiply_ok (9, .istore 5, 2) (List.mem_of_getElem? (i := 6) rfl)
theorem dX9_multiply_11 : decode cX9_multiply 11 = .ok (.iload 5, 2) := tX9_multiply_ok (11, .iload 5, 2) (List.mem_of_getElem? (i := 7) rfl)
theorem dX9_multiply_13 : decode cX9_multiply 13 = .ok (.iload 4, 2) := tX9_multiply_ok (13, .iload 4, 2) (List.mem_of_getElem? (i := 8) rfl)
theorem dX9_multiply_15 : decode cX9_multiply 15 = .ok (.if_icmp .ge 89, 3) := tX9_multiply_ok (15, .if_icmp .ge 89, 3) (List.mem_of_getElem? (i := 9) rfl)
theorem dX9_multiply_18 : decode cX9_multiply 18 = .ok (.iconst 0, 1) := tX9_multiply_ok (18, .iconst 0, 1) (List.mem_of_getElem? (i := 10) rfl)
theorem dX9_multiply_19 : decode cX9_multiply 19 = .ok (.istore 6, 2) := tX9_multiply_ok (19, .istore 6, 2) (List.mem_of_getElem? (i := 11) rfl)
theorem dX9_multiply_21 : decode cX9_multiply 21 = .ok (.iload 6, 2) := tX9_multiply_ok (21, .iload 6, 2) (List.mem_of_getElem? (i := 12) rfl)
theorem dX9_multiply_23 : decode cX9_multiply 23 = .ok (.iload 4, 2) := tX9_multiply_ok (23, .iload 4, 2) (List.mem_of_getElem? (i := 13) rfl)
theorem dX9_multiply_25 : decode cX9_multiply 25 = .ok (.if_icmp .ge 73, 3) := tX9_multiply_ok (25, .if_icmp .ge 73, 3) (List.mem_of_getElem? (i := 14) rfl)
theorem dX9_multiply_28 : decode cX9_multiply 28 = .ok (.lconst 0, 1) := tX9_multiply_ok (28, .lconst 0, 1) (List.mem_of_getElem? (i := 15) rfl)
theorem dX9_multiply_29 : decode cX9_multiply 29 = .ok (.lstore 7, 2) := tX9_multiply_ok (29, .lstore 7, 2) (List.mem_of_getElem? (i := 16) rfl)
theorem dX9_multiply_31 : decode cX9_multiply 31 = .ok (.iconst 0, 1) := tX9_multiply_ok (31, .iconst 0, 1) (List.mem_of_getElem? (i := 17) rfl)
theorem dX9_multiply_32 : decode cX9_multiply 32 = .ok (.istore 9, 2) := tX9_multiply_ok (32, .istore 9, 2) (List.mem_of_getElem? (i := 18) rfl)
theorem dX9_multiply_34 : decode cX9_multiply 34 = .ok (.iload 9, 2) := tX9_multiply_ok (34, .iload 9, 2) (List.mem_of_getElem? (i := 19) rfl)
theorem dX9_multiply_36 : decode cX9_multiply 36 = .ok (.iload 4, 2) := tX9_multiply_ok (36, .iload 4, 2) (List.mem_of_getElem? (i := 20) rfl)
theorem dX9_multiply_38 : decode cX9_multiply 38 = .ok (.if_icmp .ge 39, 3) := tX9_multiply_ok (38, .if_icmp .ge 39, 3) (List.mem_of_getElem? (i := 21) rfl)
theorem dX9_multiply_41 : decode cX9_multiply 41 = .ok (.lload 7, 2) := tX9_multiply_ok (41, .lload 7, 2) (List.mem_of_getElem? (i := 22) rfl)
theorem dX9_multiply_43 : decode cX9_multiply 43 = .ok (.aload_n 1, 1) := tX9_multiply_ok (43, .aload_n 1, 1) (List.mem_of_getElem? (i := 23) rfl)
theorem dX9_multiply_44 : decode cX9_multiply 44 = .ok (.bipush 31, 2) := tX9_multiply_ok (44, .bipush 31, 2) (List.mem_of_getElem? (i := 24) rfl)
theorem dX9_multiply_46 : decode cX9_multiply 46 = .ok (.iload 5, 2) := tX9_multiply_ok (46, .iload 5, 2) (List.mem_of_getElem? (i := 25) rfl)
theorem dX9_multiply_48 : decode cX9_multiply 48 = .ok (.imul, 1) := tX9_multiply_ok (48, .imul, 1) (List.mem_of_getElem? (i := 26) rfl)
theorem dX9_multiply_49 : decode cX9_multiply 49 = .ok (.iload 9, 2) := tX9_multiply_ok (49, .iload 9, 2) (List.mem_of_getElem? (i := 27) rfl)
theorem dX9_multiply_51 : decode cX9_multiply 51 = .ok (.iadd, 1) := tX9_multiply_ok (51, .iadd, 1) (List.mem_of_getElem? (i := 28) rfl)
theorem dX9_multiply_52 : decode cX9_multiply 52 = .ok (.laload, 1) := tX9_multiply_ok (52, .laload, 1) (List.mem_of_getElem? (i := 29) rfl)
theorem dX9_multiply_53 : decode cX9_multiply 53 = .ok (.aload_n 2, 1) := tX9_multiply_ok (53, .aload_n 2, 1) (List.mem_of_getElem? (i := 30) rfl)
theorem dX9_multiply_54 : decode cX9_multiply 54 = .ok (.bipush 31, 2) := tX9_multiply_ok (54, .bipush 31, 2) (List.mem_of_getElem? (i := 31) rfl)
theorem dX9_multiply_56 : decode cX9_multiply 56 = .ok (.iload 9, 2) := tX9_multiply_ok (56, .iload 9, 2) (List.mem_of_getElem? (i := 32) rfl)
theorem dX9_multiply_58 : decode cX9_multiply 58 = .ok (.imul, 1) := tX9_multiply_ok (58, .imul, 1) (List.mem_of_getElem? (i := 33) rfl)
theorem dX9_multiply_59 : decode cX9_multiply 59 = .ok (.iload 6, 2) := tX9_multiply_ok (59, .iload 6, 2) (List.mem_of_getElem? (i := 34) rfl)
theorem dX9_multiply_61 : decode cX9_multiply 61 = .ok (.iadd, 1) := tX9_multiply_ok (61, .iadd, 1) (List.mem_of_getElem? (i := 35) rfl)
theorem dX9_multiply_62 : decode cX9_multiply 62 = .ok (.laload, 1) := tX9_multiply_ok (62, .laload, 1) (List.mem_of_getElem? (i := 36) rfl)
theorem dX9_multiply_63 : decode cX9_multiply 63 = .ok (.lmul, 1) := tX9_multiply_ok (63, .lmul, 1) (List.mem_of_getElem? (i := 37) rfl)
theorem dX9_multiply_64 : decode cX9_multiply 64 = .ok (.ladd, 1) := tX9_multiply_ok (64, .ladd, 1) (List.mem_of_getElem? (i := 38) rfl)
theorem dX9_multiply_65 : decode cX9_multiply 65 = .ok (.ldc2_w 300, 3) := tX9_multiply_ok (65, .ldc2_w 300, 3) (List.mem_of_getElem? (i := 39) rfl)
theorem dX9_multiply_68 : decode cX9_multiply 68 = .ok (.lrem, 1) := tX9_multiply_ok (68, .lrem, 1) (List.mem_of_getElem? (i := 40) rfl)
theorem dX9_multiply_69 : decode cX9_multiply 69 = .ok (.lstore 7, 2) := tX9_multiply_ok (69, .lstore 7, 2) (List.mem_of_getElem? (i := 41) rfl)
theorem dX9_multiply_71 : decode cX9_multiply 71 = .ok (.iinc 9 1, 3) := tX9_multiply_ok (71, .iinc 9 1, 3) (List.mem_of_getElem? (i := 42) rfl)
theorem dX9_multiply_74 : decode cX9_multiply 74 = .ok (.goto (-40), 3) := tX9_multiply_ok (74, .goto (-40), 3) (List.mem_of_getElem? (i := 43) rfl)
theorem dX9_multiply_77 : decode cX9_multiply 77 = .ok (.aload_n 0, 1) := tX9_multiply_ok (77, .aload_n 0, 1) (List.mem_of_getElem? (i := 44) rfl)
theorem dX9_multiply_78 : decode cX9_multiply 78 = .ok (.getfield 97, 3) := tX9_multiply_ok (78, .getfield 97, 3) (List.mem_of_getElem? (i := 45) rfl)
theorem dX9_multiply_81 : decode cX9_multiply 81 = .ok (.bipush 31, 2) := tX9_multiply_ok (81, .bipush 31, 2) (List.mem_of_getElem? (i := 46) rfl)
theorem dX9_multiply_83 : decode cX9_multiply 83 = .ok (.iload 5, 2) := tX9_multiply_ok (83, .iload 5, 2) (List.mem_of_getElem? (i := 47) rfl)
theorem dX9_multiply_85 : decode cX9_multiply 85 = .ok (.imul, 1) := tX9_multiply_ok (85, .imul, 1) (List.mem_of_getElem? (i := 48) rfl)
theorem dX9_multiply_86 : decode cX9_multiply 86 = .ok (.iload 6, 2) := tX9_multiply_ok (86, .iload 6, 2) (List.mem_of_getElem? (i := 49) rfl)
theorem dX9_multiply_88 : decode cX9_multiply 88 = .ok (.iadd, 1) := tX9_multiply_ok (88, .iadd, 1) (List.mem_of_getElem? (i := 50) rfl)
theorem dX9_multiply_89 : decode cX9_multiply 89 = .ok (.lload 7, 2) := tX9_multiply_ok (89, .lload 7, 2) (List.mem_of_getElem? (i := 51) rfl)
theorem dX9_multiply_91 : decode cX9_multiply 91 = .ok (.lastore, 1) := tX9_multiply_ok (91, .lastore, 1) (List.mem_of_getElem? (i := 52) rfl)
theorem dX9_multiply_92 : decode cX9_multiply 92 = .ok (.iinc 6 1, 3) := tX9_multiply_ok (92, .iinc 6 1, 3) (List.mem_of_getElem? (i := 53) rfl)
theorem dX9_multiply_95 : decode cX9_multiply 95 = .ok (.goto (-74), 3) := tX9_multiply_ok (95, .goto (-74), 3) (List.mem_of_getElem? (i := 54) rfl)
theorem dX9_multiply_98 : decode cX9_multiply 98 = .ok (.iinc 5 1, 3) := tX9_multiply_ok (98, .iinc 5 1, 3) (List.mem_of_getElem? (i := 55) rfl)
theorem dX9_multiply_101 : decode cX9_multiply 101 = .ok (.goto (-90), 3) := tX9_multiply_ok (101, .goto (-90), 3) (List.mem_of_getElem? (i := 56) rfl)
theorem dX9_multiply_104 : decode cX9_multiply 104 = .ok (.iconst 0, 1) := tX9_multiply_ok (104, .iconst 0, 1) (List.mem_of_getElem? (i := 57) rfl)
theorem dX9_multiply_105 : decode cX9_multiply 105 = .ok (.istore 5, 2) := tX9_multiply_ok (105, .istore 5, 2) (List.mem_of_getElem? (i := 58) rfl)
theorem dX9_multiply_107 : decode cX9_multiply 107 = .ok (.iload 5, 2) := tX9_multiply_ok (107, .iload 5, 2) (List.mem_of_getElem? (i := 59) rfl)
theorem dX9_multiply_109 : decode cX9_multiply 109 = .ok (.sipush 961, 3) := tX9_multiply_ok (109, .sipush 961, 3) (List.mem_of_getElem? (i := 60) rfl)
theorem dX9_multiply_112 : decode cX9_multiply 112 = .ok (.if_icmp .ge 20, 3) := tX9_multiply_ok (112, .if_icmp .ge 20, 3) (List.mem_of_getElem? (i := 61) rfl)
theorem dX9_multiply_115 : decode cX9_multiply 115 = .ok (.aload_n 3, 1) := tX9_multiply_ok (115, .aload_n 3, 1) (List.mem_of_getElem? (i := 62) rfl)
theorem dX9_multiply_116 : decode cX9_multiply 116 = .ok (.iload 5, 2) := tX9_multiply_ok (116, .iload 5, 2) (List.mem_of_getElem? (i := 63) rfl)
theorem dX9_multiply_118 : decode cX9_multiply 118 = .ok (.aload_n 0, 1) := tX9_multiply_ok (118, .aload_n 0, 1) (List.mem_of_getElem? (i := 64) rfl)
theorem dX9_multiply_119 : decode cX9_multiply 119 = .ok (.getfield 97, 3) := tX9_multiply_ok (119, .getfield 97, 3) (List.mem_of_getElem? (i := 65) rfl)
theorem dX9_multiply_122 : decode cX9_multiply 122 = .ok (.iload 5, 2) := tX9_multiply_ok (122, .iload 5, 2) (List.mem_of_getElem? (i := 66) rfl)
theorem dX9_multiply_124 : decode cX9_multiply 124 = .ok (.laload, 1) := tX9_multiply_ok (124, .laload, 1) (List.mem_of_getElem? (i := 67) rfl)
theorem dX9_multiply_125 : decode cX9_multiply 125 = .ok (.lastore, 1) := tX9_multiply_ok (125, .lastore, 1) (List.mem_of_getElem? (i := 68) rfl)
theorem dX9_multiply_126 : decode cX9_multiply 126 = .ok (.iinc 5 1, 3) := tX9_multiply_ok (126, .iinc 5 1, 3) (List.mem_of_getElem? (i := 69) rfl)
theorem dX9_multiply_129 : decode cX9_multiply 129 = .ok (.goto (-22), 3) := tX9_multiply_ok (129, .goto (-22), 3) (List.mem_of_getElem? (i := 70) rfl)
theorem dX9_multiply_132 : decode cX9_multiply 132 = .ok (.return_, 1) := tX9_multiply_ok (132, .return_, 1) (List.mem_of_getElem? (i := 71) rfl)

def tX9_fillLevels : List (Nat × Instr × Nat) := [
  (0, .iconst 0, 1),
  (1, .istore_n 1, 1),
  (2, .iload_n 1, 1),
  (3, .sipush 961, 3),
  (6, .if_icmp .ge 34, 3),
  (9, .aload_n 0, 1),
  (10, .getfield 94, 3),
  (13, .iload_n 1, 1),
  (14, .lconst 0, 1),
  (15, .lastore, 1),
  (16, .aload_n 0, 1),
  (17, .getfield 91, 3),
  (20, .iload_n 1, 1),
  (21, .iload_n 1, 1),
  (22, .bipush 32, 2),
  (24, .irem, 1),
  (25, .ifCond .ne 7, 3),
  (28, .lconst 1, 1),
  (29, .goto 4, 3),
  (32, .lconst 0, 1),
  (33, .lastore, 1),
  (34, .iinc 1 1, 3),
  (37, .goto (-35), 3),
  (40, .iconst 0, 1),
  (41, .istore_n 1, 1),
  (42, .iload_n 1, 1),
  (43, .aload_n 0, 1),
  (44, .getfield 23, 3),
  (47, .if_icmp .gt 73, 3),
  (50, .iconst 0, 1),
  (51, .istore_n 2, 1),
  (52, .iload_n 2, 1),
  (53, .aload_n 0, 1),
  (54, .getfield 19, 3),
  (57, .if_icmp .ge 57, 3),
  (60, .iload_n 1, 1),
  (61, .aload_n 0, 1),
  (62, .getfield 32, 3),
  (65, .iload_n 2, 1),
  (66, .iaload, 1),
  (67, .iadd, 1),
  (68, .ifCond .lt 40, 3),
  (71, .iload_n 1, 1),
  (72, .aload_n 0, 1),
  (73, .getfield 32, 3),
  (76, .iload_n 2, 1),
  (77, .iaload, 1),
  (78, .iadd, 1),
  (79, .aload_n 0, 1),
  (80, .getfield 23, 3),
  (83, .if_icmp .gt 25, 3),
  (86, .aload_n 0, 1),
  (87, .getfield 94, 3),
  (90, .bipush 31, 2),
  (92, .iload_n 1, 1),
  (93, .imul, 1),
  (94, .iload_n 1, 1),
  (95, .iadd, 1),
  (96, .aload_n 0, 1),
  (97, .getfield 32, 3),
  (100, .iload_n 2, 1),
  (101, .iaload, 1),
  (102, .iadd, 1),
  (103, .dup2, 1),
  (104, .laload, 1),
  (105, .lconst 1, 1),
  (106, .ladd, 1),
  (107, .lastore, 1),
  (108, .iinc 2 1, 3),
  (111, .goto (-59), 3),
  (114, .iinc 1 1, 3),
  (117, .goto (-75), 3),
  (120, .return_, 1)]
set_option maxRecDepth 100000 in
theorem tX9_fillLevels_ok : ∀ q ∈ tX9_fillLevels, decode cX9_fillLevels q.1 = .ok q.2 := by decide +kernel
theorem dX9_fillLevels_0 : decode cX9_fillLevels 0 = .ok (.iconst 0, 1) := tX9_fillLevels_ok (0, .iconst 0, 1) (List.mem_of_getElem? (i := 0) rfl)
theorem dX9_fillLevels_1 : decode cX9_fillLevels 1 = .ok (.istore_n 1, 1) := tX9_fillLevels_ok (1, .istore_n 1, 1) (List.mem_of_getElem? (i := 1) rfl)
theorem dX9_fillLevels_2 : decode cX9_fillLevels 2 = .ok (.iload_n 1, 1) := tX9_fillLevels_ok (2, .iload_n 1, 1) (List.mem_of_getElem? (i := 2) rfl)
theorem dX9_fillLevels_3 : decode cX9_fillLevels 3 = .ok (.sipush 961, 3) := tX9_fillLevels_ok (3, .sipush 961, 3) (List.mem_of_getElem? (i := 3) rfl)
theorem dX9_fillLevels_6 : decode cX9_fillLevels 6 = .ok (.if_icmp .ge 34, 3) := tX9_fillLevels_ok (6, .if_icmp .ge 34, 3) (List.mem_of_getElem? (i := 4) rfl)
theorem dX9_fillLevels_9 : decode cX9_fillLevels 9 = .ok (.aload_n 0, 1) := tX9_fillLevels_ok (9, .aload_n 0, 1) (List.mem_of_getElem? (i := 5) rfl)
theorem dX9_fillLevels_10 : decode cX9_fillLevels 10 = .ok (.getfield 94, 3) := tX9_fillLevels_ok (10, .getfield 94, 3) (List.mem_of_getElem? (i := 6) rfl)
theorem dX9_fillLevels_13 : decode cX9_fillLevels 13 = .ok (.iload_n 1, 1) := tX9_fillLevels_ok (13, .iload_n 1, 1) (List.mem_of_getElem? (i := 7) rfl)
theorem dX9_fillLevels_14 : decode cX9_fillLevels 14 = .ok (.lconst 0, 1) := tX9_fillLevels_ok (14, .lconst 0, 1) (List.mem_of_getElem? (i := 8) rfl)
theorem dX9_fillLevels_15 : decode cX9_fillLevels 15 = .ok (.lastore, 1) := tX9_fillLevels_ok (15, .lastore, 1) (List.mem_of_getElem? (i := 9) rfl)
theorem dX9_fillLevels_16 : decode cX9_fillLevels 16 = .ok (.aload_n 0, 1) := tX9_fillLevels_ok (16, .aload_n 0, 1) (List.mem_of_getElem? (i := 10) rfl)
theorem dX9_fillLevels_17 : decode cX9_fillLevels 17 = .ok (.getfield 91, 3) := tX9_fillLevels_ok (17, .getfield 91, 3) (List.mem_of_getElem? (i := 11) rfl)
theorem dX9_fillLevels_20 : decode cX9_fillLevels 20 = .ok (.iload_n 1, 1) := tX9_fillLevels_ok (20, .iload_n 1, 1) (List.mem_of_getElem? (i := 12) rfl)
theorem dX9_fillLevels_21 : decode cX9_fillLevels 21 = .ok (.iload_n 1, 1) := tX9_fillLevels_ok (21, .iload_n 1, 1) (List.mem_of_getElem? (i := 13) rfl)
theorem dX9_fillLevels_22 : decode cX9_fillLevels 22 = .ok (.bipush 32, 2) := tX9_fillLevels_ok (22, .bipush 32, 2) (List.mem_of_getElem? (i := 14) rfl)
theorem dX9_fillLevels_24 : decode cX9_fillLevels 24 = .ok (.irem, 1) := tX9_fillLevels_ok (24, .irem, 1) (List.mem_of_getElem? (i := 15) rfl)
theorem dX9_fillLevels_25 : decode cX9_fillLevels 25 = .ok (.ifCond .ne 7, 3) := tX9_fillLevels_ok (25, .ifCond .ne 7, 3) (List.mem_of_getElem? (i := 16) rfl)
theorem dX9_fillLevels_28 : decode cX9_fillLevels 28 = .ok (.lconst 1, 1) := tX9_fillLevels_ok (28, .lconst 1, 1) (List.mem_of_getElem? (i := 17) rfl)
theorem dX9_fillLevels_29 : decode cX9_fillLevels 29 = .ok (.goto 4, 3) := tX9_fillLevels_ok (29, .goto 4, 3) (List.mem_of_getElem? (i := 18) rfl)
theorem dX9_fillLevels_32 : decode cX9_fillLevels 32 = .ok (.lconst 0, 1) := tX9_fillLevels_ok (32, .lconst 0, 1) (List.mem_of_getElem? (i := 19) rfl)
theorem dX9_fillLevels_33 : decode cX9_fillLevels 33 = .ok (.lastore, 1) := tX9_fillLevels_ok (33, .lastore, 1) (List.mem_of_getElem? (i := 20) rfl)
theorem dX9_fillLevels_34 : decode cX9_fillLevels 34 = .ok (.iinc 1 1, 3) := tX9_fillLevels_ok (34, .iinc 1 1, 3) (List.mem_of_getElem? (i := 21) rfl)
theorem dX9_fillLevels_37 : decode cX9_fillLevels 37 = .ok (.goto (-35), 3) := tX9_fillLevels_ok (37, .goto (-35), 3) (List.mem_of_getElem? (i := 22) rfl)
theorem dX9_fillLevels_40 : decode cX9_fillLevels 40 = .ok (.iconst 0, 1) := tX9_fillLevels_ok (40, .iconst 0, 1) (List.mem_of_getElem? (i := 23) rfl)
theorem dX9_fillLevels_41 : decode cX9_fillLevels 41 = .ok (.istore_n 1, 1) := tX9_fillLevels_ok (41, .istore_n 1, 1) (List.mem_of_getElem? (i := 24) rfl)
theorem dX9_fillLevels_42 : decode cX9_fillLevels 42 = .ok (.iload_n 1, 1) := tX9_fillLevels_ok (42, .iload_n 1, 1) (List.mem_of_getElem? (i := 25) rfl)
theorem dX9_fillLevels_43 : decode cX9_fillLevels 43 = .ok (.aload_n 0, 1) := tX9_fillLevels_ok (43, .aload_n 0, 1) (List.mem_of_getElem? (i := 26) rfl)
theorem dX9_fillLevels_44 : decode cX9_fillLevels 44 = .ok (.getfield 23, 3) := tX9_fillLevels_ok (44, .getfield 23, 3) (List.mem_of_getElem? (i := 27) rfl)
theorem dX9_fillLevels_47 : decode cX9_fillLevels 47 = .ok (.if_icmp .gt 73, 3) := tX9_fillLevels_ok (47, .if_icmp .gt 73, 3) (List.mem_of_getElem? (i := 28) rfl)
theorem dX9_fillLevels_50 : decode cX9_fillLevels 50 = .ok (.iconst 0, 1) := tX9_fillLevels_ok (50, .iconst 0, 1) (List.mem_of_getElem? (i := 29) rfl)
theorem dX9_fillLevels_51 : decode cX9_fillLevels 51 = .ok (.istore_n 2, 1) := tX9_fillLevels_ok (51, .istore_n 2, 1) (List.mem_of_getElem? (i := 30) rfl)
theorem dX9_fillLevels_52 : decode cX9_fillLevels 52 = .ok (.iload_n 2, 1) := tX9_fillLevels_ok (52, .iload_n 2, 1) (List.mem_of_getElem? (i := 31) rfl)
theorem dX9_fillLevels_53 : decode cX9_fillLevels 53 = .ok (.aload_n 0, 1) := tX9_fillLevels_ok (53, .aload_n 0, 1) (List.mem_of_getElem? (i := 32) rfl)
theorem dX9_fillLevels_54 : decode cX9_fillLevels 54 = .ok (.getfield 19, 3) := tX9_fillLevels_ok (54, .getfield 19, 3) (List.mem_of_getElem? (i := 33) rfl)
theorem dX9_fillLevels_57 : decode cX9_fillLevels 57 = .ok (.if_icmp .ge 57, 3) := tX9_fillLevels_ok (57, .if_icmp .ge 57, 3) (List.mem_of_getElem? (i := 34) rfl)
theorem dX9_fillLevels_60 : decode cX9_fillLevels 60 = .ok (.iload_n 1, 1) := tX9_fillLevels_ok (60, .iload_n 1, 1) (List.mem_of_getElem? (i := 35) rfl)
theorem dX9_fillLevels_61 : decode cX9_fillLevels 61 = .ok (.aload_n 0, 1) := tX9_fillLevels_ok (61, .aload_n 0, 1) (List.mem_of_getElem? (i := 36) rfl)
theorem dX9_fillLevels_62 : decode cX9_fillLevels 62 = .ok (.getfield 32, 3) := tX9_fillLevels_ok (62, .getfield 32, 3) (List.mem_of_getElem? (i := 37) rfl)
theorem dX9_fillLevels_65 : decode cX9_fillLevels 65 = .ok (.iload_n 2, 1) := tX9_fillLevels_ok (65, .iload_n 2, 1) (List.mem_of_getElem? (i := 38) rfl)
theorem dX9_fillLevels_66 : decode cX9_fillLevels 66 = .ok (.iaload, 1) := tX9_fillLevels_ok (66, .iaload, 1) (List.mem_of_getElem? (i := 39) rfl)
theorem dX9_fillLevels_67 : decode cX9_fillLevels 67 = .ok (.iadd, 1) := tX9_fillLevels_ok (67, .iadd, 1) (List.mem_of_getElem? (i := 40) rfl)
theorem dX9_fillLevels_68 : decode cX9_fillLevels 68 = .ok (.ifCond .lt 40, 3) := tX9_fillLevels_ok (68, .ifCond .lt 40, 3) (List.mem_of_getElem? (i := 41) rfl)
theorem dX9_fillLevels_71 : decode cX9_fillLevels 71 = .ok (.iload_n 1, 1) := tX9_fillLevels_ok (71, .iload_n 1, 1) (List.mem_of_getElem? (i := 42) rfl)
theorem dX9_fillLevels_72 : decode cX9_fillLevels 72 = .ok (.aload_n 0, 1) := tX9_fillLevels_ok (72, .aload_n 0, 1) (List.mem_of_getElem? (i := 43) rfl)
theorem dX9_fillLevels_73 : decode cX9_fillLevels 73 = .ok (.getfield 32, 3) := tX9_fillLevels_ok (73, .getfield 32, 3) (List.mem_of_getElem? (i := 44) rfl)
theorem dX9_fillLevels_76 : decode cX9_fillLevels 76 = .ok (.iload_n 2, 1) := tX9_fillLevels_ok (76, .iload_n 2, 1) (List.mem_of_getElem? (i := 45) rfl)
theorem dX9_fillLevels_77 : decode cX9_fillLevels 77 = .ok (.iaload, 1) := tX9_fillLevels_ok (77, .iaload, 1) (List.mem_of_getElem? (i := 46) rfl)
theorem dX9_fillLevels_78 : decode cX9_fillLevels 78 = .ok (.iadd, 1) := tX9_fillLevels_ok (78, .iadd, 1) (List.mem_of_getElem? (i := 47) rfl)
theorem dX9_fillLevels_79 : decode cX9_fillLevels 79 = .ok (.aload_n 0, 1) := tX9_fillLevels_ok (79, .aload_n 0, 1) (List.mem_of_getElem? (i := 48) rfl)
theorem dX9_fillLevels_80 : decode cX9_fillLevels 80 = .ok (.getfield 23, 3) := tX9_fillLevels_ok (80, .getfield 23, 3) (List.mem_of_getElem? (i := 49) rfl)
theorem dX9_fillLevels_83 : decode cX9_fillLevels 83 = .ok (.if_icmp .gt 25, 3) := tX9_fillLevels_ok (83, .if_icmp .gt 25, 3) (List.mem_of_getElem? (i := 50) rfl)
theorem dX9_fillLevels_86 : decode cX9_fillLevels 86 = .ok (.aload_n 0, 1) := tX9_fillLevels_ok (86, .aload_n 0, 1) (List.mem_of_getElem? (i := 51) rfl)
theorem dX9_fillLevels_87 : decode cX9_fillLevels 87 = .ok (.getfield 94, 3) := tX9_fillLevels_ok (87, .getfield 94, 3) (List.mem_of_getElem? (i := 52) rfl)
theorem dX9_fillLevels_90 : decode cX9_fillLevels 90 = .ok (.bipush 31, 2) := tX9_fillLevels_ok (90, .bipush 31, 2) (List.mem_of_getElem? (i := 53) rfl)
theorem dX9_fillLevels_92 : decode cX9_fillLevels 92 = .ok (.iload_n 1, 1) := tX9_fillLevels_ok (92, .iload_n 1, 1) (List.mem_of_getElem? (i := 54) rfl)
theorem dX9_fillLevels_93 : decode cX9_fillLevels 93 = .ok (.imul, 1) := tX9_fillLevels_ok (93, .imul, 1) (List.mem_of_getElem? (i := 55) rfl)
theorem dX9_fillLevels_94 : decode cX9_fillLevels 94 = .ok (.iload_n 1, 1) := tX9_fillLevels_ok (94, .iload_n 1, 1) (List.mem_of_getElem? (i := 56) rfl)
theorem dX9_fillLevels_95 : decode cX9_fillLevels 95 = .ok (.iadd, 1) := tX9_fillLevels_ok (95, .iadd, 1) (List.mem_of_getElem? (i := 57) rfl)
theorem dX9_fillLevels_96 : decode cX9_fillLevels 96 = .ok (.aload_n 0, 1) := tX9_fillLevels_ok (96, .aload_n 0, 1) (List.mem_of_getElem? (i := 58) rfl)
theorem dX9_fillLevels_97 : decode cX9_fillLevels 97 = .ok (.getfield 32, 3) := tX9_fillLevels_ok (97, .getfield 32, 3) (List.mem_of_getElem? (i := 59) rfl)
theorem dX9_fillLevels_100 : decode cX9_fillLevels 100 = .ok (.iload_n 2, 1) := tX9_fillLevels_ok (100, .iload_n 2, 1) (List.mem_of_getElem? (i := 60) rfl)
theorem dX9_fillLevels_101 : decode cX9_fillLevels 101 = .ok (.iaload, 1) := tX9_fillLevels_ok (101, .iaload, 1) (List.mem_of_getElem? (i := 61) rfl)
theorem dX9_fillLevels_102 : decode cX9_fillLevels 102 = .ok (.iadd, 1) := tX9_fillLevels_ok (102, .iadd, 1) (List.mem_of_getElem? (i := 62) rfl)
theorem dX9_fillLevels_103 : decode cX9_fillLevels 103 = .ok (.dup2, 1) := tX9_fillLevels_ok (103, .dup2, 1) (List.mem_of_getElem? (i := 63) rfl)
theorem dX9_fillLevels_104 : decode cX9_fillLevels 104 = .ok (.laload, 1) := tX9_fillLevels_ok (104, .laload, 1) (List.mem_of_getElem? (i := 64) rfl)
theorem dX9_fillLevels_105 : decode cX9_fillLevels 105 = .ok (.lconst 1, 1) := tX9_fillLevels_ok (105, .lconst 1, 1) (List.mem_of_getElem? (i := 65) rfl)
theorem dX9_fillLevels_106 : decode cX9_fillLevels 106 = .ok (.ladd, 1) := tX9_fillLevels_ok (106, .ladd, 1) (List.mem_of_getElem? (i := 66) rfl)
theorem dX9_fillLevels_107 : decode cX9_fillLevels 107 = .ok (.lastore, 1) := tX9_fillLevels_ok (107, .lastore, 1) (List.mem_of_getElem? (i := 67) rfl)
theorem dX9_fillLevels_108 : decode cX9_fillLevels 108 = .ok (.iinc 2 1, 3) := tX9_fillLevels_ok (108, .iinc 2 1, 3) (List.mem_of_getElem? (i := 68) rfl)
theorem dX9_fillLevels_111 : decode cX9_fillLevels 111 = .ok (.goto (-59), 3) := tX9_fillLevels_ok (111, .goto (-59), 3) (List.mem_of_getElem? (i := 69) rfl)
theorem dX9_fillLevels_114 : decode cX9_fillLevels 114 = .ok (.iinc 1 1, 3) := tX9_fillLevels_ok (114, .iinc 1 1, 3) (List.mem_of_getElem? (i := 70) rfl)
theorem dX9_fillLevels_117 : decode cX9_fillLevels 117 = .ok (.goto (-75), 3) := tX9_fillLevels_ok (117, .goto (-75), 3) (List.mem_of_getElem? (i := 71) rfl)
theorem dX9_fillLevels_120 : decode cX9_fillLevels 120 = .ok (.return_, 1) := tX9_fillLevels_ok (120, .return_, 1) (List.mem_of_getElem? (i := 72) rfl)

def tX9_far : List (Nat × Instr × Nat) := [
  (0, .aload_n 0, 1),
  (1, .iconst 0, 1),
  (2, .putfield 112, 3),
  (5, .aload_n 0, 1),
  (6, .iconst 0, 1),
  (7, .putfield 115, 3),
  (10, .lload_n 1, 1),
  (11, .lconst 0, 1),
  (12, .lcmp, 1),
  (13, .ifCond .ge 9, 3),
  (16, .aload_n 0, 1),
  (17, .iconst 2, 1),
  (18, .invokevirtual 156, 3),
  (21, .ireturn, 1),
  (22, .aload_n 0, 1),
  (23, .invokevirtual 302, 3),
  (26, .ifCond .ne 10, 3),
  (29, .aload_n 0, 1),
  (30, .bipush 7, 2),
  (32, .invokevirtual 156, 3),
  (35, .ireturn, 1),
  (36, .aload_n 0, 1),
  (37, .invokevirtual 305, 3),
  (40, .lload_n 1, 1),
  (41, .lstore_n 3, 1),
  (42, .lload_n 3, 1),
  (43, .lconst 0, 1),
  (44, .lcmp, 1),
  (45, .ifCond .le 50, 3),
  (48, .lload_n 3, 1),
  (49, .lconst 1, 1),
  (50, .land, 1),
  (51, .lconst 1, 1),
  (52, .lcmp, 1),
  (53, .ifCond .ne 19, 3),
  (56, .aload_n 0, 1),
  (57, .aload_n 0, 1),
  (58, .getfield 91, 3),
  (61, .aload_n 0, 1),
  (62, .getfield 94, 3),
  (65, .aload_n 0, 1),
  (66, .getfield 91, 3),
  (69, .invokevirtual 308, 3),
  (72, .aload_n 0, 1),
  (73, .aload_n 0, 1),
  (74, .getfield 94, 3),
  (77, .aload_n 0, 1),
  (78, .getfield 94, 3),
  (81, .aload_n 0, 1),
  (82, .getfield 94, 3),
  (85, .invokevirtual 308, 3),
  (88, .lload_n 3, 1),
  (89, .iconst 1, 1),
  (90, .lshr, 1),
  (91, .lstore_n 3, 1),
  (92, .goto (-50), 3),
  (95, .aload_n 0, 1),
  (96, .getfield 91, 3),
  (99, .bipush 31, 2),
  (101, .aload_n 0, 1),
  (102, .getfield 164, 3),
  (105, .imul, 1),
  (106, .aload_n 0, 1),
  (107, .getfield 170, 3),
  (110, .iadd, 1),
  (111, .laload, 1),
  (112, .l2i, 1),
  (113, .ireturn, 1)]
set_option maxRecDepth 100000 in
theorem tX9_far_ok : ∀ q ∈ tX9_far, decode cX9_far q.1 = .ok q.2 := by decide +kernel
theorem dX9_far_0 : decode cX9_far 0 = .ok (.aload_n 0, 1) := tX9_far_ok (0, .aload_n 0, 1) (List.mem_of_getElem? (i := 0) rfl)
theorem dX9_far_1 : decode cX9_far 1 = .ok (.iconst 0, 1) := tX9_far_ok (1, .iconst 0, 1) (List.mem_of_getElem? (i := 1) rfl)
theorem dX9_far_2 : decode cX9_far 2 = .ok (.putfield 112, 3) := tX9_far_ok (2, .putfield 112, 3) (List.mem_of_getElem? (i := 2) rfl)
theorem dX9_far_5 : decode cX9_far 5 = .ok (.aload_n 0, 1) := tX9_far_ok (5, .aload_n 0, 1) (List.mem_of_getElem? (i := 3) rfl)
theorem dX9_far_6 : decode cX9_far 6 = .ok (.iconst 0, 1) := tX9_far_ok (6, .iconst 0, 1) (List.mem_of_getElem? (i := 4) rfl)
theorem dX9_far_7 : decode cX9_far 7 = .ok (.putfield 115, 3) := tX9_far_ok (7, .putfield 115, 3) (List.mem_of_getElem? (i := 5) rfl)
theorem dX9_far_10 : decode cX9_far 10 = .ok (.lload_n 1, 1) := tX9_far_ok (10, .lload_n 1, 1) (List.mem_of_getElem? (i := 6) rfl)
theorem dX9_far_11 : decode cX9_far 11 = .ok (.lconst 0, 1) := tX9_far_ok (11, .lconst 0, 1) (List.mem_of_getElem? (i := 7) rfl)
theorem dX9_far_12 : decode cX9_far 12 = .ok (.lcmp, 1) := tX9_far_ok (12, .lcmp, 1) (List.mem_of_getElem? (i := 8) rfl)
theorem dX9_far_13 : decode cX9_far 13 = .ok (.ifCond .ge 9, 3) := tX9_far_ok (13, .ifCond .ge 9, 3) (List.mem_of_getElem? (i := 9) rfl)
theorem dX9_far_16 : decode cX9_far 16 = .ok (.aload_n 0, 1) := tX9_far_ok (16, .aload_n 0, 1) (List.mem_of_getElem? (i := 10) rfl)
theorem dX9_far_17 : decode cX9_far 17 = .ok (.iconst 2, 1) := tX9_far_ok (17, .iconst 2, 1) (List.mem_of_getElem? (i := 11) rfl)
theorem dX9_far_18 : decode cX9_far 18 = .ok (.invokevirtual 156, 3) := tX9_far_ok (18, .invokevirtual 156, 3) (List.mem_of_getElem? (i := 12) rfl)
theorem dX9_far_21 : decode cX9_far 21 = .ok (.ireturn, 1) := tX9_far_ok (21, .ireturn, 1) (List.mem_of_getElem? (i := 13) rfl)
theorem dX9_far_22 : decode cX9_far 22 = .ok (.aload_n 0, 1) := tX9_far_ok (22, .aload_n 0, 1) (List.mem_of_getElem? (i := 14) rfl)
theorem dX9_far_23 : decode cX9_far 23 = .ok (.invokevirtual 302, 3) := tX9_far_ok (23, .invokevirtual 302, 3) (List.mem_of_getElem? (i := 15) rfl)
theorem dX9_far_26 : decode cX9_far 26 = .ok (.ifCond .ne 10, 3) := tX9_far_ok (26, .ifCond .ne 10, 3) (List.mem_of_getElem? (i := 16) rfl)
theorem dX9_far_29 : decode cX9_far 29 = .ok (.aload_n 0, 1) := tX9_far_ok (29, .aload_n 0, 1) (List.mem_of_getElem? (i := 17) rfl)
theorem dX9_far_30 : decode cX9_far 30 = .ok (.bipush 7, 2) := tX9_far_ok (30, .bipush 7, 2) (List.mem_of_getElem? (i := 18) rfl)
theorem dX9_far_32 : decode cX9_far 32 = .ok (.invokevirtual 156, 3) := tX9_far_ok (32, .invokevirtual 156, 3) (List.mem_of_getElem? (i := 19) rfl)
theorem dX9_far_35 : decode cX9_far 35 = .ok (.ireturn, 1) := tX9_far_ok (35, .ireturn, 1) (List.mem_of_getElem? (i := 20) rfl)
theorem dX9_far_36 : decode cX9_far 36 = .ok (.aload_n 0, 1) := tX9_far_ok (36, .aload_n 0, 1) (List.mem_of_getElem? (i := 21) rfl)
theorem dX9_far_37 : decode cX9_far 37 = .ok (.invokevirtual 305, 3) := tX9_far_ok (37, .invokevirtual 305, 3) (List.mem_of_getElem? (i := 22) rfl)
theorem dX9_far_40 : decode cX9_far 40 = .ok (.lload_n 1, 1) := tX9_far_ok (40, .lload_n 1, 1) (List.mem_of_getElem? (i := 23) rfl)
theorem dX9_far_41 : decode cX9_far 41 = .ok (.lstore_n 3, 1) := tX9_far_ok (41, .lstore_n 3, 1) (List.mem_of_getElem? (i := 24) rfl)
theorem dX9_far_42 : decode cX9_far 42 = .ok (.lload_n 3, 1) := tX9_far_ok (42, .lload_n 3, 1) (List.mem_of_getElem? (i := 25) rfl)
theorem dX9_far_43 : decode cX9_far 43 = .ok (.lconst 0, 1) := tX9_far_ok (43, .lconst 0, 1) (List.mem_of_getElem? (i := 26) rfl)
theorem dX9_far_44 : decode cX9_far 44 = .ok (.lcmp, 1) := tX9_far_ok (44, .lcmp, 1) (List.mem_of_getElem? (i := 27) rfl)
theorem dX9_far_45 : decode cX9_far 45 = .ok (.ifCond .le 50, 3) := tX9_far_ok (45, .ifCond .le 50, 3) (List.mem_of_getElem? (i := 28) rfl)
theorem dX9_far_48 : decode cX9_far 48 = .ok (.lload_n 3, 1) := tX9_far_ok (48, .lload_n 3, 1) (List.mem_of_getElem? (i := 29) rfl)
theorem dX9_far_49 : decode cX9_far 49 = .ok (.lconst 1, 1) := tX9_far_ok (49, .lconst 1, 1) (List.mem_of_getElem? (i := 30) rfl)
theorem dX9_far_50 : decode cX9_far 50 = .ok (.land, 1) := tX9_far_ok (50, .land, 1) (List.mem_of_getElem? (i := 31) rfl)
theorem dX9_far_51 : decode cX9_far 51 = .ok (.lconst 1, 1) := tX9_far_ok (51, .lconst 1, 1) (List.mem_of_getElem? (i := 32) rfl)
theorem dX9_far_52 : decode cX9_far 52 = .ok (.lcmp, 1) := tX9_far_ok (52, .lcmp, 1) (List.mem_of_getElem? (i := 33) rfl)
theorem dX9_far_53 : decode cX9_far 53 = .ok (.ifCond .ne 19, 3) := tX9_far_ok (53, .ifCond .ne 19, 3) (List.mem_of_getElem? (i := 34) rfl)
theorem dX9_far_56 : decode cX9_far 56 = .ok (.aload_n 0, 1) := tX9_far_ok (56, .aload_n 0, 1) (List.mem_of_getElem? (i := 35) rfl)
theorem dX9_far_57 : decode cX9_far 57 = .ok (.aload_n 0, 1) := tX9_far_ok (57, .aload_n 0, 1) (List.mem_of_getElem? (i := 36) rfl)
theorem dX9_far_58 : decode cX9_far 58 = .ok (.getfield 91, 3) := tX9_far_ok (58, .getfield 91, 3) (List.mem_of_getElem? (i := 37) rfl)
theorem dX9_far_61 : decode cX9_far 61 = .ok (.aload_n 0, 1) := tX9_far_ok (61, .aload_n 0, 1) (List.mem_of_getElem? (i := 38) rfl)
theorem dX9_far_62 : decode cX9_far 62 = .ok (.getfield 94, 3) := tX9_far_ok (62, .getfield 94, 3) (List.mem_of_getElem? (i := 39) rfl)
theorem dX9_far_65 : decode cX9_far 65 = .ok (.aload_n 0, 1) := tX9_far_ok (65, .aload_n 0, 1) (List.mem_of_getElem? (i := 40) rfl)
theorem dX9_far_66 : decode cX9_far 66 = .ok (.getfield 91, 3) := tX9_far_ok (66, .getfield 91, 3) (List.mem_of_getElem? (i := 41) rfl)
theorem dX9_far_69 : decode cX9_far 69 = .ok (.invokevirtual 308, 3) := tX9_far_ok (69, .invokevirtual 308, 3) (List.mem_of_getElem? (i := 42) rfl)
theorem dX9_far_72 : decode cX9_far 72 = .ok (.aload_n 0, 1) := tX9_far_ok (72, .aload_n 0, 1) (List.mem_of_getElem? (i := 43) rfl)
theorem dX9_far_73 : decode cX9_far 73 = .ok (.aload_n 0, 1) := tX9_far_ok (73, .aload_n 0, 1) (List.mem_of_getElem? (i := 44) rfl)
theorem dX9_far_74 : decode cX9_far 74 = .ok (.getfield 94, 3) := tX9_far_ok (74, .getfield 94, 3) (List.mem_of_getElem? (i := 45) rfl)
theorem dX9_far_77 : decode cX9_far 77 = .ok (.aload_n 0, 1) := tX9_far_ok (77, .aload_n 0, 1) (List.mem_of_getElem? (i := 46) rfl)
theorem dX9_far_78 : decode cX9_far 78 = .ok (.getfield 94, 3) := tX9_far_ok (78, .getfield 94, 3) (List.mem_of_getElem? (i := 47) rfl)
theorem dX9_far_81 : decode cX9_far 81 = .ok (.aload_n 0, 1) := tX9_far_ok (81, .aload_n 0, 1) (List.mem_of_getElem? (i := 48) rfl)
theorem dX9_far_82 : decode cX9_far 82 = .ok (.getfield 94, 3) := tX9_far_ok (82, .getfield 94, 3) (List.mem_of_getElem? (i := 49) rfl)
theorem dX9_far_85 : decode cX9_far 85 = .ok (.invokevirtual 308, 3) := tX9_far_ok (85, .invokevirtual 308, 3) (List.mem_of_getElem? (i := 50) rfl)
theorem dX9_far_88 : decode cX9_far 88 = .ok (.lload_n 3, 1) := tX9_far_ok (88, .lload_n 3, 1) (List.mem_of_getElem? (i := 51) rfl)
theorem dX9_far_89 : decode cX9_far 89 = .ok (.iconst 1, 1) := tX9_far_ok (89, .iconst 1, 1) (List.mem_of_getElem? (i := 52) rfl)
theorem dX9_far_90 : decode cX9_far 90 = .ok (.lshr, 1) := tX9_far_ok (90, .lshr, 1) (List.mem_of_getElem? (i := 53) rfl)
theorem dX9_far_91 : decode cX9_far 91 = .ok (.lstore_n 3, 1) := tX9_far_ok (91, .lstore_n 3, 1) (List.mem_of_getElem? (i := 54) rfl)
theorem dX9_far_92 : decode cX9_far 92 = .ok (.goto (-50), 3) := tX9_far_ok (92, .goto (-50), 3) (List.mem_of_getElem? (i := 55) rfl)
theorem dX9_far_95 : decode cX9_far 95 = .ok (.aload_n 0, 1) := tX9_far_ok (95, .aload_n 0, 1) (List.mem_of_getElem? (i := 56) rfl)
theorem dX9_far_96 : decode cX9_far 96 = .ok (.getfield 91, 3) := tX9_far_ok (96, .getfield 91, 3) (List.mem_of_getElem? (i := 57) rfl)
theorem dX9_far_99 : decode cX9_far 99 = .ok (.bipush 31, 2) := tX9_far_ok (99, .bipush 31, 2) (List.mem_of_getElem? (i := 58) rfl)
theorem dX9_far_101 : decode cX9_far 101 = .ok (.aload_n 0, 1) := tX9_far_ok (101, .aload_n 0, 1) (List.mem_of_getElem? (i := 59) rfl)
theorem dX9_far_102 : decode cX9_far 102 = .ok (.getfield 164, 3) := tX9_far_ok (102, .getfield 164, 3) (List.mem_of_getElem? (i := 60) rfl)
theorem dX9_far_105 : decode cX9_far 105 = .ok (.imul, 1) := tX9_far_ok (105, .imul, 1) (List.mem_of_getElem? (i := 61) rfl)
theorem dX9_far_106 : decode cX9_far 106 = .ok (.aload_n 0, 1) := tX9_far_ok (106, .aload_n 0, 1) (List.mem_of_getElem? (i := 62) rfl)
theorem dX9_far_107 : decode cX9_far 107 = .ok (.getfield 170, 3) := tX9_far_ok (107, .getfield 170, 3) (List.mem_of_getElem? (i := 63) rfl)
theorem dX9_far_110 : decode cX9_far 110 = .ok (.iadd, 1) := tX9_far_ok (110, .iadd, 1) (List.mem_of_getElem? (i := 64) rfl)
theorem dX9_far_111 : decode cX9_far 111 = .ok (.laload, 1) := tX9_far_ok (111, .laload, 1) (List.mem_of_getElem? (i := 65) rfl)
theorem dX9_far_112 : decode cX9_far 112 = .ok (.l2i, 1) := tX9_far_ok (112, .l2i, 1) (List.mem_of_getElem? (i := 66) rfl)
theorem dX9_far_113 : decode cX9_far 113 = .ok (.ireturn, 1) := tX9_far_ok (113, .ireturn, 1) (List.mem_of_getElem? (i := 67) rfl)

def tX9_fillRow : List (Nat × Instr × Nat) := [
  (0, .aload_n 0, 1),
  (1, .invokevirtual 305, 3),
  (4, .iconst 0, 1),
  (5, .istore_n 1, 1),
  (6, .iload_n 1, 1),
  (7, .bipush 31, 2),
  (9, .if_icmp .ge 28, 3),
  (12, .aload_n 0, 1),
  (13, .getfield 103, 3),
  (16, .iload_n 1, 1),
  (17, .iload_n 1, 1),
  (18, .aload_n 0, 1),
  (19, .getfield 164, 3),
  (22, .if_icmp .ne 7, 3),
  (25, .lconst 1, 1),
  (26, .goto 4, 3),
  (29, .lconst 0, 1),
  (30, .lastore, 1),
  (31, .iinc 1 1, 3),
  (34, .goto (-28), 3),
  (37, .iconst 0, 1),
  (38, .istore_n 1, 1),
  (39, .iload_n 1, 1),
  (40, .sipush 128, 3),
  (43, .if_icmp .ge 126, 3),
  (46, .aload_n 0, 1),
  (47, .getfield 100, 3),
  (50, .iload_n 1, 1),
  (51, .aload_n 0, 1),
  (52, .getfield 103, 3),
  (55, .aload_n 0, 1),
  (56, .getfield 170, 3),
  (59, .laload, 1),
  (60, .lastore, 1),
  (61, .iconst 0, 1),
  (62, .istore_n 2, 1),
  (63, .iload_n 2, 1),
  (64, .aload_n 0, 1),
  (65, .getfield 23, 3),
  (68, .if_icmp .gt 67, 3),
  (71, .aload_n 0, 1),
  (72, .getfield 106, 3),
  (75, .iload_n 2, 1),
  (76, .lconst 0, 1),
  (77, .lastore, 1),
  (78, .iconst 0, 1),
  (79, .istore_n 3, 1),
  (80, .iload_n 3, 1),
  (81, .aload_n 0, 1),
  (82, .getfield 23, 3),
  (85, .if_icmp .gt 44, 3),
  (88, .aload_n 0, 1),
  (89, .getfield 106, 3),
  (92, .iload_n 2, 1),
  (93, .aload_n 0, 1),
  (94, .getfield 106, 3),
  (97, .iload_n 2, 1),
  (98, .laload, 1),
  (99, .aload_n 0, 1),
  (100, .getfield 103, 3),
  (103, .iload_n 3, 1),
  (104, .laload, 1),
  (105, .aload_n 0, 1),
  (106, .getfield 94, 3),
  (109, .bipush 31, 2),
  (111, .iload_n 3, 1),
  (112, .imul, 1),
  (113, .iload_n 2, 1),
  (114, .iadd, 1),
  (115, .laload, 1),
  (116, .lmul, 1),
  (117, .ladd, 1),
  (118, .ldc2_w 300, 3),
  (121, .lrem, 1),
  (122, .lastore, 1),
  (123, .iinc 3 1, 3),
  (126, .goto (-46), 3),
  (129, .iinc 2 1, 3),
  (132, .goto (-69), 3),
  (135, .iconst 0, 1),
  (136, .istore_n 2, 1),
  (137, .iload_n 2, 1),
  (138, .aload_n 0, 1),
  (139, .getfield 23, 3),
  (142, .if_icmp .gt 21, 3),
  (145, .aload_n 0, 1),
  (146, .getfield 103, 3),
  (149, .iload_n 2, 1),
  (150, .aload_n 0, 1),
  (151, .getfield 106, 3),
  (154, .iload_n 2, 1),
  (155, .laload, 1),
  (156, .lastore, 1),
  (157, .iinc 2 1, 3),
  (160, .goto (-23), 3),
  (163, .iinc 1 1, 3),
  (166, .goto (-127), 3),
  (169, .return_, 1)]
set_option maxRecDepth 100000 in
theorem tX9_fillRow_ok : ∀ q ∈ tX9_fillRow, decode cX9_fillRow q.1 = .ok q.2 := by decide +kernel
theorem dX9_fillRow_0 : decode cX9_fillRow 0 = .ok (.aload_n 0, 1) := tX9_fillRow_ok (0, .aload_n 0, 1) (List.mem_of_getElem? (i := 0) rfl)
theorem dX9_fillRow_1 : decode cX9_fillRow 1 = .ok (.invokevirtual 305, 3) := tX9_fillRow_ok (1, .invokevirtual 305, 3) (List.mem_of_getElem? (i := 1) rfl)
theorem dX9_fillRow_4 : decode cX9_fillRow 4 = .ok (.iconst 0, 1) := tX9_fillRow_ok (4, .iconst 0, 1) (List.mem_of_getElem? (i := 2) rfl)
theorem dX9_fillRow_5 : decode cX9_fillRow 5 = .ok (.istore_n 1, 1) := tX9_fillRow_ok (5, .istore_n 1, 1) (List.mem_of_getElem? (i := 3) rfl)
theorem dX9_fillRow_6 : decode cX9_fillRow 6 = .ok (.iload_n 1, 1) := tX9_fillRow_ok (6, .iload_n 1, 1) (List.mem_of_getElem? (i := 4) rfl)
theorem dX9_fillRow_7 : decode cX9_fillRow 7 = .ok (.bipush 31, 2) := tX9_fillRow_ok (7, .bipush 31, 2) (List.mem_of_getElem? (i := 5) rfl)
theorem dX9_fillRow_9 : decode cX9_fillRow 9 = .ok (.if_icmp .ge 28, 3) := tX9_fillRow_ok (9, .if_icmp .ge 28, 3) (List.mem_of_getElem? (i := 6) rfl)
theorem dX9_fillRow_12 : decode cX9_fillRow 12 = .ok (.aload_n 0, 1) := tX9_fillRow_ok (12, .aload_n 0, 1) (List.mem_of_getElem? (i := 7) rfl)
theorem dX9_fillRow_13 : decode cX9_fillRow 13 = .ok (.getfield 103, 3) := tX9_fillRow_ok (13, .getfield 103, 3) (List.mem_of_getElem? (i := 8) rfl)
theorem dX9_fillRow_16 : decode cX9_fillRow 16 = .ok (.iload_n 1, 1) := tX9_fillRow_ok (16, .iload_n 1, 1) (List.mem_of_getElem? (i := 9) rfl)
theorem dX9_fillRow_17 : decode cX9_fillRow 17 = .ok (.iload_n 1, 1) := tX9_fillRow_ok (17, .iload_n 1, 1) (List.mem_of_getElem? (i := 10) rfl)
theorem dX9_fillRow_18 : decode cX9_fillRow 18 = .ok (.aload_n 0, 1) := tX9_fillRow_ok (18, .aload_n 0, 1) (List.mem_of_getElem? (i := 11) rfl)
theorem dX9_fillRow_19 : decode cX9_fillRow 19 = .ok (.getfield 164, 3) := tX9_fillRow_ok (19, .getfield 164, 3) (List.mem_of_getElem? (i := 12) rfl)
theorem dX9_fillRow_22 : decode cX9_fillRow 22 = .ok (.if_icmp .ne 7, 3) := tX9_fillRow_ok (22, .if_icmp .ne 7, 3) (List.mem_of_getElem? (i := 13) rfl)
theorem dX9_fillRow_25 : decode cX9_fillRow 25 = .ok (.lconst 1, 1) := tX9_fillRow_ok (25, .lconst 1, 1) (List.mem_of_getElem? (i := 14) rfl)
theorem dX9_fillRow_26 : decode cX9_fillRow 26 = .ok (.goto 4, 3) := tX9_fillRow_ok (26, .goto 4, 3) (List.mem_of_getElem? (i := 15) rfl)
theorem dX9_fillRow_29 : decode cX9_fillRow 29 = .ok (.lconst 0, 1) := tX9_fillRow_ok (29, .lconst 0, 1) (List.mem_of_getElem? (i := 16) rfl)
theorem dX9_fillRow_30 : decode cX9_fillRow 30 = .ok (.lastore, 1) := tX9_fillRow_ok (30, .lastore, 1) (List.mem_of_getElem? (i := 17) rfl)
theorem dX9_fillRow_31 : decode cX9_fillRow 31 = .ok (.iinc 1 1, 3) := tX9_fillRow_ok (31, .iinc 1 1, 3) (List.mem_of_getElem? (i := 18) rfl)
theorem dX9_fillRow_34 : decode cX9_fillRow 34 = .ok (.goto (-28), 3) := tX9_fillRow_ok (34, .goto (-28), 3) (List.mem_of_getElem? (i := 19) rfl)
theorem dX9_fillRow_37 : decode cX9_fillRow 37 = .ok (.iconst 0, 1) := tX9_fillRow_ok (37, .iconst 0, 1) (List.mem_of_getElem? (i := 20) rfl)
theorem dX9_fillRow_38 : decode cX9_fillRow 38 = .ok (.istore_n 1, 1) := tX9_fillRow_ok (38, .istore_n 1, 1) (List.mem_of_getElem? (i := 21) rfl)
theorem dX9_fillRow_39 : decode cX9_fillRow 39 = .ok (.iload_n 1, 1) := tX9_fillRow_ok (39, .iload_n 1, 1) (List.mem_of_getElem? (i := 22) rfl)
theorem dX9_fillRow_40 : decode cX9_fillRow 40 = .ok (.sipush 128, 3) := tX9_fillRow_ok (40, .sipush 128, 3) (List.mem_of_getElem? (i := 23) rfl)
theorem dX9_fillRow_43 : decode cX9_fillRow 43 = .ok (.if_icmp .ge 126, 3) := tX9_fillRow_ok (43, .if_icmp .ge 126, 3) (List.mem_of_getElem? (i := 24) rfl)
theorem dX9_fillRow_46 : decode cX9_fillRow 46 = .ok (.aload_n 0, 1) := tX9_fillRow_ok (46, .aload_n 0, 1) (List.mem_of_getElem? (i := 25) rfl)
theorem dX9_fillRow_47 : decode cX9_fillRow 47 = .ok (.getfield 100, 3) := tX9_fillRow_ok (47, .getfield 100, 3) (List.mem_of_getElem? (i := 26) rfl)
theorem dX9_fillRow_50 : decode cX9_fillRow 50 = .ok (.iload_n 1, 1) := tX9_fillRow_ok (50, .iload_n 1, 1) (List.mem_of_getElem? (i := 27) rfl)
theorem dX9_fillRow_51 : decode cX9_fillRow 51 = .ok (.aload_n 0, 1) := tX9_fillRow_ok (51, .aload_n 0, 1) (List.mem_of_getElem? (i := 28) rfl)
theorem dX9_fillRow_52 : decode cX9_fillRow 52 = .ok (.getfield 103, 3) := tX9_fillRow_ok (52, .getfield 103, 3) (List.mem_of_getElem? (i := 29) rfl)
theorem dX9_fillRow_55 : decode cX9_fillRow 55 = .ok (.aload_n 0, 1) := tX9_fillRow_ok (55, .aload_n 0, 1) (List.mem_of_getElem? (i := 30) rfl)
theorem dX9_fillRow_56 : decode cX9_fillRow 56 = .ok (.getfield 170, 3) := tX9_fillRow_ok (56, .getfield 170, 3) (List.mem_of_getElem? (i := 31) rfl)
theorem dX9_fillRow_59 : decode cX9_fillRow 59 = .ok (.laload, 1) := tX9_fillRow_ok (59, .laload, 1) (List.mem_of_getElem? (i := 32) rfl)
theorem dX9_fillRow_60 : decode cX9_fillRow 60 = .ok (.lastore, 1) := tX9_fillRow_ok (60, .lastore, 1) (List.mem_of_getElem? (i := 33) rfl)
theorem dX9_fillRow_61 : decode cX9_fillRow 61 = .ok (.iconst 0, 1) := tX9_fillRow_ok (61, .iconst 0, 1) (List.mem_of_getElem? (i := 34) rfl)
theorem dX9_fillRow_62 : decode cX9_fillRow 62 = .ok (.istore_n 2, 1) := tX9_fillRow_ok (62, .istore_n 2, 1) (List.mem_of_getElem? (i := 35) rfl)
theorem dX9_fillRow_63 : decode cX9_fillRow 63 = .ok (.iload_n 2, 1) := tX9_fillRow_ok (63, .iload_n 2, 1) (List.mem_of_getElem? (i := 36) rfl)
theorem dX9_fillRow_64 : decode cX9_fillRow 64 = .ok (.aload_n 0, 1) := tX9_fillRow_ok (64, .aload_n 0, 1) (List.mem_of_getElem? (i := 37) rfl)
theorem dX9_fillRow_65 : decode cX9_fillRow 65 = .ok (.getfield 23, 3) := tX9_fillRow_ok (65, .getfield 23, 3) (List.mem_of_getElem? (i := 38) rfl)
theorem dX9_fillRow_68 : decode cX9_fillRow 68 = .ok (.if_icmp .gt 67, 3) := tX9_fillRow_ok (68, .if_icmp .gt 67, 3) (List.mem_of_getElem? (i := 39) rfl)
theorem dX9_fillRow_71 : decode cX9_fillRow 71 = .ok (.aload_n 0, 1) := tX9_fillRow_ok (71, .aload_n 0, 1) (List.mem_of_getElem? (i := 40) rfl)
theorem dX9_fillRow_72 : decode cX9_fillRow 72 = .ok (.getfield 106, 3) := tX9_fillRow_ok (72, .getfield 106, 3) (List.mem_of_getElem? (i := 41) rfl)
theorem dX9_fillRow_75 : decode cX9_fillRow 75 = .ok (.iload_n 2, 1) := tX9_fillRow_ok (75, .iload_n 2, 1) (List.mem_of_getElem? (i := 42) rfl)
theorem dX9_fillRow_76 : decode cX9_fillRow 76 = .ok (.lconst 0, 1) := tX9_fillRow_ok (76, .lconst 0, 1) (List.mem_of_getElem? (i := 43) rfl)
theorem dX9_fillRow_77 : decode cX9_fillRow 77 = .ok (.lastore, 1) := tX9_fillRow_ok (77, .lastore, 1) (List.mem_of_getElem? (i := 44) rfl)
theorem dX9_fillRow_78 : decode cX9_fillRow 78 = .ok (.iconst 0, 1) := tX9_fillRow_ok (78, .iconst 0, 1) (List.mem_of_getElem? (i := 45) rfl)
theorem dX9_fillRow_79 : decode cX9_fillRow 79 = .ok (.istore_n 3, 1) := tX9_fillRow_ok (79, .istore_n 3, 1) (List.mem_of_getElem? (i := 46) rfl)
theorem dX9_fillRow_80 : decode cX9_fillRow 80 = .ok (.iload_n 3, 1) := tX9_fillRow_ok (80, .iload_n 3, 1) (List.mem_of_getElem? (i := 47) rfl)
theorem dX9_fillRow_81 : decode cX9_fillRow 81 = .ok (.aload_n 0, 1) := tX9_fillRow_ok (81, .aload_n 0, 1) (List.mem_of_getElem? (i := 48) rfl)
theorem dX9_fillRow_82 : decode cX9_fillRow 82 = .ok (.getfield 23, 3) := tX9_fillRow_ok (82, .getfield 23, 3) (List.mem_of_getElem? (i := 49) rfl)
theorem dX9_fillRow_85 : decode cX9_fillRow 85 = .ok (.if_icmp .gt 44, 3) := tX9_fillRow_ok (85, .if_icmp .gt 44, 3) (List.mem_of_getElem? (i := 50) rfl)
theorem dX9_fillRow_88 : decode cX9_fillRow 88 = .ok (.aload_n 0, 1) := tX9_fillRow_ok (88, .aload_n 0, 1) (List.mem_of_getElem? (i := 51) rfl)
theorem dX9_fillRow_89 : decode cX9_fillRow 89 = .ok (.getfield 106, 3) := tX9_fillRow_ok (89, .getfield 106, 3) (List.mem_of_getElem? (i := 52) rfl)
theorem dX9_fillRow_92 : decode cX9_fillRow 92 = .ok (.iload_n 2, 1) := tX9_fillRow_ok (92, .iload_n 2, 1) (List.mem_of_getElem? (i := 53) rfl)
theorem dX9_fillRow_93 : decode cX9_fillRow 93 = .ok (.aload_n 0, 1) := tX9_fillRow_ok (93, .aload_n 0, 1) (List.mem_of_getElem? (i := 54) rfl)
theorem dX9_fillRow_94 : decode cX9_fillRow 94 = .ok (.getfield 106, 3) := tX9_fillRow_ok (94, .getfield 106, 3) (List.mem_of_getElem? (i := 55) rfl)
theorem dX9_fillRow_97 : decode cX9_fillRow 97 = .ok (.iload_n 2, 1) := tX9_fillRow_ok (97, .iload_n 2, 1) (List.mem_of_getElem? (i := 56) rfl)
theorem dX9_fillRow_98 : decode cX9_fillRow 98 = .ok (.laload, 1) := tX9_fillRow_ok (98, .laload, 1) (List.mem_of_getElem? (i := 57) rfl)
theorem dX9_fillRow_99 : decode cX9_fillRow 99 = .ok (.aload_n 0, 1) := tX9_fillRow_ok (99, .aload_n 0, 1) (List.mem_of_getElem? (i := 58) rfl)
theorem dX9_fillRow_100 : decode cX9_fillRow 100 = .ok (.getfield 103, 3) := tX9_fillRow_ok (100, .getfield 103, 3) (List.mem_of_getElem? (i := 59) rfl)
theorem dX9_fillRow_103 : decode cX9_fillRow 103 = .ok (.iload_n 3, 1) := tX9_fillRow_ok (103, .iload_n 3, 1) (List.mem_of_getElem? (i := 60) rfl)
theorem dX9_fillRow_104 : decode cX9_fillRow 104 = .ok (.laload, 1) := tX9_fillRow_ok (104, .laload, 1) (List.mem_of_getElem? (i := 61) rfl)
theorem dX9_fillRow_105 : decode cX9_fillRow 105 = .ok (.aload_n 0, 1) := tX9_fillRow_ok (105, .aload_n 0, 1) (List.mem_of_getElem? (i := 62) rfl)
theorem dX9_fillRow_106 : decode cX9_fillRow 106 = .ok (.getfield 94, 3) := tX9_fillRow_ok (106, .getfield 94, 3) (List.mem_of_getElem? (i := 63) rfl)
theorem dX9_fillRow_109 : decode cX9_fillRow 109 = .ok (.bipush 31, 2) := tX9_fillRow_ok (109, .bipush 31, 2) (List.mem_of_getElem? (i := 64) rfl)
theorem dX9_fillRow_111 : decode cX9_fillRow 111 = .ok (.iload_n 3, 1) := tX9_fillRow_ok (111, .iload_n 3, 1) (List.mem_of_getElem? (i := 65) rfl)
theorem dX9_fillRow_112 : decode cX9_fillRow 112 = .ok (.imul, 1) := tX9_fillRow_ok (112, .imul, 1) (List.mem_of_getElem? (i := 66) rfl)
theorem dX9_fillRow_113 : decode cX9_fillRow 113 = .ok (.iload_n 2, 1) := tX9_fillRow_ok (113, .iload_n 2, 1) (List.mem_of_getElem? (i := 67) rfl)
theorem dX9_fillRow_114 : decode cX9_fillRow 114 = .ok (.iadd, 1) := tX9_fillRow_ok (114, .iadd, 1) (List.mem_of_getElem? (i := 68) rfl)
theorem dX9_fillRow_115 : decode cX9_fillRow 115 = .ok (.laload, 1) := tX9_fillRow_ok (115, .laload, 1) (List.mem_of_getElem? (i := 69) rfl)
theorem dX9_fillRow_116 : decode cX9_fillRow 116 = .ok (.lmul, 1) := tX9_fillRow_ok (116, .lmul, 1) (List.mem_of_getElem? (i := 70) rfl)
theorem dX9_fillRow_117 : decode cX9_fillRow 117 = .ok (.ladd, 1) := tX9_fillRow_ok (117, .ladd, 1) (List.mem_of_getElem? (i := 71) rfl)
theorem dX9_fillRow_118 : decode cX9_fillRow 118 = .ok (.ldc2_w 300, 3) := tX9_fillRow_ok (118, .ldc2_w 300, 3) (List.mem_of_getElem? (i := 72) rfl)
theorem dX9_fillRow_121 : decode cX9_fillRow 121 = .ok (.lrem, 1) := tX9_fillRow_ok (121, .lrem, 1) (List.mem_of_getElem? (i := 73) rfl)
theorem dX9_fillRow_122 : decode cX9_fillRow 122 = .ok (.lastore, 1) := tX9_fillRow_ok (122, .lastore, 1) (List.mem_of_getElem? (i := 74) rfl)
theorem dX9_fillRow_123 : decode cX9_fillRow 123 = .ok (.iinc 3 1, 3) := tX9_fillRow_ok (123, .iinc 3 1, 3) (List.mem_of_getElem? (i := 75) rfl)
theorem dX9_fillRow_126 : decode cX9_fillRow 126 = .ok (.goto (-46), 3) := tX9_fillRow_ok (126, .goto (-46), 3) (List.mem_of_getElem? (i := 76) rfl)
theorem dX9_fillRow_129 : decode cX9_fillRow 129 = .ok (.iinc 2 1, 3) := tX9_fillRow_ok (129, .iinc 2 1, 3) (List.mem_of_getElem? (i := 77) rfl)
theorem dX9_fillRow_132 : decode cX9_fillRow 132 = .ok (.goto (-69), 3) := tX9_fillRow_ok (132, .goto (-69), 3) (List.mem_of_getElem? (i := 78) rfl)
theorem dX9_fillRow_135 : decode cX9_fillRow 135 = .ok (.iconst 0, 1) := tX9_fillRow_ok (135, .iconst 0, 1) (List.mem_of_getElem? (i := 79) rfl)
theorem dX9_fillRow_136 : decode cX9_fillRow 136 = .ok (.istore_n 2, 1) := tX9_fillRow_ok (136, .istore_n 2, 1) (List.mem_of_getElem? (i := 80) rfl)
theorem dX9_fillRow_137 : decode cX9_fillRow 137 = .ok (.iload_n 2, 1) := tX9_fillRow_ok (137, .iload_n 2, 1) (List.mem_of_getElem? (i := 81) rfl)
theorem dX9_fillRow_138 : decode cX9_fillRow 138 = .ok (.aload_n 0, 1) := tX9_fillRow_ok (138, .aload_n 0, 1) (List.mem_of_getElem? (i := 82) rfl)
theorem dX9_fillRow_139 : decode cX9_fillRow 139 = .ok (.getfield 23, 3) := tX9_fillRow_ok (139, .getfield 23, 3) (List.mem_of_getElem? (i := 83) rfl)
theorem dX9_fillRow_142 : decode cX9_fillRow 142 = .ok (.if_icmp .gt 21, 3) := tX9_fillRow_ok (142, .if_icmp .gt 21, 3) (List.mem_of_getElem? (i := 84) rfl)
theorem dX9_fillRow_145 : decode cX9_fillRow 145 = .ok (.aload_n 0, 1) := tX9_fillRow_ok (145, .aload_n 0, 1) (List.mem_of_getElem? (i := 85) rfl)
theorem dX9_fillRow_146 : decode cX9_fillRow 146 = .ok (.getfield 103, 3) := tX9_fillRow_ok (146, .getfield 103, 3) (List.mem_of_getElem? (i := 86) rfl)
theorem dX9_fillRow_149 : decode cX9_fillRow 149 = .ok (.iload_n 2, 1) := tX9_fillRow_ok (149, .iload_n 2, 1) (List.mem_of_getElem? (i := 87) rfl)
theorem dX9_fillRow_150 : decode cX9_fillRow 150 = .ok (.aload_n 0, 1) := tX9_fillRow_ok (150, .aload_n 0, 1) (List.mem_of_getElem? (i := 88) rfl)
theorem dX9_fillRow_151 : decode cX9_fillRow 151 = .ok (.getfield 106, 3) := tX9_fillRow_ok (151, .getfield 106, 3) (List.mem_of_getElem? (i := 89) rfl)
theorem dX9_fillRow_154 : decode cX9_fillRow 154 = .ok (.iload_n 2, 1) := tX9_fillRow_ok (154, .iload_n 2, 1) (List.mem_of_getElem? (i := 90) rfl)
theorem dX9_fillRow_155 : decode cX9_fillRow 155 = .ok (.laload, 1) := tX9_fillRow_ok (155, .laload, 1) (List.mem_of_getElem? (i := 91) rfl)
theorem dX9_fillRow_156 : decode cX9_fillRow 156 = .ok (.lastore, 1) := tX9_fillRow_ok (156, .lastore, 1) (List.mem_of_getElem? (i := 92) rfl)
theorem dX9_fillRow_157 : decode cX9_fillRow 157 = .ok (.iinc 2 1, 3) := tX9_fillRow_ok (157, .iinc 2 1, 3) (List.mem_of_getElem? (i := 93) rfl)
theorem dX9_fillRow_160 : decode cX9_fillRow 160 = .ok (.goto (-23), 3) := tX9_fillRow_ok (160, .goto (-23), 3) (List.mem_of_getElem? (i := 94) rfl)
theorem dX9_fillRow_163 : decode cX9_fillRow 163 = .ok (.iinc 1 1, 3) := tX9_fillRow_ok (163, .iinc 1 1, 3) (List.mem_of_getElem? (i := 95) rfl)
theorem dX9_fillRow_166 : decode cX9_fillRow 166 = .ok (.goto (-127), 3) := tX9_fillRow_ok (166, .goto (-127), 3) (List.mem_of_getElem? (i := 96) rfl)
theorem dX9_fillRow_169 : decode cX9_fillRow 169 = .ok (.return_, 1) := tX9_fillRow_ok (169, .return_, 1) (List.mem_of_getElem? (i := 97) rfl)

def tX9_inverse : List (Nat × Instr × Nat) := [
  (0, .lconst 1, 1),
  (1, .lstore_n 2, 1),
  (2, .lload_n 0, 1),
  (3, .lstore 4, 2),
  (5, .ldc_w 312, 3),
  (8, .istore 6, 2),
  (10, .iload 6, 2),
  (12, .ifCond .le 40, 3),
  (15, .iload 6, 2),
  (17, .iconst 1, 1),
  (18, .iand, 1),
  (19, .iconst 1, 1),
  (20, .if_icmp .ne 12, 3),
  (23, .lload_n 2, 1),
  (24, .lload 4, 2),
  (26, .lmul, 1),
  (27, .ldc2_w 300, 3),
  (30, .lrem, 1),
  (31, .lstore_n 2, 1),
  (32, .lload 4, 2),
  (34, .lload 4, 2),
  (36, .lmul, 1),
  (37, .ldc2_w 300, 3),
  (40, .lrem, 1),
  (41, .lstore 4, 2),
  (43, .iload 6, 2),
  (45, .iconst 1, 1),
  (46, .ishr, 1),
  (47, .istore 6, 2),
  (49, .goto (-39), 3),
  (52, .lload_n 2, 1),
  (53, .lreturn, 1)]
set_option maxRecDepth 100000 in
theorem tX9_inverse_ok : ∀ q ∈ tX9_inverse, decode cX9_inverse q.1 = .ok q.2 := by decide +kernel
theorem dX9_inverse_0 : decode cX9_inverse 0 = .ok (.lconst 1, 1) := tX9_inverse_ok (0, .lconst 1, 1) (List.mem_of_getElem? (i := 0) rfl)
theorem dX9_inverse_1 : decode cX9_inverse 1 = .ok (.lstore_n 2, 1) := tX9_inverse_ok (1, .lstore_n 2, 1) (List.mem_of_getElem? (i := 1) rfl)
theorem dX9_inverse_2 : decode cX9_inverse 2 = .ok (.lload_n 0, 1) := tX9_inverse_ok (2, .lload_n 0, 1) (List.mem_of_getElem? (i := 2) rfl)
theorem dX9_inverse_3 : decode cX9_inverse 3 = .ok (.lstore 4, 2) := tX9_inverse_ok (3, .lstore 4, 2) (List.mem_of_getElem? (i := 3) rfl)
theorem dX9_inverse_5 : decode cX9_inverse 5 = .ok (.ldc_w 312, 3) := tX9_inverse_ok (5, .ldc_w 312, 3) (List.mem_of_getElem? (i := 4) rfl)
theorem dX9_inverse_8 : decode cX9_inverse 8 = .ok (.istore 6, 2) := tX9_inverse_ok (8, .istore 6, 2) (List.mem_of_getElem? (i := 5) rfl)
theorem dX9_inverse_10 : decode cX9_inverse 10 = .ok (.iload 6, 2) := tX9_inverse_ok (10, .iload 6, 2) (List.mem_of_getElem? (i := 6) rfl)
theorem dX9_inverse_12 : decode cX9_inverse 12 = .ok (.ifCond .le 40, 3) := tX9_inverse_ok (12, .ifCond .le 40, 3) (List.mem_of_getElem? (i := 7) rfl)
theorem dX9_inverse_15 : decode cX9_inverse 15 = .ok (.iload 6, 2) := tX9_inverse_ok (15, .iload 6, 2) (List.mem_of_getElem? (i := 8) rfl)
theorem dX9_inverse_17 : decode cX9_inverse 17 = .ok (.iconst 1, 1) := tX9_inverse_ok (17, .iconst 1, 1) (List.mem_of_getElem? (i := 9) rfl)
theorem dX9_inverse_18 : decode cX9_inverse 18 = .ok (.iand, 1) := tX9_inverse_ok (18, .iand, 1) (List.mem_of_getElem? (i := 10) rfl)
theorem dX9_inverse_19 : decode cX9_inverse 19 = .ok (.iconst 1, 1) := tX9_inverse_ok (19, .iconst 1, 1) (List.mem_of_getElem? (i := 11) rfl)
theorem dX9_inverse_20 : decode cX9_inverse 20 = .ok (.if_icmp .ne 12, 3) := tX9_inverse_ok (20, .if_icmp .ne 12, 3) (List.mem_of_getElem? (i := 12) rfl)
theorem dX9_inverse_23 : decode cX9_inverse 23 = .ok (.lload_n 2, 1) := tX9_inverse_ok (23, .lload_n 2, 1) (List.mem_of_getElem? (i := 13) rfl)
theorem dX9_inverse_24 : decode cX9_inverse 24 = .ok (.lload 4, 2) := tX9_inverse_ok (24, .lload 4, 2) (List.mem_of_getElem? (i := 14) rfl)
theorem dX9_inverse_26 : decode cX9_inverse 26 = .ok (.lmul, 1) := tX9_inverse_ok (26, .lmul, 1) (List.mem_of_getElem? (i := 15) rfl)
theorem dX9_inverse_27 : decode cX9_inverse 27 = .ok (.ldc2_w 300, 3) := tX9_inverse_ok (27, .ldc2_w 300, 3) (List.mem_of_getElem? (i := 16) rfl)
theorem dX9_inverse_30 : decode cX9_inverse 30 = .ok (.lrem, 1) := tX9_inverse_ok (30, .lrem, 1) (List.mem_of_getElem? (i := 17) rfl)
theorem dX9_inverse_31 : decode cX9_inverse 31 = .ok (.lstore_n 2, 1) := tX9_inverse_ok (31, .lstore_n 2, 1) (List.mem_of_getElem? (i := 18) rfl)
theorem dX9_inverse_32 : decode cX9_inverse 32 = .ok (.lload 4, 2) := tX9_inverse_ok (32, .lload 4, 2) (List.mem_of_getElem? (i := 19) rfl)
theorem dX9_inverse_34 : decode cX9_inverse 34 = .ok (.lload 4, 2) := tX9_inverse_ok (34, .lload 4, 2) (List.mem_of_getElem? (i := 20) rfl)
theorem dX9_inverse_36 : decode cX9_inverse 36 = .ok (.lmul, 1) := tX9_inverse_ok (36, .lmul, 1) (List.mem_of_getElem? (i := 21) rfl)
theorem dX9_inverse_37 : decode cX9_inverse 37 = .ok (.ldc2_w 300, 3) := tX9_inverse_ok (37, .ldc2_w 300, 3) (List.mem_of_getElem? (i := 22) rfl)
theorem dX9_inverse_40 : decode cX9_inverse 40 = .ok (.lrem, 1) := tX9_inverse_ok (40, .lrem, 1) (List.mem_of_getElem? (i := 23) rfl)
theorem dX9_inverse_41 : decode cX9_inverse 41 = .ok (.lstore 4, 2) := tX9_inverse_ok (41, .lstore 4, 2) (List.mem_of_getElem? (i := 24) rfl)
theorem dX9_inverse_43 : decode cX9_inverse 43 = .ok (.iload 6, 2) := tX9_inverse_ok (43, .iload 6, 2) (List.mem_of_getElem? (i := 25) rfl)
theorem dX9_inverse_45 : decode cX9_inverse 45 = .ok (.iconst 1, 1) := tX9_inverse_ok (45, .iconst 1, 1) (List.mem_of_getElem? (i := 26) rfl)
theorem dX9_inverse_46 : decode cX9_inverse 46 = .ok (.ishr, 1) := tX9_inverse_ok (46, .ishr, 1) (List.mem_of_getElem? (i := 27) rfl)
theorem dX9_inverse_47 : decode cX9_inverse 47 = .ok (.istore 6, 2) := tX9_inverse_ok (47, .istore 6, 2) (List.mem_of_getElem? (i := 28) rfl)
theorem dX9_inverse_49 : decode cX9_inverse 49 = .ok (.goto (-39), 3) := tX9_inverse_ok (49, .goto (-39), 3) (List.mem_of_getElem? (i := 29) rfl)
theorem dX9_inverse_52 : decode cX9_inverse 52 = .ok (.lload_n 2, 1) := tX9_inverse_ok (52, .lload_n 2, 1) (List.mem_of_getElem? (i := 30) rfl)
theorem dX9_inverse_53 : decode cX9_inverse 53 = .ok (.lreturn, 1) := tX9_inverse_ok (53, .lreturn, 1) (List.mem_of_getElem? (i := 31) rfl)

def tX9_solves : List (Nat × Instr × Nat) := [
  (0, .aload_n 0, 1),
  (1, .getfield 23, 3),
  (4, .iconst 1, 1),
  (5, .iadd, 1),
  (6, .istore_n 2, 1),
  (7, .iload_n 1, 1),
  (8, .iconst 1, 1),
  (9, .iadd, 1),
  (10, .istore_n 3, 1),
  (11, .iconst 0, 1),
  (12, .istore 4, 2),
  (14, .iload 4, 2),
  (16, .iload_n 2, 1),
  (17, .if_icmp .ge 70, 3),
  (20, .iconst 0, 1),
  (21, .istore 5, 2),
  (23, .iload 5, 2),
  (25, .iload_n 1, 1),
  (26, .if_icmp .ge 35, 3),
  (29, .aload_n 0, 1),
  (30, .getfield 109, 3),
  (33, .iload_n 3, 1),
  (34, .iload 4, 2),
  (36, .imul, 1),
  (37, .iload 5, 2),
  (39, .iadd, 1),
  (40, .aload_n 0, 1),
  (41, .getfield 100, 3),
  (44, .iload_n 1, 1),
  (45, .iload 4, 2),
  (47, .iadd, 1),
  (48, .iconst 1, 1),
  (49, .isub, 1),
  (50, .iload 5, 2),
  (52, .isub, 1),
  (53, .laload, 1),
  (54, .lastore, 1),
  (55, .iinc 5 1, 3),
  (58, .goto (-35), 3),
  (61, .aload_n 0, 1),
  (62, .getfield 109, 3),
  (65, .iload_n 3, 1),
  (66, .iload 4, 2),
  (68, .imul, 1),
  (69, .iload_n 1, 1),
  (70, .iadd, 1),
  (71, .aload_n 0, 1),
  (72, .getfield 100, 3),
  (75, .iload_n 1, 1),
  (76, .iload 4, 2),
  (78, .iadd, 1),
  (79, .laload, 1),
  (80, .lastore, 1),
  (81, .iinc 4 1, 3),
  (84, .goto (-70), 3),
  (87, .iconst 0, 1),
  (88, .istore 4, 2),
  (90, .iconst 0, 1),
  (91, .istore 5, 2),
  (93, .iload 5, 2),
  (95, .iload_n 1, 1),
  (96, .if_icmp .ge 65, 3),
  (99, .iload 4, 2),
  (101, .istore 6, 2),
  (103, .iload 6, 2),
  (105, .iload_n 2, 1),
  (106, .if_icmp .ge 26, 3),
  (109, .aload_n 0, 1),
  (110, .getfield 109, 3),
  (113, .iload_n 3, 1),
  (114, .iload 6, 2),
  (116, .imul, 1),
  (117, .iload 5, 2),
  (119, .iadd, 1),
  (120, .laload, 1),
  (121, .lconst 0, 1),
  (122, .lcmp, 1),
  (123, .ifCond .ne 9, 3),
  (126, .iinc 6 1, 3),
  (129, .goto (-26), 3),
  (132, .iload 6, 2),
  (134, .iload_n 2, 1),
  (135, .if_icmp .ne 5, 3),
  (138, .iconst 0, 1),
  (139, .ireturn, 1),
  (140, .aload_n 0, 1),
  (141, .iload 4, 2),
  (143, .iload 6, 2),
  (145, .iload 5, 2),
  (147, .iload_n 3, 1),
  (148, .iload_n 2, 1),
  (149, .invokevirtual 313, 3),
  (152, .iinc 4 1, 3),
  (155, .iinc 5 1, 3),
  (158, .goto (-65), 3),
  (161, .iload 4, 2),
  (163, .istore 5, 2),
  (165, .iload 5, 2),
  (167, .iload_n 2, 1),
  (168, .if_icmp .ge 27, 3),
  (171, .aload_n 0, 1),
  (172, .getfield 109, 3),
  (175, .iload_n 3, 1),
  (176, .iload 5, 2),
  (178, .imul, 1),
  (179, .iload_n 1, 1),
  (180, .iadd, 1),
  (181, .laload, 1),
  (182, .lconst 0, 1),
  (183, .lcmp, 1),
  (184, .ifCond .eq 5, 3),
  (187, .iconst 0, 1),
  (188, .ireturn, 1),
  (189, .iinc 5 1, 3),
  (192, .goto (-27), 3),
  (195, .aload_n 0, 1),
  (196, .iload_n 1, 1),
  (197, .putfield 72, 3),
  (200, .iconst 0, 1),
  (201, .istore 5, 2),
  (203, .iload 5, 2),
  (205, .iload_n 1, 1),
  (206, .if_icmp .ge 27, 3),
  (209, .aload_n 0, 1),
  (210, .getfield 75, 3),
  (213, .iload 5, 2),
  (215, .aload_n 0, 1),
  (216, .getfield 109, 3),
  (219, .iload_n 3, 1),
  (220, .iload 5, 2),
  (222, .imul, 1),
  (223, .iload_n 1, 1),
  (224, .iadd, 1),
  (225, .laload, 1),
  (226, .lastore, 1),
  (227, .iinc 5 1, 3),
  (230, .goto (-27), 3),
  (233, .iconst 1, 1),
  (234, .ireturn, 1)]
set_option maxRecDepth 100000 in
theorem tX9_solves_ok : ∀ q ∈ tX9_solves, decode cX9_solves q.1 = .ok q.2 := by decide +kernel
theorem dX9_solves_0 : decode cX9_solves 0 = .ok (.aload_n 0, 1) := tX9_solves_ok (0, .aload_n 0, 1) (List.mem_of_getElem? (i := 0) rfl)
theorem dX9_solves_1 : decode cX9_solves 1 = .ok (.getfield 23, 3) := tX9_solves_ok (1, .getfield 23, 3) (List.mem_of_getElem? (i := 1) rfl)
theorem dX9_solves_4 : decode cX9_solves 4 = .ok (.iconst 1, 1) := tX9_solves_ok (4, .iconst 1, 1) (List.mem_of_getElem? (i := 2) rfl)
theorem dX9_solves_5 : decode cX9_solves 5 = .ok (.iadd, 1) := tX9_solves_ok (5, .iadd, 1) (List.mem_of_getElem? (i := 3) rfl)
theorem dX9_solves_6 : decode cX9_solves 6 = .ok (.istore_n 2, 1) := tX9_solves_ok (6, .istore_n 2, 1) (List.mem_of_getElem? (i := 4) rfl)
theorem dX9_solves_7 : decode cX9_solves 7 = .ok (.iload_n 1, 1) := tX9_solves_ok (7, .iload_n 1, 1) (List.mem_of_getElem? (i := 5) rfl)
theorem dX9_solves_8 : decode cX9_solves 8 = .ok (.iconst 1, 1) := tX9_solves_ok (8, .iconst 1, 1) (List.mem_of_getElem? (i := 6) rfl)
theorem dX9_solves_9 : decode cX9_solves 9 = .ok (.iadd, 1) := tX9_solves_ok (9, .iadd, 1) (List.mem_of_getElem? (i := 7) rfl)
theorem dX9_solves_10 : decode cX9_solves 10 = .ok (.istore_n 3, 1) := tX9_solves_ok (10, .istore_n 3, 1) (List.mem_of_getElem? (i := 8) rfl)
theorem dX9_solves_11 : decode cX9_solves 11 = .ok (.iconst 0, 1) := tX9_solves_ok (11, .iconst 0, 1) (List.mem_of_getElem? (i := 9) rfl)
theorem dX9_solves_12 : decode cX9_solves 12 = .ok (.istore 4, 2) := tX9_solves_ok (12, .istore 4, 2) (List.mem_of_getElem? (i := 10) rfl)
theorem dX9_solves_14 : decode cX9_solves 14 = .ok (.iload 4, 2) := tX9_solves_ok (14, .iload 4, 2) (List.mem_of_getElem? (i := 11) rfl)
theorem dX9_solves_16 : decode cX9_solves 16 = .ok (.iload_n 2, 1) := tX9_solves_ok (16, .iload_n 2, 1) (List.mem_of_getElem? (i := 12) rfl)
theorem dX9_solves_17 : decode cX9_solves 17 = .ok (.if_icmp .ge 70, 3) := tX9_solves_ok (17, .if_icmp .ge 70, 3) (List.mem_of_getElem? (i := 13) rfl)
theorem dX9_solves_20 : decode cX9_solves 20 = .ok (.iconst 0, 1) := tX9_solves_ok (20, .iconst 0, 1) (List.mem_of_getElem? (i := 14) rfl)
theorem dX9_solves_21 : decode cX9_solves 21 = .ok (.istore 5, 2) := tX9_solves_ok (21, .istore 5, 2) (List.mem_of_getElem? (i := 15) rfl)
theorem dX9_solves_23 : decode cX9_solves 23 = .ok (.iload 5, 2) := tX9_solves_ok (23, .iload 5, 2) (List.mem_of_getElem? (i := 16) rfl)
theorem dX9_solves_25 : decode cX9_solves 25 = .ok (.iload_n 1, 1) := tX9_solves_ok (25, .iload_n 1, 1) (List.mem_of_getElem? (i := 17) rfl)
theorem dX9_solves_26 : decode cX9_solves 26 = .ok (.if_icmp .ge 35, 3) := tX9_solves_ok (26, .if_icmp .ge 35, 3) (List.mem_of_getElem? (i := 18) rfl)
theorem dX9_solves_29 : decode cX9_solves 29 = .ok (.aload_n 0, 1) := tX9_solves_ok (29, .aload_n 0, 1) (List.mem_of_getElem? (i := 19) rfl)
theorem dX9_solves_30 : decode cX9_solves 30 = .ok (.getfield 109, 3) := tX9_solves_ok (30, .getfield 109, 3) (List.mem_of_getElem? (i := 20) rfl)
theorem dX9_solves_33 : decode cX9_solves 33 = .ok (.iload_n 3, 1) := tX9_solves_ok (33, .iload_n 3, 1) (List.mem_of_getElem? (i := 21) rfl)
theorem dX9_solves_34 : decode cX9_solves 34 = .ok (.iload 4, 2) := tX9_solves_ok (34, .iload 4, 2) (List.mem_of_getElem? (i := 22) rfl)
theorem dX9_solves_36 : decode cX9_solves 36 = .ok (.imul, 1) := tX9_solves_ok (36, .imul, 1) (List.mem_of_getElem? (i := 23) rfl)
theorem dX9_solves_37 : decode cX9_solves 37 = .ok (.iload 5, 2) := tX9_solves_ok (37, .iload 5, 2) (List.mem_of_getElem? (i := 24) rfl)
theorem dX9_solves_39 : decode cX9_solves 39 = .ok (.iadd, 1) := tX9_solves_ok (39, .iadd, 1) (List.mem_of_getElem? (i := 25) rfl)
theorem dX9_solves_40 : decode cX9_solves 40 = .ok (.aload_n 0, 1) := tX9_solves_ok (40, .aload_n 0, 1) (List.mem_of_getElem? (i := 26) rfl)
theorem dX9_solves_41 : decode cX9_solves 41 = .ok (.getfield 100, 3) := tX9_solves_ok (41, .getfield 100, 3) (List.mem_of_getElem? (i := 27) rfl)
theorem dX9_solves_44 : decode cX9_solves 44 = .ok (.iload_n 1, 1) := tX9_solves_ok (44, .iload_n 1, 1) (List.mem_of_getElem? (i := 28) rfl)
theorem dX9_solves_45 : decode cX9_solves 45 = .ok (.iload 4, 2) := tX9_solves_ok (45, .iload 4, 2) (List.mem_of_getElem? (i := 29) rfl)
theorem dX9_solves_47 : decode cX9_solves 47 = .ok (.iadd, 1) := tX9_solves_ok (47, .iadd, 1) (List.mem_of_getElem? (i := 30) rfl)
theorem dX9_solves_48 : decode cX9_solves 48 = .ok (.iconst 1, 1) := tX9_solves_ok (48, .iconst 1, 1) (List.mem_of_getElem? (i := 31) rfl)
theorem dX9_solves_49 : decode cX9_solves 49 = .ok (.isub, 1) := tX9_solves_ok (49, .isub, 1) (List.mem_of_getElem? (i := 32) rfl)
theorem dX9_solves_50 : decode cX9_solves 50 = .ok (.iload 5, 2) := tX9_solves_ok (50, .iload 5, 2) (List.mem_of_getElem? (i := 33) rfl)
theorem dX9_solves_52 : decode cX9_solves 52 = .ok (.isub, 1) := tX9_solves_ok (52, .isub, 1) (List.mem_of_getElem? (i := 34) rfl)
theorem dX9_solves_53 : decode cX9_solves 53 = .ok (.laload, 1) := tX9_solves_ok (53, .laload, 1) (List.mem_of_getElem? (i := 35) rfl)
theorem dX9_solves_54 : decode cX9_solves 54 = .ok (.lastore, 1) := tX9_solves_ok (54, .lastore, 1) (List.mem_of_getElem? (i := 36) rfl)
theorem dX9_solves_55 : decode cX9_solves 55 = .ok (.iinc 5 1, 3) := tX9_solves_ok (55, .iinc 5 1, 3) (List.mem_of_getElem? (i := 37) rfl)
theorem dX9_solves_58 : decode cX9_solves 58 = .ok (.goto (-35), 3) := tX9_solves_ok (58, .goto (-35), 3) (List.mem_of_getElem? (i := 38) rfl)
theorem dX9_solves_61 : decode cX9_solves 61 = .ok (.aload_n 0, 1) := tX9_solves_ok (61, .aload_n 0, 1) (List.mem_of_getElem? (i := 39) rfl)
theorem dX9_solves_62 : decode cX9_solves 62 = .ok (.getfield 109, 3) := tX9_solves_ok (62, .getfield 109, 3) (List.mem_of_getElem? (i := 40) rfl)
theorem dX9_solves_65 : decode cX9_solves 65 = .ok (.iload_n 3, 1) := tX9_solves_ok (65, .iload_n 3, 1) (List.mem_of_getElem? (i := 41) rfl)
theorem dX9_solves_66 : decode cX9_solves 66 = .ok (.iload 4, 2) := tX9_solves_ok (66, .iload 4, 2) (List.mem_of_getElem? (i := 42) rfl)
theorem dX9_solves_68 : decode cX9_solves 68 = .ok (.imul, 1) := tX9_solves_ok (68, .imul, 1) (List.mem_of_getElem? (i := 43) rfl)
theorem dX9_solves_69 : decode cX9_solves 69 = .ok (.iload_n 1, 1) := tX9_solves_ok (69, .iload_n 1, 1) (List.mem_of_getElem? (i := 44) rfl)
theorem dX9_solves_70 : decode cX9_solves 70 = .ok (.iadd, 1) := tX9_solves_ok (70, .iadd, 1) (List.mem_of_getElem? (i := 45) rfl)
theorem dX9_solves_71 : decode cX9_solves 71 = .ok (.aload_n 0, 1) := tX9_solves_ok (71, .aload_n 0, 1) (List.mem_of_getElem? (i := 46) rfl)
theorem dX9_solves_72 : decode cX9_solves 72 = .ok (.getfield 100, 3) := tX9_solves_ok (72, .getfield 100, 3) (List.mem_of_getElem? (i := 47) rfl)
theorem dX9_solves_75 : decode cX9_solves 75 = .ok (.iload_n 1, 1) := tX9_solves_ok (75, .iload_n 1, 1) (List.mem_of_getElem? (i := 48) rfl)
theorem dX9_solves_76 : decode cX9_solves 76 = .ok (.iload 4, 2) := tX9_solves_ok (76, .iload 4, 2) (List.mem_of_getElem? (i := 49) rfl)
theorem dX9_solves_78 : decode cX9_solves 78 = .ok (.iadd, 1) := tX9_solves_ok (78, .iadd, 1) (List.mem_of_getElem? (i := 50) rfl)
theorem dX9_solves_79 : decode cX9_solves 79 = .ok (.laload, 1) := tX9_solves_ok (79, .laload, 1) (List.mem_of_getElem? (i := 51) rfl)
theorem dX9_solves_80 : decode cX9_solves 80 = .ok (.lastore, 1) := tX9_solves_ok (80, .lastore, 1) (List.mem_of_getElem? (i := 52) rfl)
theorem dX9_solves_81 : decode cX9_solves 81 = .ok (.iinc 4 1, 3) := tX9_solves_ok (81, .iinc 4 1, 3) (List.mem_of_getElem? (i := 53) rfl)
theorem dX9_solves_84 : decode cX9_solves 84 = .ok (.goto (-70), 3) := tX9_solves_ok (84, .goto (-70), 3) (List.mem_of_getElem? (i := 54) rfl)
theorem dX9_solves_87 : decode cX9_solves 87 = .ok (.iconst 0, 1) := tX9_solves_ok (87, .iconst 0, 1) (List.mem_of_getElem? (i := 55) rfl)
theorem dX9_solves_88 : decode cX9_solves 88 = .ok (.istore 4, 2) := tX9_solves_ok (88, .istore 4, 2) (List.mem_of_getElem? (i := 56) rfl)
theorem dX9_solves_90 : decode cX9_solves 90 = .ok (.iconst 0, 1) := tX9_solves_ok (90, .iconst 0, 1) (List.mem_of_getElem? (i := 57) rfl)
theorem dX9_solves_91 : decode cX9_solves 91 = .ok (.istore 5, 2) := tX9_solves_ok (91, .istore 5, 2) (List.mem_of_getElem? (i := 58) rfl)
theorem dX9_solves_93 : decode cX9_solves 93 = .ok (.iload 5, 2) := tX9_solves_ok (93, .iload 5, 2) (List.mem_of_getElem? (i := 59) rfl)
theorem dX9_solves_95 : decode cX9_solves 95 = .ok (.iload_n 1, 1) := tX9_solves_ok (95, .iload_n 1, 1) (List.mem_of_getElem? (i := 60) rfl)
theorem dX9_solves_96 : decode cX9_solves 96 = .ok (.if_icmp .ge 65, 3) := tX9_solves_ok (96, .if_icmp .ge 65, 3) (List.mem_of_getElem? (i := 61) rfl)
theorem dX9_solves_99 : decode cX9_solves 99 = .ok (.iload 4, 2) := tX9_solves_ok (99, .iload 4, 2) (List.mem_of_getElem? (i := 62) rfl)
theorem dX9_solves_101 : decode cX9_solves 101 = .ok (.istore 6, 2) := tX9_solves_ok (101, .istore 6, 2) (List.mem_of_getElem? (i := 63) rfl)
theorem dX9_solves_103 : decode cX9_solves 103 = .ok (.iload 6, 2) := tX9_solves_ok (103, .iload 6, 2) (List.mem_of_getElem? (i := 64) rfl)
theorem dX9_solves_105 : decode cX9_solves 105 = .ok (.iload_n 2, 1) := tX9_solves_ok (105, .iload_n 2, 1) (List.mem_of_getElem? (i := 65) rfl)
theorem dX9_solves_106 : decode cX9_solves 106 = .ok (.if_icmp .ge 26, 3) := tX9_solves_ok (106, .if_icmp .ge 26, 3) (List.mem_of_getElem? (i := 66) rfl)
theorem dX9_solves_109 : decode cX9_solves 109 = .ok (.aload_n 0, 1) := tX9_solves_ok (109, .aload_n 0, 1) (List.mem_of_getElem? (i := 67) rfl)
theorem dX9_solves_110 : decode cX9_solves 110 = .ok (.getfield 109, 3) := tX9_solves_ok (110, .getfield 109, 3) (List.mem_of_getElem? (i := 68) rfl)
theorem dX9_solves_113 : decode cX9_solves 113 = .ok (.iload_n 3, 1) := tX9_solves_ok (113, .iload_n 3, 1) (List.mem_of_getElem? (i := 69) rfl)
theorem dX9_solves_114 : decode cX9_solves 114 = .ok (.iload 6, 2) := tX9_solves_ok (114, .iload 6, 2) (List.mem_of_getElem? (i := 70) rfl)
theorem dX9_solves_116 : decode cX9_solves 116 = .ok (.imul, 1) := tX9_solves_ok (116, .imul, 1) (List.mem_of_getElem? (i := 71) rfl)
theorem dX9_solves_117 : decode cX9_solves 117 = .ok (.iload 5, 2) := tX9_solves_ok (117, .iload 5, 2) (List.mem_of_getElem? (i := 72) rfl)
theorem dX9_solves_119 : decode cX9_solves 119 = .ok (.iadd, 1) := tX9_solves_ok (119, .iadd, 1) (List.mem_of_getElem? (i := 73) rfl)
theorem dX9_solves_120 : decode cX9_solves 120 = .ok (.laload, 1) := tX9_solves_ok (120, .laload, 1) (List.mem_of_getElem? (i := 74) rfl)
theorem dX9_solves_121 : decode cX9_solves 121 = .ok (.lconst 0, 1) := tX9_solves_ok (121, .lconst 0, 1) (List.mem_of_getElem? (i := 75) rfl)
theorem dX9_solves_122 : decode cX9_solves 122 = .ok (.lcmp, 1) := tX9_solves_ok (122, .lcmp, 1) (List.mem_of_getElem? (i := 76) rfl)
theorem dX9_solves_123 : decode cX9_solves 123 = .ok (.ifCond .ne 9, 3) := tX9_solves_ok (123, .ifCond .ne 9, 3) (List.mem_of_getElem? (i := 77) rfl)
theorem dX9_solves_126 : decode cX9_solves 126 = .ok (.iinc 6 1, 3) := tX9_solves_ok (126, .iinc 6 1, 3) (List.mem_of_getElem? (i := 78) rfl)
theorem dX9_solves_129 : decode cX9_solves 129 = .ok (.goto (-26), 3) := tX9_solves_ok (129, .goto (-26), 3) (List.mem_of_getElem? (i := 79) rfl)
theorem dX9_solves_132 : decode cX9_solves 132 = .ok (.iload 6, 2) := tX9_solves_ok (132, .iload 6, 2) (List.mem_of_getElem? (i := 80) rfl)
theorem dX9_solves_134 : decode cX9_solves 134 = .ok (.iload_n 2, 1) := tX9_solves_ok (134, .iload_n 2, 1) (List.mem_of_getElem? (i := 81) rfl)
theorem dX9_solves_135 : decode cX9_solves 135 = .ok (.if_icmp .ne 5, 3) := tX9_solves_ok (135, .if_icmp .ne 5, 3) (List.mem_of_getElem? (i := 82) rfl)
theorem dX9_solves_138 : decode cX9_solves 138 = .ok (.iconst 0, 1) := tX9_solves_ok (138, .iconst 0, 1) (List.mem_of_getElem? (i := 83) rfl)
theorem dX9_solves_139 : decode cX9_solves 139 = .ok (.ireturn, 1) := tX9_solves_ok (139, .ireturn, 1) (List.mem_of_getElem? (i := 84) rfl)
theorem dX9_solves_140 : decode cX9_solves 140 = .ok (.aload_n 0, 1) := tX9_solves_ok (140, .aload_n 0, 1) (List.mem_of_getElem? (i := 85) rfl)
theorem dX9_solves_141 : decode cX9_solves 141 = .ok (.iload 4, 2) := tX9_solves_ok (141, .iload 4, 2) (List.mem_of_getElem? (i := 86) rfl)
theorem dX9_solves_143 : decode cX9_solves 143 = .ok (.iload 6, 2) := tX9_solves_ok (143, .iload 6, 2) (List.mem_of_getElem? (i := 87) rfl)
theorem dX9_solves_145 : decode cX9_solves 145 = .ok (.iload 5, 2) := tX9_solves_ok (145, .iload 5, 2) (List.mem_of_getElem? (i := 88) rfl)
theorem dX9_solves_147 : decode cX9_solves 147 = .ok (.iload_n 3, 1) := tX9_solves_ok (147, .iload_n 3, 1) (List.mem_of_getElem? (i := 89) rfl)
theorem dX9_solves_148 : decode cX9_solves 148 = .ok (.iload_n 2, 1) := tX9_solves_ok (148, .iload_n 2, 1) (List.mem_of_getElem? (i := 90) rfl)
theorem dX9_solves_149 : decode cX9_solves 149 = .ok (.invokevirtual 313, 3) := tX9_solves_ok (149, .invokevirtual 313, 3) (List.mem_of_getElem? (i := 91) rfl)
theorem dX9_solves_152 : decode cX9_solves 152 = .ok (.iinc 4 1, 3) := tX9_solves_ok (152, .iinc 4 1, 3) (List.mem_of_getElem? (i := 92) rfl)
theorem dX9_solves_155 : decode cX9_solves 155 = .ok (.iinc 5 1, 3) := tX9_solves_ok (155, .iinc 5 1, 3) (List.mem_of_getElem? (i := 93) rfl)
theorem dX9_solves_158 : decode cX9_solves 158 = .ok (.goto (-65), 3) := tX9_solves_ok (158, .goto (-65), 3) (List.mem_of_getElem? (i := 94) rfl)
theorem dX9_solves_161 : decode cX9_solves 161 = .ok (.iload 4, 2) := tX9_solves_ok (161, .iload 4, 2) (List.mem_of_getElem? (i := 95) rfl)
theorem dX9_solves_163 : decode cX9_solves 163 = .ok (.istore 5, 2) := tX9_solves_ok (163, .istore 5, 2) (List.mem_of_getElem? (i := 96) rfl)
theorem dX9_solves_165 : decode cX9_solves 165 = .ok (.iload 5, 2) := tX9_solves_ok (165, .iload 5, 2) (List.mem_of_getElem? (i := 97) rfl)
theorem dX9_solves_167 : decode cX9_solves 167 = .ok (.iload_n 2, 1) := tX9_solves_ok (167, .iload_n 2, 1) (List.mem_of_getElem? (i := 98) rfl)
theorem dX9_solves_168 : decode cX9_solves 168 = .ok (.if_icmp .ge 27, 3) := tX9_solves_ok (168, .if_icmp .ge 27, 3) (List.mem_of_getElem? (i := 99) rfl)
theorem dX9_solves_171 : decode cX9_solves 171 = .ok (.aload_n 0, 1) := tX9_solves_ok (171, .aload_n 0, 1) (List.mem_of_getElem? (i := 100) rfl)
theorem dX9_solves_172 : decode cX9_solves 172 = .ok (.getfield 109, 3) := tX9_solves_ok (172, .getfield 109, 3) (List.mem_of_getElem? (i := 101) rfl)
theorem dX9_solves_175 : decode cX9_solves 175 = .ok (.iload_n 3, 1) := tX9_solves_ok (175, .iload_n 3, 1) (List.mem_of_getElem? (i := 102) rfl)
theorem dX9_solves_176 : decode cX9_solves 176 = .ok (.iload 5, 2) := tX9_solves_ok (176, .iload 5, 2) (List.mem_of_getElem? (i := 103) rfl)
theorem dX9_solves_178 : decode cX9_solves 178 = .ok (.imul, 1) := tX9_solves_ok (178, .imul, 1) (List.mem_of_getElem? (i := 104) rfl)
theorem dX9_solves_179 : decode cX9_solves 179 = .ok (.iload_n 1, 1) := tX9_solves_ok (179, .iload_n 1, 1) (List.mem_of_getElem? (i := 105) rfl)
theorem dX9_solves_180 : decode cX9_solves 180 = .ok (.iadd, 1) := tX9_solves_ok (180, .iadd, 1) (List.mem_of_getElem? (i := 106) rfl)
theorem dX9_solves_181 : decode cX9_solves 181 = .ok (.laload, 1) := tX9_solves_ok (181, .laload, 1) (List.mem_of_getElem? (i := 107) rfl)
theorem dX9_solves_182 : decode cX9_solves 182 = .ok (.lconst 0, 1) := tX9_solves_ok (182, .lconst 0, 1) (List.mem_of_getElem? (i := 108) rfl)
theorem dX9_solves_183 : decode cX9_solves 183 = .ok (.lcmp, 1) := tX9_solves_ok (183, .lcmp, 1) (List.mem_of_getElem? (i := 109) rfl)
theorem dX9_solves_184 : decode cX9_solves 184 = .ok (.ifCond .eq 5, 3) := tX9_solves_ok (184, .ifCond .eq 5, 3) (List.mem_of_getElem? (i := 110) rfl)
theorem dX9_solves_187 : decode cX9_solves 187 = .ok (.iconst 0, 1) := tX9_solves_ok (187, .iconst 0, 1) (List.mem_of_getElem? (i := 111) rfl)
theorem dX9_solves_188 : decode cX9_solves 188 = .ok (.ireturn, 1) := tX9_solves_ok (188, .ireturn, 1) (List.mem_of_getElem? (i := 112) rfl)
theorem dX9_solves_189 : decode cX9_solves 189 = .ok (.iinc 5 1, 3) := tX9_solves_ok (189, .iinc 5 1, 3) (List.mem_of_getElem? (i := 113) rfl)
theorem dX9_solves_192 : decode cX9_solves 192 = .ok (.goto (-27), 3) := tX9_solves_ok (192, .goto (-27), 3) (List.mem_of_getElem? (i := 114) rfl)
theorem dX9_solves_195 : decode cX9_solves 195 = .ok (.aload_n 0, 1) := tX9_solves_ok (195, .aload_n 0, 1) (List.mem_of_getElem? (i := 115) rfl)
theorem dX9_solves_196 : decode cX9_solves 196 = .ok (.iload_n 1, 1) := tX9_solves_ok (196, .iload_n 1, 1) (List.mem_of_getElem? (i := 116) rfl)
theorem dX9_solves_197 : decode cX9_solves 197 = .ok (.putfield 72, 3) := tX9_solves_ok (197, .putfield 72, 3) (List.mem_of_getElem? (i := 117) rfl)
theorem dX9_solves_200 : decode cX9_solves 200 = .ok (.iconst 0, 1) := tX9_solves_ok (200, .iconst 0, 1) (List.mem_of_getElem? (i := 118) rfl)
theorem dX9_solves_201 : decode cX9_solves 201 = .ok (.istore 5, 2) := tX9_solves_ok (201, .istore 5, 2) (List.mem_of_getElem? (i := 119) rfl)
theorem dX9_solves_203 : decode cX9_solves 203 = .ok (.iload 5, 2) := tX9_solves_ok (203, .iload 5, 2) (List.mem_of_getElem? (i := 120) rfl)
theorem dX9_solves_205 : decode cX9_solves 205 = .ok (.iload_n 1, 1) := tX9_solves_ok (205, .iload_n 1, 1) (List.mem_of_getElem? (i := 121) rfl)
theorem dX9_solves_206 : decode cX9_solves 206 = .ok (.if_icmp .ge 27, 3) := tX9_solves_ok (206, .if_icmp .ge 27, 3) (List.mem_of_getElem? (i := 122) rfl)
theorem dX9_solves_209 : decode cX9_solves 209 = .ok (.aload_n 0, 1) := tX9_solves_ok (209, .aload_n 0, 1) (List.mem_of_getElem? (i := 123) rfl)
theorem dX9_solves_210 : decode cX9_solves 210 = .ok (.getfield 75, 3) := tX9_solves_ok (210, .getfield 75, 3) (List.mem_of_getElem? (i := 124) rfl)
theorem dX9_solves_213 : decode cX9_solves 213 = .ok (.iload 5, 2) := tX9_solves_ok (213, .iload 5, 2) (List.mem_of_getElem? (i := 125) rfl)
theorem dX9_solves_215 : decode cX9_solves 215 = .ok (.aload_n 0, 1) := tX9_solves_ok (215, .aload_n 0, 1) (List.mem_of_getElem? (i := 126) rfl)
theorem dX9_solves_216 : decode cX9_solves 216 = .ok (.getfield 109, 3) := tX9_solves_ok (216, .getfield 109, 3) (List.mem_of_getElem? (i := 127) rfl)
theorem dX9_solves_219 : decode cX9_solves 219 = .ok (.iload_n 3, 1) := tX9_solves_ok (219, .iload_n 3, 1) (List.mem_of_getElem? (i := 128) rfl)
theorem dX9_solves_220 : decode cX9_solves 220 = .ok (.iload 5, 2) := tX9_solves_ok (220, .iload 5, 2) (List.mem_of_getElem? (i := 129) rfl)
theorem dX9_solves_222 : decode cX9_solves 222 = .ok (.imul, 1) := tX9_solves_ok (222, .imul, 1) (List.mem_of_getElem? (i := 130) rfl)
theorem dX9_solves_223 : decode cX9_solves 223 = .ok (.iload_n 1, 1) := tX9_solves_ok (223, .iload_n 1, 1) (List.mem_of_getElem? (i := 131) rfl)
theorem dX9_solves_224 : decode cX9_solves 224 = .ok (.iadd, 1) := tX9_solves_ok (224, .iadd, 1) (List.mem_of_getElem? (i := 132) rfl)
theorem dX9_solves_225 : decode cX9_solves 225 = .ok (.laload, 1) := tX9_solves_ok (225, .laload, 1) (List.mem_of_getElem? (i := 133) rfl)
theorem dX9_solves_226 : decode cX9_solves 226 = .ok (.lastore, 1) := tX9_solves_ok (226, .lastore, 1) (List.mem_of_getElem? (i := 134) rfl)
theorem dX9_solves_227 : decode cX9_solves 227 = .ok (.iinc 5 1, 3) := tX9_solves_ok (227, .iinc 5 1, 3) (List.mem_of_getElem? (i := 135) rfl)
theorem dX9_solves_230 : decode cX9_solves 230 = .ok (.goto (-27), 3) := tX9_solves_ok (230, .goto (-27), 3) (List.mem_of_getElem? (i := 136) rfl)
theorem dX9_solves_233 : decode cX9_solves 233 = .ok (.iconst 1, 1) := tX9_solves_ok (233, .iconst 1, 1) (List.mem_of_getElem? (i := 137) rfl)
theorem dX9_solves_234 : decode cX9_solves 234 = .ok (.ireturn, 1) := tX9_solves_ok (234, .ireturn, 1) (List.mem_of_getElem? (i := 138) rfl)
