def tX0_init : List (Nat × Instr × Nat) := [
  (0, .aload_n 0, 1),
  (1, .invokespecial 5, 3),
  (4, .aload_n 0, 1),
  (5, .sipush 3782, 3),
  (8, .newarray .long, 2),
  (10, .putfield 11, 3),
  (13, .return_, 1)]
set_option maxRecDepth 100000 in
theorem tX0_init_ok : ∀ q ∈ tX0_init, decode cX0_init q.1 = .ok q.2 := by decide +kernel
theorem dX0_init_0 : decode cX0_init 0 = .ok (.aload_n 0, 1) := tX0_init_ok (0, .aload_n 0, 1) (List.mem_of_getElem? (i := 0) rfl)
theorem dX0_init_1 : decode cX0_init 1 = .ok (.invokespecial 5, 3) := tX0_init_ok (1, .invokespecial 5, 3) (List.mem_of_getElem? (i := 1) rfl)
theorem dX0_init_4 : decode cX0_init 4 = .ok (.aload_n 0, 1) := tX0_init_ok (4, .aload_n 0, 1) (List.mem_of_getElem? (i := 2) rfl)
theorem dX0_init_5 : decode cX0_init 5 = .ok (.sipush 3782, 3) := tX0_init_ok (5, .sipush 3782, 3) (List.mem_of_getElem? (i := 3) rfl)
theorem dX0_init_8 : decode cX0_init 8 = .ok (.newarray .long, 2) := tX0_init_ok (8, .newarray .long, 2) (List.mem_of_getElem? (i := 4) rfl)
theorem dX0_init_10 : decode cX0_init 10 = .ok (.putfield 11, 3) := tX0_init_ok (10, .putfield 11, 3) (List.mem_of_getElem? (i := 5) rfl)
theorem dX0_init_13 : decode cX0_init 13 = .ok (.return_, 1) := tX0_init_ok (13, .return_, 1) (List.mem_of_getElem? (i := 6) rfl)

def tX0_endings : List (Nat × Instr × Nat) := [
  (0, .aload_n 0, 1),
  (1, .invokevirtual 15, 3),
  (4, .iload_n 1, 1),
  (5, .ifCond .lt 19, 3),
  (8, .iload_n 1, 1),
  (9, .bipush 60, 2),
  (11, .if_icmp .gt 13, 3),
  (14, .iload_n 2, 1),
  (15, .ifCond .lt 9, 3),
  (18, .iload_n 2, 1),
  (19, .bipush 62, 2),
  (21, .if_icmp .lt 5, 3),
  (24, .lconst 0, 1),
  (25, .lreturn, 1),
  (26, .aload_n 0, 1),
  (27, .getfield 11, 3),
  (30, .iload_n 1, 1),
  (31, .bipush 62, 2),
  (33, .imul, 1),
  (34, .iload_n 2, 1),
  (35, .iadd, 1),
  (36, .laload, 1),
  (37, .lreturn, 1)]
set_option maxRecDepth 100000 in
theorem tX0_endings_ok : ∀ q ∈ tX0_endings, decode cX0_endings q.1 = .ok q.2 := by decide +kernel
theorem dX0_endings_0 : decode cX0_endings 0 = .ok (.aload_n 0, 1) := tX0_endings_ok (0, .aload_n 0, 1) (List.mem_of_getElem? (i := 0) rfl)
theorem dX0_endings_1 : decode cX0_endings 1 = .ok (.invokevirtual 15, 3) := tX0_endings_ok (1, .invokevirtual 15, 3) (List.mem_of_getElem? (i := 1) rfl)
theorem dX0_endings_4 : decode cX0_endings 4 = .ok (.iload_n 1, 1) := tX0_endings_ok (4, .iload_n 1, 1) (List.mem_of_getElem? (i := 2) rfl)
theorem dX0_endings_5 : decode cX0_endings 5 = .ok (.ifCond .lt 19, 3) := tX0_endings_ok (5, .ifCond .lt 19, 3) (List.mem_of_getElem? (i := 3) rfl)
theorem dX0_endings_8 : decode cX0_endings 8 = .ok (.iload_n 1, 1) := tX0_endings_ok (8, .iload_n 1, 1) (List.mem_of_getElem? (i := 4) rfl)
theorem dX0_endings_9 : decode cX0_endings 9 = .ok (.bipush 60, 2) := tX0_endings_ok (9, .bipush 60, 2) (List.mem_of_getElem? (i := 5) rfl)
theorem dX0_endings_11 : decode cX0_endings 11 = .ok (.if_icmp .gt 13, 3) := tX0_endings_ok (11, .if_icmp .gt 13, 3) (List.mem_of_getElem? (i := 6) rfl)
theorem dX0_endings_14 : decode cX0_endings 14 = .ok (.iload_n 2, 1) := tX0_endings_ok (14, .iload_n 2, 1) (List.mem_of_getElem? (i := 7) rfl)
theorem dX0_endings_15 : decode cX0_endings 15 = .ok (.ifCond .lt 9, 3) := tX0_endings_ok (15, .ifCond .lt 9, 3) (List.mem_of_getElem? (i := 8) rfl)
theorem dX0_endings_18 : decode cX0_endings 18 = .ok (.iload_n 2, 1) := tX0_endings_ok (18, .iload_n 2, 1) (List.mem_of_getElem? (i := 9) rfl)
theorem dX0_endings_19 : decode cX0_endings 19 = .ok (.bipush 62, 2) := tX0_endings_ok (19, .bipush 62, 2) (List.mem_of_getElem? (i := 10) rfl)
theorem dX0_endings_21 : decode cX0_endings 21 = .ok (.if_icmp .lt 5, 3) := tX0_endings_ok (21, .if_icmp .lt 5, 3) (List.mem_of_getElem? (i := 11) rfl)
theorem dX0_endings_24 : decode cX0_endings 24 = .ok (.lconst 0, 1) := tX0_endings_ok (24, .lconst 0, 1) (List.mem_of_getElem? (i := 12) rfl)
theorem dX0_endings_25 : decode cX0_endings 25 = .ok (.lreturn, 1) := tX0_endings_ok (25, .lreturn, 1) (List.mem_of_getElem? (i := 13) rfl)
theorem dX0_endings_26 : decode cX0_endings 26 = .ok (.aload_n 0, 1) := tX0_endings_ok (26, .aload_n 0, 1) (List.mem_of_getElem? (i := 14) rfl)
theorem dX0_endings_27 : decode cX0_endings 27 = .ok (.getfield 11, 3) := tX0_endings_ok (27, .getfield 11, 3) (List.mem_of_getElem? (i := 15) rfl)
theorem dX0_endings_30 : decode cX0_endings 30 = .ok (.iload_n 1, 1) := tX0_endings_ok (30, .iload_n 1, 1) (List.mem_of_getElem? (i := 16) rfl)
theorem dX0_endings_31 : decode cX0_endings 31 = .ok (.bipush 62, 2) := tX0_endings_ok (31, .bipush 62, 2) (List.mem_of_getElem? (i := 17) rfl)
theorem dX0_endings_33 : decode cX0_endings 33 = .ok (.imul, 1) := tX0_endings_ok (33, .imul, 1) (List.mem_of_getElem? (i := 18) rfl)
theorem dX0_endings_34 : decode cX0_endings 34 = .ok (.iload_n 2, 1) := tX0_endings_ok (34, .iload_n 2, 1) (List.mem_of_getElem? (i := 19) rfl)
theorem dX0_endings_35 : decode cX0_endings 35 = .ok (.iadd, 1) := tX0_endings_ok (35, .iadd, 1) (List.mem_of_getElem? (i := 20) rfl)
theorem dX0_endings_36 : decode cX0_endings 36 = .ok (.laload, 1) := tX0_endings_ok (36, .laload, 1) (List.mem_of_getElem? (i := 21) rfl)
theorem dX0_endings_37 : decode cX0_endings 37 = .ok (.lreturn, 1) := tX0_endings_ok (37, .lreturn, 1) (List.mem_of_getElem? (i := 22) rfl)

def tX0_fill : List (Nat × Instr × Nat) := [
  (0, .aload_n 0, 1),
  (1, .getfield 18, 3),
  (4, .ifCond .eq 4, 3),
  (7, .return_, 1),
  (8, .aload_n 0, 1),
  (9, .iconst 1, 1),
  (10, .putfield 18, 3),
  (13, .aload_n 0, 1),
  (14, .getfield 11, 3),
  (17, .iconst 0, 1),
  (18, .lconst 1, 1),
  (19, .lastore, 1),
  (20, .iconst 1, 1),
  (21, .istore_n 1, 1),
  (22, .iload_n 1, 1),
  (23, .bipush 60, 2),
  (25, .if_icmp .gt 74, 3),
  (28, .iload_n 1, 1),
  (29, .iconst 1, 1),
  (30, .isub, 1),
  (31, .bipush 62, 2),
  (33, .imul, 1),
  (34, .istore_n 2, 1),
  (35, .iconst 0, 1),
  (36, .istore_n 3, 1),
  (37, .iload_n 3, 1),
  (38, .bipush 60, 2),
  (40, .if_icmp .gt 53, 3),
  (43, .iload_n 3, 1),
  (44, .ifCond .le 16, 3),
  (47, .aload_n 0, 1),
  (48, .getfield 11, 3),
  (51, .iload_n 2, 1),
  (52, .iload_n 3, 1),
  (53, .iadd, 1),
  (54, .iconst 1, 1),
  (55, .isub, 1),
  (56, .laload, 1),
  (57, .goto 4, 3),
  (60, .lconst 0, 1),
  (61, .lstore 4, 2),
  (63, .aload_n 0, 1),
  (64, .getfield 11, 3),
  (67, .iload_n 1, 1),
  (68, .bipush 62, 2),
  (70, .imul, 1),
  (71, .iload_n 3, 1),
  (72, .iadd, 1),
  (73, .lload 4, 2),
  (75, .aload_n 0, 1),
  (76, .getfield 11, 3),
  (79, .iload_n 2, 1),
  (80, .iload_n 3, 1),
  (81, .iadd, 1),
  (82, .iconst 1, 1),
  (83, .iadd, 1),
  (84, .laload, 1),
  (85, .ladd, 1),
  (86, .lastore, 1),
  (87, .iinc 3 1, 3),
  (90, .goto (-53), 3),
  (93, .iinc 1 1, 3),
  (96, .goto (-74), 3),
  (99, .return_, 1)]
set_option maxRecDepth 100000 in
theorem tX0_fill_ok : ∀ q ∈ tX0_fill, decode cX0_fill q.1 = .ok q.2 := by decide +kernel
theorem dX0_fill_0 : decode cX0_fill 0 = .ok (.aload_n 0, 1) := tX0_fill_ok (0, .aload_n 0, 1) (List.mem_of_getElem? (i := 0) rfl)
theorem dX0_fill_1 : decode cX0_fill 1 = .ok (.getfield 18, 3) := tX0_fill_ok (1, .getfield 18, 3) (List.mem_of_getElem? (i := 1) rfl)
theorem dX0_fill_4 : decode cX0_fill 4 = .ok (.ifCond .eq 4, 3) := tX0_fill_ok (4, .ifCond .eq 4, 3) (List.mem_of_getElem? (i := 2) rfl)
theorem dX0_fill_7 : decode cX0_fill 7 = .ok (.return_, 1) := tX0_fill_ok (7, .return_, 1) (List.mem_of_getElem? (i := 3) rfl)
theorem dX0_fill_8 : decode cX0_fill 8 = .ok (.aload_n 0, 1) := tX0_fill_ok (8, .aload_n 0, 1) (List.mem_of_getElem? (i := 4) rfl)
theorem dX0_fill_9 : decode cX0_fill 9 = .ok (.iconst 1, 1) := tX0_fill_ok (9, .iconst 1, 1) (List.mem_of_getElem? (i := 5) rfl)
theorem dX0_fill_10 : decode cX0_fill 10 = .ok (.putfield 18, 3) := tX0_fill_ok (10, .putfield 18, 3) (List.mem_of_getElem? (i := 6) rfl)
theorem dX0_fill_13 : decode cX0_fill 13 = .ok (.aload_n 0, 1) := tX0_fill_ok (13, .aload_n 0, 1) (List.mem_of_getElem? (i := 7) rfl)
theorem dX0_fill_14 : decode cX0_fill 14 = .ok (.getfield 11, 3) := tX0_fill_ok (14, .getfield 11, 3) (List.mem_of_getElem? (i := 8) rfl)
theorem dX0_fill_17 : decode cX0_fill 17 = .ok (.iconst 0, 1) := tX0_fill_ok (17, .iconst 0, 1) (List.mem_of_getElem? (i := 9) rfl)
theorem dX0_fill_18 : decode cX0_fill 18 = .ok (.lconst 1, 1) := tX0_fill_ok (18, .lconst 1, 1) (List.mem_of_getElem? (i := 10) rfl)
theorem dX0_fill_19 : decode cX0_fill 19 = .ok (.lastore, 1) := tX0_fill_ok (19, .lastore, 1) (List.mem_of_getElem? (i := 11) rfl)
theorem dX0_fill_20 : decode cX0_fill 20 = .ok (.iconst 1, 1) := tX0_fill_ok (20, .iconst 1, 1) (List.mem_of_getElem? (i := 12) rfl)
theorem dX0_fill_21 : decode cX0_fill 21 = .ok (.istore_n 1, 1) := tX0_fill_ok (21, .istore_n 1, 1) (List.mem_of_getElem? (i := 13) rfl)
theorem dX0_fill_22 : decode cX0_fill 22 = .ok (.iload_n 1, 1) := tX0_fill_ok (22, .iload_n 1, 1) (List.mem_of_getElem? (i := 14) rfl)
theorem dX0_fill_23 : decode cX0_fill 23 = .ok (.bipush 60, 2) := tX0_fill_ok (23, .bipush 60, 2) (List.mem_of_getElem? (i := 15) rfl)
theorem dX0_fill_25 : decode cX0_fill 25 = .ok (.if_icmp .gt 74, 3) := tX0_fill_ok (25, .if_icmp .gt 74, 3) (List.mem_of_getElem? (i := 16) rfl)
theorem dX0_fill_28 : decode cX0_fill 28 = .ok (.iload_n 1, 1) := tX0_fill_ok (28, .iload_n 1, 1) (List.mem_of_getElem? (i := 17) rfl)
theorem dX0_fill_29 : decode cX0_fill 29 = .ok (.iconst 1, 1) := tX0_fill_ok (29, .iconst 1, 1) (List.mem_of_getElem? (i := 18) rfl)
theorem dX0_fill_30 : decode cX0_fill 30 = .ok (.isub, 1) := tX0_fill_ok (30, .isub, 1) (List.mem_of_getElem? (i := 19) rfl)
theorem dX0_fill_31 : decode cX0_fill 31 = .ok (.bipush 62, 2) := tX0_fill_ok (31, .bipush 62, 2) (List.mem_of_getElem? (i := 20) rfl)
theorem dX0_fill_33 : decode cX0_fill 33 = .ok (.imul, 1) := tX0_fill_ok (33, .imul, 1) (List.mem_of_getElem? (i := 21) rfl)
theorem dX0_fill_34 : decode cX0_fill 34 = .ok (.istore_n 2, 1) := tX0_fill_ok (34, .istore_n 2, 1) (List.mem_of_getElem? (i := 22) rfl)
theorem dX0_fill_35 : decode cX0_fill 35 = .ok (.iconst 0, 1) := tX0_fill_ok (35, .iconst 0, 1) (List.mem_of_getElem? (i := 23) rfl)
theorem dX0_fill_36 : decode cX0_fill 36 = .ok (.istore_n 3, 1) := tX0_fill_ok (36, .istore_n 3, 1) (List.mem_of_getElem? (i := 24) rfl)
theorem dX0_fill_37 : decode cX0_fill 37 = .ok (.iload_n 3, 1) := tX0_fill_ok (37, .iload_n 3, 1) (List.mem_of_getElem? (i := 25) rfl)
theorem dX0_fill_38 : decode cX0_fill 38 = .ok (.bipush 60, 2) := tX0_fill_ok (38, .bipush 60, 2) (List.mem_of_getElem? (i := 26) rfl)
theorem dX0_fill_40 : decode cX0_fill 40 = .ok (.if_icmp .gt 53, 3) := tX0_fill_ok (40, .if_icmp .gt 53, 3) (List.mem_of_getElem? (i := 27) rfl)
theorem dX0_fill_43 : decode cX0_fill 43 = .ok (.iload_n 3, 1) := tX0_fill_ok (43, .iload_n 3, 1) (List.mem_of_getElem? (i := 28) rfl)
theorem dX0_fill_44 : decode cX0_fill 44 = .ok (.ifCond .le 16, 3) := tX0_fill_ok (44, .ifCond .le 16, 3) (List.mem_of_getElem? (i := 29) rfl)
theorem dX0_fill_47 : decode cX0_fill 47 = .ok (.aload_n 0, 1) := tX0_fill_ok (47, .aload_n 0, 1) (List.mem_of_getElem? (i := 30) rfl)
theorem dX0_fill_48 : decode cX0_fill 48 = .ok (.getfield 11, 3) := tX0_fill_ok (48, .getfield 11, 3) (List.mem_of_getElem? (i := 31) rfl)
theorem dX0_fill_51 : decode cX0_fill 51 = .ok (.iload_n 2, 1) := tX0_fill_ok (51, .iload_n 2, 1) (List.mem_of_getElem? (i := 32) rfl)
theorem dX0_fill_52 : decode cX0_fill 52 = .ok (.iload_n 3, 1) := tX0_fill_ok (52, .iload_n 3, 1) (List.mem_of_getElem? (i := 33) rfl)
theorem dX0_fill_53 : decode cX0_fill 53 = .ok (.iadd, 1) := tX0_fill_ok (53, .iadd, 1) (List.mem_of_getElem? (i := 34) rfl)
theorem dX0_fill_54 : decode cX0_fill 54 = .ok (.iconst 1, 1) := tX0_fill_ok (54, .iconst 1, 1) (List.mem_of_getElem? (i := 35) rfl)
theorem dX0_fill_55 : decode cX0_fill 55 = .ok (.isub, 1) := tX0_fill_ok (55, .isub, 1) (List.mem_of_getElem? (i := 36) rfl)
theorem dX0_fill_56 : decode cX0_fill 56 = .ok (.laload, 1) := tX0_fill_ok (56, .laload, 1) (List.mem_of_getElem? (i := 37) rfl)
theorem dX0_fill_57 : decode cX0_fill 57 = .ok (.goto 4, 3) := tX0_fill_ok (57, .goto 4, 3) (List.mem_of_getElem? (i := 38) rfl)
theorem dX0_fill_60 : decode cX0_fill 60 = .ok (.lconst 0, 1) := tX0_fill_ok (60, .lconst 0, 1) (List.mem_of_getElem? (i := 39) rfl)
theorem dX0_fill_61 : decode cX0_fill 61 = .ok (.lstore 4, 2) := tX0_fill_ok (61, .lstore 4, 2) (List.mem_of_getElem? (i := 40) rfl)
theorem dX0_fill_63 : decode cX0_fill 63 = .ok (.aload_n 0, 1) := tX0_fill_ok (63, .aload_n 0, 1) (List.mem_of_getElem? (i := 41) rfl)
theorem dX0_fill_64 : decode cX0_fill 64 = .ok (.getfield 11, 3) := tX0_fill_ok (64, .getfield 11, 3) (List.mem_of_getElem? (i := 42) rfl)
theorem dX0_fill_67 : decode cX0_fill 67 = .ok (.iload_n 1, 1) := tX0_fill_ok (67, .iload_n 1, 1) (List.mem_of_getElem? (i := 43) rfl)
theorem dX0_fill_68 : decode cX0_fill 68 = .ok (.bipush 62, 2) := tX0_fill_ok (68, .bipush 62, 2) (List.mem_of_getElem? (i := 44) rfl)
theorem dX0_fill_70 : decode cX0_fill 70 = .ok (.imul, 1) := tX0_fill_ok (70, .imul, 1) (List.mem_of_getElem? (i := 45) rfl)
theorem dX0_fill_71 : decode cX0_fill 71 = .ok (.iload_n 3, 1) := tX0_fill_ok (71, .iload_n 3, 1) (List.mem_of_getElem? (i := 46) rfl)
theorem dX0_fill_72 : decode cX0_fill 72 = .ok (.iadd, 1) := tX0_fill_ok (72, .iadd, 1) (List.mem_of_getElem? (i := 47) rfl)
theorem dX0_fill_73 : decode cX0_fill 73 = .ok (.lload 4, 2) := tX0_fill_ok (73, .lload 4, 2) (List.mem_of_getElem? (i := 48) rfl)
theorem dX0_fill_75 : decode cX0_fill 75 = .ok (.aload_n 0, 1) := tX0_fill_ok (75, .aload_n 0, 1) (List.mem_of_getElem? (i := 49) rfl)
theorem dX0_fill_76 : decode cX0_fill 76 = .ok (.getfield 11, 3) := tX0_fill_ok (76, .getfield 11, 3) (List.mem_of_getElem? (i := 50) rfl)
theorem dX0_fill_79 : decode cX0_fill 79 = .ok (.iload_n 2, 1) := tX0_fill_ok (79, .iload_n 2, 1) (List.mem_of_getElem? (i := 51) rfl)
theorem dX0_fill_80 : decode cX0_fill 80 = .ok (.iload_n 3, 1) := tX0_fill_ok (80, .iload_n 3, 1) (List.mem_of_getElem? (i := 52) rfl)
theorem dX0_fill_81 : decode cX0_fill 81 = .ok (.iadd, 1) := tX0_fill_ok (81, .iadd, 1) (List.mem_of_getElem? (i := 53) rfl)
theorem dX0_fill_82 : decode cX0_fill 82 = .ok (.iconst 1, 1) := tX0_fill_ok (82, .iconst 1, 1) (List.mem_of_getElem? (i := 54) rfl)
theorem dX0_fill_83 : decode cX0_fill 83 = .ok (.iadd, 1) := tX0_fill_ok (83, .iadd, 1) (List.mem_of_getElem? (i := 55) rfl)
theorem dX0_fill_84 : decode cX0_fill 84 = .ok (.laload, 1) := tX0_fill_ok (84, .laload, 1) (List.mem_of_getElem? (i := 56) rfl)
theorem dX0_fill_85 : decode cX0_fill 85 = .ok (.ladd, 1) := tX0_fill_ok (85, .ladd, 1) (List.mem_of_getElem? (i := 57) rfl)
theorem dX0_fill_86 : decode cX0_fill 86 = .ok (.lastore, 1) := tX0_fill_ok (86, .lastore, 1) (List.mem_of_getElem? (i := 58) rfl)
theorem dX0_fill_87 : decode cX0_fill 87 = .ok (.iinc 3 1, 3) := tX0_fill_ok (87, .iinc 3 1, 3) (List.mem_of_getElem? (i := 59) rfl)
theorem dX0_fill_90 : decode cX0_fill 90 = .ok (.goto (-53), 3) := tX0_fill_ok (90, .goto (-53), 3) (List.mem_of_getElem? (i := 60) rfl)
theorem dX0_fill_93 : decode cX0_fill 93 = .ok (.iinc 1 1, 3) := tX0_fill_ok (93, .iinc 1 1, 3) (List.mem_of_getElem? (i := 61) rfl)
theorem dX0_fill_96 : decode cX0_fill 96 = .ok (.goto (-74), 3) := tX0_fill_ok (96, .goto (-74), 3) (List.mem_of_getElem? (i := 62) rfl)
theorem dX0_fill_99 : decode cX0_fill 99 = .ok (.return_, 1) := tX0_fill_ok (99, .return_, 1) (List.mem_of_getElem? (i := 63) rfl)

def tX0_spell : List (Nat × Instr × Nat) := [
  (0, .lload_n 2, 1),
  (1, .lstore 5, 2),
  (3, .iconst 0, 1),
  (4, .istore 7, 2),
  (6, .iconst 0, 1),
  (7, .istore 8, 2),
  (9, .iload 8, 2),
  (11, .iconst 2, 1),
  (12, .iload_n 1, 1),
  (13, .imul, 1),
  (14, .if_icmp .ge 73, 3),
  (17, .iload 8, 2),
  (19, .aload 4, 2),
  (21, .arraylength, 1),
  (22, .if_icmp .ge 65, 3),
  (25, .aload_n 0, 1),
  (26, .iconst 2, 1),
  (27, .iload_n 1, 1),
  (28, .imul, 1),
  (29, .iload 8, 2),
  (31, .isub, 1),
  (32, .iconst 1, 1),
  (33, .isub, 1),
  (34, .iload 7, 2),
  (36, .iconst 1, 1),
  (37, .iadd, 1),
  (38, .invokevirtual 22, 3),
  (41, .lstore 9, 2),
  (43, .lload 5, 2),
  (45, .lload 9, 2),
  (47, .lcmp, 1),
  (48, .ifCond .ge 16, 3),
  (51, .aload 4, 2),
  (53, .iload 8, 2),
  (55, .bipush 40, 2),
  (57, .iastore, 1),
  (58, .iinc 7 1, 3),
  (61, .goto 20, 3),
  (64, .lload 5, 2),
  (66, .lload 9, 2),
  (68, .lsub, 1),
  (69, .lstore 5, 2),
  (71, .aload 4, 2),
  (73, .iload 8, 2),
  (75, .bipush 41, 2),
  (77, .iastore, 1),
  (78, .iinc 7 (-1), 3),
  (81, .iinc 8 1, 3),
  (84, .goto (-75), 3),
  (87, .return_, 1)]
set_option maxRecDepth 100000 in
theorem tX0_spell_ok : ∀ q ∈ tX0_spell, decode cX0_spell q.1 = .ok q.2 := by decide +kernel
theorem dX0_spell_0 : decode cX0_spell 0 = .ok (.lload_n 2, 1) := tX0_spell_ok (0, .lload_n 2, 1) (List.mem_of_getElem? (i := 0) rfl)
theorem dX0_spell_1 : decode cX0_spell 1 = .ok (.lstore 5, 2) := tX0_spell_ok (1, .lstore 5, 2) (List.mem_of_getElem? (i := 1) rfl)
theorem dX0_spell_3 : decode cX0_spell 3 = .ok (.iconst 0, 1) := tX0_spell_ok (3, .iconst 0, 1) (List.mem_of_getElem? (i := 2) rfl)
theorem dX0_spell_4 : decode cX0_spell 4 = .ok (.istore 7, 2) := tX0_spell_ok (4, .istore 7, 2) (List.mem_of_getElem? (i := 3) rfl)
theorem dX0_spell_6 : decode cX0_spell 6 = .ok (.iconst 0, 1) := tX0_spell_ok (6, .iconst 0, 1) (List.mem_of_getElem? (i := 4) rfl)
theorem dX0_spell_7 : decode cX0_spell 7 = .ok (.istore 8, 2) := tX0_spell_ok (7, .istore 8, 2) (List.mem_of_getElem? (i := 5) rfl)
theorem dX0_spell_9 : decode cX0_spell 9 = .ok (.iload 8, 2) := tX0_spell_ok (9, .iload 8, 2) (List.mem_of_getElem? (i := 6) rfl)
theorem dX0_spell_11 : decode cX0_spell 11 = .ok (.iconst 2, 1) := tX0_spell_ok (11, .iconst 2, 1) (List.mem_of_getElem? (i := 7) rfl)
theorem dX0_spell_12 : decode cX0_spell 12 = .ok (.iload_n 1, 1) := tX0_spell_ok (12, .iload_n 1, 1) (List.mem_of_getElem? (i := 8) rfl)
theorem dX0_spell_13 : decode cX0_spell 13 = .ok (.imul, 1) := tX0_spell_ok (13, .imul, 1) (List.mem_of_getElem? (i := 9) rfl)
theorem dX0_spell_14 : decode cX0_spell 14 = .ok (.if_icmp .ge 73, 3) := tX0_spell_ok (14, .if_icmp .ge 73, 3) (List.mem_of_getElem? (i := 10) rfl)
theorem dX0_spell_17 : decode cX0_spell 17 = .ok (.iload 8, 2) := tX0_spell_ok (17, .iload 8, 2) (List.mem_of_getElem? (i := 11) rfl)
theorem dX0_spell_19 : decode cX0_spell 19 = .ok (.aload 4, 2) := tX0_spell_ok (19, .aload 4, 2) (List.mem_of_getElem? (i := 12) rfl)
theorem dX0_spell_21 : decode cX0_spell 21 = .ok (.arraylength, 1) := tX0_spell_ok (21, .arraylength, 1) (List.mem_of_getElem? (i := 13) rfl)
theorem dX0_spell_22 : decode cX0_spell 22 = .ok (.if_icmp .ge 65, 3) := tX0_spell_ok (22, .if_icmp .ge 65, 3) (List.mem_of_getElem? (i := 14) rfl)
theorem dX0_spell_25 : decode cX0_spell 25 = .ok (.aload_n 0, 1) := tX0_spell_ok (25, .aload_n 0, 1) (List.mem_of_getElem? (i := 15) rfl)
theorem dX0_spell_26 : decode cX0_spell 26 = .ok (.iconst 2, 1) := tX0_spell_ok (26, .iconst 2, 1) (List.mem_of_getElem? (i := 16) rfl)
theorem dX0_spell_27 : decode cX0_spell 27 = .ok (.iload_n 1, 1) := tX0_spell_ok (27, .iload_n 1, 1) (List.mem_of_getElem? (i := 17) rfl)
theorem dX0_spell_28 : decode cX0_spell 28 = .ok (.imul, 1) := tX0_spell_ok (28, .imul, 1) (List.mem_of_getElem? (i := 18) rfl)
theorem dX0_spell_29 : decode cX0_spell 29 = .ok (.iload 8, 2) := tX0_spell_ok (29, .iload 8, 2) (List.mem_of_getElem? (i := 19) rfl)
theorem dX0_spell_31 : decode cX0_spell 31 = .ok (.isub, 1) := tX0_spell_ok (31, .isub, 1) (List.mem_of_getElem? (i := 20) rfl)
theorem dX0_spell_32 : decode cX0_spell 32 = .ok (.iconst 1, 1) := tX0_spell_ok (32, .iconst 1, 1) (List.mem_of_getElem? (i := 21) rfl)
theorem dX0_spell_33 : decode cX0_spell 33 = .ok (.isub, 1) := tX0_spell_ok (33, .isub, 1) (List.mem_of_getElem? (i := 22) rfl)
theorem dX0_spell_34 : decode cX0_spell 34 = .ok (.iload 7, 2) := tX0_spell_ok (34, .iload 7, 2) (List.mem_of_getElem? (i := 23) rfl)
theorem dX0_spell_36 : decode cX0_spell 36 = .ok (.iconst 1, 1) := tX0_spell_ok (36, .iconst 1, 1) (List.mem_of_getElem? (i := 24) rfl)
theorem dX0_spell_37 : decode cX0_spell 37 = .ok (.iadd, 1) := tX0_spell_ok (37, .iadd, 1) (List.mem_of_getElem? (i := 25) rfl)
theorem dX0_spell_38 : decode cX0_spell 38 = .ok (.invokevirtual 22, 3) := tX0_spell_ok (38, .invokevirtual 22, 3) (List.mem_of_getElem? (i := 26) rfl)
theorem dX0_spell_41 : decode cX0_spell 41 = .ok (.lstore 9, 2) := tX0_spell_ok (41, .lstore 9, 2) (List.mem_of_getElem? (i := 27) rfl)
theorem dX0_spell_43 : decode cX0_spell 43 = .ok (.lload 5, 2) := tX0_spell_ok (43, .lload 5, 2) (List.mem_of_getElem? (i := 28) rfl)
theorem dX0_spell_45 : decode cX0_spell 45 = .ok (.lload 9, 2) := tX0_spell_ok (45, .lload 9, 2) (List.mem_of_getElem? (i := 29) rfl)
theorem dX0_spell_47 : decode cX0_spell 47 = .ok (.lcmp, 1) := tX0_spell_ok (47, .lcmp, 1) (List.mem_of_getElem? (i := 30) rfl)
theorem dX0_spell_48 : decode cX0_spell 48 = .ok (.ifCond .ge 16, 3) := tX0_spell_ok (48, .ifCond .ge 16, 3) (List.mem_of_getElem? (i := 31) rfl)
theorem dX0_spell_51 : decode cX0_spell 51 = .ok (.aload 4, 2) := tX0_spell_ok (51, .aload 4, 2) (List.mem_of_getElem? (i := 32) rfl)
theorem dX0_spell_53 : decode cX0_spell 53 = .ok (.iload 8, 2) := tX0_spell_ok (53, .iload 8, 2) (List.mem_of_getElem? (i := 33) rfl)
theorem dX0_spell_55 : decode cX0_spell 55 = .ok (.bipush 40, 2) := tX0_spell_ok (55, .bipush 40, 2) (List.mem_of_getElem? (i := 34) rfl)
theorem dX0_spell_57 : decode cX0_spell 57 = .ok (.iastore, 1) := tX0_spell_ok (57, .iastore, 1) (List.mem_of_getElem? (i := 35) rfl)
theorem dX0_spell_58 : decode cX0_spell 58 = .ok (.iinc 7 1, 3) := tX0_spell_ok (58, .iinc 7 1, 3) (List.mem_of_getElem? (i := 36) rfl)
theorem dX0_spell_61 : decode cX0_spell 61 = .ok (.goto 20, 3) := tX0_spell_ok (61, .goto 20, 3) (List.mem_of_getElem? (i := 37) rfl)
theorem dX0_spell_64 : decode cX0_spell 64 = .ok (.lload 5, 2) := tX0_spell_ok (64, .lload 5, 2) (List.mem_of_getElem? (i := 38) rfl)
theorem dX0_spell_66 : decode cX0_spell 66 = .ok (.lload 9, 2) := tX0_spell_ok (66, .lload 9, 2) (List.mem_of_getElem? (i := 39) rfl)
theorem dX0_spell_68 : decode cX0_spell 68 = .ok (.lsub, 1) := tX0_spell_ok (68, .lsub, 1) (List.mem_of_getElem? (i := 40) rfl)
theorem dX0_spell_69 : decode cX0_spell 69 = .ok (.lstore 5, 2) := tX0_spell_ok (69, .lstore 5, 2) (List.mem_of_getElem? (i := 41) rfl)
theorem dX0_spell_71 : decode cX0_spell 71 = .ok (.aload 4, 2) := tX0_spell_ok (71, .aload 4, 2) (List.mem_of_getElem? (i := 42) rfl)
theorem dX0_spell_73 : decode cX0_spell 73 = .ok (.iload 8, 2) := tX0_spell_ok (73, .iload 8, 2) (List.mem_of_getElem? (i := 43) rfl)
theorem dX0_spell_75 : decode cX0_spell 75 = .ok (.bipush 41, 2) := tX0_spell_ok (75, .bipush 41, 2) (List.mem_of_getElem? (i := 44) rfl)
theorem dX0_spell_77 : decode cX0_spell 77 = .ok (.iastore, 1) := tX0_spell_ok (77, .iastore, 1) (List.mem_of_getElem? (i := 45) rfl)
theorem dX0_spell_78 : decode cX0_spell 78 = .ok (.iinc 7 (-1), 3) := tX0_spell_ok (78, .iinc 7 (-1), 3) (List.mem_of_getElem? (i := 46) rfl)
theorem dX0_spell_81 : decode cX0_spell 81 = .ok (.iinc 8 1, 3) := tX0_spell_ok (81, .iinc 8 1, 3) (List.mem_of_getElem? (i := 47) rfl)
theorem dX0_spell_84 : decode cX0_spell 84 = .ok (.goto (-75), 3) := tX0_spell_ok (84, .goto (-75), 3) (List.mem_of_getElem? (i := 48) rfl)
theorem dX0_spell_87 : decode cX0_spell 87 = .ok (.return_, 1) := tX0_spell_ok (87, .return_, 1) (List.mem_of_getElem? (i := 49) rfl)

def tX0_numberOf : List (Nat × Instr × Nat) := [
  (0, .lconst 0, 1),
  (1, .lstore 4, 2),
  (3, .iconst 0, 1),
  (4, .istore 6, 2),
  (6, .iconst 0, 1),
  (7, .istore 7, 2),
  (9, .iload 7, 2),
  (11, .iload_n 3, 1),
  (12, .if_icmp .ge 69, 3),
  (15, .aload_n 1, 1),
  (16, .iload_n 2, 1),
  (17, .iload 7, 2),
  (19, .invokevirtual 26, 3),
  (22, .istore 8, 2),
  (24, .iload 8, 2),
  (26, .ifCond .ne 9, 3),
  (29, .iinc 6 1, 3),
  (32, .goto 43, 3),
  (35, .iload 8, 2),
  (37, .iconst 1, 1),
  (38, .if_icmp .ne 33, 3),
  (41, .iload 6, 2),
  (43, .ifCond .le 28, 3),
  (46, .lload 4, 2),
  (48, .aload_n 0, 1),
  (49, .iload_n 3, 1),
  (50, .iload 7, 2),
  (52, .isub, 1),
  (53, .iconst 1, 1),
  (54, .isub, 1),
  (55, .iload 6, 2),
  (57, .iconst 1, 1),
  (58, .iadd, 1),
  (59, .invokevirtual 22, 3),
  (62, .ladd, 1),
  (63, .lstore 4, 2),
  (65, .iinc 6 (-1), 3),
  (68, .goto 7, 3),
  (71, .ldc2_w 32, 3),
  (74, .lreturn, 1),
  (75, .iinc 7 1, 3),
  (78, .goto (-69), 3),
  (81, .iload 6, 2),
  (83, .ifCond .ne 8, 3),
  (86, .lload 4, 2),
  (88, .goto 6, 3),
  (91, .ldc2_w 32, 3),
  (94, .lreturn, 1)]
set_option maxRecDepth 100000 in
theorem tX0_numberOf_ok : ∀ q ∈ tX0_numberOf, decode cX0_numberOf q.1 = .ok q.2 := by decide +kernel
theorem dX0_numberOf_0 : decode cX0_numberOf 0 = .ok (.lconst 0, 1) := tX0_numberOf_ok (0, .lconst 0, 1) (List.mem_of_getElem? (i := 0) rfl)
theorem dX0_numberOf_1 : decode cX0_numberOf 1 = .ok (.lstore 4, 2) := tX0_numberOf_ok (1, .lstore 4, 2) (List.mem_of_getElem? (i := 1) rfl)
theorem dX0_numberOf_3 : decode cX0_numberOf 3 = .ok (.iconst 0, 1) := tX0_numberOf_ok (3, .iconst 0, 1) (List.mem_of_getElem? (i := 2) rfl)
theorem dX0_numberOf_4 : decode cX0_numberOf 4 = .ok (.istore 6, 2) := tX0_numberOf_ok (4, .istore 6, 2) (List.mem_of_getElem? (i := 3) rfl)
theorem dX0_numberOf_6 : decode cX0_numberOf 6 = .ok (.iconst 0, 1) := tX0_numberOf_ok (6, .iconst 0, 1) (List.mem_of_getElem? (i := 4) rfl)
theorem dX0_numberOf_7 : decode cX0_numberOf 7 = .ok (.istore 7, 2) := tX0_numberOf_ok (7, .istore 7, 2) (List.mem_of_getElem? (i := 5) rfl)
theorem dX0_numberOf_9 : decode cX0_numberOf 9 = .ok (.iload 7, 2) := tX0_numberOf_ok (9, .iload 7, 2) (List.mem_of_getElem? (i := 6) rfl)
theorem dX0_numberOf_11 : decode cX0_numberOf 11 = .ok (.iload_n 3, 1) := tX0_numberOf_ok (11, .iload_n 3, 1) (List.mem_of_getElem? (i := 7) rfl)
theorem dX0_numberOf_12 : decode cX0_numberOf 12 = .ok (.if_icmp .ge 69, 3) := tX0_numberOf_ok (12, .if_icmp .ge 69, 3) (List.mem_of_getElem? (i := 8) rfl)
theorem dX0_numberOf_15 : decode cX0_numberOf 15 = .ok (.aload_n 1, 1) := tX0_numberOf_ok (15, .aload_n 1, 1) (List.mem_of_getElem? (i := 9) rfl)
theorem dX0_numberOf_16 : decode cX0_numberOf 16 = .ok (.iload_n 2, 1) := tX0_numberOf_ok (16, .iload_n 2, 1) (List.mem_of_getElem? (i := 10) rfl)
theorem dX0_numberOf_17 : decode cX0_numberOf 17 = .ok (.iload 7, 2) := tX0_numberOf_ok (17, .iload 7, 2) (List.mem_of_getElem? (i := 11) rfl)
theorem dX0_numberOf_19 : decode cX0_numberOf 19 = .ok (.invokevirtual 26, 3) := tX0_numberOf_ok (19, .invokevirtual 26, 3) (List.mem_of_getElem? (i := 12) rfl)
theorem dX0_numberOf_22 : decode cX0_numberOf 22 = .ok (.istore 8, 2) := tX0_numberOf_ok (22, .istore 8, 2) (List.mem_of_getElem? (i := 13) rfl)
theorem dX0_numberOf_24 : decode cX0_numberOf 24 = .ok (.iload 8, 2) := tX0_numberOf_ok (24, .iload 8, 2) (List.mem_of_getElem? (i := 14) rfl)
theorem dX0_numberOf_26 : decode cX0_numberOf 26 = .ok (.ifCond .ne 9, 3) := tX0_numberOf_ok (26, .ifCond .ne 9, 3) (List.mem_of_getElem? (i := 15) rfl)
theorem dX0_numberOf_29 : decode cX0_numberOf 29 = .ok (.iinc 6 1, 3) := tX0_numberOf_ok (29, .iinc 6 1, 3) (List.mem_of_getElem? (i := 16) rfl)
theorem dX0_numberOf_32 : decode cX0_numberOf 32 = .ok (.goto 43, 3) := tX0_numberOf_ok (32, .goto 43, 3) (List.mem_of_getElem? (i := 17) rfl)
theorem dX0_numberOf_35 : decode cX0_numberOf 35 = .ok (.iload 8, 2) := tX0_numberOf_ok (35, .iload 8, 2) (List.mem_of_getElem? (i := 18) rfl)
theorem dX0_numberOf_37 : decode cX0_numberOf 37 = .ok (.iconst 1, 1) := tX0_numberOf_ok (37, .iconst 1, 1) (List.mem_of_getElem? (i := 19) rfl)
theorem dX0_numberOf_38 : decode cX0_numberOf 38 = .ok (.if_icmp .ne 33, 3) := tX0_numberOf_ok (38, .if_icmp .ne 33, 3) (List.mem_of_getElem? (i := 20) rfl)
theorem dX0_numberOf_41 : decode cX0_numberOf 41 = .ok (.iload 6, 2) := tX0_numberOf_ok (41, .iload 6, 2) (List.mem_of_getElem? (i := 21) rfl)
theorem dX0_numberOf_43 : decode cX0_numberOf 43 = .ok (.ifCond .le 28, 3) := tX0_numberOf_ok (43, .ifCond .le 28, 3) (List.mem_of_getElem? (i := 22) rfl)
theorem dX0_numberOf_46 : decode cX0_numberOf 46 = .ok (.lload 4, 2) := tX0_numberOf_ok (46, .lload 4, 2) (List.mem_of_getElem? (i := 23) rfl)
theorem dX0_numberOf_48 : decode cX0_numberOf 48 = .ok (.aload_n 0, 1) := tX0_numberOf_ok (48, .aload_n 0, 1) (List.mem_of_getElem? (i := 24) rfl)
theorem dX0_numberOf_49 : decode cX0_numberOf 49 = .ok (.iload_n 3, 1) := tX0_numberOf_ok (49, .iload_n 3, 1) (List.mem_of_getElem? (i := 25) rfl)
theorem dX0_numberOf_50 : decode cX0_numberOf 50 = .ok (.iload 7, 2) := tX0_numberOf_ok (50, .iload 7, 2) (List.mem_of_getElem? (i := 26) rfl)
theorem dX0_numberOf_52 : decode cX0_numberOf 52 = .ok (.isub, 1) := tX0_numberOf_ok (52, .isub, 1) (List.mem_of_getElem? (i := 27) rfl)
theorem dX0_numberOf_53 : decode cX0_numberOf 53 = .ok (.iconst 1, 1) := tX0_numberOf_ok (53, .iconst 1, 1) (List.mem_of_getElem? (i := 28) rfl)
theorem dX0_numberOf_54 : decode cX0_numberOf 54 = .ok (.isub, 1) := tX0_numberOf_ok (54, .isub, 1) (List.mem_of_getElem? (i := 29) rfl)
theorem dX0_numberOf_55 : decode cX0_numberOf 55 = .ok (.iload 6, 2) := tX0_numberOf_ok (55, .iload 6, 2) (List.mem_of_getElem? (i := 30) rfl)
theorem dX0_numberOf_57 : decode cX0_numberOf 57 = .ok (.iconst 1, 1) := tX0_numberOf_ok (57, .iconst 1, 1) (List.mem_of_getElem? (i := 31) rfl)
theorem dX0_numberOf_58 : decode cX0_numberOf 58 = .ok (.iadd, 1) := tX0_numberOf_ok (58, .iadd, 1) (List.mem_of_getElem? (i := 32) rfl)
theorem dX0_numberOf_59 : decode cX0_numberOf 59 = .ok (.invokevirtual 22, 3) := tX0_numberOf_ok (59, .invokevirtual 22, 3) (List.mem_of_getElem? (i := 33) rfl)
theorem dX0_numberOf_62 : decode cX0_numberOf 62 = .ok (.ladd, 1) := tX0_numberOf_ok (62, .ladd, 1) (List.mem_of_getElem? (i := 34) rfl)
theorem dX0_numberOf_63 : decode cX0_numberOf 63 = .ok (.lstore 4, 2) := tX0_numberOf_ok (63, .lstore 4, 2) (List.mem_of_getElem? (i := 35) rfl)
theorem dX0_numberOf_65 : decode cX0_numberOf 65 = .ok (.iinc 6 (-1), 3) := tX0_numberOf_ok (65, .iinc 6 (-1), 3) (List.mem_of_getElem? (i := 36) rfl)
theorem dX0_numberOf_68 : decode cX0_numberOf 68 = .ok (.goto 7, 3) := tX0_numberOf_ok (68, .goto 7, 3) (List.mem_of_getElem? (i := 37) rfl)
theorem dX0_numberOf_71 : decode cX0_numberOf 71 = .ok (.ldc2_w 32, 3) := tX0_numberOf_ok (71, .ldc2_w 32, 3) (List.mem_of_getElem? (i := 38) rfl)
theorem dX0_numberOf_74 : decode cX0_numberOf 74 = .ok (.lreturn, 1) := tX0_numberOf_ok (74, .lreturn, 1) (List.mem_of_getElem? (i := 39) rfl)
theorem dX0_numberOf_75 : decode cX0_numberOf 75 = .ok (.iinc 7 1, 3) := tX0_numberOf_ok (75, .iinc 7 1, 3) (List.mem_of_getElem? (i := 40) rfl)
theorem dX0_numberOf_78 : decode cX0_numberOf 78 = .ok (.goto (-69), 3) := tX0_numberOf_ok (78, .goto (-69), 3) (List.mem_of_getElem? (i := 41) rfl)
theorem dX0_numberOf_81 : decode cX0_numberOf 81 = .ok (.iload 6, 2) := tX0_numberOf_ok (81, .iload 6, 2) (List.mem_of_getElem? (i := 42) rfl)
theorem dX0_numberOf_83 : decode cX0_numberOf 83 = .ok (.ifCond .ne 8, 3) := tX0_numberOf_ok (83, .ifCond .ne 8, 3) (List.mem_of_getElem? (i := 43) rfl)
theorem dX0_numberOf_86 : decode cX0_numberOf 86 = .ok (.lload 4, 2) := tX0_numberOf_ok (86, .lload 4, 2) (List.mem_of_getElem? (i := 44) rfl)
theorem dX0_numberOf_88 : decode cX0_numberOf 88 = .ok (.goto 6, 3) := tX0_numberOf_ok (88, .goto 6, 3) (List.mem_of_getElem? (i := 45) rfl)
theorem dX0_numberOf_91 : decode cX0_numberOf 91 = .ok (.ldc2_w 32, 3) := tX0_numberOf_ok (91, .ldc2_w 32, 3) (List.mem_of_getElem? (i := 46) rfl)
theorem dX0_numberOf_94 : decode cX0_numberOf 94 = .ok (.lreturn, 1) := tX0_numberOf_ok (94, .lreturn, 1) (List.mem_of_getElem? (i := 47) rfl)

def tX1_init : List (Nat × Instr × Nat) := [
  (0, .aload_n 0, 1),
  (1, .invokespecial 3, 3),
  (4, .aload_n 0, 1),
  (5, .bipush 8, 2),
  (7, .newarray .int, 2),
  (9, .putfield 9, 3),
  (12, .aload_n 0, 1),
  (13, .bipush 8, 2),
  (15, .newarray .int, 2),
  (17, .putfield 15, 3),
  (20, .aload_n 0, 1),
  (21, .bipush 61, 2),
  (23, .newarray .int, 2),
  (25, .putfield 18, 3),
  (28, .aload_n 0, 1),
  (29, .bipush 16, 2),
  (31, .newarray .long, 2),
  (33, .putfield 21, 3),
  (36, .return_, 1)]
set_option maxRecDepth 100000 in
theorem tX1_init_ok : ∀ q ∈ tX1_init, decode cX1_init q.1 = .ok q.2 := by decide +kernel
theorem dX1_init_0 : decode cX1_init 0 = .ok (.aload_n 0, 1) := tX1_init_ok (0, .aload_n 0, 1) (List.mem_of_getElem? (i := 0) rfl)
theorem dX1_init_1 : decode cX1_init 1 = .ok (.invokespecial 3, 3) := tX1_init_ok (1, .invokespecial 3, 3) (List.mem_of_getElem? (i := 1) rfl)
theorem dX1_init_4 : decode cX1_init 4 = .ok (.aload_n 0, 1) := tX1_init_ok (4, .aload_n 0, 1) (List.mem_of_getElem? (i := 2) rfl)
theorem dX1_init_5 : decode cX1_init 5 = .ok (.bipush 8, 2) := tX1_init_ok (5, .bipush 8, 2) (List.mem_of_getElem? (i := 3) rfl)
theorem dX1_init_7 : decode cX1_init 7 = .ok (.newarray .int, 2) := tX1_init_ok (7, .newarray .int, 2) (List.mem_of_getElem? (i := 4) rfl)
theorem dX1_init_9 : decode cX1_init 9 = .ok (.putfield 9, 3) := tX1_init_ok (9, .putfield 9, 3) (List.mem_of_getElem? (i := 5) rfl)
theorem dX1_init_12 : decode cX1_init 12 = .ok (.aload_n 0, 1) := tX1_init_ok (12, .aload_n 0, 1) (List.mem_of_getElem? (i := 6) rfl)
theorem dX1_init_13 : decode cX1_init 13 = .ok (.bipush 8, 2) := tX1_init_ok (13, .bipush 8, 2) (List.mem_of_getElem? (i := 7) rfl)
theorem dX1_init_15 : decode cX1_init 15 = .ok (.newarray .int, 2) := tX1_init_ok (15, .newarray .int, 2) (List.mem_of_getElem? (i := 8) rfl)
theorem dX1_init_17 : decode cX1_init 17 = .ok (.putfield 15, 3) := tX1_init_ok (17, .putfield 15, 3) (List.mem_of_getElem? (i := 9) rfl)
theorem dX1_init_20 : decode cX1_init 20 = .ok (.aload_n 0, 1) := tX1_init_ok (20, .aload_n 0, 1) (List.mem_of_getElem? (i := 10) rfl)
theorem dX1_init_21 : decode cX1_init 21 = .ok (.bipush 61, 2) := tX1_init_ok (21, .bipush 61, 2) (List.mem_of_getElem? (i := 11) rfl)
theorem dX1_init_23 : decode cX1_init 23 = .ok (.newarray .int, 2) := tX1_init_ok (23, .newarray .int, 2) (List.mem_of_getElem? (i := 12) rfl)
theorem dX1_init_25 : decode cX1_init 25 = .ok (.putfield 18, 3) := tX1_init_ok (25, .putfield 18, 3) (List.mem_of_getElem? (i := 13) rfl)
theorem dX1_init_28 : decode cX1_init 28 = .ok (.aload_n 0, 1) := tX1_init_ok (28, .aload_n 0, 1) (List.mem_of_getElem? (i := 14) rfl)
theorem dX1_init_29 : decode cX1_init 29 = .ok (.bipush 16, 2) := tX1_init_ok (29, .bipush 16, 2) (List.mem_of_getElem? (i := 15) rfl)
theorem dX1_init_31 : decode cX1_init 31 = .ok (.newarray .long, 2) := tX1_init_ok (31, .newarray .long, 2) (List.mem_of_getElem? (i := 16) rfl)
theorem dX1_init_33 : decode cX1_init 33 = .ok (.putfield 21, 3) := tX1_init_ok (33, .putfield 21, 3) (List.mem_of_getElem? (i := 17) rfl)
theorem dX1_init_36 : decode cX1_init 36 = .ok (.return_, 1) := tX1_init_ok (36, .return_, 1) (List.mem_of_getElem? (i := 18) rfl)

def tX1_begin : List (Nat × Instr × Nat) := [
  (0, .aload_n 0, 1),
  (1, .iload_n 1, 1),
  (2, .putfield 25, 3),
  (5, .iconst 0, 1),
  (6, .istore_n 2, 1),
  (7, .iload_n 2, 1),
  (8, .bipush 8, 2),
  (10, .if_icmp .ge 23, 3),
  (13, .aload_n 0, 1),
  (14, .getfield 9, 3),
  (17, .iload_n 2, 1),
  (18, .iconst 0, 1),
  (19, .iastore, 1),
  (20, .aload_n 0, 1),
  (21, .getfield 15, 3),
  (24, .iload_n 2, 1),
  (25, .iconst 0, 1),
  (26, .iastore, 1),
  (27, .iinc 2 1, 3),
  (30, .goto (-23), 3),
  (33, .return_, 1)]
set_option maxRecDepth 100000 in
theorem tX1_begin_ok : ∀ q ∈ tX1_begin, decode cX1_begin q.1 = .ok q.2 := by decide +kernel
theorem dX1_begin_0 : decode cX1_begin 0 = .ok (.aload_n 0, 1) := tX1_begin_ok (0, .aload_n 0, 1) (List.mem_of_getElem? (i := 0) rfl)
theorem dX1_begin_1 : decode cX1_begin 1 = .ok (.iload_n 1, 1) := tX1_begin_ok (1, .iload_n 1, 1) (List.mem_of_getElem? (i := 1) rfl)
theorem dX1_begin_2 : decode cX1_begin 2 = .ok (.putfield 25, 3) := tX1_begin_ok (2, .putfield 25, 3) (List.mem_of_getElem? (i := 2) rfl)
theorem dX1_begin_5 : decode cX1_begin 5 = .ok (.iconst 0, 1) := tX1_begin_ok (5, .iconst 0, 1) (List.mem_of_getElem? (i := 3) rfl)
theorem dX1_begin_6 : decode cX1_begin 6 = .ok (.istore_n 2, 1) := tX1_begin_ok (6, .istore_n 2, 1) (List.mem_of_getElem? (i := 4) rfl)
theorem dX1_begin_7 : decode cX1_begin 7 = .ok (.iload_n 2, 1) := tX1_begin_ok (7, .iload_n 2, 1) (List.mem_of_getElem? (i := 5) rfl)
theorem dX1_begin_8 : decode cX1_begin 8 = .ok (.bipush 8, 2) := tX1_begin_ok (8, .bipush 8, 2) (List.mem_of_getElem? (i := 6) rfl)
theorem dX1_begin_10 : decode cX1_begin 10 = .ok (.if_icmp .ge 23, 3) := tX1_begin_ok (10, .if_icmp .ge 23, 3) (List.mem_of_getElem? (i := 7) rfl)
theorem dX1_begin_13 : decode cX1_begin 13 = .ok (.aload_n 0, 1) := tX1_begin_ok (13, .aload_n 0, 1) (List.mem_of_getElem? (i := 8) rfl)
theorem dX1_begin_14 : decode cX1_begin 14 = .ok (.getfield 9, 3) := tX1_begin_ok (14, .getfield 9, 3) (List.mem_of_getElem? (i := 9) rfl)
theorem dX1_begin_17 : decode cX1_begin 17 = .ok (.iload_n 2, 1) := tX1_begin_ok (17, .iload_n 2, 1) (List.mem_of_getElem? (i := 10) rfl)
theorem dX1_begin_18 : decode cX1_begin 18 = .ok (.iconst 0, 1) := tX1_begin_ok (18, .iconst 0, 1) (List.mem_of_getElem? (i := 11) rfl)
theorem dX1_begin_19 : decode cX1_begin 19 = .ok (.iastore, 1) := tX1_begin_ok (19, .iastore, 1) (List.mem_of_getElem? (i := 12) rfl)
theorem dX1_begin_20 : decode cX1_begin 20 = .ok (.aload_n 0, 1) := tX1_begin_ok (20, .aload_n 0, 1) (List.mem_of_getElem? (i := 13) rfl)
theorem dX1_begin_21 : decode cX1_begin 21 = .ok (.getfield 15, 3) := tX1_begin_ok (21, .getfield 15, 3) (List.mem_of_getElem? (i := 14) rfl)
theorem dX1_begin_24 : decode cX1_begin 24 = .ok (.iload_n 2, 1) := tX1_begin_ok (24, .iload_n 2, 1) (List.mem_of_getElem? (i := 15) rfl)
theorem dX1_begin_25 : decode cX1_begin 25 = .ok (.iconst 0, 1) := tX1_begin_ok (25, .iconst 0, 1) (List.mem_of_getElem? (i := 16) rfl)
theorem dX1_begin_26 : decode cX1_begin 26 = .ok (.iastore, 1) := tX1_begin_ok (26, .iastore, 1) (List.mem_of_getElem? (i := 17) rfl)
theorem dX1_begin_27 : decode cX1_begin 27 = .ok (.iinc 2 1, 3) := tX1_begin_ok (27, .iinc 2 1, 3) (List.mem_of_getElem? (i := 18) rfl)
theorem dX1_begin_30 : decode cX1_begin 30 = .ok (.goto (-23), 3) := tX1_begin_ok (30, .goto (-23), 3) (List.mem_of_getElem? (i := 19) rfl)
theorem dX1_begin_33 : decode cX1_begin 33 = .ok (.return_, 1) := tX1_begin_ok (33, .return_, 1) (List.mem_of_getElem? (i := 20) rfl)

def tX1_has : List (Nat × Instr × Nat) := [
  (0, .iload_n 1, 1),
  (1, .ifCond .lt 20, 3),
  (4, .iload_n 1, 1),
  (5, .aload_n 0, 1),
  (6, .getfield 25, 3),
  (9, .if_icmp .ge 12, 3),
  (12, .iload_n 1, 1),
  (13, .iconst 4, 1),
  (14, .if_icmp .ge 7, 3),
  (17, .iconst 1, 1),
  (18, .goto 4, 3),
  (21, .iconst 0, 1),
  (22, .ireturn, 1)]
set_option maxRecDepth 100000 in
theorem tX1_has_ok : ∀ q ∈ tX1_has, decode cX1_has q.1 = .ok q.2 := by decide +kernel
theorem dX1_has_0 : decode cX1_has 0 = .ok (.iload_n 1, 1) := tX1_has_ok (0, .iload_n 1, 1) (List.mem_of_getElem? (i := 0) rfl)
theorem dX1_has_1 : decode cX1_has 1 = .ok (.ifCond .lt 20, 3) := tX1_has_ok (1, .ifCond .lt 20, 3) (List.mem_of_getElem? (i := 1) rfl)
theorem dX1_has_4 : decode cX1_has 4 = .ok (.iload_n 1, 1) := tX1_has_ok (4, .iload_n 1, 1) (List.mem_of_getElem? (i := 2) rfl)
theorem dX1_has_5 : decode cX1_has 5 = .ok (.aload_n 0, 1) := tX1_has_ok (5, .aload_n 0, 1) (List.mem_of_getElem? (i := 3) rfl)
theorem dX1_has_6 : decode cX1_has 6 = .ok (.getfield 25, 3) := tX1_has_ok (6, .getfield 25, 3) (List.mem_of_getElem? (i := 4) rfl)
theorem dX1_has_9 : decode cX1_has 9 = .ok (.if_icmp .ge 12, 3) := tX1_has_ok (9, .if_icmp .ge 12, 3) (List.mem_of_getElem? (i := 5) rfl)
theorem dX1_has_12 : decode cX1_has 12 = .ok (.iload_n 1, 1) := tX1_has_ok (12, .iload_n 1, 1) (List.mem_of_getElem? (i := 6) rfl)
theorem dX1_has_13 : decode cX1_has 13 = .ok (.iconst 4, 1) := tX1_has_ok (13, .iconst 4, 1) (List.mem_of_getElem? (i := 7) rfl)
theorem dX1_has_14 : decode cX1_has 14 = .ok (.if_icmp .ge 7, 3) := tX1_has_ok (14, .if_icmp .ge 7, 3) (List.mem_of_getElem? (i := 8) rfl)
theorem dX1_has_17 : decode cX1_has 17 = .ok (.iconst 1, 1) := tX1_has_ok (17, .iconst 1, 1) (List.mem_of_getElem? (i := 9) rfl)
theorem dX1_has_18 : decode cX1_has 18 = .ok (.goto 4, 3) := tX1_has_ok (18, .goto 4, 3) (List.mem_of_getElem? (i := 10) rfl)
theorem dX1_has_21 : decode cX1_has 21 = .ok (.iconst 0, 1) := tX1_has_ok (21, .iconst 0, 1) (List.mem_of_getElem? (i := 11) rfl)
theorem dX1_has_22 : decode cX1_has 22 = .ok (.ireturn, 1) := tX1_has_ok (22, .ireturn, 1) (List.mem_of_getElem? (i := 12) rfl)

def tX1_setPlace : List (Nat × Instr × Nat) := [
  (0, .aload_n 0, 1),
  (1, .iload_n 1, 1),
  (2, .invokevirtual 29, 3),
  (5, .ifCond .eq 33, 3),
  (8, .iload_n 2, 1),
  (9, .ifCond .eq 9, 3),
  (12, .iload_n 1, 1),
  (13, .iconst 4, 1),
  (14, .iadd, 1),
  (15, .goto 4, 3),
  (18, .iload_n 1, 1),
  (19, .istore 5, 2),
  (21, .aload_n 0, 1),
  (22, .getfield 9, 3),
  (25, .iload 5, 2),
  (27, .iload_n 3, 1),
  (28, .iastore, 1),
  (29, .aload_n 0, 1),
  (30, .getfield 15, 3),
  (33, .iload 5, 2),
  (35, .iload 4, 2),
  (37, .iastore, 1),
  (38, .return_, 1)]
set_option maxRecDepth 100000 in
theorem tX1_setPlace_ok : ∀ q ∈ tX1_setPlace, decode cX1_setPlace q.1 = .ok q.2 := by decide +kernel
theorem dX1_setPlace_0 : decode cX1_setPlace 0 = .ok (.aload_n 0, 1) := tX1_setPlace_ok (0, .aload_n 0, 1) (List.mem_of_getElem? (i := 0) rfl)
theorem dX1_setPlace_1 : decode cX1_setPlace 1 = .ok (.iload_n 1, 1) := tX1_setPlace_ok (1, .iload_n 1, 1) (List.mem_of_getElem? (i := 1) rfl)
theorem dX1_setPlace_2 : decode cX1_setPlace 2 = .ok (.invokevirtual 29, 3) := tX1_setPlace_ok (2, .invokevirtual 29, 3) (List.mem_of_getElem? (i := 2) rfl)
theorem dX1_setPlace_5 : decode cX1_setPlace 5 = .ok (.ifCond .eq 33, 3) := tX1_setPlace_ok (5, .ifCond .eq 33, 3) (List.mem_of_getElem? (i := 3) rfl)
theorem dX1_setPlace_8 : decode cX1_setPlace 8 = .ok (.iload_n 2, 1) := tX1_setPlace_ok (8, .iload_n 2, 1) (List.mem_of_getElem? (i := 4) rfl)
theorem dX1_setPlace_9 : decode cX1_setPlace 9 = .ok (.ifCond .eq 9, 3) := tX1_setPlace_ok (9, .ifCond .eq 9, 3) (List.mem_of_getElem? (i := 5) rfl)
theorem dX1_setPlace_12 : decode cX1_setPlace 12 = .ok (.iload_n 1, 1) := tX1_setPlace_ok (12, .iload_n 1, 1) (List.mem_of_getElem? (i := 6) rfl)
theorem dX1_setPlace_13 : decode cX1_setPlace 13 = .ok (.iconst 4, 1) := tX1_setPlace_ok (13, .iconst 4, 1) (List.mem_of_getElem? (i := 7) rfl)
theorem dX1_setPlace_14 : decode cX1_setPlace 14 = .ok (.iadd, 1) := tX1_setPlace_ok (14, .iadd, 1) (List.mem_of_getElem? (i := 8) rfl)
theorem dX1_setPlace_15 : decode cX1_setPlace 15 = .ok (.goto 4, 3) := tX1_setPlace_ok (15, .goto 4, 3) (List.mem_of_getElem? (i := 9) rfl)
theorem dX1_setPlace_18 : decode cX1_setPlace 18 = .ok (.iload_n 1, 1) := tX1_setPlace_ok (18, .iload_n 1, 1) (List.mem_of_getElem? (i := 10) rfl)
theorem dX1_setPlace_19 : decode cX1_setPlace 19 = .ok (.istore 5, 2) := tX1_setPlace_ok (19, .istore 5, 2) (List.mem_of_getElem? (i := 11) rfl)
theorem dX1_setPlace_21 : decode cX1_setPlace 21 = .ok (.aload_n 0, 1) := tX1_setPlace_ok (21, .aload_n 0, 1) (List.mem_of_getElem? (i := 12) rfl)
theorem dX1_setPlace_22 : decode cX1_setPlace 22 = .ok (.getfield 9, 3) := tX1_setPlace_ok (22, .getfield 9, 3) (List.mem_of_getElem? (i := 13) rfl)
theorem dX1_setPlace_25 : decode cX1_setPlace 25 = .ok (.iload 5, 2) := tX1_setPlace_ok (25, .iload 5, 2) (List.mem_of_getElem? (i := 14) rfl)
theorem dX1_setPlace_27 : decode cX1_setPlace 27 = .ok (.iload_n 3, 1) := tX1_setPlace_ok (27, .iload_n 3, 1) (List.mem_of_getElem? (i := 15) rfl)
theorem dX1_setPlace_28 : decode cX1_setPlace 28 = .ok (.iastore, 1) := tX1_setPlace_ok (28, .iastore, 1) (List.mem_of_getElem? (i := 16) rfl)
theorem dX1_setPlace_29 : decode cX1_setPlace 29 = .ok (.aload_n 0, 1) := tX1_setPlace_ok (29, .aload_n 0, 1) (List.mem_of_getElem? (i := 17) rfl)
theorem dX1_setPlace_30 : decode cX1_setPlace 30 = .ok (.getfield 15, 3) := tX1_setPlace_ok (30, .getfield 15, 3) (List.mem_of_getElem? (i := 18) rfl)
theorem dX1_setPlace_33 : decode cX1_setPlace 33 = .ok (.iload 5, 2) := tX1_setPlace_ok (33, .iload 5, 2) (List.mem_of_getElem? (i := 19) rfl)
theorem dX1_setPlace_35 : decode cX1_setPlace 35 = .ok (.iload 4, 2) := tX1_setPlace_ok (35, .iload 4, 2) (List.mem_of_getElem? (i := 20) rfl)
theorem dX1_setPlace_37 : decode cX1_setPlace 37 = .ok (.iastore, 1) := tX1_setPlace_ok (37, .iastore, 1) (List.mem_of_getElem? (i := 21) rfl)
theorem dX1_setPlace_38 : decode cX1_setPlace 38 = .ok (.return_, 1) := tX1_setPlace_ok (38, .return_, 1) (List.mem_of_getElem? (i := 22) rfl)

def tX1_barredAt : List (Nat × Instr × Nat) := [
  (0, .aload_n 0, 1),
  (1, .iload_n 2, 1),
  (2, .invokevirtual 29, 3),
  (5, .ifCond .eq 57, 3),
  (8, .aload_n 0, 1),
  (9, .iload_n 3, 1),
  (10, .invokevirtual 29, 3),
  (13, .ifCond .eq 49, 3),
  (16, .aload_n 1, 1),
  (17, .aload_n 0, 1),
  (18, .getfield 9, 3),
  (21, .iload_n 2, 1),
  (22, .iaload, 1),
  (23, .aload_n 0, 1),
  (24, .getfield 15, 3),
  (27, .iload_n 2, 1),
  (28, .iaload, 1),
  (29, .invokevirtual 33, 3),
  (32, .ifCond .ne 26, 3),
  (35, .aload_n 1, 1),
  (36, .aload_n 0, 1),
  (37, .getfield 9, 3),
  (40, .iload_n 3, 1),
  (41, .iconst 4, 1),
  (42, .iadd, 1),
  (43, .iaload, 1),
  (44, .aload_n 0, 1),
  (45, .getfield 15, 3),
  (48, .iload_n 3, 1),
  (49, .iconst 4, 1),
  (50, .iadd, 1),
  (51, .iaload, 1),
  (52, .invokevirtual 33, 3),
  (55, .ifCond .eq 7, 3),
  (58, .iconst 1, 1),
  (59, .goto 4, 3),
  (62, .iconst 0, 1),
  (63, .ireturn, 1)]
set_option maxRecDepth 100000 in
theorem tX1_barredAt_ok : ∀ q ∈ tX1_barredAt, decode cX1_barredAt q.1 = .ok q.2 := by decide +kernel
theorem dX1_barredAt_0 : decode cX1_barredAt 0 = .ok (.aload_n 0, 1) := tX1_barredAt_ok (0, .aload_n 0, 1) (List.mem_of_getElem? (i := 0) rfl)
theorem dX1_barredAt_1 : decode cX1_barredAt 1 = .ok (.iload_n 2, 1) := tX1_barredAt_ok (1, .iload_n 2, 1) (List.mem_of_getElem? (i := 1) rfl)
theorem dX1_barredAt_2 : decode cX1_barredAt 2 = .ok (.invokevirtual 29, 3) := tX1_barredAt_ok (2, .invokevirtual 29, 3) (List.mem_of_getElem? (i := 2) rfl)
theorem dX1_barredAt_5 : decode cX1_barredAt 5 = .ok (.ifCond .eq 57, 3) := tX1_barredAt_ok (5, .ifCond .eq 57, 3) (List.mem_of_getElem? (i := 3) rfl)
theorem dX1_barredAt_8 : decode cX1_barredAt 8 = .ok (.aload_n 0, 1) := tX1_barredAt_ok (8, .aload_n 0, 1) (List.mem_of_getElem? (i := 4) rfl)
theorem dX1_barredAt_9 : decode cX1_barredAt 9 = .ok (.iload_n 3, 1) := tX1_barredAt_ok (9, .iload_n 3, 1) (List.mem_of_getElem? (i := 5) rfl)
theorem dX1_barredAt_10 : decode cX1_barredAt 10 = .ok (.invokevirtual 29, 3) := tX1_barredAt_ok (10, .invokevirtual 29, 3) (List.mem_of_getElem? (i := 6) rfl)
theorem dX1_barredAt_13 : decode cX1_barredAt 13 = .ok (.ifCond .eq 49, 3) := tX1_barredAt_ok (13, .ifCond .eq 49, 3) (List.mem_of_getElem? (i := 7) rfl)
theorem dX1_barredAt_16 : decode cX1_barredAt 16 = .ok (.aload_n 1, 1) := tX1_barredAt_ok (16, .aload_n 1, 1) (List.mem_of_getElem? (i := 8) rfl)
theorem dX1_barredAt_17 : decode cX1_barredAt 17 = .ok (.aload_n 0, 1) := tX1_barredAt_ok (17, .aload_n 0, 1) (List.mem_of_getElem? (i := 9) rfl)
theorem dX1_barredAt_18 : decode cX1_barredAt 18 = .ok (.getfield 9, 3) := tX1_barredAt_ok (18, .getfield 9, 3) (List.mem_of_getElem? (i := 10) rfl)
theorem dX1_barredAt_21 : decode cX1_barredAt 21 = .ok (.iload_n 2, 1) := tX1_barredAt_ok (21, .iload_n 2, 1) (List.mem_of_getElem? (i := 11) rfl)
theorem dX1_barredAt_22 : decode cX1_barredAt 22 = .ok (.iaload, 1) := tX1_barredAt_ok (22, .iaload, 1) (List.mem_of_getElem? (i := 12) rfl)
theorem dX1_barredAt_23 : decode cX1_barredAt 23 = .ok (.aload_n 0, 1) := tX1_barredAt_ok (23, .aload_n 0, 1) (List.mem_of_getElem? (i := 13) rfl)
theorem dX1_barredAt_24 : decode cX1_barredAt 24 = .ok (.getfield 15, 3) := tX1_barredAt_ok (24, .getfield 15, 3) (List.mem_of_getElem? (i := 14) rfl)
theorem dX1_barredAt_27 : decode cX1_barredAt 27 = .ok (.iload_n 2, 1) := tX1_barredAt_ok (27, .iload_n 2, 1) (List.mem_of_getElem? (i := 15) rfl)
theorem dX1_barredAt_28 : decode cX1_barredAt 28 = .ok (.iaload, 1) := tX1_barredAt_ok (28, .iaload, 1) (List.mem_of_getElem? (i := 16) rfl)
theorem dX1_barredAt_29 : decode cX1_barredAt 29 = .ok (.invokevirtual 33, 3) := tX1_barredAt_ok (29, .invokevirtual 33, 3) (List.mem_of_getElem? (i := 17) rfl)
theorem dX1_barredAt_32 : decode cX1_barredAt 32 = .ok (.ifCond .ne 26, 3) := tX1_barredAt_ok (32, .ifCond .ne 26, 3) (List.mem_of_getElem? (i := 18) rfl)
theorem dX1_barredAt_35 : decode cX1_barredAt 35 = .ok (.aload_n 1, 1) := tX1_barredAt_ok (35, .aload_n 1, 1) (List.mem_of_getElem? (i := 19) rfl)
theorem dX1_barredAt_36 : decode cX1_barredAt 36 = .ok (.aload_n 0, 1) := tX1_barredAt_ok (36, .aload_n 0, 1) (List.mem_of_getElem? (i := 20) rfl)
theorem dX1_barredAt_37 : decode cX1_barredAt 37 = .ok (.getfield 9, 3) := tX1_barredAt_ok (37, .getfield 9, 3) (List.mem_of_getElem? (i := 21) rfl)
theorem dX1_barredAt_40 : decode cX1_barredAt 40 = .ok (.iload_n 3, 1) := tX1_barredAt_ok (40, .iload_n 3, 1) (List.mem_of_getElem? (i := 22) rfl)
theorem dX1_barredAt_41 : decode cX1_barredAt 41 = .ok (.iconst 4, 1) := tX1_barredAt_ok (41, .iconst 4, 1) (List.mem_of_getElem? (i := 23) rfl)
theorem dX1_barredAt_42 : decode cX1_barredAt 42 = .ok (.iadd, 1) := tX1_barredAt_ok (42, .iadd, 1) (List.mem_of_getElem? (i := 24) rfl)
theorem dX1_barredAt_43 : decode cX1_barredAt 43 = .ok (.iaload, 1) := tX1_barredAt_ok (43, .iaload, 1) (List.mem_of_getElem? (i := 25) rfl)
theorem dX1_barredAt_44 : decode cX1_barredAt 44 = .ok (.aload_n 0, 1) := tX1_barredAt_ok (44, .aload_n 0, 1) (List.mem_of_getElem? (i := 26) rfl)
theorem dX1_barredAt_45 : decode cX1_barredAt 45 = .ok (.getfield 15, 3) := tX1_barredAt_ok (45, .getfield 15, 3) (List.mem_of_getElem? (i := 27) rfl)
theorem dX1_barredAt_48 : decode cX1_barredAt 48 = .ok (.iload_n 3, 1) := tX1_barredAt_ok (48, .iload_n 3, 1) (List.mem_of_getElem? (i := 28) rfl)
theorem dX1_barredAt_49 : decode cX1_barredAt 49 = .ok (.iconst 4, 1) := tX1_barredAt_ok (49, .iconst 4, 1) (List.mem_of_getElem? (i := 29) rfl)
theorem dX1_barredAt_50 : decode cX1_barredAt 50 = .ok (.iadd, 1) := tX1_barredAt_ok (50, .iadd, 1) (List.mem_of_getElem? (i := 30) rfl)
theorem dX1_barredAt_51 : decode cX1_barredAt 51 = .ok (.iaload, 1) := tX1_barredAt_ok (51, .iaload, 1) (List.mem_of_getElem? (i := 31) rfl)
theorem dX1_barredAt_52 : decode cX1_barredAt 52 = .ok (.invokevirtual 33, 3) := tX1_barredAt_ok (52, .invokevirtual 33, 3) (List.mem_of_getElem? (i := 32) rfl)
theorem dX1_barredAt_55 : decode cX1_barredAt 55 = .ok (.ifCond .eq 7, 3) := tX1_barredAt_ok (55, .ifCond .eq 7, 3) (List.mem_of_getElem? (i := 33) rfl)
theorem dX1_barredAt_58 : decode cX1_barredAt 58 = .ok (.iconst 1, 1) := tX1_barredAt_ok (58, .iconst 1, 1) (List.mem_of_getElem? (i := 34) rfl)
theorem dX1_barredAt_59 : decode cX1_barredAt 59 = .ok (.goto 4, 3) := tX1_barredAt_ok (59, .goto 4, 3) (List.mem_of_getElem? (i := 35) rfl)
theorem dX1_barredAt_62 : decode cX1_barredAt 62 = .ok (.iconst 0, 1) := tX1_barredAt_ok (62, .iconst 0, 1) (List.mem_of_getElem? (i := 36) rfl)
theorem dX1_barredAt_63 : decode cX1_barredAt 63 = .ok (.ireturn, 1) := tX1_barredAt_ok (63, .ireturn, 1) (List.mem_of_getElem? (i := 37) rfl)

def tX1_anyBarred : List (Nat × Instr × Nat) := [
  (0, .iconst 0, 1),
  (1, .istore_n 2, 1),
  (2, .iload_n 2, 1),
  (3, .aload_n 0, 1),
  (4, .getfield 25, 3),
  (7, .if_icmp .ge 21, 3),
  (10, .aload_n 0, 1),
  (11, .aload_n 1, 1),
  (12, .iload_n 2, 1),
  (13, .iload_n 2, 1),
  (14, .invokevirtual 39, 3),
  (17, .ifCond .eq 5, 3),
  (20, .iconst 1, 1),
  (21, .ireturn, 1),
  (22, .iinc 2 1, 3),
  (25, .goto (-23), 3),
  (28, .iconst 0, 1),
  (29, .ireturn, 1)]
set_option maxRecDepth 100000 in
theorem tX1_anyBarred_ok : ∀ q ∈ tX1_anyBarred, decode cX1_anyBarred q.1 = .ok q.2 := by decide +kernel
theorem dX1_anyBarred_0 : decode cX1_anyBarred 0 = .ok (.iconst 0, 1) := tX1_anyBarred_ok (0, .iconst 0, 1) (List.mem_of_getElem? (i := 0) rfl)
theorem dX1_anyBarred_1 : decode cX1_anyBarred 1 = .ok (.istore_n 2, 1) := tX1_anyBarred_ok (1, .istore_n 2, 1) (List.mem_of_getElem? (i := 1) rfl)
theorem dX1_anyBarred_2 : decode cX1_anyBarred 2 = .ok (.iload_n 2, 1) := tX1_anyBarred_ok (2, .iload_n 2, 1) (List.mem_of_getElem? (i := 2) rfl)
theorem dX1_anyBarred_3 : decode cX1_anyBarred 3 = .ok (.aload_n 0, 1) := tX1_anyBarred_ok (3, .aload_n 0, 1) (List.mem_of_getElem? (i := 3) rfl)
theorem dX1_anyBarred_4 : decode cX1_anyBarred 4 = .ok (.getfield 25, 3) := tX1_anyBarred_ok (4, .getfield 25, 3) (List.mem_of_getElem? (i := 4) rfl)
theorem dX1_anyBarred_7 : decode cX1_anyBarred 7 = .ok (.if_icmp .ge 21, 3) := tX1_anyBarred_ok (7, .if_icmp .ge 21, 3) (List.mem_of_getElem? (i := 5) rfl)
theorem dX1_anyBarred_10 : decode cX1_anyBarred 10 = .ok (.aload_n 0, 1) := tX1_anyBarred_ok (10, .aload_n 0, 1) (List.mem_of_getElem? (i := 6) rfl)
theorem dX1_anyBarred_11 : decode cX1_anyBarred 11 = .ok (.aload_n 1, 1) := tX1_anyBarred_ok (11, .aload_n 1, 1) (List.mem_of_getElem? (i := 7) rfl)
theorem dX1_anyBarred_12 : decode cX1_anyBarred 12 = .ok (.iload_n 2, 1) := tX1_anyBarred_ok (12, .iload_n 2, 1) (List.mem_of_getElem? (i := 8) rfl)
theorem dX1_anyBarred_13 : decode cX1_anyBarred 13 = .ok (.iload_n 2, 1) := tX1_anyBarred_ok (13, .iload_n 2, 1) (List.mem_of_getElem? (i := 9) rfl)
theorem dX1_anyBarred_14 : decode cX1_anyBarred 14 = .ok (.invokevirtual 39, 3) := tX1_anyBarred_ok (14, .invokevirtual 39, 3) (List.mem_of_getElem? (i := 10) rfl)
theorem dX1_anyBarred_17 : decode cX1_anyBarred 17 = .ok (.ifCond .eq 5, 3) := tX1_anyBarred_ok (17, .ifCond .eq 5, 3) (List.mem_of_getElem? (i := 11) rfl)
theorem dX1_anyBarred_20 : decode cX1_anyBarred 20 = .ok (.iconst 1, 1) := tX1_anyBarred_ok (20, .iconst 1, 1) (List.mem_of_getElem? (i := 12) rfl)
theorem dX1_anyBarred_21 : decode cX1_anyBarred 21 = .ok (.ireturn, 1) := tX1_anyBarred_ok (21, .ireturn, 1) (List.mem_of_getElem? (i := 13) rfl)
theorem dX1_anyBarred_22 : decode cX1_anyBarred 22 = .ok (.iinc 2 1, 3) := tX1_anyBarred_ok (22, .iinc 2 1, 3) (List.mem_of_getElem? (i := 14) rfl)
theorem dX1_anyBarred_25 : decode cX1_anyBarred 25 = .ok (.goto (-23), 3) := tX1_anyBarred_ok (25, .goto (-23), 3) (List.mem_of_getElem? (i := 15) rfl)
theorem dX1_anyBarred_28 : decode cX1_anyBarred 28 = .ok (.iconst 0, 1) := tX1_anyBarred_ok (28, .iconst 0, 1) (List.mem_of_getElem? (i := 16) rfl)
theorem dX1_anyBarred_29 : decode cX1_anyBarred 29 = .ok (.ireturn, 1) := tX1_anyBarred_ok (29, .ireturn, 1) (List.mem_of_getElem? (i := 17) rfl)

def tX1_entry : List (Nat × Instr × Nat) := [
  (0, .aload_n 0, 1),
  (1, .iload_n 2, 1),
  (2, .invokevirtual 29, 3),
  (5, .ifCond .eq 11, 3),
  (8, .aload_n 0, 1),
  (9, .iload_n 3, 1),
  (10, .invokevirtual 29, 3),
  (13, .ifCond .ne 5, 3),
  (16, .iconst 0, 1),
  (17, .ireturn, 1),
  (18, .aload_n 0, 1),
  (19, .getfield 9, 3),
  (22, .iload_n 2, 1),
  (23, .iaload, 1),
  (24, .istore 4, 2),
  (26, .aload_n 0, 1),
  (27, .getfield 9, 3),
  (30, .iload_n 3, 1),
  (31, .iconst 4, 1),
  (32, .iadd, 1),
  (33, .iaload, 1),
  (34, .iload 4, 2),
  (36, .isub, 1),
  (37, .istore 5, 2),
  (39, .iload 5, 2),
  (41, .ifCond .lt 30, 3),
  (44, .iload 5, 2),
  (46, .aload_n 0, 1),
  (47, .getfield 18, 3),
  (50, .arraylength, 1),
  (51, .if_icmp .ge 20, 3),
  (54, .aload_n 0, 1),
  (55, .getfield 15, 3),
  (58, .iload_n 3, 1),
  (59, .iconst 4, 1),
  (60, .iadd, 1),
  (61, .iaload, 1),
  (62, .aload_n 0, 1),
  (63, .getfield 15, 3),
  (66, .iload_n 2, 1),
  (67, .iaload, 1),
  (68, .if_icmp .ge 5, 3),
  (71, .iconst 0, 1),
  (72, .ireturn, 1),
  (73, .iconst 0, 1),
  (74, .istore 6, 2),
  (76, .iload 6, 2),
  (78, .iload 5, 2),
  (80, .if_icmp .gt 26, 3),
  (83, .aload_n 0, 1),
  (84, .getfield 18, 3),
  (87, .iload 6, 2),
  (89, .iload 6, 2),
  (91, .ifCond .ne 7, 3),
  (94, .iconst 1, 1),
  (95, .goto 4, 3),
  (98, .iconst 0, 1),
  (99, .iastore, 1),
  (100, .iinc 6 1, 3),
  (103, .goto (-27), 3),
  (106, .aload_n 0, 1),
  (107, .getfield 15, 3),
  (110, .iload_n 2, 1),
  (111, .iaload, 1),
  (112, .istore 6, 2),
  (114, .iload 6, 2),
  (116, .aload_n 0, 1),
  (117, .getfield 15, 3),
  (120, .iload_n 3, 1),
  (121, .iconst 4, 1),
  (122, .iadd, 1),
  (123, .iaload, 1),
  (124, .if_icmp .gt 92, 3),
  (127, .iconst 0, 1),
  (128, .istore 7, 2),
  (130, .iload 7, 2),
  (132, .iload 5, 2),
  (134, .if_icmp .gt 76, 3),
  (137, .iload 7, 2),
  (139, .ifCond .le 23, 3),
  (142, .aload_n 0, 1),
  (143, .getfield 18, 3),
  (146, .iload 7, 2),
  (148, .iaload, 1),
  (149, .aload_n 0, 1),
  (150, .getfield 18, 3),
  (153, .iload 7, 2),
  (155, .iconst 1, 1),
  (156, .isub, 1),
  (157, .iaload, 1),
  (158, .iadd, 1),
  (159, .goto 10, 3),
  (162, .aload_n 0, 1),
  (163, .getfield 18, 3),
  (166, .iload 7, 2),
  (168, .iaload, 1),
  (169, .istore 8, 2),
  (171, .aload_n 0, 1),
  (172, .getfield 18, 3),
  (175, .iload 7, 2),
  (177, .aload_n 1, 1),
  (178, .iload 4, 2),
  (180, .iload 7, 2),
  (182, .iadd, 1),
  (183, .iload 6, 2),
  (185, .invokevirtual 33, 3),
  (188, .ifCond .eq 7, 3),
  (191, .iconst 0, 1),
  (192, .goto 11, 3),
  (195, .iload 8, 2),
  (197, .sipush 20001, 3),
  (200, .invokestatic 43, 3),
  (203, .iastore, 1),
  (204, .iinc 7 1, 3),
  (207, .goto (-77), 3),
  (210, .iinc 6 1, 3),
  (213, .goto (-99), 3),
  (216, .aload_n 0, 1),
  (217, .getfield 18, 3),
  (220, .iload 5, 2),
  (222, .iaload, 1),
  (223, .ireturn, 1)]
set_option maxRecDepth 100000 in
theorem tX1_entry_ok : ∀ q ∈ tX1_entry, decode cX1_entry q.1 = .ok q.2 := by decide +kernel
theorem dX1_entry_0 : decode cX1_entry 0 = .ok (.aload_n 0, 1) := tX1_entry_ok (0, .aload_n 0, 1) (List.mem_of_getElem? (i := 0) rfl)
theorem dX1_entry_1 : decode cX1_entry 1 = .ok (.iload_n 2, 1) := tX1_entry_ok (1, .iload_n 2, 1) (List.mem_of_getElem? (i := 1) rfl)
theorem dX1_entry_2 : decode cX1_entry 2 = .ok (.invokevirtual 29, 3) := tX1_entry_ok (2, .invokevirtual 29, 3) (List.mem_of_getElem? (i := 2) rfl)
theorem dX1_entry_5 : decode cX1_entry 5 = .ok (.ifCond .eq 11, 3) := tX1_entry_ok (5, .ifCond .eq 11, 3) (List.mem_of_getElem? (i := 3) rfl)
theorem dX1_entry_8 : decode cX1_entry 8 = .ok (.aload_n 0, 1) := tX1_entry_ok (8, .aload_n 0, 1) (List.mem_of_getElem? (i := 4) rfl)
theorem dX1_entry_9 : decode cX1_entry 9 = .ok (.iload_n 3, 1) := tX1_entry_ok (9, .iload_n 3, 1) (List.mem_of_getElem? (i := 5) rfl)
theorem dX1_entry_10 : decode cX1_entry 10 = .ok (.invokevirtual 29, 3) := tX1_entry_ok (10, .invokevirtual 29, 3) (List.mem_of_getElem? (i := 6) rfl)
theorem dX1_entry_13 : decode cX1_entry 13 = .ok (.ifCond .ne 5, 3) := tX1_entry_ok (13, .ifCond .ne 5, 3) (List.mem_of_getElem? (i := 7) rfl)
theorem dX1_entry_16 : decode cX1_entry 16 = .ok (.iconst 0, 1) := tX1_entry_ok (16, .iconst 0, 1) (List.mem_of_getElem? (i := 8) rfl)
theorem dX1_entry_17 : decode cX1_entry 17 = .ok (.ireturn, 1) := tX1_entry_ok (17, .ireturn, 1) (List.mem_of_getElem? (i := 9) rfl)
theorem dX1_entry_18 : decode cX1_entry 18 = .ok (.aload_n 0, 1) := tX1_entry_ok (18, .aload_n 0, 1) (List.mem_of_getElem? (i := 10) rfl)
theorem dX1_entry_19 : decode cX1_entry 19 = .ok (.getfield 9, 3) := tX1_entry_ok (19, .getfield 9, 3) (List.mem_of_getElem? (i := 11) rfl)
theorem dX1_entry_22 : decode cX1_entry 22 = .ok (.iload_n 2, 1) := tX1_entry_ok (22, .iload_n 2, 1) (List.mem_of_getElem? (i := 12) rfl)
theorem dX1_entry_23 : decode cX1_entry 23 = .ok (.iaload, 1) := tX1_entry_ok (23, .iaload, 1) (List.mem_of_getElem? (i := 13) rfl)
theorem dX1_entry_24 : decode cX1_entry 24 = .ok (.istore 4, 2) := tX1_entry_ok (24, .istore 4, 2) (List.mem_of_getElem? (i := 14) rfl)
theorem dX1_entry_26 : decode cX1_entry 26 = .ok (.aload_n 0, 1) := tX1_entry_ok (26, .aload_n 0, 1) (List.mem_of_getElem? (i := 15) rfl)
theorem dX1_entry_27 : decode cX1_entry 27 = .ok (.getfield 9, 3) := tX1_entry_ok (27, .getfield 9, 3) (List.mem_of_getElem? (i := 16) rfl)
theorem dX1_entry_30 : decode cX1_entry 30 = .ok (.iload_n 3, 1) := tX1_entry_ok (30, .iload_n 3, 1) (List.mem_of_getElem? (i := 17) rfl)
theorem dX1_entry_31 : decode cX1_entry 31 = .ok (.iconst 4, 1) := tX1_entry_ok (31, .iconst 4, 1) (List.mem_of_getElem? (i := 18) rfl)
theorem dX1_entry_32 : decode cX1_entry 32 = .ok (.iadd, 1) := tX1_entry_ok (32, .iadd, 1) (List.mem_of_getElem? (i := 19) rfl)
theorem dX1_entry_33 : decode cX1_entry 33 = .ok (.iaload, 1) := tX1_entry_ok (33, .iaload, 1) (List.mem_of_getElem? (i := 20) rfl)
theorem dX1_entry_34 : decode cX1_entry 34 = .ok (.iload 4, 2) := tX1_entry_ok (34, .iload 4, 2) (List.mem_of_getElem? (i := 21) rfl)
theorem dX1_entry_36 : decode cX1_entry 36 = .ok (.isub, 1) := tX1_entry_ok (36, .isub, 1) (List.mem_of_getElem? (i := 22) rfl)
theorem dX1_entry_37 : decode cX1_entry 37 = .ok (.istore 5, 2) := tX1_entry_ok (37, .istore 5, 2) (List.mem_of_getElem? (i := 23) rfl)
theorem dX1_entry_39 : decode cX1_entry 39 = .ok (.iload 5, 2) := tX1_entry_ok (39, .iload 5, 2) (List.mem_of_getElem? (i := 24) rfl)
theorem dX1_entry_41 : decode cX1_entry 41 = .ok (.ifCond .lt 30, 3) := tX1_entry_ok (41, .ifCond .lt 30, 3) (List.mem_of_getElem? (i := 25) rfl)
theorem dX1_entry_44 : decode cX1_entry 44 = .ok (.iload 5, 2) := tX1_entry_ok (44, .iload 5, 2) (List.mem_of_getElem? (i := 26) rfl)
theorem dX1_entry_46 : decode cX1_entry 46 = .ok (.aload_n 0, 1) := tX1_entry_ok (46, .aload_n 0, 1) (List.mem_of_getElem? (i := 27) rfl)
theorem dX1_entry_47 : decode cX1_entry 47 = .ok (.getfield 18, 3) := tX1_entry_ok (47, .getfield 18, 3) (List.mem_of_getElem? (i := 28) rfl)
theorem dX1_entry_50 : decode cX1_entry 50 = .ok (.arraylength, 1) := tX1_entry_ok (50, .arraylength, 1) (List.mem_of_getElem? (i := 29) rfl)
theorem dX1_entry_51 : decode cX1_entry 51 = .ok (.if_icmp .ge 20, 3) := tX1_entry_ok (51, .if_icmp .ge 20, 3) (List.mem_of_getElem? (i := 30) rfl)
theorem dX1_entry_54 : decode cX1_entry 54 = .ok (.aload_n 0, 1) := tX1_entry_ok (54, .aload_n 0, 1) (List.mem_of_getElem? (i := 31) rfl)
theorem dX1_entry_55 : decode cX1_entry 55 = .ok (.getfield 15, 3) := tX1_entry_ok (55, .getfield 15, 3) (List.mem_of_getElem? (i := 32) rfl)
theorem dX1_entry_58 : decode cX1_entry 58 = .ok (.iload_n 3, 1) := tX1_entry_ok (58, .iload_n 3, 1) (List.mem_of_getElem? (i := 33) rfl)
theorem dX1_entry_59 : decode cX1_entry 59 = .ok (.iconst 4, 1) := tX1_entry_ok (59, .iconst 4, 1) (List.mem_of_getElem? (i := 34) rfl)
theorem dX1_entry_60 : decode cX1_entry 60 = .ok (.iadd, 1) := tX1_entry_ok (60, .iadd, 1) (List.mem_of_getElem? (i := 35) rfl)
theorem dX1_entry_61 : decode cX1_entry 61 = .ok (.iaload, 1) := tX1_entry_ok (61, .iaload, 1) (List.mem_of_getElem? (i := 36) rfl)
theorem dX1_entry_62 : decode cX1_entry 62 = .ok (.aload_n 0, 1) := tX1_entry_ok (62, .aload_n 0, 1) (List.mem_of_getElem? (i := 37) rfl)
theorem dX1_entry_63 : decode cX1_entry 63 = .ok (.getfield 15, 3) := tX1_entry_ok (63, .getfield 15, 3) (List.mem_of_getElem? (i := 38) rfl)
theorem dX1_entry_66 : decode cX1_entry 66 = .ok (.iload_n 2, 1) := tX1_entry_ok (66, .iload_n 2, 1) (List.mem_of_getElem? (i := 39) rfl)
theorem dX1_entry_67 : decode cX1_entry 67 = .ok (.iaload, 1) := tX1_entry_ok (67, .iaload, 1) (List.mem_of_getElem? (i := 40) rfl)
theorem dX1_entry_68 : decode cX1_entry 68 = .ok (.if_icmp .ge 5, 3) := tX1_entry_ok (68, .if_icmp .ge 5, 3) (List.mem_of_getElem? (i := 41) rfl)
theorem dX1_entry_71 : decode cX1_entry 71 = .ok (.iconst 0, 1) := tX1_entry_ok (71, .iconst 0, 1) (List.mem_of_getElem? (i := 42) rfl)
theorem dX1_entry_72 : decode cX1_entry 72 = .ok (.ireturn, 1) := tX1_entry_ok (72, .ireturn, 1) (List.mem_of_getElem? (i := 43) rfl)
theorem dX1_entry_73 : decode cX1_entry 73 = .ok (.iconst 0, 1) := tX1_entry_ok (73, .iconst 0, 1) (List.mem_of_getElem? (i := 44) rfl)
theorem dX1_entry_74 : decode cX1_entry 74 = .ok (.istore 6, 2) := tX1_entry_ok (74, .istore 6, 2) (List.mem_of_getElem? (i := 45) rfl)
theorem dX1_entry_76 : decode cX1_entry 76 = .ok (.iload 6, 2) := tX1_entry_ok (76, .iload 6, 2) (List.mem_of_getElem? (i := 46) rfl)
theorem dX1_entry_78 : decode cX1_entry 78 = .ok (.iload 5, 2) := tX1_entry_ok (78, .iload 5, 2) (List.mem_of_getElem? (i := 47) rfl)
theorem dX1_entry_80 : decode cX1_entry 80 = .ok (.if_icmp .gt 26, 3) := tX1_entry_ok (80, .if_icmp .gt 26, 3) (List.mem_of_getElem? (i := 48) rfl)
theorem dX1_entry_83 : decode cX1_entry 83 = .ok (.aload_n 0, 1) := tX1_entry_ok (83, .aload_n 0, 1) (List.mem_of_getElem? (i := 49) rfl)
theorem dX1_entry_84 : decode cX1_entry 84 = .ok (.getfield 18, 3) := tX1_entry_ok (84, .getfield 18, 3) (List.mem_of_getElem? (i := 50) rfl)
theorem dX1_entry_87 : decode cX1_entry 87 = .ok (.iload 6, 2) := tX1_entry_ok (87, .iload 6, 2) (List.mem_of_getElem? (i := 51) rfl)
theorem dX1_entry_89 : decode cX1_entry 89 = .ok (.iload 6, 2) := tX1_entry_ok (89, .iload 6, 2) (List.mem_of_getElem? (i := 52) rfl)
theorem dX1_entry_91 : decode cX1_entry 91 = .ok (.ifCond .ne 7, 3) := tX1_entry_ok (91, .ifCond .ne 7, 3) (List.mem_of_getElem? (i := 53) rfl)
theorem dX1_entry_94 : decode cX1_entry 94 = .ok (.iconst 1, 1) := tX1_entry_ok (94, .iconst 1, 1) (List.mem_of_getElem? (i := 54) rfl)
theorem dX1_entry_95 : decode cX1_entry 95 = .ok (.goto 4, 3) := tX1_entry_ok (95, .goto 4, 3) (List.mem_of_getElem? (i := 55) rfl)
theorem dX1_entry_98 : decode cX1_entry 98 = .ok (.iconst 0, 1) := tX1_entry_ok (98, .iconst 0, 1) (List.mem_of_getElem? (i := 56) rfl)
theorem dX1_entry_99 : decode cX1_entry 99 = .ok (.iastore, 1) := tX1_entry_ok (99, .iastore, 1) (List.mem_of_getElem? (i := 57) rfl)
theorem dX1_entry_100 : decode cX1_entry 100 = .ok (.iinc 6 1, 3) := tX1_entry_ok (100, .iinc 6 1, 3) (List.mem_of_getElem? (i := 58) rfl)
theorem dX1_entry_103 : decode cX1_entry 103 = .ok (.goto (-27), 3) := tX1_entry_ok (103, .goto (-27), 3) (List.mem_of_getElem? (i := 59) rfl)
theorem dX1_entry_106 : decode cX1_entry 106 = .ok (.aload_n 0, 1) := tX1_entry_ok (106, .aload_n 0, 1) (List.mem_of_getElem? (i := 60) rfl)
theorem dX1_entry_107 : decode cX1_entry 107 = .ok (.getfield 15, 3) := tX1_entry_ok (107, .getfield 15, 3) (List.mem_of_getElem? (i := 61) rfl)
theorem dX1_entry_110 : decode cX1_entry 110 = .ok (.iload_n 2, 1) := tX1_entry_ok (110, .iload_n 2, 1) (List.mem_of_getElem? (i := 62) rfl)
theorem dX1_entry_111 : decode cX1_entry 111 = .ok (.iaload, 1) := tX1_entry_ok (111, .iaload, 1) (List.mem_of_getElem? (i := 63) rfl)
theorem dX1_entry_112 : decode cX1_entry 112 = .ok (.istore 6, 2) := tX1_entry_ok (112, .istore 6, 2) (List.mem_of_getElem? (i := 64) rfl)
theorem dX1_entry_114 : decode cX1_entry 114 = .ok (.iload 6, 2) := tX1_entry_ok (114, .iload 6, 2) (List.mem_of_getElem? (i := 65) rfl)
theorem dX1_entry_116 : decode cX1_entry 116 = .ok (.aload_n 0, 1) := tX1_entry_ok (116, .aload_n 0, 1) (List.mem_of_getElem? (i := 66) rfl)
theorem dX1_entry_117 : decode cX1_entry 117 = .ok (.getfield 15, 3) := tX1_entry_ok (117, .getfield 15, 3) (List.mem_of_getElem? (i := 67) rfl)
theorem dX1_entry_120 : decode cX1_entry 120 = .ok (.iload_n 3, 1) := tX1_entry_ok (120, .iload_n 3, 1) (List.mem_of_getElem? (i := 68) rfl)
theorem dX1_entry_121 : decode cX1_entry 121 = .ok (.iconst 4, 1) := tX1_entry_ok (121, .iconst 4, 1) (List.mem_of_getElem? (i := 69) rfl)
theorem dX1_entry_122 : decode cX1_entry 122 = .ok (.iadd, 1) := tX1_entry_ok (122, .iadd, 1) (List.mem_of_getElem? (i := 70) rfl)
theorem dX1_entry_123 : decode cX1_entry 123 = .ok (.iaload, 1) := tX1_entry_ok (123, .iaload, 1) (List.mem_of_getElem? (i := 71) rfl)
theorem dX1_entry_124 : decode cX1_entry 124 = .ok (.if_icmp .gt 92, 3) := tX1_entry_ok (124, .if_icmp .gt 92, 3) (List.mem_of_getElem? (i := 72) rfl)
theorem dX1_entry_127 : decode cX1_entry 127 = .ok (.iconst 0, 1) := tX1_entry_ok (127, .iconst 0, 1) (List.mem_of_getElem? (i := 73) rfl)
theorem dX1_entry_128 : decode cX1_entry 128 = .ok (.istore 7, 2) := tX1_entry_ok (128, .istore 7, 2) (List.mem_of_getElem? (i := 74) rfl)
theorem dX1_entry_130 : decode cX1_entry 130 = .ok (.iload 7, 2) := tX1_entry_ok (130, .iload 7, 2) (List.mem_of_getElem? (i := 75) rfl)
theorem dX1_entry_132 : decode cX1_entry 132 = .ok (.iload 5, 2) := tX1_entry_ok (132, .iload 5, 2) (List.mem_of_getElem? (i := 76) rfl)
theorem dX1_entry_134 : decode cX1_entry 134 = .ok (.if_icmp .gt 76, 3) := tX1_entry_ok (134, .if_icmp .gt 76, 3) (List.mem_of_getElem? (i := 77) rfl)
theorem dX1_entry_137 : decode cX1_entry 137 = .ok (.iload 7, 2) := tX1_entry_ok (137, .iload 7, 2) (List.mem_of_getElem? (i := 78) rfl)
theorem dX1_entry_139 : decode cX1_entry 139 = .ok (.ifCond .le 23, 3) := tX1_entry_ok (139, .ifCond .le 23, 3) (List.mem_of_getElem? (i := 79) rfl)
theorem dX1_entry_142 : decode cX1_entry 142 = .ok (.aload_n 0, 1) := tX1_entry_ok (142, .aload_n 0, 1) (List.mem_of_getElem? (i := 80) rfl)
theorem dX1_entry_143 : decode cX1_entry 143 = .ok (.getfield 18, 3) := tX1_entry_ok (143, .getfield 18, 3) (List.mem_of_getElem? (i := 81) rfl)
theorem dX1_entry_146 : decode cX1_entry 146 = .ok (.iload 7, 2) := tX1_entry_ok (146, .iload 7, 2) (List.mem_of_getElem? (i := 82) rfl)
theorem dX1_entry_148 : decode cX1_entry 148 = .ok (.iaload, 1) := tX1_entry_ok (148, .iaload, 1) (List.mem_of_getElem? (i := 83) rfl)
theorem dX1_entry_149 : decode cX1_entry 149 = .ok (.aload_n 0, 1) := tX1_entry_ok (149, .aload_n 0, 1) (List.mem_of_getElem? (i := 84) rfl)
theorem dX1_entry_150 : decode cX1_entry 150 = .ok (.getfield 18, 3) := tX1_entry_ok (150, .getfield 18, 3) (List.mem_of_getElem? (i := 85) rfl)
theorem dX1_entry_153 : decode cX1_entry 153 = .ok (.iload 7, 2) := tX1_entry_ok (153, .iload 7, 2) (List.mem_of_getElem? (i := 86) rfl)
theorem dX1_entry_155 : decode cX1_entry 155 = .ok (.iconst 1, 1) := tX1_entry_ok (155, .iconst 1, 1) (List.mem_of_getElem? (i := 87) rfl)
theorem dX1_entry_156 : decode cX1_entry 156 = .ok (.isub, 1) := tX1_entry_ok (156, .isub, 1) (List.mem_of_getElem? (i := 88) rfl)
theorem dX1_entry_157 : decode cX1_entry 157 = .ok (.iaload, 1) := tX1_entry_ok (157, .iaload, 1) (List.mem_of_getElem? (i := 89) rfl)
theorem dX1_entry_158 : decode cX1_entry 158 = .ok (.iadd, 1) := tX1_entry_ok (158, .iadd, 1) (List.mem_of_getElem? (i := 90) rfl)
theorem dX1_entry_159 : decode cX1_entry 159 = .ok (.goto 10, 3) := tX1_entry_ok (159, .goto 10, 3) (List.mem_of_getElem? (i := 91) rfl)
theorem dX1_entry_162 : decode cX1_entry 162 = .ok (.aload_n 0, 1) := tX1_entry_ok (162, .aload_n 0, 1) (List.mem_of_getElem? (i := 92) rfl)
theorem dX1_entry_163 : decode cX1_entry 163 = .ok (.getfield 18, 3) := tX1_entry_ok (163, .getfield 18, 3) (List.mem_of_getElem? (i := 93) rfl)
theorem dX1_entry_166 : decode cX1_entry 166 = .ok (.iload 7, 2) := tX1_entry_ok (166, .iload 7, 2) (List.mem_of_getElem? (i := 94) rfl)
theorem dX1_entry_168 : decode cX1_entry 168 = .ok (.iaload, 1) := tX1_entry_ok (168, .iaload, 1) (List.mem_of_getElem? (i := 95) rfl)
theorem dX1_entry_169 : decode cX1_entry 169 = .ok (.istore 8, 2) := tX1_entry_ok (169, .istore 8, 2) (List.mem_of_getElem? (i := 96) rfl)
theorem dX1_entry_171 : decode cX1_entry 171 = .ok (.aload_n 0, 1) := tX1_entry_ok (171, .aload_n 0, 1) (List.mem_of_getElem? (i := 97) rfl)
theorem dX1_entry_172 : decode cX1_entry 172 = .ok (.getfield 18, 3) := tX1_entry_ok (172, .getfield 18, 3) (List.mem_of_getElem? (i := 98) rfl)
theorem dX1_entry_175 : decode cX1_entry 175 = .ok (.iload 7, 2) := tX1_entry_ok (175, .iload 7, 2) (List.mem_of_getElem? (i := 99) rfl)
theorem dX1_entry_177 : decode cX1_entry 177 = .ok (.aload_n 1, 1) := tX1_entry_ok (177, .aload_n 1, 1) (List.mem_of_getElem? (i := 100) rfl)
theorem dX1_entry_178 : decode cX1_entry 178 = .ok (.iload 4, 2) := tX1_entry_ok (178, .iload 4, 2) (List.mem_of_getElem? (i := 101) rfl)
theorem dX1_entry_180 : decode cX1_entry 180 = .ok (.iload 7, 2) := tX1_entry_ok (180, .iload 7, 2) (List.mem_of_getElem? (i := 102) rfl)
theorem dX1_entry_182 : decode cX1_entry 182 = .ok (.iadd, 1) := tX1_entry_ok (182, .iadd, 1) (List.mem_of_getElem? (i := 103) rfl)
theorem dX1_entry_183 : decode cX1_entry 183 = .ok (.iload 6, 2) := tX1_entry_ok (183, .iload 6, 2) (List.mem_of_getElem? (i := 104) rfl)
theorem dX1_entry_185 : decode cX1_entry 185 = .ok (.invokevirtual 33, 3) := tX1_entry_ok (185, .invokevirtual 33, 3) (List.mem_of_getElem? (i := 105) rfl)
theorem dX1_entry_188 : decode cX1_entry 188 = .ok (.ifCond .eq 7, 3) := tX1_entry_ok (188, .ifCond .eq 7, 3) (List.mem_of_getElem? (i := 106) rfl)
theorem dX1_entry_191 : decode cX1_entry 191 = .ok (.iconst 0, 1) := tX1_entry_ok (191, .iconst 0, 1) (List.mem_of_getElem? (i := 107) rfl)
theorem dX1_entry_192 : decode cX1_entry 192 = .ok (.goto 11, 3) := tX1_entry_ok (192, .goto 11, 3) (List.mem_of_getElem? (i := 108) rfl)
theorem dX1_entry_195 : decode cX1_entry 195 = .ok (.iload 8, 2) := tX1_entry_ok (195, .iload 8, 2) (List.mem_of_getElem? (i := 109) rfl)
theorem dX1_entry_197 : decode cX1_entry 197 = .ok (.sipush 20001, 3) := tX1_entry_ok (197, .sipush 20001, 3) (List.mem_of_getElem? (i := 110) rfl)
theorem dX1_entry_200 : decode cX1_entry 200 = .ok (.invokestatic 43, 3) := tX1_entry_ok (200, .invokestatic 43, 3) (List.mem_of_getElem? (i := 111) rfl)
theorem dX1_entry_203 : decode cX1_entry 203 = .ok (.iastore, 1) := tX1_entry_ok (203, .iastore, 1) (List.mem_of_getElem? (i := 112) rfl)
theorem dX1_entry_204 : decode cX1_entry 204 = .ok (.iinc 7 1, 3) := tX1_entry_ok (204, .iinc 7 1, 3) (List.mem_of_getElem? (i := 113) rfl)
theorem dX1_entry_207 : decode cX1_entry 207 = .ok (.goto (-77), 3) := tX1_entry_ok (207, .goto (-77), 3) (List.mem_of_getElem? (i := 114) rfl)
theorem dX1_entry_210 : decode cX1_entry 210 = .ok (.iinc 6 1, 3) := tX1_entry_ok (210, .iinc 6 1, 3) (List.mem_of_getElem? (i := 115) rfl)
theorem dX1_entry_213 : decode cX1_entry 213 = .ok (.goto (-99), 3) := tX1_entry_ok (213, .goto (-99), 3) (List.mem_of_getElem? (i := 116) rfl)
theorem dX1_entry_216 : decode cX1_entry 216 = .ok (.aload_n 0, 1) := tX1_entry_ok (216, .aload_n 0, 1) (List.mem_of_getElem? (i := 117) rfl)
theorem dX1_entry_217 : decode cX1_entry 217 = .ok (.getfield 18, 3) := tX1_entry_ok (217, .getfield 18, 3) (List.mem_of_getElem? (i := 118) rfl)
theorem dX1_entry_220 : decode cX1_entry 220 = .ok (.iload 5, 2) := tX1_entry_ok (220, .iload 5, 2) (List.mem_of_getElem? (i := 119) rfl)
theorem dX1_entry_222 : decode cX1_entry 222 = .ok (.iaload, 1) := tX1_entry_ok (222, .iaload, 1) (List.mem_of_getElem? (i := 120) rfl)
theorem dX1_entry_223 : decode cX1_entry 223 = .ok (.ireturn, 1) := tX1_entry_ok (223, .ireturn, 1) (List.mem_of_getElem? (i := 121) rfl)

def tX1_fillTable : List (Nat × Instr × Nat) := [
  (0, .iconst 0, 1),
  (1, .istore_n 2, 1),
  (2, .iload_n 2, 1),
  (3, .iconst 4, 1),
  (4, .if_icmp .ge 82, 3),
  (7, .iconst 0, 1),
  (8, .istore_n 3, 1),
  (9, .iload_n 3, 1),
  (10, .iconst 4, 1),
  (11, .if_icmp .ge 69, 3),
  (14, .iload_n 2, 1),
  (15, .iload_n 3, 1),
  (16, .if_icmp .ne 7, 3),
  (19, .iconst 1, 1),
  (20, .goto 4, 3),
  (23, .iconst 0, 1),
  (24, .istore 4, 2),
  (26, .aload_n 0, 1),
  (27, .iload_n 2, 1),
  (28, .invokevirtual 29, 3),
  (31, .ifCond .eq 20, 3),
  (34, .aload_n 0, 1),
  (35, .iload_n 3, 1),
  (36, .invokevirtual 29, 3),
  (39, .ifCond .eq 12, 3),
  (42, .aload_n 0, 1),
  (43, .aload_n 1, 1),
  (44, .iload_n 2, 1),
  (45, .iload_n 3, 1),
  (46, .invokevirtual 49, 3),
  (49, .istore 4, 2),
  (51, .iload 4, 2),
  (53, .sipush 20000, 3),
  (56, .if_icmp .le 5, 3),
  (59, .iconst 0, 1),
  (60, .ireturn, 1),
  (61, .aload_n 0, 1),
  (62, .getfield 21, 3),
  (65, .iload_n 2, 1),
  (66, .iconst 4, 1),
  (67, .imul, 1),
  (68, .iload_n 3, 1),
  (69, .iadd, 1),
  (70, .iload 4, 2),
  (72, .i2l, 1),
  (73, .lastore, 1),
  (74, .iinc 3 1, 3),
  (77, .goto (-68), 3),
  (80, .iinc 2 1, 3),
  (83, .goto (-81), 3),
  (86, .iconst 1, 1),
  (87, .ireturn, 1)]
set_option maxRecDepth 100000 in
theorem tX1_fillTable_ok : ∀ q ∈ tX1_fillTable, decode cX1_fillTable q.1 = .ok q.2 := by decide +kernel
theorem dX1_fillTable_0 : decode cX1_fillTable 0 = .ok (.iconst 0, 1) := tX1_fillTable_ok (0, .iconst 0, 1) (List.mem_of_getElem? (i := 0) rfl)
theorem dX1_fillTable_1 : decode cX1_fillTable 1 = .ok (.istore_n 2, 1) := tX1_fillTable_ok (1, .istore_n 2, 1) (List.mem_of_getElem? (i := 1) rfl)
theorem dX1_fillTable_2 : decode cX1_fillTable 2 = .ok (.iload_n 2, 1) := tX1_fillTable_ok (2, .iload_n 2, 1) (List.mem_of_getElem? (i := 2) rfl)
theorem dX1_fillTable_3 : decode cX1_fillTable 3 = .ok (.iconst 4, 1) := tX1_fillTable_ok (3, .iconst 4, 1) (List.mem_of_getElem? (i := 3) rfl)
theorem dX1_fillTable_4 : decode cX1_fillTable 4 = .ok (.if_icmp .ge 82, 3) := tX1_fillTable_ok (4, .if_icmp .ge 82, 3) (List.mem_of_getElem? (i := 4) rfl)
theorem dX1_fillTable_7 : decode cX1_fillTable 7 = .ok (.iconst 0, 1) := tX1_fillTable_ok (7, .iconst 0, 1) (List.mem_of_getElem? (i := 5) rfl)
theorem dX1_fillTable_8 : decode cX1_fillTable 8 = .ok (.istore_n 3, 1) := tX1_fillTable_ok (8, .istore_n 3, 1) (List.mem_of_getElem? (i := 6) rfl)
theorem dX1_fillTable_9 : decode cX1_fillTable 9 = .ok (.iload_n 3, 1) := tX1_fillTable_ok (9, .iload_n 3, 1) (List.mem_of_getElem? (i := 7) rfl)
theorem dX1_fillTable_10 : decode cX1_fillTable 10 = .ok (.iconst 4, 1) := tX1_fillTable_ok (10, .iconst 4, 1) (List.mem_of_getElem? (i := 8) rfl)
theorem dX1_fillTable_11 : decode cX1_fillTable 11 = .ok (.if_icmp .ge 69, 3) := tX1_fillTable_ok (11, .if_icmp .ge 69, 3) (List.mem_of_getElem? (i := 9) rfl)
theorem dX1_fillTable_14 : decode cX1_fillTable 14 = .ok (.iload_n 2, 1) := tX1_fillTable_ok (14, .iload_n 2, 1) (List.mem_of_getElem? (i := 10) rfl)
theorem dX1_fillTable_15 : decode cX1_fillTable 15 = .ok (.iload_n 3, 1) := tX1_fillTable_ok (15, .iload_n 3, 1) (List.mem_of_getElem? (i := 11) rfl)
theorem dX1_fillTable_16 : decode cX1_fillTable 16 = .ok (.if_icmp .ne 7, 3) := tX1_fillTable_ok (16, .if_icmp .ne 7, 3) (List.mem_of_getElem? (i := 12) rfl)
theorem dX1_fillTable_19 : decode cX1_fillTable 19 = .ok (.iconst 1, 1) := tX1_fillTable_ok (19, .iconst 1, 1) (List.mem_of_getElem? (i := 13) rfl)
theorem dX1_fillTable_20 : decode cX1_fillTable 20 = .ok (.goto 4, 3) := tX1_fillTable_ok (20, .goto 4, 3) (List.mem_of_getElem? (i := 14) rfl)
theorem dX1_fillTable_23 : decode cX1_fillTable 23 = .ok (.iconst 0, 1) := tX1_fillTable_ok (23, .iconst 0, 1) (List.mem_of_getElem? (i := 15) rfl)
theorem dX1_fillTable_24 : decode cX1_fillTable 24 = .ok (.istore 4, 2) := tX1_fillTable_ok (24, .istore 4, 2) (List.mem_of_getElem? (i := 16) rfl)
theorem dX1_fillTable_26 : decode cX1_fillTable 26 = .ok (.aload_n 0, 1) := tX1_fillTable_ok (26, .aload_n 0, 1) (List.mem_of_getElem? (i := 17) rfl)
theorem dX1_fillTable_27 : decode cX1_fillTable 27 = .ok (.iload_n 2, 1) := tX1_fillTable_ok (27, .iload_n 2, 1) (List.mem_of_getElem? (i := 18) rfl)
theorem dX1_fillTable_28 : decode cX1_fillTable 28 = .ok (.invokevirtual 29, 3) := tX1_fillTable_ok (28, .invokevirtual 29, 3) (List.mem_of_getElem? (i := 19) rfl)
theorem dX1_fillTable_31 : decode cX1_fillTable 31 = .ok (.ifCond .eq 20, 3) := tX1_fillTable_ok (31, .ifCond .eq 20, 3) (List.mem_of_getElem? (i := 20) rfl)
theorem dX1_fillTable_34 : decode cX1_fillTable 34 = .ok (.aload_n 0, 1) := tX1_fillTable_ok (34, .aload_n 0, 1) (List.mem_of_getElem? (i := 21) rfl)
theorem dX1_fillTable_35 : decode cX1_fillTable 35 = .ok (.iload_n 3, 1) := tX1_fillTable_ok (35, .iload_n 3, 1) (List.mem_of_getElem? (i := 22) rfl)
theorem dX1_fillTable_36 : decode cX1_fillTable 36 = .ok (.invokevirtual 29, 3) := tX1_fillTable_ok (36, .invokevirtual 29, 3) (List.mem_of_getElem? (i := 23) rfl)
theorem dX1_fillTable_39 : decode cX1_fillTable 39 = .ok (.ifCond .eq 12, 3) := tX1_fillTable_ok (39, .ifCond .eq 12, 3) (List.mem_of_getElem? (i := 24) rfl)
theorem dX1_fillTable_42 : decode cX1_fillTable 42 = .ok (.aload_n 0, 1) := tX1_fillTable_ok (42, .aload_n 0, 1) (List.mem_of_getElem? (i := 25) rfl)
theorem dX1_fillTable_43 : decode cX1_fillTable 43 = .ok (.aload_n 1, 1) := tX1_fillTable_ok (43, .aload_n 1, 1) (List.mem_of_getElem? (i := 26) rfl)
theorem dX1_fillTable_44 : decode cX1_fillTable 44 = .ok (.iload_n 2, 1) := tX1_fillTable_ok (44, .iload_n 2, 1) (List.mem_of_getElem? (i := 27) rfl)
theorem dX1_fillTable_45 : decode cX1_fillTable 45 = .ok (.iload_n 3, 1) := tX1_fillTable_ok (45, .iload_n 3, 1) (List.mem_of_getElem? (i := 28) rfl)
theorem dX1_fillTable_46 : decode cX1_fillTable 46 = .ok (.invokevirtual 49, 3) := tX1_fillTable_ok (46, .invokevirtual 49, 3) (List.mem_of_getElem? (i := 29) rfl)
theorem dX1_fillTable_49 : decode cX1_fillTable 49 = .ok (.istore 4, 2) := tX1_fillTable_ok (49, .istore 4, 2) (List.mem_of_getElem? (i := 30) rfl)
theorem dX1_fillTable_51 : decode cX1_fillTable 51 = .ok (.iload 4, 2) := tX1_fillTable_ok (51, .iload 4, 2) (List.mem_of_getElem? (i := 31) rfl)
theorem dX1_fillTable_53 : decode cX1_fillTable 53 = .ok (.sipush 20000, 3) := tX1_fillTable_ok (53, .sipush 20000, 3) (List.mem_of_getElem? (i := 32) rfl)
theorem dX1_fillTable_56 : decode cX1_fillTable 56 = .ok (.if_icmp .le 5, 3) := tX1_fillTable_ok (56, .if_icmp .le 5, 3) (List.mem_of_getElem? (i := 33) rfl)
theorem dX1_fillTable_59 : decode cX1_fillTable 59 = .ok (.iconst 0, 1) := tX1_fillTable_ok (59, .iconst 0, 1) (List.mem_of_getElem? (i := 34) rfl)
theorem dX1_fillTable_60 : decode cX1_fillTable 60 = .ok (.ireturn, 1) := tX1_fillTable_ok (60, .ireturn, 1) (List.mem_of_getElem? (i := 35) rfl)
theorem dX1_fillTable_61 : decode cX1_fillTable 61 = .ok (.aload_n 0, 1) := tX1_fillTable_ok (61, .aload_n 0, 1) (List.mem_of_getElem? (i := 36) rfl)
theorem dX1_fillTable_62 : decode cX1_fillTable 62 = .ok (.getfield 21, 3) := tX1_fillTable_ok (62, .getfield 21, 3) (List.mem_of_getElem? (i := 37) rfl)
theorem dX1_fillTable_65 : decode cX1_fillTable 65 = .ok (.iload_n 2, 1) := tX1_fillTable_ok (65, .iload_n 2, 1) (List.mem_of_getElem? (i := 38) rfl)
theorem dX1_fillTable_66 : decode cX1_fillTable 66 = .ok (.iconst 4, 1) := tX1_fillTable_ok (66, .iconst 4, 1) (List.mem_of_getElem? (i := 39) rfl)
theorem dX1_fillTable_67 : decode cX1_fillTable 67 = .ok (.imul, 1) := tX1_fillTable_ok (67, .imul, 1) (List.mem_of_getElem? (i := 40) rfl)
theorem dX1_fillTable_68 : decode cX1_fillTable 68 = .ok (.iload_n 3, 1) := tX1_fillTable_ok (68, .iload_n 3, 1) (List.mem_of_getElem? (i := 41) rfl)
theorem dX1_fillTable_69 : decode cX1_fillTable 69 = .ok (.iadd, 1) := tX1_fillTable_ok (69, .iadd, 1) (List.mem_of_getElem? (i := 42) rfl)
theorem dX1_fillTable_70 : decode cX1_fillTable 70 = .ok (.iload 4, 2) := tX1_fillTable_ok (70, .iload 4, 2) (List.mem_of_getElem? (i := 43) rfl)
theorem dX1_fillTable_72 : decode cX1_fillTable 72 = .ok (.i2l, 1) := tX1_fillTable_ok (72, .i2l, 1) (List.mem_of_getElem? (i := 44) rfl)
theorem dX1_fillTable_73 : decode cX1_fillTable 73 = .ok (.lastore, 1) := tX1_fillTable_ok (73, .lastore, 1) (List.mem_of_getElem? (i := 45) rfl)
theorem dX1_fillTable_74 : decode cX1_fillTable 74 = .ok (.iinc 3 1, 3) := tX1_fillTable_ok (74, .iinc 3 1, 3) (List.mem_of_getElem? (i := 46) rfl)
theorem dX1_fillTable_77 : decode cX1_fillTable 77 = .ok (.goto (-68), 3) := tX1_fillTable_ok (77, .goto (-68), 3) (List.mem_of_getElem? (i := 47) rfl)
theorem dX1_fillTable_80 : decode cX1_fillTable 80 = .ok (.iinc 2 1, 3) := tX1_fillTable_ok (80, .iinc 2 1, 3) (List.mem_of_getElem? (i := 48) rfl)
theorem dX1_fillTable_83 : decode cX1_fillTable 83 = .ok (.goto (-81), 3) := tX1_fillTable_ok (83, .goto (-81), 3) (List.mem_of_getElem? (i := 49) rfl)
theorem dX1_fillTable_86 : decode cX1_fillTable 86 = .ok (.iconst 1, 1) := tX1_fillTable_ok (86, .iconst 1, 1) (List.mem_of_getElem? (i := 50) rfl)
theorem dX1_fillTable_87 : decode cX1_fillTable 87 = .ok (.ireturn, 1) := tX1_fillTable_ok (87, .ireturn, 1) (List.mem_of_getElem? (i := 51) rfl)

def tX1_determinant : List (Nat × Instr × Nat) := [
  (0, .aload_n 0, 1),
  (1, .iconst 0, 1),
  (2, .iconst 0, 1),
  (3, .iconst 1, 1),
  (4, .invokevirtual 53, 3),
  (7, .aload_n 0, 1),
  (8, .iconst 2, 1),
  (9, .iconst 2, 1),
  (10, .iconst 3, 1),
  (11, .invokevirtual 53, 3),
  (14, .lmul, 1),
  (15, .aload_n 0, 1),
  (16, .iconst 0, 1),
  (17, .iconst 0, 1),
  (18, .iconst 2, 1),
  (19, .invokevirtual 53, 3),
  (22, .aload_n 0, 1),
  (23, .iconst 2, 1),
  (24, .iconst 1, 1),
  (25, .iconst 3, 1),
  (26, .invokevirtual 53, 3),
  (29, .lmul, 1),
  (30, .lsub, 1),
  (31, .aload_n 0, 1),
  (32, .iconst 0, 1),
  (33, .iconst 0, 1),
  (34, .iconst 3, 1),
  (35, .invokevirtual 53, 3),
  (38, .aload_n 0, 1),
  (39, .iconst 2, 1),
  (40, .iconst 1, 1),
  (41, .iconst 2, 1),
  (42, .invokevirtual 53, 3),
  (45, .lmul, 1),
  (46, .ladd, 1),
  (47, .aload_n 0, 1),
  (48, .iconst 0, 1),
  (49, .iconst 1, 1),
  (50, .iconst 2, 1),
  (51, .invokevirtual 53, 3),
  (54, .aload_n 0, 1),
  (55, .iconst 2, 1),
  (56, .iconst 0, 1),
  (57, .iconst 3, 1),
  (58, .invokevirtual 53, 3),
  (61, .lmul, 1),
  (62, .ladd, 1),
  (63, .aload_n 0, 1),
  (64, .iconst 0, 1),
  (65, .iconst 1, 1),
  (66, .iconst 3, 1),
  (67, .invokevirtual 53, 3),
  (70, .aload_n 0, 1),
  (71, .iconst 2, 1),
  (72, .iconst 0, 1),
  (73, .iconst 2, 1),
  (74, .invokevirtual 53, 3),
  (77, .lmul, 1),
  (78, .lsub, 1),
  (79, .aload_n 0, 1),
  (80, .iconst 0, 1),
  (81, .iconst 2, 1),
  (82, .iconst 3, 1),
  (83, .invokevirtual 53, 3),
  (86, .aload_n 0, 1),
  (87, .iconst 2, 1),
  (88, .iconst 0, 1),
  (89, .iconst 1, 1),
  (90, .invokevirtual 53, 3),
  (93, .lmul, 1),
  (94, .ladd, 1),
  (95, .lreturn, 1)]
set_option maxRecDepth 100000 in
theorem tX1_determinant_ok : ∀ q ∈ tX1_determinant, decode cX1_determinant q.1 = .ok q.2 := by decide +kernel
theorem dX1_determinant_0 : decode cX1_determinant 0 = .ok (.aload_n 0, 1) := tX1_determinant_ok (0, .aload_n 0, 1) (List.mem_of_getElem? (i := 0) rfl)
theorem dX1_determinant_1 : decode cX1_determinant 1 = .ok (.iconst 0, 1) := tX1_determinant_ok (1, .iconst 0, 1) (List.mem_of_getElem? (i := 1) rfl)
theorem dX1_determinant_2 : decode cX1_determinant 2 = .ok (.iconst 0, 1) := tX1_determinant_ok (2, .iconst 0, 1) (List.mem_of_getElem? (i := 2) rfl)
theorem dX1_determinant_3 : decode cX1_determinant 3 = .ok (.iconst 1, 1) := tX1_determinant_ok (3, .iconst 1, 1) (List.mem_of_getElem? (i := 3) rfl)
theorem dX1_determinant_4 : decode cX1_determinant 4 = .ok (.invokevirtual 53, 3) := tX1_determinant_ok (4, .invokevirtual 53, 3) (List.mem_of_getElem? (i := 4) rfl)
theorem dX1_determinant_7 : decode cX1_determinant 7 = .ok (.aload_n 0, 1) := tX1_determinant_ok (7, .aload_n 0, 1) (List.mem_of_getElem? (i := 5) rfl)
theorem dX1_determinant_8 : decode cX1_determinant 8 = .ok (.iconst 2, 1) := tX1_determinant_ok (8, .iconst 2, 1) (List.mem_of_getElem? (i := 6) rfl)
theorem dX1_determinant_9 : decode cX1_determinant 9 = .ok (.iconst 2, 1) := tX1_determinant_ok (9, .iconst 2, 1) (List.mem_of_getElem? (i := 7) rfl)
theorem dX1_determinant_10 : decode cX1_determinant 10 = .ok (.iconst 3, 1) := tX1_determinant_ok (10, .iconst 3, 1) (List.mem_of_getElem? (i := 8) rfl)
theorem dX1_determinant_11 : decode cX1_determinant 11 = .ok (.invokevirtual 53, 3) := tX1_determinant_ok (11, .invokevirtual 53, 3) (List.mem_of_getElem? (i := 9) rfl)
theorem dX1_determinant_14 : decode cX1_determinant 14 = .ok (.lmul, 1) := tX1_determinant_ok (14, .lmul, 1) (List.mem_of_getElem? (i := 10) rfl)
theorem dX1_determinant_15 : decode cX1_determinant 15 = .ok (.aload_n 0, 1) := tX1_determinant_ok (15, .aload_n 0, 1) (List.mem_of_getElem? (i := 11) rfl)
theorem dX1_determinant_16 : decode cX1_determinant 16 = .ok (.iconst 0, 1) := tX1_determinant_ok (16, .iconst 0, 1) (List.mem_of_getElem? (i := 12) rfl)
theorem dX1_determinant_17 : decode cX1_determinant 17 = .ok (.iconst 0, 1) := tX1_determinant_ok (17, .iconst 0, 1) (List.mem_of_getElem? (i := 13) rfl)
theorem dX1_determinant_18 : decode cX1_determinant 18 = .ok (.iconst 2, 1) := tX1_determinant_ok (18, .iconst 2, 1) (List.mem_of_getElem? (i := 14) rfl)
theorem dX1_determinant_19 : decode cX1_determinant 19 = .ok (.invokevirtual 53, 3) := tX1_determinant_ok (19, .invokevirtual 53, 3) (List.mem_of_getElem? (i := 15) rfl)
theorem dX1_determinant_22 : decode cX1_determinant 22 = .ok (.aload_n 0, 1) := tX1_determinant_ok (22, .aload_n 0, 1) (List.mem_of_getElem? (i := 16) rfl)
theorem dX1_determinant_23 : decode cX1_determinant 23 = .ok (.iconst 2, 1) := tX1_determinant_ok (23, .iconst 2, 1) (List.mem_of_getElem? (i := 17) rfl)
theorem dX1_determinant_24 : decode cX1_determinant 24 = .ok (.iconst 1, 1) := tX1_determinant_ok (24, .iconst 1, 1) (List.mem_of_getElem? (i := 18) rfl)
theorem dX1_determinant_25 : decode cX1_determinant 25 = .ok (.iconst 3, 1) := tX1_determinant_ok (25, .iconst 3, 1) (List.mem_of_getElem? (i := 19) rfl)
theorem dX1_determinant_26 : decode cX1_determinant 26 = .ok (.invokevirtual 53, 3) := tX1_determinant_ok (26, .invokevirtual 53, 3) (List.mem_of_getElem? (i := 20) rfl)
theorem dX1_determinant_29 : decode cX1_determinant 29 = .ok (.lmul, 1) := tX1_determinant_ok (29, .lmul, 1) (List.mem_of_getElem? (i := 21) rfl)
theorem dX1_determinant_30 : decode cX1_determinant 30 = .ok (.lsub, 1) := tX1_determinant_ok (30, .lsub, 1) (List.mem_of_getElem? (i := 22) rfl)
theorem dX1_determinant_31 : decode cX1_determinant 31 = .ok (.aload_n 0, 1) := tX1_determinant_ok (31, .aload_n 0, 1) (List.mem_of_getElem? (i := 23) rfl)
theorem dX1_determinant_32 : decode cX1_determinant 32 = .ok (.iconst 0, 1) := tX1_determinant_ok (32, .iconst 0, 1) (List.mem_of_getElem? (i := 24) rfl)
theorem dX1_determinant_33 : decode cX1_determinant 33 = .ok (.iconst 0, 1) := tX1_determinant_ok (33, .iconst 0, 1) (List.mem_of_getElem? (i := 25) rfl)
theorem dX1_determinant_34 : decode cX1_determinant 34 = .ok (.iconst 3, 1) := tX1_determinant_ok (34, .iconst 3, 1) (List.mem_of_getElem? (i := 26) rfl)
theorem dX1_determinant_35 : decode cX1_determinant 35 = .ok (.invokevirtual 53, 3) := tX1_determinant_ok (35, .invokevirtual 53, 3) (List.mem_of_getElem? (i := 27) rfl)
theorem dX1_determinant_38 : decode cX1_determinant 38 = .ok (.aload_n 0, 1) := tX1_determinant_ok (38, .aload_n 0, 1) (List.mem_of_getElem? (i := 28) rfl)
theorem dX1_determinant_39 : decode cX1_determinant 39 = .ok (.iconst 2, 1) := tX1_determinant_ok (39, .iconst 2, 1) (List.mem_of_getElem? (i := 29) rfl)
theorem dX1_determinant_40 : decode cX1_determinant 40 = .ok (.iconst 1, 1) := tX1_determinant_ok (40, .iconst 1, 1) (List.mem_of_getElem? (i := 30) rfl)
theorem dX1_determinant_41 : decode cX1_determinant 41 = .ok (.iconst 2, 1) := tX1_determinant_ok (41, .iconst 2, 1) (List.mem_of_getElem? (i := 31) rfl)
theorem dX1_determinant_42 : decode cX1_determinant 42 = .ok (.invokevirtual 53, 3) := tX1_determinant_ok (42, .invokevirtual 53, 3) (List.mem_of_getElem? (i := 32) rfl)
theorem dX1_determinant_45 : decode cX1_determinant 45 = .ok (.lmul, 1) := tX1_determinant_ok (45, .lmul, 1) (List.mem_of_getElem? (i := 33) rfl)
theorem dX1_determinant_46 : decode cX1_determinant 46 = .ok (.ladd, 1) := tX1_determinant_ok (46, .ladd, 1) (List.mem_of_getElem? (i := 34) rfl)
theorem dX1_determinant_47 : decode cX1_determinant 47 = .ok (.aload_n 0, 1) := tX1_determinant_ok (47, .aload_n 0, 1) (List.mem_of_getElem? (i := 35) rfl)
theorem dX1_determinant_48 : decode cX1_determinant 48 = .ok (.iconst 0, 1) := tX1_determinant_ok (48, .iconst 0, 1) (List.mem_of_getElem? (i := 36) rfl)
theorem dX1_determinant_49 : decode cX1_determinant 49 = .ok (.iconst 1, 1) := tX1_determinant_ok (49, .iconst 1, 1) (List.mem_of_getElem? (i := 37) rfl)
theorem dX1_determinant_50 : decode cX1_determinant 50 = .ok (.iconst 2, 1) := tX1_determinant_ok (50, .iconst 2, 1) (List.mem_of_getElem? (i := 38) rfl)
theorem dX1_determinant_51 : decode cX1_determinant 51 = .ok (.invokevirtual 53, 3) := tX1_determinant_ok (51, .invokevirtual 53, 3) (List.mem_of_getElem? (i := 39) rfl)
theorem dX1_determinant_54 : decode cX1_determinant 54 = .ok (.aload_n 0, 1) := tX1_determinant_ok (54, .aload_n 0, 1) (List.mem_of_getElem? (i := 40) rfl)
theorem dX1_determinant_55 : decode cX1_determinant 55 = .ok (.iconst 2, 1) := tX1_determinant_ok (55, .iconst 2, 1) (List.mem_of_getElem? (i := 41) rfl)
theorem dX1_determinant_56 : decode cX1_determinant 56 = .ok (.iconst 0, 1) := tX1_determinant_ok (56, .iconst 0, 1) (List.mem_of_getElem? (i := 42) rfl)
theorem dX1_determinant_57 : decode cX1_determinant 57 = .ok (.iconst 3, 1) := tX1_determinant_ok (57, .iconst 3, 1) (List.mem_of_getElem? (i := 43) rfl)
theorem dX1_determinant_58 : decode cX1_determinant 58 = .ok (.invokevirtual 53, 3) := tX1_determinant_ok (58, .invokevirtual 53, 3) (List.mem_of_getElem? (i := 44) rfl)
theorem dX1_determinant_61 : decode cX1_determinant 61 = .ok (.lmul, 1) := tX1_determinant_ok (61, .lmul, 1) (List.mem_of_getElem? (i := 45) rfl)
theorem dX1_determinant_62 : decode cX1_determinant 62 = .ok (.ladd, 1) := tX1_determinant_ok (62, .ladd, 1) (List.mem_of_getElem? (i := 46) rfl)
theorem dX1_determinant_63 : decode cX1_determinant 63 = .ok (.aload_n 0, 1) := tX1_determinant_ok (63, .aload_n 0, 1) (List.mem_of_getElem? (i := 47) rfl)
theorem dX1_determinant_64 : decode cX1_determinant 64 = .ok (.iconst 0, 1) := tX1_determinant_ok (64, .iconst 0, 1) (List.mem_of_getElem? (i := 48) rfl)
theorem dX1_determinant_65 : decode cX1_determinant 65 = .ok (.iconst 1, 1) := tX1_determinant_ok (65, .iconst 1, 1) (List.mem_of_getElem? (i := 49) rfl)
theorem dX1_determinant_66 : decode cX1_determinant 66 = .ok (.iconst 3, 1) := tX1_determinant_ok (66, .iconst 3, 1) (List.mem_of_getElem? (i := 50) rfl)
theorem dX1_determinant_67 : decode cX1_determinant 67 = .ok (.invokevirtual 53, 3) := tX1_determinant_ok (67, .invokevirtual 53, 3) (List.mem_of_getElem? (i := 51) rfl)
theorem dX1_determinant_70 : decode cX1_determinant 70 = .ok (.aload_n 0, 1) := tX1_determinant_ok (70, .aload_n 0, 1) (List.mem_of_getElem? (i := 52) rfl)
theorem dX1_determinant_71 : decode cX1_determinant 71 = .ok (.iconst 2, 1) := tX1_determinant_ok (71, .iconst 2, 1) (List.mem_of_getElem? (i := 53) rfl)
theorem dX1_determinant_72 : decode cX1_determinant 72 = .ok (.iconst 0, 1) := tX1_determinant_ok (72, .iconst 0, 1) (List.mem_of_getElem? (i := 54) rfl)
theorem dX1_determinant_73 : decode cX1_determinant 73 = .ok (.iconst 2, 1) := tX1_determinant_ok (73, .iconst 2, 1) (List.mem_of_getElem? (i := 55) rfl)
theorem dX1_determinant_74 : decode cX1_determinant 74 = .ok (.invokevirtual 53, 3) := tX1_determinant_ok (74, .invokevirtual 53, 3) (List.mem_of_getElem? (i := 56) rfl)
theorem dX1_determinant_77 : decode cX1_determinant 77 = .ok (.lmul, 1) := tX1_determinant_ok (77, .lmul, 1) (List.mem_of_getElem? (i := 57) rfl)
theorem dX1_determinant_78 : decode cX1_determinant 78 = .ok (.lsub, 1) := tX1_determinant_ok (78, .lsub, 1) (List.mem_of_getElem? (i := 58) rfl)
theorem dX1_determinant_79 : decode cX1_determinant 79 = .ok (.aload_n 0, 1) := tX1_determinant_ok (79, .aload_n 0, 1) (List.mem_of_getElem? (i := 59) rfl)
theorem dX1_determinant_80 : decode cX1_determinant 80 = .ok (.iconst 0, 1) := tX1_determinant_ok (80, .iconst 0, 1) (List.mem_of_getElem? (i := 60) rfl)
theorem dX1_determinant_81 : decode cX1_determinant 81 = .ok (.iconst 2, 1) := tX1_determinant_ok (81, .iconst 2, 1) (List.mem_of_getElem? (i := 61) rfl)
theorem dX1_determinant_82 : decode cX1_determinant 82 = .ok (.iconst 3, 1) := tX1_determinant_ok (82, .iconst 3, 1) (List.mem_of_getElem? (i := 62) rfl)
theorem dX1_determinant_83 : decode cX1_determinant 83 = .ok (.invokevirtual 53, 3) := tX1_determinant_ok (83, .invokevirtual 53, 3) (List.mem_of_getElem? (i := 63) rfl)
theorem dX1_determinant_86 : decode cX1_determinant 86 = .ok (.aload_n 0, 1) := tX1_determinant_ok (86, .aload_n 0, 1) (List.mem_of_getElem? (i := 64) rfl)
theorem dX1_determinant_87 : decode cX1_determinant 87 = .ok (.iconst 2, 1) := tX1_determinant_ok (87, .iconst 2, 1) (List.mem_of_getElem? (i := 65) rfl)
theorem dX1_determinant_88 : decode cX1_determinant 88 = .ok (.iconst 0, 1) := tX1_determinant_ok (88, .iconst 0, 1) (List.mem_of_getElem? (i := 66) rfl)
theorem dX1_determinant_89 : decode cX1_determinant 89 = .ok (.iconst 1, 1) := tX1_determinant_ok (89, .iconst 1, 1) (List.mem_of_getElem? (i := 67) rfl)
theorem dX1_determinant_90 : decode cX1_determinant 90 = .ok (.invokevirtual 53, 3) := tX1_determinant_ok (90, .invokevirtual 53, 3) (List.mem_of_getElem? (i := 68) rfl)
theorem dX1_determinant_93 : decode cX1_determinant 93 = .ok (.lmul, 1) := tX1_determinant_ok (93, .lmul, 1) (List.mem_of_getElem? (i := 69) rfl)
theorem dX1_determinant_94 : decode cX1_determinant 94 = .ok (.ladd, 1) := tX1_determinant_ok (94, .ladd, 1) (List.mem_of_getElem? (i := 70) rfl)
theorem dX1_determinant_95 : decode cX1_determinant 95 = .ok (.lreturn, 1) := tX1_determinant_ok (95, .lreturn, 1) (List.mem_of_getElem? (i := 71) rfl)

def tX1_pair : List (Nat × Instr × Nat) := [
  (0, .iload_n 1, 1),
  (1, .iconst 4, 1),
  (2, .imul, 1),
  (3, .istore 4, 2),
  (5, .iload 4, 2),
  (7, .iconst 4, 1),
  (8, .iadd, 1),
  (9, .istore 5, 2),
  (11, .aload_n 0, 1),
  (12, .getfield 21, 3),
  (15, .iload 4, 2),
  (17, .iload_n 2, 1),
  (18, .iadd, 1),
  (19, .laload, 1),
  (20, .aload_n 0, 1),
  (21, .getfield 21, 3),
  (24, .iload 5, 2),
  (26, .iload_n 3, 1),
  (27, .iadd, 1),
  (28, .laload, 1),
  (29, .lmul, 1),
  (30, .aload_n 0, 1),
  (31, .getfield 21, 3),
  (34, .iload 4, 2),
  (36, .iload_n 3, 1),
  (37, .iadd, 1),
  (38, .laload, 1),
  (39, .aload_n 0, 1),
  (40, .getfield 21, 3),
  (43, .iload 5, 2),
  (45, .iload_n 2, 1),
  (46, .iadd, 1),
  (47, .laload, 1),
  (48, .lmul, 1),
  (49, .lsub, 1),
  (50, .lreturn, 1)]
set_option maxRecDepth 100000 in
theorem tX1_pair_ok : ∀ q ∈ tX1_pair, decode cX1_pair q.1 = .ok q.2 := by decide +kernel
theorem dX1_pair_0 : decode cX1_pair 0 = .ok (.iload_n 1, 1) := tX1_pair_ok (0, .iload_n 1, 1) (List.mem_of_getElem? (i := 0) rfl)
theorem dX1_pair_1 : decode cX1_pair 1 = .ok (.iconst 4, 1) := tX1_pair_ok (1, .iconst 4, 1) (List.mem_of_getElem? (i := 1) rfl)
theorem dX1_pair_2 : decode cX1_pair 2 = .ok (.imul, 1) := tX1_pair_ok (2, .imul, 1) (List.mem_of_getElem? (i := 2) rfl)
theorem dX1_pair_3 : decode cX1_pair 3 = .ok (.istore 4, 2) := tX1_pair_ok (3, .istore 4, 2) (List.mem_of_getElem? (i := 3) rfl)
theorem dX1_pair_5 : decode cX1_pair 5 = .ok (.iload 4, 2) := tX1_pair_ok (5, .iload 4, 2) (List.mem_of_getElem? (i := 4) rfl)
theorem dX1_pair_7 : decode cX1_pair 7 = .ok (.iconst 4, 1) := tX1_pair_ok (7, .iconst 4, 1) (List.mem_of_getElem? (i := 5) rfl)
theorem dX1_pair_8 : decode cX1_pair 8 = .ok (.iadd, 1) := tX1_pair_ok (8, .iadd, 1) (List.mem_of_getElem? (i := 6) rfl)
theorem dX1_pair_9 : decode cX1_pair 9 = .ok (.istore 5, 2) := tX1_pair_ok (9, .istore 5, 2) (List.mem_of_getElem? (i := 7) rfl)
theorem dX1_pair_11 : decode cX1_pair 11 = .ok (.aload_n 0, 1) := tX1_pair_ok (11, .aload_n 0, 1) (List.mem_of_getElem? (i := 8) rfl)
theorem dX1_pair_12 : decode cX1_pair 12 = .ok (.getfield 21, 3) := tX1_pair_ok (12, .getfield 21, 3) (List.mem_of_getElem? (i := 9) rfl)
theorem dX1_pair_15 : decode cX1_pair 15 = .ok (.iload 4, 2) := tX1_pair_ok (15, .iload 4, 2) (List.mem_of_getElem? (i := 10) rfl)
theorem dX1_pair_17 : decode cX1_pair 17 = .ok (.iload_n 2, 1) := tX1_pair_ok (17, .iload_n 2, 1) (List.mem_of_getElem? (i := 11) rfl)
theorem dX1_pair_18 : decode cX1_pair 18 = .ok (.iadd, 1) := tX1_pair_ok (18, .iadd, 1) (List.mem_of_getElem? (i := 12) rfl)
theorem dX1_pair_19 : decode cX1_pair 19 = .ok (.laload, 1) := tX1_pair_ok (19, .laload, 1) (List.mem_of_getElem? (i := 13) rfl)
theorem dX1_pair_20 : decode cX1_pair 20 = .ok (.aload_n 0, 1) := tX1_pair_ok (20, .aload_n 0, 1) (List.mem_of_getElem? (i := 14) rfl)
theorem dX1_pair_21 : decode cX1_pair 21 = .ok (.getfield 21, 3) := tX1_pair_ok (21, .getfield 21, 3) (List.mem_of_getElem? (i := 15) rfl)
theorem dX1_pair_24 : decode cX1_pair 24 = .ok (.iload 5, 2) := tX1_pair_ok (24, .iload 5, 2) (List.mem_of_getElem? (i := 16) rfl)
theorem dX1_pair_26 : decode cX1_pair 26 = .ok (.iload_n 3, 1) := tX1_pair_ok (26, .iload_n 3, 1) (List.mem_of_getElem? (i := 17) rfl)
theorem dX1_pair_27 : decode cX1_pair 27 = .ok (.iadd, 1) := tX1_pair_ok (27, .iadd, 1) (List.mem_of_getElem? (i := 18) rfl)
theorem dX1_pair_28 : decode cX1_pair 28 = .ok (.laload, 1) := tX1_pair_ok (28, .laload, 1) (List.mem_of_getElem? (i := 19) rfl)
theorem dX1_pair_29 : decode cX1_pair 29 = .ok (.lmul, 1) := tX1_pair_ok (29, .lmul, 1) (List.mem_of_getElem? (i := 20) rfl)
theorem dX1_pair_30 : decode cX1_pair 30 = .ok (.aload_n 0, 1) := tX1_pair_ok (30, .aload_n 0, 1) (List.mem_of_getElem? (i := 21) rfl)
theorem dX1_pair_31 : decode cX1_pair 31 = .ok (.getfield 21, 3) := tX1_pair_ok (31, .getfield 21, 3) (List.mem_of_getElem? (i := 22) rfl)
theorem dX1_pair_34 : decode cX1_pair 34 = .ok (.iload 4, 2) := tX1_pair_ok (34, .iload 4, 2) (List.mem_of_getElem? (i := 23) rfl)
theorem dX1_pair_36 : decode cX1_pair 36 = .ok (.iload_n 3, 1) := tX1_pair_ok (36, .iload_n 3, 1) (List.mem_of_getElem? (i := 24) rfl)
theorem dX1_pair_37 : decode cX1_pair 37 = .ok (.iadd, 1) := tX1_pair_ok (37, .iadd, 1) (List.mem_of_getElem? (i := 25) rfl)
theorem dX1_pair_38 : decode cX1_pair 38 = .ok (.laload, 1) := tX1_pair_ok (38, .laload, 1) (List.mem_of_getElem? (i := 26) rfl)
theorem dX1_pair_39 : decode cX1_pair 39 = .ok (.aload_n 0, 1) := tX1_pair_ok (39, .aload_n 0, 1) (List.mem_of_getElem? (i := 27) rfl)
theorem dX1_pair_40 : decode cX1_pair 40 = .ok (.getfield 21, 3) := tX1_pair_ok (40, .getfield 21, 3) (List.mem_of_getElem? (i := 28) rfl)
theorem dX1_pair_43 : decode cX1_pair 43 = .ok (.iload 5, 2) := tX1_pair_ok (43, .iload 5, 2) (List.mem_of_getElem? (i := 29) rfl)
theorem dX1_pair_45 : decode cX1_pair 45 = .ok (.iload_n 2, 1) := tX1_pair_ok (45, .iload_n 2, 1) (List.mem_of_getElem? (i := 30) rfl)
theorem dX1_pair_46 : decode cX1_pair 46 = .ok (.iadd, 1) := tX1_pair_ok (46, .iadd, 1) (List.mem_of_getElem? (i := 31) rfl)
theorem dX1_pair_47 : decode cX1_pair 47 = .ok (.laload, 1) := tX1_pair_ok (47, .laload, 1) (List.mem_of_getElem? (i := 32) rfl)
theorem dX1_pair_48 : decode cX1_pair 48 = .ok (.lmul, 1) := tX1_pair_ok (48, .lmul, 1) (List.mem_of_getElem? (i := 33) rfl)
theorem dX1_pair_49 : decode cX1_pair 49 = .ok (.lsub, 1) := tX1_pair_ok (49, .lsub, 1) (List.mem_of_getElem? (i := 34) rfl)
theorem dX1_pair_50 : decode cX1_pair 50 = .ok (.lreturn, 1) := tX1_pair_ok (50, .lreturn, 1) (List.mem_of_getElem? (i := 35) rfl)

def tX2_init : List (Nat × Instr × Nat) := [
  (0, .aload_n 0, 1),
  (1, .invokespecial 5, 3),
  (4, .aload_n 0, 1),
  (5, .bipush 121, 2),
  (7, .newarray .long, 2),
  (9, .putfield 11, 3),
  (12, .aload_n 0, 1),
  (13, .bipush 121, 2),
  (15, .newarray .long, 2),
  (17, .putfield 15, 3),
  (20, .return_, 1)]
set_option maxRecDepth 100000 in
theorem tX2_init_ok : ∀ q ∈ tX2_init, decode cX2_init q.1 = .ok q.2 := by decide +kernel
theorem dX2_init_0 : decode cX2_init 0 = .ok (.aload_n 0, 1) := tX2_init_ok (0, .aload_n 0, 1) (List.mem_of_getElem? (i := 0) rfl)
theorem dX2_init_1 : decode cX2_init 1 = .ok (.invokespecial 5, 3) := tX2_init_ok (1, .invokespecial 5, 3) (List.mem_of_getElem? (i := 1) rfl)
theorem dX2_init_4 : decode cX2_init 4 = .ok (.aload_n 0, 1) := tX2_init_ok (4, .aload_n 0, 1) (List.mem_of_getElem? (i := 2) rfl)
theorem dX2_init_5 : decode cX2_init 5 = .ok (.bipush 121, 2) := tX2_init_ok (5, .bipush 121, 2) (List.mem_of_getElem? (i := 3) rfl)
theorem dX2_init_7 : decode cX2_init 7 = .ok (.newarray .long, 2) := tX2_init_ok (7, .newarray .long, 2) (List.mem_of_getElem? (i := 4) rfl)
theorem dX2_init_9 : decode cX2_init 9 = .ok (.putfield 11, 3) := tX2_init_ok (9, .putfield 11, 3) (List.mem_of_getElem? (i := 5) rfl)
theorem dX2_init_12 : decode cX2_init 12 = .ok (.aload_n 0, 1) := tX2_init_ok (12, .aload_n 0, 1) (List.mem_of_getElem? (i := 6) rfl)
theorem dX2_init_13 : decode cX2_init 13 = .ok (.bipush 121, 2) := tX2_init_ok (13, .bipush 121, 2) (List.mem_of_getElem? (i := 7) rfl)
theorem dX2_init_15 : decode cX2_init 15 = .ok (.newarray .long, 2) := tX2_init_ok (15, .newarray .long, 2) (List.mem_of_getElem? (i := 8) rfl)
theorem dX2_init_17 : decode cX2_init 17 = .ok (.putfield 15, 3) := tX2_init_ok (17, .putfield 15, 3) (List.mem_of_getElem? (i := 9) rfl)
theorem dX2_init_20 : decode cX2_init 20 = .ok (.return_, 1) := tX2_init_ok (20, .return_, 1) (List.mem_of_getElem? (i := 10) rfl)

def tX2_comings : List (Nat × Instr × Nat) := [
  (0, .aload_n 0, 1),
  (1, .aload_n 1, 1),
  (2, .getfield 18, 3),
  (5, .invokevirtual 24, 3),
  (8, .iconst 0, 1),
  (9, .istore 4, 2),
  (11, .iload 4, 2),
  (13, .iload_n 2, 1),
  (14, .if_icmp .ge 72, 3),
  (17, .iload_n 3, 1),
  (18, .ifCond .eq 7, 3),
  (21, .iconst 1, 1),
  (22, .goto 5, 3),
  (25, .bipush (-60), 2),
  (27, .istore 5, 2),
  (29, .iload 5, 2),
  (31, .bipush 60, 2),
  (33, .if_icmp .gt 43, 3),
  (36, .iconst 0, 1),
  (37, .istore 6, 2),
  (39, .iload 6, 2),
  (41, .aload_n 1, 1),
  (42, .getfield 28, 3),
  (45, .if_icmp .ge 25, 3),
  (48, .aload_n 0, 1),
  (49, .iload 5, 2),
  (51, .iload 5, 2),
  (53, .aload_n 1, 1),
  (54, .getfield 31, 3),
  (57, .iload 6, 2),
  (59, .iaload, 1),
  (60, .iadd, 1),
  (61, .invokevirtual 35, 3),
  (64, .iinc 6 1, 3),
  (67, .goto (-28), 3),
  (70, .iinc 5 1, 3),
  (73, .goto (-44), 3),
  (76, .aload_n 0, 1),
  (77, .invokevirtual 39, 3),
  (80, .iinc 4 1, 3),
  (83, .goto (-72), 3),
  (86, .aload_n 0, 1),
  (87, .getfield 11, 3),
  (90, .bipush 60, 2),
  (92, .laload, 1),
  (93, .lreturn, 1)]
set_option maxRecDepth 100000 in
theorem tX2_comings_ok : ∀ q ∈ tX2_comings, decode cX2_comings q.1 = .ok q.2 := by decide +kernel
theorem dX2_comings_0 : decode cX2_comings 0 = .ok (.aload_n 0, 1) := tX2_comings_ok (0, .aload_n 0, 1) (List.mem_of_getElem? (i := 0) rfl)
theorem dX2_comings_1 : decode cX2_comings 1 = .ok (.aload_n 1, 1) := tX2_comings_ok (1, .aload_n 1, 1) (List.mem_of_getElem? (i := 1) rfl)
theorem dX2_comings_2 : decode cX2_comings 2 = .ok (.getfield 18, 3) := tX2_comings_ok (2, .getfield 18, 3) (List.mem_of_getElem? (i := 2) rfl)
theorem dX2_comings_5 : decode cX2_comings 5 = .ok (.invokevirtual 24, 3) := tX2_comings_ok (5, .invokevirtual 24, 3) (List.mem_of_getElem? (i := 3) rfl)
theorem dX2_comings_8 : decode cX2_comings 8 = .ok (.iconst 0, 1) := tX2_comings_ok (8, .iconst 0, 1) (List.mem_of_getElem? (i := 4) rfl)
theorem dX2_comings_9 : decode cX2_comings 9 = .ok (.istore 4, 2) := tX2_comings_ok (9, .istore 4, 2) (List.mem_of_getElem? (i := 5) rfl)
theorem dX2_comings_11 : decode cX2_comings 11 = .ok (.iload 4, 2) := tX2_comings_ok (11, .iload 4, 2) (List.mem_of_getElem? (i := 6) rfl)
theorem dX2_comings_13 : decode cX2_comings 13 = .ok (.iload_n 2, 1) := tX2_comings_ok (13, .iload_n 2, 1) (List.mem_of_getElem? (i := 7) rfl)
theorem dX2_comings_14 : decode cX2_comings 14 = .ok (.if_icmp .ge 72, 3) := tX2_comings_ok (14, .if_icmp .ge 72, 3) (List.mem_of_getElem? (i := 8) rfl)
theorem dX2_comings_17 : decode cX2_comings 17 = .ok (.iload_n 3, 1) := tX2_comings_ok (17, .iload_n 3, 1) (List.mem_of_getElem? (i := 9) rfl)
theorem dX2_comings_18 : decode cX2_comings 18 = .ok (.ifCond .eq 7, 3) := tX2_comings_ok (18, .ifCond .eq 7, 3) (List.mem_of_getElem? (i := 10) rfl)
theorem dX2_comings_21 : decode cX2_comings 21 = .ok (.iconst 1, 1) := tX2_comings_ok (21, .iconst 1, 1) (List.mem_of_getElem? (i := 11) rfl)
theorem dX2_comings_22 : decode cX2_comings 22 = .ok (.goto 5, 3) := tX2_comings_ok (22, .goto 5, 3) (List.mem_of_getElem? (i := 12) rfl)
theorem dX2_comings_25 : decode cX2_comings 25 = .ok (.bipush (-60), 2) := tX2_comings_ok (25, .bipush (-60), 2) (List.mem_of_getElem? (i := 13) rfl)
theorem dX2_comings_27 : decode cX2_comings 27 = .ok (.istore 5, 2) := tX2_comings_ok (27, .istore 5, 2) (List.mem_of_getElem? (i := 14) rfl)
theorem dX2_comings_29 : decode cX2_comings 29 = .ok (.iload 5, 2) := tX2_comings_ok (29, .iload 5, 2) (List.mem_of_getElem? (i := 15) rfl)
theorem dX2_comings_31 : decode cX2_comings 31 = .ok (.bipush 60, 2) := tX2_comings_ok (31, .bipush 60, 2) (List.mem_of_getElem? (i := 16) rfl)
theorem dX2_comings_33 : decode cX2_comings 33 = .ok (.if_icmp .gt 43, 3) := tX2_comings_ok (33, .if_icmp .gt 43, 3) (List.mem_of_getElem? (i := 17) rfl)
theorem dX2_comings_36 : decode cX2_comings 36 = .ok (.iconst 0, 1) := tX2_comings_ok (36, .iconst 0, 1) (List.mem_of_getElem? (i := 18) rfl)
theorem dX2_comings_37 : decode cX2_comings 37 = .ok (.istore 6, 2) := tX2_comings_ok (37, .istore 6, 2) (List.mem_of_getElem? (i := 19) rfl)
theorem dX2_comings_39 : decode cX2_comings 39 = .ok (.iload 6, 2) := tX2_comings_ok (39, .iload 6, 2) (List.mem_of_getElem? (i := 20) rfl)
theorem dX2_comings_41 : decode cX2_comings 41 = .ok (.aload_n 1, 1) := tX2_comings_ok (41, .aload_n 1, 1) (List.mem_of_getElem? (i := 21) rfl)
theorem dX2_comings_42 : decode cX2_comings 42 = .ok (.getfield 28, 3) := tX2_comings_ok (42, .getfield 28, 3) (List.mem_of_getElem? (i := 22) rfl)
theorem dX2_comings_45 : decode cX2_comings 45 = .ok (.if_icmp .ge 25, 3) := tX2_comings_ok (45, .if_icmp .ge 25, 3) (List.mem_of_getElem? (i := 23) rfl)
theorem dX2_comings_48 : decode cX2_comings 48 = .ok (.aload_n 0, 1) := tX2_comings_ok (48, .aload_n 0, 1) (List.mem_of_getElem? (i := 24) rfl)
theorem dX2_comings_49 : decode cX2_comings 49 = .ok (.iload 5, 2) := tX2_comings_ok (49, .iload 5, 2) (List.mem_of_getElem? (i := 25) rfl)
theorem dX2_comings_51 : decode cX2_comings 51 = .ok (.iload 5, 2) := tX2_comings_ok (51, .iload 5, 2) (List.mem_of_getElem? (i := 26) rfl)
theorem dX2_comings_53 : decode cX2_comings 53 = .ok (.aload_n 1, 1) := tX2_comings_ok (53, .aload_n 1, 1) (List.mem_of_getElem? (i := 27) rfl)
theorem dX2_comings_54 : decode cX2_comings 54 = .ok (.getfield 31, 3) := tX2_comings_ok (54, .getfield 31, 3) (List.mem_of_getElem? (i := 28) rfl)
theorem dX2_comings_57 : decode cX2_comings 57 = .ok (.iload 6, 2) := tX2_comings_ok (57, .iload 6, 2) (List.mem_of_getElem? (i := 29) rfl)
theorem dX2_comings_59 : decode cX2_comings 59 = .ok (.iaload, 1) := tX2_comings_ok (59, .iaload, 1) (List.mem_of_getElem? (i := 30) rfl)
theorem dX2_comings_60 : decode cX2_comings 60 = .ok (.iadd, 1) := tX2_comings_ok (60, .iadd, 1) (List.mem_of_getElem? (i := 31) rfl)
theorem dX2_comings_61 : decode cX2_comings 61 = .ok (.invokevirtual 35, 3) := tX2_comings_ok (61, .invokevirtual 35, 3) (List.mem_of_getElem? (i := 32) rfl)
theorem dX2_comings_64 : decode cX2_comings 64 = .ok (.iinc 6 1, 3) := tX2_comings_ok (64, .iinc 6 1, 3) (List.mem_of_getElem? (i := 33) rfl)
theorem dX2_comings_67 : decode cX2_comings 67 = .ok (.goto (-28), 3) := tX2_comings_ok (67, .goto (-28), 3) (List.mem_of_getElem? (i := 34) rfl)
theorem dX2_comings_70 : decode cX2_comings 70 = .ok (.iinc 5 1, 3) := tX2_comings_ok (70, .iinc 5 1, 3) (List.mem_of_getElem? (i := 35) rfl)
theorem dX2_comings_73 : decode cX2_comings 73 = .ok (.goto (-44), 3) := tX2_comings_ok (73, .goto (-44), 3) (List.mem_of_getElem? (i := 36) rfl)
theorem dX2_comings_76 : decode cX2_comings 76 = .ok (.aload_n 0, 1) := tX2_comings_ok (76, .aload_n 0, 1) (List.mem_of_getElem? (i := 37) rfl)
theorem dX2_comings_77 : decode cX2_comings 77 = .ok (.invokevirtual 39, 3) := tX2_comings_ok (77, .invokevirtual 39, 3) (List.mem_of_getElem? (i := 38) rfl)
theorem dX2_comings_80 : decode cX2_comings 80 = .ok (.iinc 4 1, 3) := tX2_comings_ok (80, .iinc 4 1, 3) (List.mem_of_getElem? (i := 39) rfl)
theorem dX2_comings_83 : decode cX2_comings 83 = .ok (.goto (-72), 3) := tX2_comings_ok (83, .goto (-72), 3) (List.mem_of_getElem? (i := 40) rfl)
theorem dX2_comings_86 : decode cX2_comings 86 = .ok (.aload_n 0, 1) := tX2_comings_ok (86, .aload_n 0, 1) (List.mem_of_getElem? (i := 41) rfl)
theorem dX2_comings_87 : decode cX2_comings 87 = .ok (.getfield 11, 3) := tX2_comings_ok (87, .getfield 11, 3) (List.mem_of_getElem? (i := 42) rfl)
theorem dX2_comings_90 : decode cX2_comings 90 = .ok (.bipush 60, 2) := tX2_comings_ok (90, .bipush 60, 2) (List.mem_of_getElem? (i := 43) rfl)
theorem dX2_comings_92 : decode cX2_comings 92 = .ok (.laload, 1) := tX2_comings_ok (92, .laload, 1) (List.mem_of_getElem? (i := 44) rfl)
theorem dX2_comings_93 : decode cX2_comings 93 = .ok (.lreturn, 1) := tX2_comings_ok (93, .lreturn, 1) (List.mem_of_getElem? (i := 45) rfl)

def tX2_mirrored : List (Nat × Instr × Nat) := [
  (0, .aload_n 1, 1),
  (1, .getfield 42, 3),
  (4, .aload_n 1, 1),
  (5, .getfield 45, 3),
  (8, .isub, 1),
  (9, .istore 4, 2),
  (11, .iload_n 3, 1),
  (12, .aload_n 1, 1),
  (13, .getfield 18, 3),
  (16, .isub, 1),
  (17, .istore 5, 2),
  (19, .iload 4, 2),
  (21, .invokestatic 48, 3),
  (24, .bipush 60, 2),
  (26, .if_icmp .gt 13, 3),
  (29, .iload 5, 2),
  (31, .invokestatic 48, 3),
  (34, .bipush 60, 2),
  (36, .if_icmp .le 5, 3),
  (39, .lconst 0, 1),
  (40, .lreturn, 1),
  (41, .aload_n 0, 1),
  (42, .iconst 0, 1),
  (43, .invokevirtual 24, 3),
  (46, .iconst 0, 1),
  (47, .istore 6, 2),
  (49, .iload 6, 2),
  (51, .iload_n 2, 1),
  (52, .if_icmp .ge 74, 3),
  (55, .bipush (-60), 2),
  (57, .istore 7, 2),
  (59, .iload 7, 2),
  (61, .bipush 60, 2),
  (63, .if_icmp .gt 53, 3),
  (66, .iconst 0, 1),
  (67, .istore 8, 2),
  (69, .iload 8, 2),
  (71, .aload_n 1, 1),
  (72, .getfield 28, 3),
  (75, .if_icmp .ge 35, 3),
  (78, .aload_n 1, 1),
  (79, .getfield 31, 3),
  (82, .iload 8, 2),
  (84, .iaload, 1),
  (85, .ifCond .le 19, 3),
  (88, .aload_n 0, 1),
  (89, .iload 7, 2),
  (91, .iload 7, 2),
  (93, .aload_n 1, 1),
  (94, .getfield 54, 3),
  (97, .iload 8, 2),
  (99, .iaload, 1),
  (100, .iadd, 1),
  (101, .invokevirtual 35, 3),
  (104, .iinc 8 1, 3),
  (107, .goto (-38), 3),
  (110, .iinc 7 1, 3),
  (113, .goto (-54), 3),
  (116, .aload_n 0, 1),
  (117, .invokevirtual 39, 3),
  (120, .iinc 6 1, 3),
  (123, .goto (-74), 3),
  (126, .aload_n 0, 1),
  (127, .getfield 11, 3),
  (130, .bipush 60, 2),
  (132, .iload 4, 2),
  (134, .iadd, 1),
  (135, .laload, 1),
  (136, .lstore 6, 2),
  (138, .aload_n 0, 1),
  (139, .iconst 0, 1),
  (140, .invokevirtual 24, 3),
  (143, .iconst 0, 1),
  (144, .istore 8, 2),
  (146, .iload 8, 2),
  (148, .iload_n 2, 1),
  (149, .if_icmp .ge 50, 3),
  (152, .bipush (-60), 2),
  (154, .istore 9, 2),
  (156, .iload 9, 2),
  (158, .bipush 60, 2),
  (160, .if_icmp .gt 29, 3),
  (163, .aload_n 0, 1),
  (164, .iload 9, 2),
  (166, .iload 9, 2),
  (168, .iconst 1, 1),
  (169, .iadd, 1),
  (170, .invokevirtual 35, 3),
  (173, .aload_n 0, 1),
  (174, .iload 9, 2),
  (176, .iload 9, 2),
  (178, .iconst 1, 1),
  (179, .isub, 1),
  (180, .invokevirtual 35, 3),
  (183, .iinc 9 1, 3),
  (186, .goto (-30), 3),
  (189, .aload_n 0, 1),
  (190, .invokevirtual 39, 3),
  (193, .iinc 8 1, 3),
  (196, .goto (-50), 3),
  (199, .lload 6, 2),
  (201, .aload_n 0, 1),
  (202, .getfield 11, 3),
  (205, .bipush 60, 2),
  (207, .iload 5, 2),
  (209, .iadd, 1),
  (210, .laload, 1),
  (211, .lmul, 1),
  (212, .lreturn, 1)]
set_option maxRecDepth 100000 in
theorem tX2_mirrored_ok : ∀ q ∈ tX2_mirrored, decode cX2_mirrored q.1 = .ok q.2 := by decide +kernel
theorem dX2_mirrored_0 : decode cX2_mirrored 0 = .ok (.aload_n 1, 1) := tX2_mirrored_ok (0, .aload_n 1, 1) (List.mem_of_getElem? (i := 0) rfl)
theorem dX2_mirrored_1 : decode cX2_mirrored 1 = .ok (.getfield 42, 3) := tX2_mirrored_ok (1, .getfield 42, 3) (List.mem_of_getElem? (i := 1) rfl)
theorem dX2_mirrored_4 : decode cX2_mirrored 4 = .ok (.aload_n 1, 1) := tX2_mirrored_ok (4, .aload_n 1, 1) (List.mem_of_getElem? (i := 2) rfl)
theorem dX2_mirrored_5 : decode cX2_mirrored 5 = .ok (.getfield 45, 3) := tX2_mirrored_ok (5, .getfield 45, 3) (List.mem_of_getElem? (i := 3) rfl)
theorem dX2_mirrored_8 : decode cX2_mirrored 8 = .ok (.isub, 1) := tX2_mirrored_ok (8, .isub, 1) (List.mem_of_getElem? (i := 4) rfl)
theorem dX2_mirrored_9 : decode cX2_mirrored 9 = .ok (.istore 4, 2) := tX2_mirrored_ok (9, .istore 4, 2) (List.mem_of_getElem? (i := 5) rfl)
theorem dX2_mirrored_11 : decode cX2_mirrored 11 = .ok (.iload_n 3, 1) := tX2_mirrored_ok (11, .iload_n 3, 1) (List.mem_of_getElem? (i := 6) rfl)
theorem dX2_mirrored_12 : decode cX2_mirrored 12 = .ok (.aload_n 1, 1) := tX2_mirrored_ok (12, .aload_n 1, 1) (List.mem_of_getElem? (i := 7) rfl)
theorem dX2_mirrored_13 : decode cX2_mirrored 13 = .ok (.getfield 18, 3) := tX2_mirrored_ok (13, .getfield 18, 3) (List.mem_of_getElem? (i := 8) rfl)
theorem dX2_mirrored_16 : decode cX2_mirrored 16 = .ok (.isub, 1) := tX2_mirrored_ok (16, .isub, 1) (List.mem_of_getElem? (i := 9) rfl)
theorem dX2_mirrored_17 : decode cX2_mirrored 17 = .ok (.istore 5, 2) := tX2_mirrored_ok (17, .istore 5, 2) (List.mem_of_getElem? (i := 10) rfl)
theorem dX2_mirrored_19 : decode cX2_mirrored 19 = .ok (.iload 4, 2) := tX2_mirrored_ok (19, .iload 4, 2) (List.mem_of_getElem? (i := 11) rfl)
theorem dX2_mirrored_21 : decode cX2_mirrored 21 = .ok (.invokestatic 48, 3) := tX2_mirrored_ok (21, .invokestatic 48, 3) (List.mem_of_getElem? (i := 12) rfl)
theorem dX2_mirrored_24 : decode cX2_mirrored 24 = .ok (.bipush 60, 2) := tX2_mirrored_ok (24, .bipush 60, 2) (List.mem_of_getElem? (i := 13) rfl)
theorem dX2_mirrored_26 : decode cX2_mirrored 26 = .ok (.if_icmp .gt 13, 3) := tX2_mirrored_ok (26, .if_icmp .gt 13, 3) (List.mem_of_getElem? (i := 14) rfl)
theorem dX2_mirrored_29 : decode cX2_mirrored 29 = .ok (.iload 5, 2) := tX2_mirrored_ok (29, .iload 5, 2) (List.mem_of_getElem? (i := 15) rfl)
theorem dX2_mirrored_31 : decode cX2_mirrored 31 = .ok (.invokestatic 48, 3) := tX2_mirrored_ok (31, .invokestatic 48, 3) (List.mem_of_getElem? (i := 16) rfl)
theorem dX2_mirrored_34 : decode cX2_mirrored 34 = .ok (.bipush 60, 2) := tX2_mirrored_ok (34, .bipush 60, 2) (List.mem_of_getElem? (i := 17) rfl)
theorem dX2_mirrored_36 : decode cX2_mirrored 36 = .ok (.if_icmp .le 5, 3) := tX2_mirrored_ok (36, .if_icmp .le 5, 3) (List.mem_of_getElem? (i := 18) rfl)
theorem dX2_mirrored_39 : decode cX2_mirrored 39 = .ok (.lconst 0, 1) := tX2_mirrored_ok (39, .lconst 0, 1) (List.mem_of_getElem? (i := 19) rfl)
theorem dX2_mirrored_40 : decode cX2_mirrored 40 = .ok (.lreturn, 1) := tX2_mirrored_ok (40, .lreturn, 1) (List.mem_of_getElem? (i := 20) rfl)
theorem dX2_mirrored_41 : decode cX2_mirrored 41 = .ok (.aload_n 0, 1) := tX2_mirrored_ok (41, .aload_n 0, 1) (List.mem_of_getElem? (i := 21) rfl)
theorem dX2_mirrored_42 : decode cX2_mirrored 42 = .ok (.iconst 0, 1) := tX2_mirrored_ok (42, .iconst 0, 1) (List.mem_of_getElem? (i := 22) rfl)
theorem dX2_mirrored_43 : decode cX2_mirrored 43 = .ok (.invokevirtual 24, 3) := tX2_mirrored_ok (43, .invokevirtual 24, 3) (List.mem_of_getElem? (i := 23) rfl)
theorem dX2_mirrored_46 : decode cX2_mirrored 46 = .ok (.iconst 0, 1) := tX2_mirrored_ok (46, .iconst 0, 1) (List.mem_of_getElem? (i := 24) rfl)
theorem dX2_mirrored_47 : decode cX2_mirrored 47 = .ok (.istore 6, 2) := tX2_mirrored_ok (47, .istore 6, 2) (List.mem_of_getElem? (i := 25) rfl)
theorem dX2_mirrored_49 : decode cX2_mirrored 49 = .ok (.iload 6, 2) := tX2_mirrored_ok (49, .iload 6, 2) (List.mem_of_getElem? (i := 26) rfl)
theorem dX2_mirrored_51 : decode cX2_mirrored 51 = .ok (.iload_n 2, 1) := tX2_mirrored_ok (51, .iload_n 2, 1) (List.mem_of_getElem? (i := 27) rfl)
theorem dX2_mirrored_52 : decode cX2_mirrored 52 = .ok (.if_icmp .ge 74, 3) := tX2_mirrored_ok (52, .if_icmp .ge 74, 3) (List.mem_of_getElem? (i := 28) rfl)
theorem dX2_mirrored_55 : decode cX2_mirrored 55 = .ok (.bipush (-60), 2) := tX2_mirrored_ok (55, .bipush (-60), 2) (List.mem_of_getElem? (i := 29) rfl)
theorem dX2_mirrored_57 : decode cX2_mirrored 57 = .ok (.istore 7, 2) := tX2_mirrored_ok (57, .istore 7, 2) (List.mem_of_getElem? (i := 30) rfl)
theorem dX2_mirrored_59 : decode cX2_mirrored 59 = .ok (.iload 7, 2) := tX2_mirrored_ok (59, .iload 7, 2) (List.mem_of_getElem? (i := 31) rfl)
theorem dX2_mirrored_61 : decode cX2_mirrored 61 = .ok (.bipush 60, 2) := tX2_mirrored_ok (61, .bipush 60, 2) (List.mem_of_getElem? (i := 32) rfl)
theorem dX2_mirrored_63 : decode cX2_mirrored 63 = .ok (.if_icmp .gt 53, 3) := tX2_mirrored_ok (63, .if_icmp .gt 53, 3) (List.mem_of_getElem? (i := 33) rfl)
theorem dX2_mirrored_66 : decode cX2_mirrored 66 = .ok (.iconst 0, 1) := tX2_mirrored_ok (66, .iconst 0, 1) (List.mem_of_getElem? (i := 34) rfl)
theorem dX2_mirrored_67 : decode cX2_mirrored 67 = .ok (.istore 8, 2) := tX2_mirrored_ok (67, .istore 8, 2) (List.mem_of_getElem? (i := 35) rfl)
theorem dX2_mirrored_69 : decode cX2_mirrored 69 = .ok (.iload 8, 2) := tX2_mirrored_ok (69, .iload 8, 2) (List.mem_of_getElem? (i := 36) rfl)
theorem dX2_mirrored_71 : decode cX2_mirrored 71 = .ok (.aload_n 1, 1) := tX2_mirrored_ok (71, .aload_n 1, 1) (List.mem_of_getElem? (i := 37) rfl)
theorem dX2_mirrored_72 : decode cX2_mirrored 72 = .ok (.getfield 28, 3) := tX2_mirrored_ok (72, .getfield 28, 3) (List.mem_of_getElem? (i := 38) rfl)
theorem dX2_mirrored_75 : decode cX2_mirrored 75 = .ok (.if_icmp .ge 35, 3) := tX2_mirrored_ok (75, .if_icmp .ge 35, 3) (List.mem_of_getElem? (i := 39) rfl)
theorem dX2_mirrored_78 : decode cX2_mirrored 78 = .ok (.aload_n 1, 1) := tX2_mirrored_ok (78, .aload_n 1, 1) (List.mem_of_getElem? (i := 40) rfl)
theorem dX2_mirrored_79 : decode cX2_mirrored 79 = .ok (.getfield 31, 3) := tX2_mirrored_ok (79, .getfield 31, 3) (List.mem_of_getElem? (i := 41) rfl)
theorem dX2_mirrored_82 : decode cX2_mirrored 82 = .ok (.iload 8, 2) := tX2_mirrored_ok (82, .iload 8, 2) (List.mem_of_getElem? (i := 42) rfl)
theorem dX2_mirrored_84 : decode cX2_mirrored 84 = .ok (.iaload, 1) := tX2_mirrored_ok (84, .iaload, 1) (List.mem_of_getElem? (i := 43) rfl)
theorem dX2_mirrored_85 : decode cX2_mirrored 85 = .ok (.ifCond .le 19, 3) := tX2_mirrored_ok (85, .ifCond .le 19, 3) (List.mem_of_getElem? (i := 44) rfl)
theorem dX2_mirrored_88 : decode cX2_mirrored 88 = .ok (.aload_n 0, 1) := tX2_mirrored_ok (88, .aload_n 0, 1) (List.mem_of_getElem? (i := 45) rfl)
theorem dX2_mirrored_89 : decode cX2_mirrored 89 = .ok (.iload 7, 2) := tX2_mirrored_ok (89, .iload 7, 2) (List.mem_of_getElem? (i := 46) rfl)
theorem dX2_mirrored_91 : decode cX2_mirrored 91 = .ok (.iload 7, 2) := tX2_mirrored_ok (91, .iload 7, 2) (List.mem_of_getElem? (i := 47) rfl)
theorem dX2_mirrored_93 : decode cX2_mirrored 93 = .ok (.aload_n 1, 1) := tX2_mirrored_ok (93, .aload_n 1, 1) (List.mem_of_getElem? (i := 48) rfl)
theorem dX2_mirrored_94 : decode cX2_mirrored 94 = .ok (.getfield 54, 3) := tX2_mirrored_ok (94, .getfield 54, 3) (List.mem_of_getElem? (i := 49) rfl)
theorem dX2_mirrored_97 : decode cX2_mirrored 97 = .ok (.iload 8, 2) := tX2_mirrored_ok (97, .iload 8, 2) (List.mem_of_getElem? (i := 50) rfl)
theorem dX2_mirrored_99 : decode cX2_mirrored 99 = .ok (.iaload, 1) := tX2_mirrored_ok (99, .iaload, 1) (List.mem_of_getElem? (i := 51) rfl)
theorem dX2_mirrored_100 : decode cX2_mirrored 100 = .ok (.iadd, 1) := tX2_mirrored_ok (100, .iadd, 1) (List.mem_of_getElem? (i := 52) rfl)
theorem dX2_mirrored_101 : decode cX2_mirrored 101 = .ok (.invokevirtual 35, 3) := tX2_mirrored_ok (101, .invokevirtual 35, 3) (List.mem_of_getElem? (i := 53) rfl)
theorem dX2_mirrored_104 : decode cX2_mirrored 104 = .ok (.iinc 8 1, 3) := tX2_mirrored_ok (104, .iinc 8 1, 3) (List.mem_of_getElem? (i := 54) rfl)
theorem dX2_mirrored_107 : decode cX2_mirrored 107 = .ok (.goto (-38), 3) := tX2_mirrored_ok (107, .goto (-38), 3) (List.mem_of_getElem? (i := 55) rfl)
theorem dX2_mirrored_110 : decode cX2_mirrored 110 = .ok (.iinc 7 1, 3) := tX2_mirrored_ok (110, .iinc 7 1, 3) (List.mem_of_getElem? (i := 56) rfl)
theorem dX2_mirrored_113 : decode cX2_mirrored 113 = .ok (.goto (-54), 3) := tX2_mirrored_ok (113, .goto (-54), 3) (List.mem_of_getElem? (i := 57) rfl)
theorem dX2_mirrored_116 : decode cX2_mirrored 116 = .ok (.aload_n 0, 1) := tX2_mirrored_ok (116, .aload_n 0, 1) (List.mem_of_getElem? (i := 58) rfl)
theorem dX2_mirrored_117 : decode cX2_mirrored 117 = .ok (.invokevirtual 39, 3) := tX2_mirrored_ok (117, .invokevirtual 39, 3) (List.mem_of_getElem? (i := 59) rfl)
theorem dX2_mirrored_120 : decode cX2_mirrored 120 = .ok (.iinc 6 1, 3) := tX2_mirrored_ok (120, .iinc 6 1, 3) (List.mem_of_getElem? (i := 60) rfl)
theorem dX2_mirrored_123 : decode cX2_mirrored 123 = .ok (.goto (-74), 3) := tX2_mirrored_ok (123, .goto (-74), 3) (List.mem_of_getElem? (i := 61) rfl)
theorem dX2_mirrored_126 : decode cX2_mirrored 126 = .ok (.aload_n 0, 1) := tX2_mirrored_ok (126, .aload_n 0, 1) (List.mem_of_getElem? (i := 62) rfl)
theorem dX2_mirrored_127 : decode cX2_mirrored 127 = .ok (.getfield 11, 3) := tX2_mirrored_ok (127, .getfield 11, 3) (List.mem_of_getElem? (i := 63) rfl)
theorem dX2_mirrored_130 : decode cX2_mirrored 130 = .ok (.bipush 60, 2) := tX2_mirrored_ok (130, .bipush 60, 2) (List.mem_of_getElem? (i := 64) rfl)
theorem dX2_mirrored_132 : decode cX2_mirrored 132 = .ok (.iload 4, 2) := tX2_mirrored_ok (132, .iload 4, 2) (List.mem_of_getElem? (i := 65) rfl)
theorem dX2_mirrored_134 : decode cX2_mirrored 134 = .ok (.iadd, 1) := tX2_mirrored_ok (134, .iadd, 1) (List.mem_of_getElem? (i := 66) rfl)
theorem dX2_mirrored_135 : decode cX2_mirrored 135 = .ok (.laload, 1) := tX2_mirrored_ok (135, .laload, 1) (List.mem_of_getElem? (i := 67) rfl)
theorem dX2_mirrored_136 : decode cX2_mirrored 136 = .ok (.lstore 6, 2) := tX2_mirrored_ok (136, .lstore 6, 2) (List.mem_of_getElem? (i := 68) rfl)
theorem dX2_mirrored_138 : decode cX2_mirrored 138 = .ok (.aload_n 0, 1) := tX2_mirrored_ok (138, .aload_n 0, 1) (List.mem_of_getElem? (i := 69) rfl)
theorem dX2_mirrored_139 : decode cX2_mirrored 139 = .ok (.iconst 0, 1) := tX2_mirrored_ok (139, .iconst 0, 1) (List.mem_of_getElem? (i := 70) rfl)
theorem dX2_mirrored_140 : decode cX2_mirrored 140 = .ok (.invokevirtual 24, 3) := tX2_mirrored_ok (140, .invokevirtual 24, 3) (List.mem_of_getElem? (i := 71) rfl)
theorem dX2_mirrored_143 : decode cX2_mirrored 143 = .ok (.iconst 0, 1) := tX2_mirrored_ok (143, .iconst 0, 1) (List.mem_of_getElem? (i := 72) rfl)
theorem dX2_mirrored_144 : decode cX2_mirrored 144 = .ok (.istore 8, 2) := tX2_mirrored_ok (144, .istore 8, 2) (List.mem_of_getElem? (i := 73) rfl)
theorem dX2_mirrored_146 : decode cX2_mirrored 146 = .ok (.iload 8, 2) := tX2_mirrored_ok (146, .iload 8, 2) (List.mem_of_getElem? (i := 74) rfl)
theorem dX2_mirrored_148 : decode cX2_mirrored 148 = .ok (.iload_n 2, 1) := tX2_mirrored_ok (148, .iload_n 2, 1) (List.mem_of_getElem? (i := 75) rfl)
theorem dX2_mirrored_149 : decode cX2_mirrored 149 = .ok (.if_icmp .ge 50, 3) := tX2_mirrored_ok (149, .if_icmp .ge 50, 3) (List.mem_of_getElem? (i := 76) rfl)
theorem dX2_mirrored_152 : decode cX2_mirrored 152 = .ok (.bipush (-60), 2) := tX2_mirrored_ok (152, .bipush (-60), 2) (List.mem_of_getElem? (i := 77) rfl)
theorem dX2_mirrored_154 : decode cX2_mirrored 154 = .ok (.istore 9, 2) := tX2_mirrored_ok (154, .istore 9, 2) (List.mem_of_getElem? (i := 78) rfl)
theorem dX2_mirrored_156 : decode cX2_mirrored 156 = .ok (.iload 9, 2) := tX2_mirrored_ok (156, .iload 9, 2) (List.mem_of_getElem? (i := 79) rfl)
theorem dX2_mirrored_158 : decode cX2_mirrored 158 = .ok (.bipush 60, 2) := tX2_mirrored_ok (158, .bipush 60, 2) (List.mem_of_getElem? (i := 80) rfl)
theorem dX2_mirrored_160 : decode cX2_mirrored 160 = .ok (.if_icmp .gt 29, 3) := tX2_mirrored_ok (160, .if_icmp .gt 29, 3) (List.mem_of_getElem? (i := 81) rfl)
theorem dX2_mirrored_163 : decode cX2_mirrored 163 = .ok (.aload_n 0, 1) := tX2_mirrored_ok (163, .aload_n 0, 1) (List.mem_of_getElem? (i := 82) rfl)
theorem dX2_mirrored_164 : decode cX2_mirrored 164 = .ok (.iload 9, 2) := tX2_mirrored_ok (164, .iload 9, 2) (List.mem_of_getElem? (i := 83) rfl)
theorem dX2_mirrored_166 : decode cX2_mirrored 166 = .ok (.iload 9, 2) := tX2_mirrored_ok (166, .iload 9, 2) (List.mem_of_getElem? (i := 84) rfl)
theorem dX2_mirrored_168 : decode cX2_mirrored 168 = .ok (.iconst 1, 1) := tX2_mirrored_ok (168, .iconst 1, 1) (List.mem_of_getElem? (i := 85) rfl)
theorem dX2_mirrored_169 : decode cX2_mirrored 169 = .ok (.iadd, 1) := tX2_mirrored_ok (169, .iadd, 1) (List.mem_of_getElem? (i := 86) rfl)
theorem dX2_mirrored_170 : decode cX2_mirrored 170 = .ok (.invokevirtual 35, 3) := tX2_mirrored_ok (170, .invokevirtual 35, 3) (List.mem_of_getElem? (i := 87) rfl)
theorem dX2_mirrored_173 : decode cX2_mirrored 173 = .ok (.aload_n 0, 1) := tX2_mirrored_ok (173, .aload_n 0, 1) (List.mem_of_getElem? (i := 88) rfl)
theorem dX2_mirrored_174 : decode cX2_mirrored 174 = .ok (.iload 9, 2) := tX2_mirrored_ok (174, .iload 9, 2) (List.mem_of_getElem? (i := 89) rfl)
theorem dX2_mirrored_176 : decode cX2_mirrored 176 = .ok (.iload 9, 2) := tX2_mirrored_ok (176, .iload 9, 2) (List.mem_of_getElem? (i := 90) rfl)
theorem dX2_mirrored_178 : decode cX2_mirrored 178 = .ok (.iconst 1, 1) := tX2_mirrored_ok (178, .iconst 1, 1) (List.mem_of_getElem? (i := 91) rfl)
theorem dX2_mirrored_179 : decode cX2_mirrored 179 = .ok (.isub, 1) := tX2_mirrored_ok (179, .isub, 1) (List.mem_of_getElem? (i := 92) rfl)
theorem dX2_mirrored_180 : decode cX2_mirrored 180 = .ok (.invokevirtual 35, 3) := tX2_mirrored_ok (180, .invokevirtual 35, 3) (List.mem_of_getElem? (i := 93) rfl)
theorem dX2_mirrored_183 : decode cX2_mirrored 183 = .ok (.iinc 9 1, 3) := tX2_mirrored_ok (183, .iinc 9 1, 3) (List.mem_of_getElem? (i := 94) rfl)
theorem dX2_mirrored_186 : decode cX2_mirrored 186 = .ok (.goto (-30), 3) := tX2_mirrored_ok (186, .goto (-30), 3) (List.mem_of_getElem? (i := 95) rfl)
theorem dX2_mirrored_189 : decode cX2_mirrored 189 = .ok (.aload_n 0, 1) := tX2_mirrored_ok (189, .aload_n 0, 1) (List.mem_of_getElem? (i := 96) rfl)
theorem dX2_mirrored_190 : decode cX2_mirrored 190 = .ok (.invokevirtual 39, 3) := tX2_mirrored_ok (190, .invokevirtual 39, 3) (List.mem_of_getElem? (i := 97) rfl)
theorem dX2_mirrored_193 : decode cX2_mirrored 193 = .ok (.iinc 8 1, 3) := tX2_mirrored_ok (193, .iinc 8 1, 3) (List.mem_of_getElem? (i := 98) rfl)
theorem dX2_mirrored_196 : decode cX2_mirrored 196 = .ok (.goto (-50), 3) := tX2_mirrored_ok (196, .goto (-50), 3) (List.mem_of_getElem? (i := 99) rfl)
theorem dX2_mirrored_199 : decode cX2_mirrored 199 = .ok (.lload 6, 2) := tX2_mirrored_ok (199, .lload 6, 2) (List.mem_of_getElem? (i := 100) rfl)
theorem dX2_mirrored_201 : decode cX2_mirrored 201 = .ok (.aload_n 0, 1) := tX2_mirrored_ok (201, .aload_n 0, 1) (List.mem_of_getElem? (i := 101) rfl)
theorem dX2_mirrored_202 : decode cX2_mirrored 202 = .ok (.getfield 11, 3) := tX2_mirrored_ok (202, .getfield 11, 3) (List.mem_of_getElem? (i := 102) rfl)
theorem dX2_mirrored_205 : decode cX2_mirrored 205 = .ok (.bipush 60, 2) := tX2_mirrored_ok (205, .bipush 60, 2) (List.mem_of_getElem? (i := 103) rfl)
theorem dX2_mirrored_207 : decode cX2_mirrored 207 = .ok (.iload 5, 2) := tX2_mirrored_ok (207, .iload 5, 2) (List.mem_of_getElem? (i := 104) rfl)
theorem dX2_mirrored_209 : decode cX2_mirrored 209 = .ok (.iadd, 1) := tX2_mirrored_ok (209, .iadd, 1) (List.mem_of_getElem? (i := 105) rfl)
theorem dX2_mirrored_210 : decode cX2_mirrored 210 = .ok (.laload, 1) := tX2_mirrored_ok (210, .laload, 1) (List.mem_of_getElem? (i := 106) rfl)
theorem dX2_mirrored_211 : decode cX2_mirrored 211 = .ok (.lmul, 1) := tX2_mirrored_ok (211, .lmul, 1) (List.mem_of_getElem? (i := 107) rfl)
theorem dX2_mirrored_212 : decode cX2_mirrored 212 = .ok (.lreturn, 1) := tX2_mirrored_ok (212, .lreturn, 1) (List.mem_of_getElem? (i := 108) rfl)

def tX2_beginAt : List (Nat × Instr × Nat) := [
  (0, .iconst 0, 1),
  (1, .istore_n 2, 1),
  (2, .iload_n 2, 1),
  (3, .bipush 121, 2),
  (5, .if_icmp .ge 35, 3),
  (8, .aload_n 0, 1),
  (9, .getfield 11, 3),
  (12, .iload_n 2, 1),
  (13, .iload_n 2, 1),
  (14, .iload_n 1, 1),
  (15, .bipush 60, 2),
  (17, .iadd, 1),
  (18, .if_icmp .ne 7, 3),
  (21, .lconst 1, 1),
  (22, .goto 4, 3),
  (25, .lconst 0, 1),
  (26, .lastore, 1),
  (27, .aload_n 0, 1),
  (28, .getfield 15, 3),
  (31, .iload_n 2, 1),
  (32, .lconst 0, 1),
  (33, .lastore, 1),
  (34, .iinc 2 1, 3),
  (37, .goto (-35), 3),
  (40, .return_, 1)]
set_option maxRecDepth 100000 in
theorem tX2_beginAt_ok : ∀ q ∈ tX2_beginAt, decode cX2_beginAt q.1 = .ok q.2 := by decide +kernel
theorem dX2_beginAt_0 : decode cX2_beginAt 0 = .ok (.iconst 0, 1) := tX2_beginAt_ok (0, .iconst 0, 1) (List.mem_of_getElem? (i := 0) rfl)
theorem dX2_beginAt_1 : decode cX2_beginAt 1 = .ok (.istore_n 2, 1) := tX2_beginAt_ok (1, .istore_n 2, 1) (List.mem_of_getElem? (i := 1) rfl)
theorem dX2_beginAt_2 : decode cX2_beginAt 2 = .ok (.iload_n 2, 1) := tX2_beginAt_ok (2, .iload_n 2, 1) (List.mem_of_getElem? (i := 2) rfl)
theorem dX2_beginAt_3 : decode cX2_beginAt 3 = .ok (.bipush 121, 2) := tX2_beginAt_ok (3, .bipush 121, 2) (List.mem_of_getElem? (i := 3) rfl)
theorem dX2_beginAt_5 : decode cX2_beginAt 5 = .ok (.if_icmp .ge 35, 3) := tX2_beginAt_ok (5, .if_icmp .ge 35, 3) (List.mem_of_getElem? (i := 4) rfl)
theorem dX2_beginAt_8 : decode cX2_beginAt 8 = .ok (.aload_n 0, 1) := tX2_beginAt_ok (8, .aload_n 0, 1) (List.mem_of_getElem? (i := 5) rfl)
theorem dX2_beginAt_9 : decode cX2_beginAt 9 = .ok (.getfield 11, 3) := tX2_beginAt_ok (9, .getfield 11, 3) (List.mem_of_getElem? (i := 6) rfl)
theorem dX2_beginAt_12 : decode cX2_beginAt 12 = .ok (.iload_n 2, 1) := tX2_beginAt_ok (12, .iload_n 2, 1) (List.mem_of_getElem? (i := 7) rfl)
theorem dX2_beginAt_13 : decode cX2_beginAt 13 = .ok (.iload_n 2, 1) := tX2_beginAt_ok (13, .iload_n 2, 1) (List.mem_of_getElem? (i := 8) rfl)
theorem dX2_beginAt_14 : decode cX2_beginAt 14 = .ok (.iload_n 1, 1) := tX2_beginAt_ok (14, .iload_n 1, 1) (List.mem_of_getElem? (i := 9) rfl)
theorem dX2_beginAt_15 : decode cX2_beginAt 15 = .ok (.bipush 60, 2) := tX2_beginAt_ok (15, .bipush 60, 2) (List.mem_of_getElem? (i := 10) rfl)
theorem dX2_beginAt_17 : decode cX2_beginAt 17 = .ok (.iadd, 1) := tX2_beginAt_ok (17, .iadd, 1) (List.mem_of_getElem? (i := 11) rfl)
theorem dX2_beginAt_18 : decode cX2_beginAt 18 = .ok (.if_icmp .ne 7, 3) := tX2_beginAt_ok (18, .if_icmp .ne 7, 3) (List.mem_of_getElem? (i := 12) rfl)
theorem dX2_beginAt_21 : decode cX2_beginAt 21 = .ok (.lconst 1, 1) := tX2_beginAt_ok (21, .lconst 1, 1) (List.mem_of_getElem? (i := 13) rfl)
theorem dX2_beginAt_22 : decode cX2_beginAt 22 = .ok (.goto 4, 3) := tX2_beginAt_ok (22, .goto 4, 3) (List.mem_of_getElem? (i := 14) rfl)
theorem dX2_beginAt_25 : decode cX2_beginAt 25 = .ok (.lconst 0, 1) := tX2_beginAt_ok (25, .lconst 0, 1) (List.mem_of_getElem? (i := 15) rfl)
theorem dX2_beginAt_26 : decode cX2_beginAt 26 = .ok (.lastore, 1) := tX2_beginAt_ok (26, .lastore, 1) (List.mem_of_getElem? (i := 16) rfl)
theorem dX2_beginAt_27 : decode cX2_beginAt 27 = .ok (.aload_n 0, 1) := tX2_beginAt_ok (27, .aload_n 0, 1) (List.mem_of_getElem? (i := 17) rfl)
theorem dX2_beginAt_28 : decode cX2_beginAt 28 = .ok (.getfield 15, 3) := tX2_beginAt_ok (28, .getfield 15, 3) (List.mem_of_getElem? (i := 18) rfl)
theorem dX2_beginAt_31 : decode cX2_beginAt 31 = .ok (.iload_n 2, 1) := tX2_beginAt_ok (31, .iload_n 2, 1) (List.mem_of_getElem? (i := 19) rfl)
theorem dX2_beginAt_32 : decode cX2_beginAt 32 = .ok (.lconst 0, 1) := tX2_beginAt_ok (32, .lconst 0, 1) (List.mem_of_getElem? (i := 20) rfl)
theorem dX2_beginAt_33 : decode cX2_beginAt 33 = .ok (.lastore, 1) := tX2_beginAt_ok (33, .lastore, 1) (List.mem_of_getElem? (i := 21) rfl)
theorem dX2_beginAt_34 : decode cX2_beginAt 34 = .ok (.iinc 2 1, 3) := tX2_beginAt_ok (34, .iinc 2 1, 3) (List.mem_of_getElem? (i := 22) rfl)
theorem dX2_beginAt_37 : decode cX2_beginAt 37 = .ok (.goto (-35), 3) := tX2_beginAt_ok (37, .goto (-35), 3) (List.mem_of_getElem? (i := 23) rfl)
theorem dX2_beginAt_40 : decode cX2_beginAt 40 = .ok (.return_, 1) := tX2_beginAt_ok (40, .return_, 1) (List.mem_of_getElem? (i := 24) rfl)

def tX2_push : List (Nat × Instr × Nat) := [
  (0, .iload_n 2, 1),
  (1, .bipush (-60), 2),
  (3, .if_icmp .lt 53, 3),
  (6, .iload_n 2, 1),
  (7, .bipush 60, 2),
  (9, .if_icmp .gt 47, 3),
  (12, .aload_n 0, 1),
  (13, .getfield 11, 3),
  (16, .iload_n 1, 1),
  (17, .bipush 60, 2),
  (19, .iadd, 1),
  (20, .laload, 1),
  (21, .lconst 0, 1),
  (22, .lcmp, 1),
  (23, .ifCond .le 33, 3),
  (26, .aload_n 0, 1),
  (27, .getfield 15, 3),
  (30, .iload_n 2, 1),
  (31, .bipush 60, 2),
  (33, .iadd, 1),
  (34, .aload_n 0, 1),
  (35, .getfield 15, 3),
  (38, .iload_n 2, 1),
  (39, .bipush 60, 2),
  (41, .iadd, 1),
  (42, .laload, 1),
  (43, .aload_n 0, 1),
  (44, .getfield 11, 3),
  (47, .iload_n 1, 1),
  (48, .bipush 60, 2),
  (50, .iadd, 1),
  (51, .laload, 1),
  (52, .invokestatic 57, 3),
  (55, .lastore, 1),
  (56, .return_, 1)]
set_option maxRecDepth 100000 in
theorem tX2_push_ok : ∀ q ∈ tX2_push, decode cX2_push q.1 = .ok q.2 := by decide +kernel
theorem dX2_push_0 : decode cX2_push 0 = .ok (.iload_n 2, 1) := tX2_push_ok (0, .iload_n 2, 1) (List.mem_of_getElem? (i := 0) rfl)
theorem dX2_push_1 : decode cX2_push 1 = .ok (.bipush (-60), 2) := tX2_push_ok (1, .bipush (-60), 2) (List.mem_of_getElem? (i := 1) rfl)
theorem dX2_push_3 : decode cX2_push 3 = .ok (.if_icmp .lt 53, 3) := tX2_push_ok (3, .if_icmp .lt 53, 3) (List.mem_of_getElem? (i := 2) rfl)
theorem dX2_push_6 : decode cX2_push 6 = .ok (.iload_n 2, 1) := tX2_push_ok (6, .iload_n 2, 1) (List.mem_of_getElem? (i := 3) rfl)
theorem dX2_push_7 : decode cX2_push 7 = .ok (.bipush 60, 2) := tX2_push_ok (7, .bipush 60, 2) (List.mem_of_getElem? (i := 4) rfl)
theorem dX2_push_9 : decode cX2_push 9 = .ok (.if_icmp .gt 47, 3) := tX2_push_ok (9, .if_icmp .gt 47, 3) (List.mem_of_getElem? (i := 5) rfl)
theorem dX2_push_12 : decode cX2_push 12 = .ok (.aload_n 0, 1) := tX2_push_ok (12, .aload_n 0, 1) (List.mem_of_getElem? (i := 6) rfl)
theorem dX2_push_13 : decode cX2_push 13 = .ok (.getfield 11, 3) := tX2_push_ok (13, .getfield 11, 3) (List.mem_of_getElem? (i := 7) rfl)
theorem dX2_push_16 : decode cX2_push 16 = .ok (.iload_n 1, 1) := tX2_push_ok (16, .iload_n 1, 1) (List.mem_of_getElem? (i := 8) rfl)
theorem dX2_push_17 : decode cX2_push 17 = .ok (.bipush 60, 2) := tX2_push_ok (17, .bipush 60, 2) (List.mem_of_getElem? (i := 9) rfl)
theorem dX2_push_19 : decode cX2_push 19 = .ok (.iadd, 1) := tX2_push_ok (19, .iadd, 1) (List.mem_of_getElem? (i := 10) rfl)
theorem dX2_push_20 : decode cX2_push 20 = .ok (.laload, 1) := tX2_push_ok (20, .laload, 1) (List.mem_of_getElem? (i := 11) rfl)
theorem dX2_push_21 : decode cX2_push 21 = .ok (.lconst 0, 1) := tX2_push_ok (21, .lconst 0, 1) (List.mem_of_getElem? (i := 12) rfl)
theorem dX2_push_22 : decode cX2_push 22 = .ok (.lcmp, 1) := tX2_push_ok (22, .lcmp, 1) (List.mem_of_getElem? (i := 13) rfl)
theorem dX2_push_23 : decode cX2_push 23 = .ok (.ifCond .le 33, 3) := tX2_push_ok (23, .ifCond .le 33, 3) (List.mem_of_getElem? (i := 14) rfl)
theorem dX2_push_26 : decode cX2_push 26 = .ok (.aload_n 0, 1) := tX2_push_ok (26, .aload_n 0, 1) (List.mem_of_getElem? (i := 15) rfl)
theorem dX2_push_27 : decode cX2_push 27 = .ok (.getfield 15, 3) := tX2_push_ok (27, .getfield 15, 3) (List.mem_of_getElem? (i := 16) rfl)
theorem dX2_push_30 : decode cX2_push 30 = .ok (.iload_n 2, 1) := tX2_push_ok (30, .iload_n 2, 1) (List.mem_of_getElem? (i := 17) rfl)
theorem dX2_push_31 : decode cX2_push 31 = .ok (.bipush 60, 2) := tX2_push_ok (31, .bipush 60, 2) (List.mem_of_getElem? (i := 18) rfl)
theorem dX2_push_33 : decode cX2_push 33 = .ok (.iadd, 1) := tX2_push_ok (33, .iadd, 1) (List.mem_of_getElem? (i := 19) rfl)
theorem dX2_push_34 : decode cX2_push 34 = .ok (.aload_n 0, 1) := tX2_push_ok (34, .aload_n 0, 1) (List.mem_of_getElem? (i := 20) rfl)
theorem dX2_push_35 : decode cX2_push 35 = .ok (.getfield 15, 3) := tX2_push_ok (35, .getfield 15, 3) (List.mem_of_getElem? (i := 21) rfl)
theorem dX2_push_38 : decode cX2_push 38 = .ok (.iload_n 2, 1) := tX2_push_ok (38, .iload_n 2, 1) (List.mem_of_getElem? (i := 22) rfl)
theorem dX2_push_39 : decode cX2_push 39 = .ok (.bipush 60, 2) := tX2_push_ok (39, .bipush 60, 2) (List.mem_of_getElem? (i := 23) rfl)
theorem dX2_push_41 : decode cX2_push 41 = .ok (.iadd, 1) := tX2_push_ok (41, .iadd, 1) (List.mem_of_getElem? (i := 24) rfl)
theorem dX2_push_42 : decode cX2_push 42 = .ok (.laload, 1) := tX2_push_ok (42, .laload, 1) (List.mem_of_getElem? (i := 25) rfl)
theorem dX2_push_43 : decode cX2_push 43 = .ok (.aload_n 0, 1) := tX2_push_ok (43, .aload_n 0, 1) (List.mem_of_getElem? (i := 26) rfl)
theorem dX2_push_44 : decode cX2_push 44 = .ok (.getfield 11, 3) := tX2_push_ok (44, .getfield 11, 3) (List.mem_of_getElem? (i := 27) rfl)
theorem dX2_push_47 : decode cX2_push 47 = .ok (.iload_n 1, 1) := tX2_push_ok (47, .iload_n 1, 1) (List.mem_of_getElem? (i := 28) rfl)
theorem dX2_push_48 : decode cX2_push 48 = .ok (.bipush 60, 2) := tX2_push_ok (48, .bipush 60, 2) (List.mem_of_getElem? (i := 29) rfl)
theorem dX2_push_50 : decode cX2_push 50 = .ok (.iadd, 1) := tX2_push_ok (50, .iadd, 1) (List.mem_of_getElem? (i := 30) rfl)
theorem dX2_push_51 : decode cX2_push 51 = .ok (.laload, 1) := tX2_push_ok (51, .laload, 1) (List.mem_of_getElem? (i := 31) rfl)
theorem dX2_push_52 : decode cX2_push 52 = .ok (.invokestatic 57, 3) := tX2_push_ok (52, .invokestatic 57, 3) (List.mem_of_getElem? (i := 32) rfl)
theorem dX2_push_55 : decode cX2_push 55 = .ok (.lastore, 1) := tX2_push_ok (55, .lastore, 1) (List.mem_of_getElem? (i := 33) rfl)
theorem dX2_push_56 : decode cX2_push 56 = .ok (.return_, 1) := tX2_push_ok (56, .return_, 1) (List.mem_of_getElem? (i := 34) rfl)

def tX2_added : List (Nat × Instr × Nat) := [
  (0, .lload_n 0, 1),
  (1, .ldc2_w 61, 3),
  (4, .lload_n 2, 1),
  (5, .lsub, 1),
  (6, .lcmp, 1),
  (7, .ifCond .lt 9, 3),
  (10, .ldc2_w 61, 3),
  (13, .goto 6, 3),
  (16, .lload_n 0, 1),
  (17, .lload_n 2, 1),
  (18, .ladd, 1),
  (19, .lreturn, 1)]
set_option maxRecDepth 100000 in
theorem tX2_added_ok : ∀ q ∈ tX2_added, decode cX2_added q.1 = .ok q.2 := by decide +kernel
theorem dX2_added_0 : decode cX2_added 0 = .ok (.lload_n 0, 1) := tX2_added_ok (0, .lload_n 0, 1) (List.mem_of_getElem? (i := 0) rfl)
theorem dX2_added_1 : decode cX2_added 1 = .ok (.ldc2_w 61, 3) := tX2_added_ok (1, .ldc2_w 61, 3) (List.mem_of_getElem? (i := 1) rfl)
theorem dX2_added_4 : decode cX2_added 4 = .ok (.lload_n 2, 1) := tX2_added_ok (4, .lload_n 2, 1) (List.mem_of_getElem? (i := 2) rfl)
theorem dX2_added_5 : decode cX2_added 5 = .ok (.lsub, 1) := tX2_added_ok (5, .lsub, 1) (List.mem_of_getElem? (i := 3) rfl)
theorem dX2_added_6 : decode cX2_added 6 = .ok (.lcmp, 1) := tX2_added_ok (6, .lcmp, 1) (List.mem_of_getElem? (i := 4) rfl)
theorem dX2_added_7 : decode cX2_added 7 = .ok (.ifCond .lt 9, 3) := tX2_added_ok (7, .ifCond .lt 9, 3) (List.mem_of_getElem? (i := 5) rfl)
theorem dX2_added_10 : decode cX2_added 10 = .ok (.ldc2_w 61, 3) := tX2_added_ok (10, .ldc2_w 61, 3) (List.mem_of_getElem? (i := 6) rfl)
theorem dX2_added_13 : decode cX2_added 13 = .ok (.goto 6, 3) := tX2_added_ok (13, .goto 6, 3) (List.mem_of_getElem? (i := 7) rfl)
theorem dX2_added_16 : decode cX2_added 16 = .ok (.lload_n 0, 1) := tX2_added_ok (16, .lload_n 0, 1) (List.mem_of_getElem? (i := 8) rfl)
theorem dX2_added_17 : decode cX2_added 17 = .ok (.lload_n 2, 1) := tX2_added_ok (17, .lload_n 2, 1) (List.mem_of_getElem? (i := 9) rfl)
theorem dX2_added_18 : decode cX2_added 18 = .ok (.ladd, 1) := tX2_added_ok (18, .ladd, 1) (List.mem_of_getElem? (i := 10) rfl)
theorem dX2_added_19 : decode cX2_added 19 = .ok (.lreturn, 1) := tX2_added_ok (19, .lreturn, 1) (List.mem_of_getElem? (i := 11) rfl)

def tX2_swapRows : List (Nat × Instr × Nat) := [
  (0, .aload_n 0, 1),
  (1, .getfield 11, 3),
  (4, .astore_n 1, 1),
  (5, .aload_n 0, 1),
  (6, .aload_n 0, 1),
  (7, .getfield 15, 3),
  (10, .putfield 11, 3),
  (13, .aload_n 0, 1),
  (14, .aload_n 1, 1),
  (15, .putfield 15, 3),
  (18, .iconst 0, 1),
  (19, .istore_n 2, 1),
  (20, .iload_n 2, 1),
  (21, .bipush 121, 2),
  (23, .if_icmp .ge 16, 3),
  (26, .aload_n 0, 1),
  (27, .getfield 15, 3),
  (30, .iload_n 2, 1),
  (31, .lconst 0, 1),
  (32, .lastore, 1),
  (33, .iinc 2 1, 3),
  (36, .goto (-16), 3),
  (39, .return_, 1)]
set_option maxRecDepth 100000 in
theorem tX2_swapRows_ok : ∀ q ∈ tX2_swapRows, decode cX2_swapRows q.1 = .ok q.2 := by decide +kernel
theorem dX2_swapRows_0 : decode cX2_swapRows 0 = .ok (.aload_n 0, 1) := tX2_swapRows_ok (0, .aload_n 0, 1) (List.mem_of_getElem? (i := 0) rfl)
theorem dX2_swapRows_1 : decode cX2_swapRows 1 = .ok (.getfield 11, 3) := tX2_swapRows_ok (1, .getfield 11, 3) (List.mem_of_getElem? (i := 1) rfl)
theorem dX2_swapRows_4 : decode cX2_swapRows 4 = .ok (.astore_n 1, 1) := tX2_swapRows_ok (4, .astore_n 1, 1) (List.mem_of_getElem? (i := 2) rfl)
theorem dX2_swapRows_5 : decode cX2_swapRows 5 = .ok (.aload_n 0, 1) := tX2_swapRows_ok (5, .aload_n 0, 1) (List.mem_of_getElem? (i := 3) rfl)
theorem dX2_swapRows_6 : decode cX2_swapRows 6 = .ok (.aload_n 0, 1) := tX2_swapRows_ok (6, .aload_n 0, 1) (List.mem_of_getElem? (i := 4) rfl)
theorem dX2_swapRows_7 : decode cX2_swapRows 7 = .ok (.getfield 15, 3) := tX2_swapRows_ok (7, .getfield 15, 3) (List.mem_of_getElem? (i := 5) rfl)
theorem dX2_swapRows_10 : decode cX2_swapRows 10 = .ok (.putfield 11, 3) := tX2_swapRows_ok (10, .putfield 11, 3) (List.mem_of_getElem? (i := 6) rfl)
theorem dX2_swapRows_13 : decode cX2_swapRows 13 = .ok (.aload_n 0, 1) := tX2_swapRows_ok (13, .aload_n 0, 1) (List.mem_of_getElem? (i := 7) rfl)
theorem dX2_swapRows_14 : decode cX2_swapRows 14 = .ok (.aload_n 1, 1) := tX2_swapRows_ok (14, .aload_n 1, 1) (List.mem_of_getElem? (i := 8) rfl)
theorem dX2_swapRows_15 : decode cX2_swapRows 15 = .ok (.putfield 15, 3) := tX2_swapRows_ok (15, .putfield 15, 3) (List.mem_of_getElem? (i := 9) rfl)
theorem dX2_swapRows_18 : decode cX2_swapRows 18 = .ok (.iconst 0, 1) := tX2_swapRows_ok (18, .iconst 0, 1) (List.mem_of_getElem? (i := 10) rfl)
theorem dX2_swapRows_19 : decode cX2_swapRows 19 = .ok (.istore_n 2, 1) := tX2_swapRows_ok (19, .istore_n 2, 1) (List.mem_of_getElem? (i := 11) rfl)
theorem dX2_swapRows_20 : decode cX2_swapRows 20 = .ok (.iload_n 2, 1) := tX2_swapRows_ok (20, .iload_n 2, 1) (List.mem_of_getElem? (i := 12) rfl)
theorem dX2_swapRows_21 : decode cX2_swapRows 21 = .ok (.bipush 121, 2) := tX2_swapRows_ok (21, .bipush 121, 2) (List.mem_of_getElem? (i := 13) rfl)
theorem dX2_swapRows_23 : decode cX2_swapRows 23 = .ok (.if_icmp .ge 16, 3) := tX2_swapRows_ok (23, .if_icmp .ge 16, 3) (List.mem_of_getElem? (i := 14) rfl)
theorem dX2_swapRows_26 : decode cX2_swapRows 26 = .ok (.aload_n 0, 1) := tX2_swapRows_ok (26, .aload_n 0, 1) (List.mem_of_getElem? (i := 15) rfl)
theorem dX2_swapRows_27 : decode cX2_swapRows 27 = .ok (.getfield 15, 3) := tX2_swapRows_ok (27, .getfield 15, 3) (List.mem_of_getElem? (i := 16) rfl)
theorem dX2_swapRows_30 : decode cX2_swapRows 30 = .ok (.iload_n 2, 1) := tX2_swapRows_ok (30, .iload_n 2, 1) (List.mem_of_getElem? (i := 17) rfl)
theorem dX2_swapRows_31 : decode cX2_swapRows 31 = .ok (.lconst 0, 1) := tX2_swapRows_ok (31, .lconst 0, 1) (List.mem_of_getElem? (i := 18) rfl)
theorem dX2_swapRows_32 : decode cX2_swapRows 32 = .ok (.lastore, 1) := tX2_swapRows_ok (32, .lastore, 1) (List.mem_of_getElem? (i := 19) rfl)
theorem dX2_swapRows_33 : decode cX2_swapRows 33 = .ok (.iinc 2 1, 3) := tX2_swapRows_ok (33, .iinc 2 1, 3) (List.mem_of_getElem? (i := 20) rfl)
theorem dX2_swapRows_36 : decode cX2_swapRows 36 = .ok (.goto (-16), 3) := tX2_swapRows_ok (36, .goto (-16), 3) (List.mem_of_getElem? (i := 21) rfl)
theorem dX2_swapRows_39 : decode cX2_swapRows 39 = .ok (.return_, 1) := tX2_swapRows_ok (39, .return_, 1) (List.mem_of_getElem? (i := 22) rfl)

def tX3_init : List (Nat × Instr × Nat) := [
  (0, .aload_n 0, 1),
  (1, .invokespecial 5, 3),
  (4, .aload_n 0, 1),
  (5, .bipush 64, 2),
  (7, .newarray .long, 2),
  (9, .putfield 11, 3),
  (12, .aload_n 0, 1),
  (13, .bipush 31, 2),
  (15, .newarray .long, 2),
  (17, .putfield 15, 3),
  (20, .aload_n 0, 1),
  (21, .bipush 31, 2),
  (23, .newarray .long, 2),
  (25, .putfield 18, 3),
  (28, .aload_n 0, 1),
  (29, .bipush 64, 2),
  (31, .newarray .long, 2),
  (33, .putfield 21, 3),
  (36, .aload_n 0, 1),
  (37, .bipush 64, 2),
  (39, .newarray .long, 2),
  (41, .putfield 24, 3),
  (44, .aload_n 0, 1),
  (45, .bipush 64, 2),
  (47, .newarray .long, 2),
  (49, .putfield 27, 3),
  (52, .aload_n 0, 1),
  (53, .bipush 64, 2),
  (55, .newarray .long, 2),
  (57, .putfield 30, 3),
  (60, .aload_n 0, 1),
  (61, .bipush 64, 2),
  (63, .newarray .long, 2),
  (65, .putfield 33, 3),
  (68, .aload_n 0, 1),
  (69, .bipush 64, 2),
  (71, .newarray .long, 2),
  (73, .putfield 36, 3),
  (76, .aload_n 0, 1),
  (77, .bipush 64, 2),
  (79, .newarray .int, 2),
  (81, .putfield 39, 3),
  (84, .return_, 1)]
set_option maxRecDepth 100000 in
theorem tX3_init_ok : ∀ q ∈ tX3_init, decode cX3_init q.1 = .ok q.2 := by decide +kernel
theorem dX3_init_0 : decode cX3_init 0 = .ok (.aload_n 0, 1) := tX3_init_ok (0, .aload_n 0, 1) (List.mem_of_getElem? (i := 0) rfl)
theorem dX3_init_1 : decode cX3_init 1 = .ok (.invokespecial 5, 3) := tX3_init_ok (1, .invokespecial 5, 3) (List.mem_of_getElem? (i := 1) rfl)
theorem dX3_init_4 : decode cX3_init 4 = .ok (.aload_n 0, 1) := tX3_init_ok (4, .aload_n 0, 1) (List.mem_of_getElem? (i := 2) rfl)
theorem dX3_init_5 : decode cX3_init 5 = .ok (.bipush 64, 2) := tX3_init_ok (5, .bipush 64, 2) (List.mem_of_getElem? (i := 3) rfl)
theorem dX3_init_7 : decode cX3_init 7 = .ok (.newarray .long, 2) := tX3_init_ok (7, .newarray .long, 2) (List.mem_of_getElem? (i := 4) rfl)
theorem dX3_init_9 : decode cX3_init 9 = .ok (.putfield 11, 3) := tX3_init_ok (9, .putfield 11, 3) (List.mem_of_getElem? (i := 5) rfl)
theorem dX3_init_12 : decode cX3_init 12 = .ok (.aload_n 0, 1) := tX3_init_ok (12, .aload_n 0, 1) (List.mem_of_getElem? (i := 6) rfl)
theorem dX3_init_13 : decode cX3_init 13 = .ok (.bipush 31, 2) := tX3_init_ok (13, .bipush 31, 2) (List.mem_of_getElem? (i := 7) rfl)
theorem dX3_init_15 : decode cX3_init 15 = .ok (.newarray .long, 2) := tX3_init_ok (15, .newarray .long, 2) (List.mem_of_getElem? (i := 8) rfl)
theorem dX3_init_17 : decode cX3_init 17 = .ok (.putfield 15, 3) := tX3_init_ok (17, .putfield 15, 3) (List.mem_of_getElem? (i := 9) rfl)
theorem dX3_init_20 : decode cX3_init 20 = .ok (.aload_n 0, 1) := tX3_init_ok (20, .aload_n 0, 1) (List.mem_of_getElem? (i := 10) rfl)
theorem dX3_init_21 : decode cX3_init 21 = .ok (.bipush 31, 2) := tX3_init_ok (21, .bipush 31, 2) (List.mem_of_getElem? (i := 11) rfl)
theorem dX3_init_23 : decode cX3_init 23 = .ok (.newarray .long, 2) := tX3_init_ok (23, .newarray .long, 2) (List.mem_of_getElem? (i := 12) rfl)
theorem dX3_init_25 : decode cX3_init 25 = .ok (.putfield 18, 3) := tX3_init_ok (25, .putfield 18, 3) (List.mem_of_getElem? (i := 13) rfl)
theorem dX3_init_28 : decode cX3_init 28 = .ok (.aload_n 0, 1) := tX3_init_ok (28, .aload_n 0, 1) (List.mem_of_getElem? (i := 14) rfl)
theorem dX3_init_29 : decode cX3_init 29 = .ok (.bipush 64, 2) := tX3_init_ok (29, .bipush 64, 2) (List.mem_of_getElem? (i := 15) rfl)
theorem dX3_init_31 : decode cX3_init 31 = .ok (.newarray .long, 2) := tX3_init_ok (31, .newarray .long, 2) (List.mem_of_getElem? (i := 16) rfl)
theorem dX3_init_33 : decode cX3_init 33 = .ok (.putfield 21, 3) := tX3_init_ok (33, .putfield 21, 3) (List.mem_of_getElem? (i := 17) rfl)
theorem dX3_init_36 : decode cX3_init 36 = .ok (.aload_n 0, 1) := tX3_init_ok (36, .aload_n 0, 1) (List.mem_of_getElem? (i := 18) rfl)
theorem dX3_init_37 : decode cX3_init 37 = .ok (.bipush 64, 2) := tX3_init_ok (37, .bipush 64, 2) (List.mem_of_getElem? (i := 19) rfl)
theorem dX3_init_39 : decode cX3_init 39 = .ok (.newarray .long, 2) := tX3_init_ok (39, .newarray .long, 2) (List.mem_of_getElem? (i := 20) rfl)
theorem dX3_init_41 : decode cX3_init 41 = .ok (.putfield 24, 3) := tX3_init_ok (41, .putfield 24, 3) (List.mem_of_getElem? (i := 21) rfl)
theorem dX3_init_44 : decode cX3_init 44 = .ok (.aload_n 0, 1) := tX3_init_ok (44, .aload_n 0, 1) (List.mem_of_getElem? (i := 22) rfl)
theorem dX3_init_45 : decode cX3_init 45 = .ok (.bipush 64, 2) := tX3_init_ok (45, .bipush 64, 2) (List.mem_of_getElem? (i := 23) rfl)
theorem dX3_init_47 : decode cX3_init 47 = .ok (.newarray .long, 2) := tX3_init_ok (47, .newarray .long, 2) (List.mem_of_getElem? (i := 24) rfl)
theorem dX3_init_49 : decode cX3_init 49 = .ok (.putfield 27, 3) := tX3_init_ok (49, .putfield 27, 3) (List.mem_of_getElem? (i := 25) rfl)
theorem dX3_init_52 : decode cX3_init 52 = .ok (.aload_n 0, 1) := tX3_init_ok (52, .aload_n 0, 1) (List.mem_of_getElem? (i := 26) rfl)
theorem dX3_init_53 : decode cX3_init 53 = .ok (.bipush 64, 2) := tX3_init_ok (53, .bipush 64, 2) (List.mem_of_getElem? (i := 27) rfl)
theorem dX3_init_55 : decode cX3_init 55 = .ok (.newarray .long, 2) := tX3_init_ok (55, .newarray .long, 2) (List.mem_of_getElem? (i := 28) rfl)
theorem dX3_init_57 : decode cX3_init 57 = .ok (.putfield 30, 3) := tX3_init_ok (57, .putfield 30, 3) (List.mem_of_getElem? (i := 29) rfl)
theorem dX3_init_60 : decode cX3_init 60 = .ok (.aload_n 0, 1) := tX3_init_ok (60, .aload_n 0, 1) (List.mem_of_getElem? (i := 30) rfl)
theorem dX3_init_61 : decode cX3_init 61 = .ok (.bipush 64, 2) := tX3_init_ok (61, .bipush 64, 2) (List.mem_of_getElem? (i := 31) rfl)
theorem dX3_init_63 : decode cX3_init 63 = .ok (.newarray .long, 2) := tX3_init_ok (63, .newarray .long, 2) (List.mem_of_getElem? (i := 32) rfl)
theorem dX3_init_65 : decode cX3_init 65 = .ok (.putfield 33, 3) := tX3_init_ok (65, .putfield 33, 3) (List.mem_of_getElem? (i := 33) rfl)
theorem dX3_init_68 : decode cX3_init 68 = .ok (.aload_n 0, 1) := tX3_init_ok (68, .aload_n 0, 1) (List.mem_of_getElem? (i := 34) rfl)
theorem dX3_init_69 : decode cX3_init 69 = .ok (.bipush 64, 2) := tX3_init_ok (69, .bipush 64, 2) (List.mem_of_getElem? (i := 35) rfl)
theorem dX3_init_71 : decode cX3_init 71 = .ok (.newarray .long, 2) := tX3_init_ok (71, .newarray .long, 2) (List.mem_of_getElem? (i := 36) rfl)
theorem dX3_init_73 : decode cX3_init 73 = .ok (.putfield 36, 3) := tX3_init_ok (73, .putfield 36, 3) (List.mem_of_getElem? (i := 37) rfl)
theorem dX3_init_76 : decode cX3_init 76 = .ok (.aload_n 0, 1) := tX3_init_ok (76, .aload_n 0, 1) (List.mem_of_getElem? (i := 38) rfl)
theorem dX3_init_77 : decode cX3_init 77 = .ok (.bipush 64, 2) := tX3_init_ok (77, .bipush 64, 2) (List.mem_of_getElem? (i := 39) rfl)
theorem dX3_init_79 : decode cX3_init 79 = .ok (.newarray .int, 2) := tX3_init_ok (79, .newarray .int, 2) (List.mem_of_getElem? (i := 40) rfl)
theorem dX3_init_81 : decode cX3_init 81 = .ok (.putfield 39, 3) := tX3_init_ok (81, .putfield 39, 3) (List.mem_of_getElem? (i := 41) rfl)
theorem dX3_init_84 : decode cX3_init 84 = .ok (.return_, 1) := tX3_init_ok (84, .return_, 1) (List.mem_of_getElem? (i := 42) rfl)

def tX3_after : List (Nat × Instr × Nat) := [
  (0, .aload_n 0, 1),
  (1, .aload_n 1, 1),
  (2, .invokevirtual 43, 3),
  (5, .lload_n 2, 1),
  (6, .ldc2_w 47, 3),
  (9, .lcmp, 1),
  (10, .ifCond .ge 12, 3),
  (13, .aload_n 0, 1),
  (14, .getfield 11, 3),
  (17, .lload_n 2, 1),
  (18, .l2i, 1),
  (19, .laload, 1),
  (20, .l2i, 1),
  (21, .ireturn, 1),
  (22, .aload_n 0, 1),
  (23, .lload_n 2, 1),
  (24, .invokevirtual 49, 3),
  (27, .l2i, 1),
  (28, .ireturn, 1)]
set_option maxRecDepth 100000 in
theorem tX3_after_ok : ∀ q ∈ tX3_after, decode cX3_after q.1 = .ok q.2 := by decide +kernel
theorem dX3_after_0 : decode cX3_after 0 = .ok (.aload_n 0, 1) := tX3_after_ok (0, .aload_n 0, 1) (List.mem_of_getElem? (i := 0) rfl)
theorem dX3_after_1 : decode cX3_after 1 = .ok (.aload_n 1, 1) := tX3_after_ok (1, .aload_n 1, 1) (List.mem_of_getElem? (i := 1) rfl)
theorem dX3_after_2 : decode cX3_after 2 = .ok (.invokevirtual 43, 3) := tX3_after_ok (2, .invokevirtual 43, 3) (List.mem_of_getElem? (i := 2) rfl)
theorem dX3_after_5 : decode cX3_after 5 = .ok (.lload_n 2, 1) := tX3_after_ok (5, .lload_n 2, 1) (List.mem_of_getElem? (i := 3) rfl)
theorem dX3_after_6 : decode cX3_after 6 = .ok (.ldc2_w 47, 3) := tX3_after_ok (6, .ldc2_w 47, 3) (List.mem_of_getElem? (i := 4) rfl)
theorem dX3_after_9 : decode cX3_after 9 = .ok (.lcmp, 1) := tX3_after_ok (9, .lcmp, 1) (List.mem_of_getElem? (i := 5) rfl)
theorem dX3_after_10 : decode cX3_after 10 = .ok (.ifCond .ge 12, 3) := tX3_after_ok (10, .ifCond .ge 12, 3) (List.mem_of_getElem? (i := 6) rfl)
theorem dX3_after_13 : decode cX3_after 13 = .ok (.aload_n 0, 1) := tX3_after_ok (13, .aload_n 0, 1) (List.mem_of_getElem? (i := 7) rfl)
theorem dX3_after_14 : decode cX3_after 14 = .ok (.getfield 11, 3) := tX3_after_ok (14, .getfield 11, 3) (List.mem_of_getElem? (i := 8) rfl)
theorem dX3_after_17 : decode cX3_after 17 = .ok (.lload_n 2, 1) := tX3_after_ok (17, .lload_n 2, 1) (List.mem_of_getElem? (i := 9) rfl)
theorem dX3_after_18 : decode cX3_after 18 = .ok (.l2i, 1) := tX3_after_ok (18, .l2i, 1) (List.mem_of_getElem? (i := 10) rfl)
theorem dX3_after_19 : decode cX3_after 19 = .ok (.laload, 1) := tX3_after_ok (19, .laload, 1) (List.mem_of_getElem? (i := 11) rfl)
theorem dX3_after_20 : decode cX3_after 20 = .ok (.l2i, 1) := tX3_after_ok (20, .l2i, 1) (List.mem_of_getElem? (i := 12) rfl)
theorem dX3_after_21 : decode cX3_after 21 = .ok (.ireturn, 1) := tX3_after_ok (21, .ireturn, 1) (List.mem_of_getElem? (i := 13) rfl)
theorem dX3_after_22 : decode cX3_after 22 = .ok (.aload_n 0, 1) := tX3_after_ok (22, .aload_n 0, 1) (List.mem_of_getElem? (i := 14) rfl)
theorem dX3_after_23 : decode cX3_after 23 = .ok (.lload_n 2, 1) := tX3_after_ok (23, .lload_n 2, 1) (List.mem_of_getElem? (i := 15) rfl)
theorem dX3_after_24 : decode cX3_after 24 = .ok (.invokevirtual 49, 3) := tX3_after_ok (24, .invokevirtual 49, 3) (List.mem_of_getElem? (i := 16) rfl)
theorem dX3_after_27 : decode cX3_after 27 = .ok (.l2i, 1) := tX3_after_ok (27, .l2i, 1) (List.mem_of_getElem? (i := 17) rfl)
theorem dX3_after_28 : decode cX3_after 28 = .ok (.ireturn, 1) := tX3_after_ok (28, .ireturn, 1) (List.mem_of_getElem? (i := 18) rfl)

def tX3_keepRule : List (Nat × Instr × Nat) := [
  (0, .aload_n 0, 1),
  (1, .aload_n 1, 1),
  (2, .invokevirtual 43, 3),
  (5, .aload_n 0, 1),
  (6, .aload_n 0, 1),
  (7, .getfield 53, 3),
  (10, .putfield 57, 3),
  (13, .iconst 1, 1),
  (14, .istore_n 2, 1),
  (15, .iload_n 2, 1),
  (16, .aload_n 0, 1),
  (17, .getfield 53, 3),
  (20, .if_icmp .gt 28, 3),
  (23, .iload_n 2, 1),
  (24, .bipush 64, 2),
  (26, .if_icmp .ge 22, 3),
  (29, .aload_n 0, 1),
  (30, .getfield 39, 3),
  (33, .iload_n 2, 1),
  (34, .aload_n 0, 1),
  (35, .getfield 30, 3),
  (38, .iload_n 2, 1),
  (39, .laload, 1),
  (40, .l2i, 1),
  (41, .iastore, 1),
  (42, .iinc 2 1, 3),
  (45, .goto (-30), 3),
  (48, .aload_n 0, 1),
  (49, .getfield 57, 3),
  (52, .ireturn, 1)]
set_option maxRecDepth 100000 in
theorem tX3_keepRule_ok : ∀ q ∈ tX3_keepRule, decode cX3_keepRule q.1 = .ok q.2 := by decide +kernel
theorem dX3_keepRule_0 : decode cX3_keepRule 0 = .ok (.aload_n 0, 1) := tX3_keepRule_ok (0, .aload_n 0, 1) (List.mem_of_getElem? (i := 0) rfl)
theorem dX3_keepRule_1 : decode cX3_keepRule 1 = .ok (.aload_n 1, 1) := tX3_keepRule_ok (1, .aload_n 1, 1) (List.mem_of_getElem? (i := 1) rfl)
theorem dX3_keepRule_2 : decode cX3_keepRule 2 = .ok (.invokevirtual 43, 3) := tX3_keepRule_ok (2, .invokevirtual 43, 3) (List.mem_of_getElem? (i := 2) rfl)
theorem dX3_keepRule_5 : decode cX3_keepRule 5 = .ok (.aload_n 0, 1) := tX3_keepRule_ok (5, .aload_n 0, 1) (List.mem_of_getElem? (i := 3) rfl)
theorem dX3_keepRule_6 : decode cX3_keepRule 6 = .ok (.aload_n 0, 1) := tX3_keepRule_ok (6, .aload_n 0, 1) (List.mem_of_getElem? (i := 4) rfl)
theorem dX3_keepRule_7 : decode cX3_keepRule 7 = .ok (.getfield 53, 3) := tX3_keepRule_ok (7, .getfield 53, 3) (List.mem_of_getElem? (i := 5) rfl)
theorem dX3_keepRule_10 : decode cX3_keepRule 10 = .ok (.putfield 57, 3) := tX3_keepRule_ok (10, .putfield 57, 3) (List.mem_of_getElem? (i := 6) rfl)
theorem dX3_keepRule_13 : decode cX3_keepRule 13 = .ok (.iconst 1, 1) := tX3_keepRule_ok (13, .iconst 1, 1) (List.mem_of_getElem? (i := 7) rfl)
theorem dX3_keepRule_14 : decode cX3_keepRule 14 = .ok (.istore_n 2, 1) := tX3_keepRule_ok (14, .istore_n 2, 1) (List.mem_of_getElem? (i := 8) rfl)
theorem dX3_keepRule_15 : decode cX3_keepRule 15 = .ok (.iload_n 2, 1) := tX3_keepRule_ok (15, .iload_n 2, 1) (List.mem_of_getElem? (i := 9) rfl)
theorem dX3_keepRule_16 : decode cX3_keepRule 16 = .ok (.aload_n 0, 1) := tX3_keepRule_ok (16, .aload_n 0, 1) (List.mem_of_getElem? (i := 10) rfl)
theorem dX3_keepRule_17 : decode cX3_keepRule 17 = .ok (.getfield 53, 3) := tX3_keepRule_ok (17, .getfield 53, 3) (List.mem_of_getElem? (i := 11) rfl)
theorem dX3_keepRule_20 : decode cX3_keepRule 20 = .ok (.if_icmp .gt 28, 3) := tX3_keepRule_ok (20, .if_icmp .gt 28, 3) (List.mem_of_getElem? (i := 12) rfl)
theorem dX3_keepRule_23 : decode cX3_keepRule 23 = .ok (.iload_n 2, 1) := tX3_keepRule_ok (23, .iload_n 2, 1) (List.mem_of_getElem? (i := 13) rfl)
theorem dX3_keepRule_24 : decode cX3_keepRule 24 = .ok (.bipush 64, 2) := tX3_keepRule_ok (24, .bipush 64, 2) (List.mem_of_getElem? (i := 14) rfl)
theorem dX3_keepRule_26 : decode cX3_keepRule 26 = .ok (.if_icmp .ge 22, 3) := tX3_keepRule_ok (26, .if_icmp .ge 22, 3) (List.mem_of_getElem? (i := 15) rfl)
theorem dX3_keepRule_29 : decode cX3_keepRule 29 = .ok (.aload_n 0, 1) := tX3_keepRule_ok (29, .aload_n 0, 1) (List.mem_of_getElem? (i := 16) rfl)
theorem dX3_keepRule_30 : decode cX3_keepRule 30 = .ok (.getfield 39, 3) := tX3_keepRule_ok (30, .getfield 39, 3) (List.mem_of_getElem? (i := 17) rfl)
theorem dX3_keepRule_33 : decode cX3_keepRule 33 = .ok (.iload_n 2, 1) := tX3_keepRule_ok (33, .iload_n 2, 1) (List.mem_of_getElem? (i := 18) rfl)
theorem dX3_keepRule_34 : decode cX3_keepRule 34 = .ok (.aload_n 0, 1) := tX3_keepRule_ok (34, .aload_n 0, 1) (List.mem_of_getElem? (i := 19) rfl)
theorem dX3_keepRule_35 : decode cX3_keepRule 35 = .ok (.getfield 30, 3) := tX3_keepRule_ok (35, .getfield 30, 3) (List.mem_of_getElem? (i := 20) rfl)
theorem dX3_keepRule_38 : decode cX3_keepRule 38 = .ok (.iload_n 2, 1) := tX3_keepRule_ok (38, .iload_n 2, 1) (List.mem_of_getElem? (i := 21) rfl)
theorem dX3_keepRule_39 : decode cX3_keepRule 39 = .ok (.laload, 1) := tX3_keepRule_ok (39, .laload, 1) (List.mem_of_getElem? (i := 22) rfl)
theorem dX3_keepRule_40 : decode cX3_keepRule 40 = .ok (.l2i, 1) := tX3_keepRule_ok (40, .l2i, 1) (List.mem_of_getElem? (i := 23) rfl)
theorem dX3_keepRule_41 : decode cX3_keepRule 41 = .ok (.iastore, 1) := tX3_keepRule_ok (41, .iastore, 1) (List.mem_of_getElem? (i := 24) rfl)
theorem dX3_keepRule_42 : decode cX3_keepRule 42 = .ok (.iinc 2 1, 3) := tX3_keepRule_ok (42, .iinc 2 1, 3) (List.mem_of_getElem? (i := 25) rfl)
theorem dX3_keepRule_45 : decode cX3_keepRule 45 = .ok (.goto (-30), 3) := tX3_keepRule_ok (45, .goto (-30), 3) (List.mem_of_getElem? (i := 26) rfl)
theorem dX3_keepRule_48 : decode cX3_keepRule 48 = .ok (.aload_n 0, 1) := tX3_keepRule_ok (48, .aload_n 0, 1) (List.mem_of_getElem? (i := 27) rfl)
theorem dX3_keepRule_49 : decode cX3_keepRule 49 = .ok (.getfield 57, 3) := tX3_keepRule_ok (49, .getfield 57, 3) (List.mem_of_getElem? (i := 28) rfl)
theorem dX3_keepRule_52 : decode cX3_keepRule 52 = .ok (.ireturn, 1) := tX3_keepRule_ok (52, .ireturn, 1) (List.mem_of_getElem? (i := 29) rfl)

def tX3_keeps : List (Nat × Instr × Nat) := [
  (0, .iload_n 1, 1),
  (1, .iconst 1, 1),
  (2, .if_icmp .lt 21, 3),
  (5, .iload_n 1, 1),
  (6, .aload_n 0, 1),
  (7, .getfield 57, 3),
  (10, .if_icmp .gt 13, 3),
  (13, .iload_n 1, 1),
  (14, .bipush 64, 2),
  (16, .if_icmp .ge 7, 3),
  (19, .iconst 1, 1),
  (20, .goto 4, 3),
  (23, .iconst 0, 1),
  (24, .ireturn, 1)]
set_option maxRecDepth 100000 in
theorem tX3_keeps_ok : ∀ q ∈ tX3_keeps, decode cX3_keeps q.1 = .ok q.2 := by decide +kernel
theorem dX3_keeps_0 : decode cX3_keeps 0 = .ok (.iload_n 1, 1) := tX3_keeps_ok (0, .iload_n 1, 1) (List.mem_of_getElem? (i := 0) rfl)
theorem dX3_keeps_1 : decode cX3_keeps 1 = .ok (.iconst 1, 1) := tX3_keeps_ok (1, .iconst 1, 1) (List.mem_of_getElem? (i := 1) rfl)
theorem dX3_keeps_2 : decode cX3_keeps 2 = .ok (.if_icmp .lt 21, 3) := tX3_keeps_ok (2, .if_icmp .lt 21, 3) (List.mem_of_getElem? (i := 2) rfl)
theorem dX3_keeps_5 : decode cX3_keeps 5 = .ok (.iload_n 1, 1) := tX3_keeps_ok (5, .iload_n 1, 1) (List.mem_of_getElem? (i := 3) rfl)
theorem dX3_keeps_6 : decode cX3_keeps 6 = .ok (.aload_n 0, 1) := tX3_keeps_ok (6, .aload_n 0, 1) (List.mem_of_getElem? (i := 4) rfl)
theorem dX3_keeps_7 : decode cX3_keeps 7 = .ok (.getfield 57, 3) := tX3_keeps_ok (7, .getfield 57, 3) (List.mem_of_getElem? (i := 5) rfl)
theorem dX3_keeps_10 : decode cX3_keeps 10 = .ok (.if_icmp .gt 13, 3) := tX3_keeps_ok (10, .if_icmp .gt 13, 3) (List.mem_of_getElem? (i := 6) rfl)
theorem dX3_keeps_13 : decode cX3_keeps 13 = .ok (.iload_n 1, 1) := tX3_keeps_ok (13, .iload_n 1, 1) (List.mem_of_getElem? (i := 7) rfl)
theorem dX3_keeps_14 : decode cX3_keeps 14 = .ok (.bipush 64, 2) := tX3_keeps_ok (14, .bipush 64, 2) (List.mem_of_getElem? (i := 8) rfl)
theorem dX3_keeps_16 : decode cX3_keeps 16 = .ok (.if_icmp .ge 7, 3) := tX3_keeps_ok (16, .if_icmp .ge 7, 3) (List.mem_of_getElem? (i := 9) rfl)
theorem dX3_keeps_19 : decode cX3_keeps 19 = .ok (.iconst 1, 1) := tX3_keeps_ok (19, .iconst 1, 1) (List.mem_of_getElem? (i := 10) rfl)
theorem dX3_keeps_20 : decode cX3_keeps 20 = .ok (.goto 4, 3) := tX3_keeps_ok (20, .goto 4, 3) (List.mem_of_getElem? (i := 11) rfl)
theorem dX3_keeps_23 : decode cX3_keeps 23 = .ok (.iconst 0, 1) := tX3_keeps_ok (23, .iconst 0, 1) (List.mem_of_getElem? (i := 12) rfl)
theorem dX3_keeps_24 : decode cX3_keeps 24 = .ok (.ireturn, 1) := tX3_keeps_ok (24, .ireturn, 1) (List.mem_of_getElem? (i := 13) rfl)

def tX3_kept : List (Nat × Instr × Nat) := [
  (0, .aload_n 0, 1),
  (1, .iload_n 1, 1),
  (2, .invokevirtual 60, 3),
  (5, .ifCond .eq 12, 3),
  (8, .aload_n 0, 1),
  (9, .getfield 39, 3),
  (12, .iload_n 1, 1),
  (13, .iaload, 1),
  (14, .goto 4, 3),
  (17, .iconst (-1), 1),
  (18, .ireturn, 1)]
set_option maxRecDepth 100000 in
theorem tX3_kept_ok : ∀ q ∈ tX3_kept, decode cX3_kept q.1 = .ok q.2 := by decide +kernel
theorem dX3_kept_0 : decode cX3_kept 0 = .ok (.aload_n 0, 1) := tX3_kept_ok (0, .aload_n 0, 1) (List.mem_of_getElem? (i := 0) rfl)
theorem dX3_kept_1 : decode cX3_kept 1 = .ok (.iload_n 1, 1) := tX3_kept_ok (1, .iload_n 1, 1) (List.mem_of_getElem? (i := 1) rfl)
theorem dX3_kept_2 : decode cX3_kept 2 = .ok (.invokevirtual 60, 3) := tX3_kept_ok (2, .invokevirtual 60, 3) (List.mem_of_getElem? (i := 2) rfl)
theorem dX3_kept_5 : decode cX3_kept 5 = .ok (.ifCond .eq 12, 3) := tX3_kept_ok (5, .ifCond .eq 12, 3) (List.mem_of_getElem? (i := 3) rfl)
theorem dX3_kept_8 : decode cX3_kept 8 = .ok (.aload_n 0, 1) := tX3_kept_ok (8, .aload_n 0, 1) (List.mem_of_getElem? (i := 4) rfl)
theorem dX3_kept_9 : decode cX3_kept 9 = .ok (.getfield 39, 3) := tX3_kept_ok (9, .getfield 39, 3) (List.mem_of_getElem? (i := 5) rfl)
theorem dX3_kept_12 : decode cX3_kept 12 = .ok (.iload_n 1, 1) := tX3_kept_ok (12, .iload_n 1, 1) (List.mem_of_getElem? (i := 6) rfl)
theorem dX3_kept_13 : decode cX3_kept 13 = .ok (.iaload, 1) := tX3_kept_ok (13, .iaload, 1) (List.mem_of_getElem? (i := 7) rfl)
theorem dX3_kept_14 : decode cX3_kept 14 = .ok (.goto 4, 3) := tX3_kept_ok (14, .goto 4, 3) (List.mem_of_getElem? (i := 8) rfl)
theorem dX3_kept_17 : decode cX3_kept 17 = .ok (.iconst (-1), 1) := tX3_kept_ok (17, .iconst (-1), 1) (List.mem_of_getElem? (i := 9) rfl)
theorem dX3_kept_18 : decode cX3_kept 18 = .ok (.ireturn, 1) := tX3_kept_ok (18, .ireturn, 1) (List.mem_of_getElem? (i := 10) rfl)

def tX3_findTerms : List (Nat × Instr × Nat) := [
  (0, .iconst 0, 1),
  (1, .istore_n 2, 1),
  (2, .iload_n 2, 1),
  (3, .bipush 31, 2),
  (5, .if_icmp .ge 28, 3),
  (8, .aload_n 0, 1),
  (9, .getfield 15, 3),
  (12, .iload_n 2, 1),
  (13, .iload_n 2, 1),
  (14, .aload_n 1, 1),
  (15, .getfield 64, 3),
  (18, .if_icmp .ne 7, 3),
  (21, .lconst 1, 1),
  (22, .goto 4, 3),
  (25, .lconst 0, 1),
  (26, .lastore, 1),
  (27, .iinc 2 1, 3),
  (30, .goto (-28), 3),
  (33, .iconst 0, 1),
  (34, .istore_n 2, 1),
  (35, .iload_n 2, 1),
  (36, .bipush 62, 2),
  (38, .if_icmp .ge 49, 3),
  (41, .aload_n 0, 1),
  (42, .getfield 11, 3),
  (45, .iload_n 2, 1),
  (46, .aload_n 1, 1),
  (47, .getfield 69, 3),
  (50, .ifCond .lt 24, 3),
  (53, .aload_n 1, 1),
  (54, .getfield 69, 3),
  (57, .bipush 31, 2),
  (59, .if_icmp .ge 15, 3),
  (62, .aload_n 0, 1),
  (63, .getfield 15, 3),
  (66, .aload_n 1, 1),
  (67, .getfield 69, 3),
  (70, .laload, 1),
  (71, .goto 4, 3),
  (74, .lconst 0, 1),
  (75, .lastore, 1),
  (76, .aload_n 0, 1),
  (77, .aload_n 1, 1),
  (78, .invokevirtual 72, 3),
  (81, .iinc 2 1, 3),
  (84, .goto (-49), 3),
  (87, .return_, 1)]
set_option maxRecDepth 100000 in
theorem tX3_findTerms_ok : ∀ q ∈ tX3_findTerms, decode cX3_findTerms q.1 = .ok q.2 := by decide +kernel
theorem dX3_findTerms_0 : decode cX3_findTerms 0 = .ok (.iconst 0, 1) := tX3_findTerms_ok (0, .iconst 0, 1) (List.mem_of_getElem? (i := 0) rfl)
theorem dX3_findTerms_1 : decode cX3_findTerms 1 = .ok (.istore_n 2, 1) := tX3_findTerms_ok (1, .istore_n 2, 1) (List.mem_of_getElem? (i := 1) rfl)
theorem dX3_findTerms_2 : decode cX3_findTerms 2 = .ok (.iload_n 2, 1) := tX3_findTerms_ok (2, .iload_n 2, 1) (List.mem_of_getElem? (i := 2) rfl)
theorem dX3_findTerms_3 : decode cX3_findTerms 3 = .ok (.bipush 31, 2) := tX3_findTerms_ok (3, .bipush 31, 2) (List.mem_of_getElem? (i := 3) rfl)
theorem dX3_findTerms_5 : decode cX3_findTerms 5 = .ok (.if_icmp .ge 28, 3) := tX3_findTerms_ok (5, .if_icmp .ge 28, 3) (List.mem_of_getElem? (i := 4) rfl)
theorem dX3_findTerms_8 : decode cX3_findTerms 8 = .ok (.aload_n 0, 1) := tX3_findTerms_ok (8, .aload_n 0, 1) (List.mem_of_getElem? (i := 5) rfl)
theorem dX3_findTerms_9 : decode cX3_findTerms 9 = .ok (.getfield 15, 3) := tX3_findTerms_ok (9, .getfield 15, 3) (List.mem_of_getElem? (i := 6) rfl)
theorem dX3_findTerms_12 : decode cX3_findTerms 12 = .ok (.iload_n 2, 1) := tX3_findTerms_ok (12, .iload_n 2, 1) (List.mem_of_getElem? (i := 7) rfl)
theorem dX3_findTerms_13 : decode cX3_findTerms 13 = .ok (.iload_n 2, 1) := tX3_findTerms_ok (13, .iload_n 2, 1) (List.mem_of_getElem? (i := 8) rfl)
theorem dX3_findTerms_14 : decode cX3_findTerms 14 = .ok (.aload_n 1, 1) := tX3_findTerms_ok (14, .aload_n 1, 1) (List.mem_of_getElem? (i := 9) rfl)
theorem dX3_findTerms_15 : decode cX3_findTerms 15 = .ok (.getfield 64, 3) := tX3_findTerms_ok (15, .getfield 64, 3) (List.mem_of_getElem? (i := 10) rfl)
theorem dX3_findTerms_18 : decode cX3_findTerms 18 = .ok (.if_icmp .ne 7, 3) := tX3_findTerms_ok (18, .if_icmp .ne 7, 3) (List.mem_of_getElem? (i := 11) rfl)
theorem dX3_findTerms_21 : decode cX3_findTerms 21 = .ok (.lconst 1, 1) := tX3_findTerms_ok (21, .lconst 1, 1) (List.mem_of_getElem? (i := 12) rfl)
theorem dX3_findTerms_22 : decode cX3_findTerms 22 = .ok (.goto 4, 3) := tX3_findTerms_ok (22, .goto 4, 3) (List.mem_of_getElem? (i := 13) rfl)
theorem dX3_findTerms_25 : decode cX3_findTerms 25 = .ok (.lconst 0, 1) := tX3_findTerms_ok (25, .lconst 0, 1) (List.mem_of_getElem? (i := 14) rfl)
theorem dX3_findTerms_26 : decode cX3_findTerms 26 = .ok (.lastore, 1) := tX3_findTerms_ok (26, .lastore, 1) (List.mem_of_getElem? (i := 15) rfl)
theorem dX3_findTerms_27 : decode cX3_findTerms 27 = .ok (.iinc 2 1, 3) := tX3_findTerms_ok (27, .iinc 2 1, 3) (List.mem_of_getElem? (i := 16) rfl)
theorem dX3_findTerms_30 : decode cX3_findTerms 30 = .ok (.goto (-28), 3) := tX3_findTerms_ok (30, .goto (-28), 3) (List.mem_of_getElem? (i := 17) rfl)
theorem dX3_findTerms_33 : decode cX3_findTerms 33 = .ok (.iconst 0, 1) := tX3_findTerms_ok (33, .iconst 0, 1) (List.mem_of_getElem? (i := 18) rfl)
theorem dX3_findTerms_34 : decode cX3_findTerms 34 = .ok (.istore_n 2, 1) := tX3_findTerms_ok (34, .istore_n 2, 1) (List.mem_of_getElem? (i := 19) rfl)
theorem dX3_findTerms_35 : decode cX3_findTerms 35 = .ok (.iload_n 2, 1) := tX3_findTerms_ok (35, .iload_n 2, 1) (List.mem_of_getElem? (i := 20) rfl)
theorem dX3_findTerms_36 : decode cX3_findTerms 36 = .ok (.bipush 62, 2) := tX3_findTerms_ok (36, .bipush 62, 2) (List.mem_of_getElem? (i := 21) rfl)
theorem dX3_findTerms_38 : decode cX3_findTerms 38 = .ok (.if_icmp .ge 49, 3) := tX3_findTerms_ok (38, .if_icmp .ge 49, 3) (List.mem_of_getElem? (i := 22) rfl)
theorem dX3_findTerms_41 : decode cX3_findTerms 41 = .ok (.aload_n 0, 1) := tX3_findTerms_ok (41, .aload_n 0, 1) (List.mem_of_getElem? (i := 23) rfl)
theorem dX3_findTerms_42 : decode cX3_findTerms 42 = .ok (.getfield 11, 3) := tX3_findTerms_ok (42, .getfield 11, 3) (List.mem_of_getElem? (i := 24) rfl)
theorem dX3_findTerms_45 : decode cX3_findTerms 45 = .ok (.iload_n 2, 1) := tX3_findTerms_ok (45, .iload_n 2, 1) (List.mem_of_getElem? (i := 25) rfl)
theorem dX3_findTerms_46 : decode cX3_findTerms 46 = .ok (.aload_n 1, 1) := tX3_findTerms_ok (46, .aload_n 1, 1) (List.mem_of_getElem? (i := 26) rfl)
theorem dX3_findTerms_47 : decode cX3_findTerms 47 = .ok (.getfield 69, 3) := tX3_findTerms_ok (47, .getfield 69, 3) (List.mem_of_getElem? (i := 27) rfl)
theorem dX3_findTerms_50 : decode cX3_findTerms 50 = .ok (.ifCond .lt 24, 3) := tX3_findTerms_ok (50, .ifCond .lt 24, 3) (List.mem_of_getElem? (i := 28) rfl)
theorem dX3_findTerms_53 : decode cX3_findTerms 53 = .ok (.aload_n 1, 1) := tX3_findTerms_ok (53, .aload_n 1, 1) (List.mem_of_getElem? (i := 29) rfl)
theorem dX3_findTerms_54 : decode cX3_findTerms 54 = .ok (.getfield 69, 3) := tX3_findTerms_ok (54, .getfield 69, 3) (List.mem_of_getElem? (i := 30) rfl)
theorem dX3_findTerms_57 : decode cX3_findTerms 57 = .ok (.bipush 31, 2) := tX3_findTerms_ok (57, .bipush 31, 2) (List.mem_of_getElem? (i := 31) rfl)
theorem dX3_findTerms_59 : decode cX3_findTerms 59 = .ok (.if_icmp .ge 15, 3) := tX3_findTerms_ok (59, .if_icmp .ge 15, 3) (List.mem_of_getElem? (i := 32) rfl)
theorem dX3_findTerms_62 : decode cX3_findTerms 62 = .ok (.aload_n 0, 1) := tX3_findTerms_ok (62, .aload_n 0, 1) (List.mem_of_getElem? (i := 33) rfl)
theorem dX3_findTerms_63 : decode cX3_findTerms 63 = .ok (.getfield 15, 3) := tX3_findTerms_ok (63, .getfield 15, 3) (List.mem_of_getElem? (i := 34) rfl)
theorem dX3_findTerms_66 : decode cX3_findTerms 66 = .ok (.aload_n 1, 1) := tX3_findTerms_ok (66, .aload_n 1, 1) (List.mem_of_getElem? (i := 35) rfl)
theorem dX3_findTerms_67 : decode cX3_findTerms 67 = .ok (.getfield 69, 3) := tX3_findTerms_ok (67, .getfield 69, 3) (List.mem_of_getElem? (i := 36) rfl)
theorem dX3_findTerms_70 : decode cX3_findTerms 70 = .ok (.laload, 1) := tX3_findTerms_ok (70, .laload, 1) (List.mem_of_getElem? (i := 37) rfl)
theorem dX3_findTerms_71 : decode cX3_findTerms 71 = .ok (.goto 4, 3) := tX3_findTerms_ok (71, .goto 4, 3) (List.mem_of_getElem? (i := 38) rfl)
theorem dX3_findTerms_74 : decode cX3_findTerms 74 = .ok (.lconst 0, 1) := tX3_findTerms_ok (74, .lconst 0, 1) (List.mem_of_getElem? (i := 39) rfl)
theorem dX3_findTerms_75 : decode cX3_findTerms 75 = .ok (.lastore, 1) := tX3_findTerms_ok (75, .lastore, 1) (List.mem_of_getElem? (i := 40) rfl)
theorem dX3_findTerms_76 : decode cX3_findTerms 76 = .ok (.aload_n 0, 1) := tX3_findTerms_ok (76, .aload_n 0, 1) (List.mem_of_getElem? (i := 41) rfl)
theorem dX3_findTerms_77 : decode cX3_findTerms 77 = .ok (.aload_n 1, 1) := tX3_findTerms_ok (77, .aload_n 1, 1) (List.mem_of_getElem? (i := 42) rfl)
theorem dX3_findTerms_78 : decode cX3_findTerms 78 = .ok (.invokevirtual 72, 3) := tX3_findTerms_ok (78, .invokevirtual 72, 3) (List.mem_of_getElem? (i := 43) rfl)
theorem dX3_findTerms_81 : decode cX3_findTerms 81 = .ok (.iinc 2 1, 3) := tX3_findTerms_ok (81, .iinc 2 1, 3) (List.mem_of_getElem? (i := 44) rfl)
theorem dX3_findTerms_84 : decode cX3_findTerms 84 = .ok (.goto (-49), 3) := tX3_findTerms_ok (84, .goto (-49), 3) (List.mem_of_getElem? (i := 45) rfl)
theorem dX3_findTerms_87 : decode cX3_findTerms 87 = .ok (.return_, 1) := tX3_findTerms_ok (87, .return_, 1) (List.mem_of_getElem? (i := 46) rfl)

def tX3_climb : List (Nat × Instr × Nat) := [
  (0, .iconst 0, 1),
  (1, .istore_n 2, 1),
  (2, .iload_n 2, 1),
  (3, .bipush 31, 2),
  (5, .if_icmp .ge 16, 3),
  (8, .aload_n 0, 1),
  (9, .getfield 18, 3),
  (12, .iload_n 2, 1),
  (13, .lconst 0, 1),
  (14, .lastore, 1),
  (15, .iinc 2 1, 3),
  (18, .goto (-16), 3),
  (21, .iconst 0, 1),
  (22, .istore_n 2, 1),
  (23, .iload_n 2, 1),
  (24, .aload_n 1, 1),
  (25, .getfield 75, 3),
  (28, .if_icmp .gt 87, 3),
  (31, .iload_n 2, 1),
  (32, .bipush 31, 2),
  (34, .if_icmp .ge 81, 3),
  (37, .iconst 0, 1),
  (38, .istore_n 3, 1),
  (39, .iload_n 3, 1),
  (40, .aload_n 1, 1),
  (41, .getfield 78, 3),
  (44, .if_icmp .ge 65, 3),
  (47, .iload_n 2, 1),
  (48, .aload_n 1, 1),
  (49, .getfield 81, 3),
  (52, .iload_n 3, 1),
  (53, .iaload, 1),
  (54, .iadd, 1),
  (55, .istore 4, 2),
  (57, .iload 4, 2),
  (59, .ifCond .lt 44, 3),
  (62, .iload 4, 2),
  (64, .aload_n 1, 1),
  (65, .getfield 75, 3),
  (68, .if_icmp .gt 35, 3),
  (71, .iload 4, 2),
  (73, .bipush 31, 2),
  (75, .if_icmp .ge 28, 3),
  (78, .aload_n 0, 1),
  (79, .getfield 18, 3),
  (82, .iload 4, 2),
  (84, .aload_n 0, 1),
  (85, .getfield 18, 3),
  (88, .iload 4, 2),
  (90, .laload, 1),
  (91, .aload_n 0, 1),
  (92, .getfield 15, 3),
  (95, .iload_n 2, 1),
  (96, .laload, 1),
  (97, .ladd, 1),
  (98, .ldc2_w 84, 3),
  (101, .lrem, 1),
  (102, .lastore, 1),
  (103, .iinc 3 1, 3),
  (106, .goto (-67), 3),
  (109, .iinc 2 1, 3),
  (112, .goto (-89), 3),
  (115, .aload_n 0, 1),
  (116, .getfield 15, 3),
  (119, .astore_n 2, 1),
  (120, .aload_n 0, 1),
  (121, .aload_n 0, 1),
  (122, .getfield 18, 3),
  (125, .putfield 15, 3),
  (128, .aload_n 0, 1),
  (129, .aload_n 2, 1),
  (130, .putfield 18, 3),
  (133, .return_, 1)]
set_option maxRecDepth 100000 in
theorem tX3_climb_ok : ∀ q ∈ tX3_climb, decode cX3_climb q.1 = .ok q.2 := by decide +kernel
theorem dX3_climb_0 : decode cX3_climb 0 = .ok (.iconst 0, 1) := tX3_climb_ok (0, .iconst 0, 1) (List.mem_of_getElem? (i := 0) rfl)
theorem dX3_climb_1 : decode cX3_climb 1 = .ok (.istore_n 2, 1) := tX3_climb_ok (1, .istore_n 2, 1) (List.mem_of_getElem? (i := 1) rfl)
theorem dX3_climb_2 : decode cX3_climb 2 = .ok (.iload_n 2, 1) := tX3_climb_ok (2, .iload_n 2, 1) (List.mem_of_getElem? (i := 2) rfl)
theorem dX3_climb_3 : decode cX3_climb 3 = .ok (.bipush 31, 2) := tX3_climb_ok (3, .bipush 31, 2) (List.mem_of_getElem? (i := 3) rfl)
theorem dX3_climb_5 : decode cX3_climb 5 = .ok (.if_icmp .ge 16, 3) := tX3_climb_ok (5, .if_icmp .ge 16, 3) (List.mem_of_getElem? (i := 4) rfl)
theorem dX3_climb_8 : decode cX3_climb 8 = .ok (.aload_n 0, 1) := tX3_climb_ok (8, .aload_n 0, 1) (List.mem_of_getElem? (i := 5) rfl)
theorem dX3_climb_9 : decode cX3_climb 9 = .ok (.getfield 18, 3) := tX3_climb_ok (9, .getfield 18, 3) (List.mem_of_getElem? (i := 6) rfl)
theorem dX3_climb_12 : decode cX3_climb 12 = .ok (.iload_n 2, 1) := tX3_climb_ok (12, .iload_n 2, 1) (List.mem_of_getElem? (i := 7) rfl)
theorem dX3_climb_13 : decode cX3_climb 13 = .ok (.lconst 0, 1) := tX3_climb_ok (13, .lconst 0, 1) (List.mem_of_getElem? (i := 8) rfl)
theorem dX3_climb_14 : decode cX3_climb 14 = .ok (.lastore, 1) := tX3_climb_ok (14, .lastore, 1) (List.mem_of_getElem? (i := 9) rfl)
theorem dX3_climb_15 : decode cX3_climb 15 = .ok (.iinc 2 1, 3) := tX3_climb_ok (15, .iinc 2 1, 3) (List.mem_of_getElem? (i := 10) rfl)
theorem dX3_climb_18 : decode cX3_climb 18 = .ok (.goto (-16), 3) := tX3_climb_ok (18, .goto (-16), 3) (List.mem_of_getElem? (i := 11) rfl)
theorem dX3_climb_21 : decode cX3_climb 21 = .ok (.iconst 0, 1) := tX3_climb_ok (21, .iconst 0, 1) (List.mem_of_getElem? (i := 12) rfl)
theorem dX3_climb_22 : decode cX3_climb 22 = .ok (.istore_n 2, 1) := tX3_climb_ok (22, .istore_n 2, 1) (List.mem_of_getElem? (i := 13) rfl)
theorem dX3_climb_23 : decode cX3_climb 23 = .ok (.iload_n 2, 1) := tX3_climb_ok (23, .iload_n 2, 1) (List.mem_of_getElem? (i := 14) rfl)
theorem dX3_climb_24 : decode cX3_climb 24 = .ok (.aload_n 1, 1) := tX3_climb_ok (24, .aload_n 1, 1) (List.mem_of_getElem? (i := 15) rfl)
theorem dX3_climb_25 : decode cX3_climb 25 = .ok (.getfield 75, 3) := tX3_climb_ok (25, .getfield 75, 3) (List.mem_of_getElem? (i := 16) rfl)
theorem dX3_climb_28 : decode cX3_climb 28 = .ok (.if_icmp .gt 87, 3) := tX3_climb_ok (28, .if_icmp .gt 87, 3) (List.mem_of_getElem? (i := 17) rfl)
theorem dX3_climb_31 : decode cX3_climb 31 = .ok (.iload_n 2, 1) := tX3_climb_ok (31, .iload_n 2, 1) (List.mem_of_getElem? (i := 18) rfl)
theorem dX3_climb_32 : decode cX3_climb 32 = .ok (.bipush 31, 2) := tX3_climb_ok (32, .bipush 31, 2) (List.mem_of_getElem? (i := 19) rfl)
theorem dX3_climb_34 : decode cX3_climb 34 = .ok (.if_icmp .ge 81, 3) := tX3_climb_ok (34, .if_icmp .ge 81, 3) (List.mem_of_getElem? (i := 20) rfl)
theorem dX3_climb_37 : decode cX3_climb 37 = .ok (.iconst 0, 1) := tX3_climb_ok (37, .iconst 0, 1) (List.mem_of_getElem? (i := 21) rfl)
theorem dX3_climb_38 : decode cX3_climb 38 = .ok (.istore_n 3, 1) := tX3_climb_ok (38, .istore_n 3, 1) (List.mem_of_getElem? (i := 22) rfl)
theorem dX3_climb_39 : decode cX3_climb 39 = .ok (.iload_n 3, 1) := tX3_climb_ok (39, .iload_n 3, 1) (List.mem_of_getElem? (i := 23) rfl)
theorem dX3_climb_40 : decode cX3_climb 40 = .ok (.aload_n 1, 1) := tX3_climb_ok (40, .aload_n 1, 1) (List.mem_of_getElem? (i := 24) rfl)
theorem dX3_climb_41 : decode cX3_climb 41 = .ok (.getfield 78, 3) := tX3_climb_ok (41, .getfield 78, 3) (List.mem_of_getElem? (i := 25) rfl)
theorem dX3_climb_44 : decode cX3_climb 44 = .ok (.if_icmp .ge 65, 3) := tX3_climb_ok (44, .if_icmp .ge 65, 3) (List.mem_of_getElem? (i := 26) rfl)
theorem dX3_climb_47 : decode cX3_climb 47 = .ok (.iload_n 2, 1) := tX3_climb_ok (47, .iload_n 2, 1) (List.mem_of_getElem? (i := 27) rfl)
theorem dX3_climb_48 : decode cX3_climb 48 = .ok (.aload_n 1, 1) := tX3_climb_ok (48, .aload_n 1, 1) (List.mem_of_getElem? (i := 28) rfl)
theorem dX3_climb_49 : decode cX3_climb 49 = .ok (.getfield 81, 3) := tX3_climb_ok (49, .getfield 81, 3) (List.mem_of_getElem? (i := 29) rfl)
theorem dX3_climb_52 : decode cX3_climb 52 = .ok (.iload_n 3, 1) := tX3_climb_ok (52, .iload_n 3, 1) (List.mem_of_getElem? (i := 30) rfl)
theorem dX3_climb_53 : decode cX3_climb 53 = .ok (.iaload, 1) := tX3_climb_ok (53, .iaload, 1) (List.mem_of_getElem? (i := 31) rfl)
theorem dX3_climb_54 : decode cX3_climb 54 = .ok (.iadd, 1) := tX3_climb_ok (54, .iadd, 1) (List.mem_of_getElem? (i := 32) rfl)
theorem dX3_climb_55 : decode cX3_climb 55 = .ok (.istore 4, 2) := tX3_climb_ok (55, .istore 4, 2) (List.mem_of_getElem? (i := 33) rfl)
theorem dX3_climb_57 : decode cX3_climb 57 = .ok (.iload 4, 2) := tX3_climb_ok (57, .iload 4, 2) (List.mem_of_getElem? (i := 34) rfl)
theorem dX3_climb_59 : decode cX3_climb 59 = .ok (.ifCond .lt 44, 3) := tX3_climb_ok (59, .ifCond .lt 44, 3) (List.mem_of_getElem? (i := 35) rfl)
theorem dX3_climb_62 : decode cX3_climb 62 = .ok (.iload 4, 2) := tX3_climb_ok (62, .iload 4, 2) (List.mem_of_getElem? (i := 36) rfl)
theorem dX3_climb_64 : decode cX3_climb 64 = .ok (.aload_n 1, 1) := tX3_climb_ok (64, .aload_n 1, 1) (List.mem_of_getElem? (i := 37) rfl)
theorem dX3_climb_65 : decode cX3_climb 65 = .ok (.getfield 75, 3) := tX3_climb_ok (65, .getfield 75, 3) (List.mem_of_getElem? (i := 38) rfl)
theorem dX3_climb_68 : decode cX3_climb 68 = .ok (.if_icmp .gt 35, 3) := tX3_climb_ok (68, .if_icmp .gt 35, 3) (List.mem_of_getElem? (i := 39) rfl)
theorem dX3_climb_71 : decode cX3_climb 71 = .ok (.iload 4, 2) := tX3_climb_ok (71, .iload 4, 2) (List.mem_of_getElem? (i := 40) rfl)
theorem dX3_climb_73 : decode cX3_climb 73 = .ok (.bipush 31, 2) := tX3_climb_ok (73, .bipush 31, 2) (List.mem_of_getElem? (i := 41) rfl)
theorem dX3_climb_75 : decode cX3_climb 75 = .ok (.if_icmp .ge 28, 3) := tX3_climb_ok (75, .if_icmp .ge 28, 3) (List.mem_of_getElem? (i := 42) rfl)
theorem dX3_climb_78 : decode cX3_climb 78 = .ok (.aload_n 0, 1) := tX3_climb_ok (78, .aload_n 0, 1) (List.mem_of_getElem? (i := 43) rfl)
theorem dX3_climb_79 : decode cX3_climb 79 = .ok (.getfield 18, 3) := tX3_climb_ok (79, .getfield 18, 3) (List.mem_of_getElem? (i := 44) rfl)
theorem dX3_climb_82 : decode cX3_climb 82 = .ok (.iload 4, 2) := tX3_climb_ok (82, .iload 4, 2) (List.mem_of_getElem? (i := 45) rfl)
theorem dX3_climb_84 : decode cX3_climb 84 = .ok (.aload_n 0, 1) := tX3_climb_ok (84, .aload_n 0, 1) (List.mem_of_getElem? (i := 46) rfl)
theorem dX3_climb_85 : decode cX3_climb 85 = .ok (.getfield 18, 3) := tX3_climb_ok (85, .getfield 18, 3) (List.mem_of_getElem? (i := 47) rfl)
theorem dX3_climb_88 : decode cX3_climb 88 = .ok (.iload 4, 2) := tX3_climb_ok (88, .iload 4, 2) (List.mem_of_getElem? (i := 48) rfl)
theorem dX3_climb_90 : decode cX3_climb 90 = .ok (.laload, 1) := tX3_climb_ok (90, .laload, 1) (List.mem_of_getElem? (i := 49) rfl)
theorem dX3_climb_91 : decode cX3_climb 91 = .ok (.aload_n 0, 1) := tX3_climb_ok (91, .aload_n 0, 1) (List.mem_of_getElem? (i := 50) rfl)
theorem dX3_climb_92 : decode cX3_climb 92 = .ok (.getfield 15, 3) := tX3_climb_ok (92, .getfield 15, 3) (List.mem_of_getElem? (i := 51) rfl)
theorem dX3_climb_95 : decode cX3_climb 95 = .ok (.iload_n 2, 1) := tX3_climb_ok (95, .iload_n 2, 1) (List.mem_of_getElem? (i := 52) rfl)
theorem dX3_climb_96 : decode cX3_climb 96 = .ok (.laload, 1) := tX3_climb_ok (96, .laload, 1) (List.mem_of_getElem? (i := 53) rfl)
theorem dX3_climb_97 : decode cX3_climb 97 = .ok (.ladd, 1) := tX3_climb_ok (97, .ladd, 1) (List.mem_of_getElem? (i := 54) rfl)
theorem dX3_climb_98 : decode cX3_climb 98 = .ok (.ldc2_w 84, 3) := tX3_climb_ok (98, .ldc2_w 84, 3) (List.mem_of_getElem? (i := 55) rfl)
theorem dX3_climb_101 : decode cX3_climb 101 = .ok (.lrem, 1) := tX3_climb_ok (101, .lrem, 1) (List.mem_of_getElem? (i := 56) rfl)
theorem dX3_climb_102 : decode cX3_climb 102 = .ok (.lastore, 1) := tX3_climb_ok (102, .lastore, 1) (List.mem_of_getElem? (i := 57) rfl)
theorem dX3_climb_103 : decode cX3_climb 103 = .ok (.iinc 3 1, 3) := tX3_climb_ok (103, .iinc 3 1, 3) (List.mem_of_getElem? (i := 58) rfl)
theorem dX3_climb_106 : decode cX3_climb 106 = .ok (.goto (-67), 3) := tX3_climb_ok (106, .goto (-67), 3) (List.mem_of_getElem? (i := 59) rfl)
theorem dX3_climb_109 : decode cX3_climb 109 = .ok (.iinc 2 1, 3) := tX3_climb_ok (109, .iinc 2 1, 3) (List.mem_of_getElem? (i := 60) rfl)
theorem dX3_climb_112 : decode cX3_climb 112 = .ok (.goto (-89), 3) := tX3_climb_ok (112, .goto (-89), 3) (List.mem_of_getElem? (i := 61) rfl)
theorem dX3_climb_115 : decode cX3_climb 115 = .ok (.aload_n 0, 1) := tX3_climb_ok (115, .aload_n 0, 1) (List.mem_of_getElem? (i := 62) rfl)
theorem dX3_climb_116 : decode cX3_climb 116 = .ok (.getfield 15, 3) := tX3_climb_ok (116, .getfield 15, 3) (List.mem_of_getElem? (i := 63) rfl)
theorem dX3_climb_119 : decode cX3_climb 119 = .ok (.astore_n 2, 1) := tX3_climb_ok (119, .astore_n 2, 1) (List.mem_of_getElem? (i := 64) rfl)
theorem dX3_climb_120 : decode cX3_climb 120 = .ok (.aload_n 0, 1) := tX3_climb_ok (120, .aload_n 0, 1) (List.mem_of_getElem? (i := 65) rfl)
theorem dX3_climb_121 : decode cX3_climb 121 = .ok (.aload_n 0, 1) := tX3_climb_ok (121, .aload_n 0, 1) (List.mem_of_getElem? (i := 66) rfl)
theorem dX3_climb_122 : decode cX3_climb 122 = .ok (.getfield 18, 3) := tX3_climb_ok (122, .getfield 18, 3) (List.mem_of_getElem? (i := 67) rfl)
theorem dX3_climb_125 : decode cX3_climb 125 = .ok (.putfield 15, 3) := tX3_climb_ok (125, .putfield 15, 3) (List.mem_of_getElem? (i := 68) rfl)
theorem dX3_climb_128 : decode cX3_climb 128 = .ok (.aload_n 0, 1) := tX3_climb_ok (128, .aload_n 0, 1) (List.mem_of_getElem? (i := 69) rfl)
theorem dX3_climb_129 : decode cX3_climb 129 = .ok (.aload_n 2, 1) := tX3_climb_ok (129, .aload_n 2, 1) (List.mem_of_getElem? (i := 70) rfl)
theorem dX3_climb_130 : decode cX3_climb 130 = .ok (.putfield 18, 3) := tX3_climb_ok (130, .putfield 18, 3) (List.mem_of_getElem? (i := 71) rfl)
theorem dX3_climb_133 : decode cX3_climb 133 = .ok (.return_, 1) := tX3_climb_ok (133, .return_, 1) (List.mem_of_getElem? (i := 72) rfl)

def tX3_findRule : List (Nat × Instr × Nat) := [
  (0, .aload_n 0, 1),
  (1, .aload_n 1, 1),
  (2, .invokevirtual 86, 3),
  (5, .iconst 0, 1),
  (6, .istore_n 2, 1),
  (7, .iload_n 2, 1),
  (8, .bipush 64, 2),
  (10, .if_icmp .ge 36, 3),
  (13, .aload_n 0, 1),
  (14, .getfield 21, 3),
  (17, .iload_n 2, 1),
  (18, .iload_n 2, 1),
  (19, .ifCond .ne 7, 3),
  (22, .lconst 1, 1),
  (23, .goto 4, 3),
  (26, .lconst 0, 1),
  (27, .lastore, 1),
  (28, .aload_n 0, 1),
  (29, .getfield 24, 3),
  (32, .iload_n 2, 1),
  (33, .aload_n 0, 1),
  (34, .getfield 21, 3),
  (37, .iload_n 2, 1),
  (38, .laload, 1),
  (39, .lastore, 1),
  (40, .iinc 2 1, 3),
  (43, .goto (-36), 3),
  (46, .aload_n 0, 1),
  (47, .iconst 0, 1),
  (48, .putfield 53, 3),
  (51, .iconst 1, 1),
  (52, .istore_n 2, 1),
  (53, .lconst 1, 1),
  (54, .lstore_n 3, 1),
  (55, .iconst 0, 1),
  (56, .istore 5, 2),
  (58, .iload 5, 2),
  (60, .bipush 62, 2),
  (62, .if_icmp .ge 116, 3),
  (65, .aload_n 0, 1),
  (66, .iload 5, 2),
  (68, .invokevirtual 89, 3),
  (71, .lstore 6, 2),
  (73, .lload 6, 2),
  (75, .lconst 0, 1),
  (76, .lcmp, 1),
  (77, .ifCond .ne 9, 3),
  (80, .iinc 2 1, 3),
  (83, .goto 89, 3),
  (86, .iconst 2, 1),
  (87, .aload_n 0, 1),
  (88, .getfield 53, 3),
  (91, .imul, 1),
  (92, .iload 5, 2),
  (94, .if_icmp .gt 67, 3),
  (97, .aload_n 0, 1),
  (98, .getfield 21, 3),
  (101, .iconst 0, 1),
  (102, .aload_n 0, 1),
  (103, .getfield 27, 3),
  (106, .iconst 0, 1),
  (107, .bipush 64, 2),
  (109, .invokestatic 93, 3),
  (112, .aload_n 0, 1),
  (113, .lload 6, 2),
  (115, .lload_n 3, 1),
  (116, .iload_n 2, 1),
  (117, .invokevirtual 99, 3),
  (120, .aload_n 0, 1),
  (121, .getfield 24, 3),
  (124, .astore 8, 2),
  (126, .aload_n 0, 1),
  (127, .aload_n 0, 1),
  (128, .getfield 27, 3),
  (131, .putfield 24, 3),
  (134, .aload_n 0, 1),
  (135, .aload 8, 2),
  (137, .putfield 27, 3),
  (140, .aload_n 0, 1),
  (141, .iload 5, 2),
  (143, .iconst 1, 1),
  (144, .iadd, 1),
  (145, .aload_n 0, 1),
  (146, .getfield 53, 3),
  (149, .isub, 1),
  (150, .putfield 53, 3),
  (153, .lload 6, 2),
  (155, .lstore_n 3, 1),
  (156, .iconst 1, 1),
  (157, .istore_n 2, 1),
  (158, .goto 14, 3),
  (161, .aload_n 0, 1),
  (162, .lload 6, 2),
  (164, .lload_n 3, 1),
  (165, .iload_n 2, 1),
  (166, .invokevirtual 99, 3),
  (169, .iinc 2 1, 3),
  (172, .iinc 5 1, 3),
  (175, .goto (-117), 3),
  (178, .iconst 1, 1),
  (179, .istore 5, 2),
  (181, .iload 5, 2),
  (183, .bipush 64, 2),
  (185, .if_icmp .ge 31, 3),
  (188, .aload_n 0, 1),
  (189, .getfield 30, 3),
  (192, .iload 5, 2),
  (194, .ldc2_w 84, 3),
  (197, .aload_n 0, 1),
  (198, .getfield 21, 3),
  (201, .iload 5, 2),
  (203, .laload, 1),
  (204, .lsub, 1),
  (205, .ldc2_w 84, 3),
  (208, .lrem, 1),
  (209, .lastore, 1),
  (210, .iinc 5 1, 3),
  (213, .goto (-32), 3),
  (216, .return_, 1)]
set_option maxRecDepth 100000 in
theorem tX3_findRule_ok : ∀ q ∈ tX3_findRule, decode cX3_findRule q.1 = .ok q.2 := by decide +kernel
theorem dX3_findRule_0 : decode cX3_findRule 0 = .ok (.aload_n 0, 1) := tX3_findRule_ok (0, .aload_n 0, 1) (List.mem_of_getElem? (i := 0) rfl)
theorem dX3_findRule_1 : decode cX3_findRule 1 = .ok (.aload_n 1, 1) := tX3_findRule_ok (1, .aload_n 1, 1) (List.mem_of_getElem? (i := 1) rfl)
theorem dX3_findRule_2 : decode cX3_findRule 2 = .ok (.invokevirtual 86, 3) := tX3_findRule_ok (2, .invokevirtual 86, 3) (List.mem_of_getElem? (i := 2) rfl)
theorem dX3_findRule_5 : decode cX3_findRule 5 = .ok (.iconst 0, 1) := tX3_findRule_ok (5, .iconst 0, 1) (List.mem_of_getElem? (i := 3) rfl)
theorem dX3_findRule_6 : decode cX3_findRule 6 = .ok (.istore_n 2, 1) := tX3_findRule_ok (6, .istore_n 2, 1) (List.mem_of_getElem? (i := 4) rfl)
theorem dX3_findRule_7 : decode cX3_findRule 7 = .ok (.iload_n 2, 1) := tX3_findRule_ok (7, .iload_n 2, 1) (List.mem_of_getElem? (i := 5) rfl)
theorem dX3_findRule_8 : decode cX3_findRule 8 = .ok (.bipush 64, 2) := tX3_findRule_ok (8, .bipush 64, 2) (List.mem_of_getElem? (i := 6) rfl)
theorem dX3_findRule_10 : decode cX3_findRule 10 = .ok (.if_icmp .ge 36, 3) := tX3_findRule_ok (10, .if_icmp .ge 36, 3) (List.mem_of_getElem? (i := 7) rfl)
theorem dX3_findRule_13 : decode cX3_findRule 13 = .ok (.aload_n 0, 1) := tX3_findRule_ok (13, .aload_n 0, 1) (List.mem_of_getElem? (i := 8) rfl)
theorem dX3_findRule_14 : decode cX3_findRule 14 = .ok (.getfield 21, 3) := tX3_findRule_ok (14, .getfield 21, 3) (List.mem_of_getElem? (i := 9) rfl)
theorem dX3_findRule_17 : decode cX3_findRule 17 = .ok (.iload_n 2, 1) := tX3_findRule_ok (17, .iload_n 2, 1) (List.mem_of_getElem? (i := 10) rfl)
theorem dX3_findRule_18 : decode cX3_findRule 18 = .ok (.iload_n 2, 1) := tX3_findRule_ok (18, .iload_n 2, 1) (List.mem_of_getElem? (i := 11) rfl)
theorem dX3_findRule_19 : decode cX3_findRule 19 = .ok (.ifCond .ne 7, 3) := tX3_findRule_ok (19, .ifCond .ne 7, 3) (List.mem_of_getElem? (i := 12) rfl)
theorem dX3_findRule_22 : decode cX3_findRule 22 = .ok (.lconst 1, 1) := tX3_findRule_ok (22, .lconst 1, 1) (List.mem_of_getElem? (i := 13) rfl)
theorem dX3_findRule_23 : decode cX3_findRule 23 = .ok (.goto 4, 3) := tX3_findRule_ok (23, .goto 4, 3) (List.mem_of_getElem? (i := 14) rfl)
theorem dX3_findRule_26 : decode cX3_findRule 26 = .ok (.lconst 0, 1) := tX3_findRule_ok (26, .lconst 0, 1) (List.mem_of_getElem? (i := 15) rfl)
theorem dX3_findRule_27 : decode cX3_findRule 27 = .ok (.lastore, 1) := tX3_findRule_ok (27, .lastore, 1) (List.mem_of_getElem? (i := 16) rfl)
theorem dX3_findRule_28 : decode cX3_findRule 28 = .ok (.aload_n 0, 1) := tX3_findRule_ok (28, .aload_n 0, 1) (List.mem_of_getElem? (i := 17) rfl)
theorem dX3_findRule_29 : decode cX3_findRule 29 = .ok (.getfield 24, 3) := tX3_findRule_ok (29, .getfield 24, 3) (List.mem_of_getElem? (i := 18) rfl)
theorem dX3_findRule_32 : decode cX3_findRule 32 = .ok (.iload_n 2, 1) := tX3_findRule_ok (32, .iload_n 2, 1) (List.mem_of_getElem? (i := 19) rfl)
theorem dX3_findRule_33 : decode cX3_findRule 33 = .ok (.aload_n 0, 1) := tX3_findRule_ok (33, .aload_n 0, 1) (List.mem_of_getElem? (i := 20) rfl)
theorem dX3_findRule_34 : decode cX3_findRule 34 = .ok (.getfield 21, 3) := tX3_findRule_ok (34, .getfield 21, 3) (List.mem_of_getElem? (i := 21) rfl)
theorem dX3_findRule_37 : decode cX3_findRule 37 = .ok (.iload_n 2, 1) := tX3_findRule_ok (37, .iload_n 2, 1) (List.mem_of_getElem? (i := 22) rfl)
theorem dX3_findRule_38 : decode cX3_findRule 38 = .ok (.laload, 1) := tX3_findRule_ok (38, .laload, 1) (List.mem_of_getElem? (i := 23) rfl)
theorem dX3_findRule_39 : decode cX3_findRule 39 = .ok (.lastore, 1) := tX3_findRule_ok (39, .lastore, 1) (List.mem_of_getElem? (i := 24) rfl)
theorem dX3_findRule_40 : decode cX3_findRule 40 = .ok (.iinc 2 1, 3) := tX3_findRule_ok (40, .iinc 2 1, 3) (List.mem_of_getElem? (i := 25) rfl)
theorem dX3_findRule_43 : decode cX3_findRule 43 = .ok (.goto (-36), 3) := tX3_findRule_ok (43, .goto (-36), 3) (List.mem_of_getElem? (i := 26) rfl)
theorem dX3_findRule_46 : decode cX3_findRule 46 = .ok (.aload_n 0, 1) := tX3_findRule_ok (46, .aload_n 0, 1) (List.mem_of_getElem? (i := 27) rfl)
theorem dX3_findRule_47 : decode cX3_findRule 47 = .ok (.iconst 0, 1) := tX3_findRule_ok (47, .iconst 0, 1) (List.mem_of_getElem? (i := 28) rfl)
theorem dX3_findRule_48 : decode cX3_findRule 48 = .ok (.putfield 53, 3) := tX3_findRule_ok (48, .putfield 53, 3) (List.mem_of_getElem? (i := 29) rfl)
theorem dX3_findRule_51 : decode cX3_findRule 51 = .ok (.iconst 1, 1) := tX3_findRule_ok (51, .iconst 1, 1) (List.mem_of_getElem? (i := 30) rfl)
theorem dX3_findRule_52 : decode cX3_findRule 52 = .ok (.istore_n 2, 1) := tX3_findRule_ok (52, .istore_n 2, 1) (List.mem_of_getElem? (i := 31) rfl)
theorem dX3_findRule_53 : decode cX3_findRule 53 = .ok (.lconst 1, 1) := tX3_findRule_ok (53, .lconst 1, 1) (List.mem_of_getElem? (i := 32) rfl)
theorem dX3_findRule_54 : decode cX3_findRule 54 = .ok (.lstore_n 3, 1) := tX3_findRule_ok (54, .lstore_n 3, 1) (List.mem_of_getElem? (i := 33) rfl)
theorem dX3_findRule_55 : decode cX3_findRule 55 = .ok (.iconst 0, 1) := tX3_findRule_ok (55, .iconst 0, 1) (List.mem_of_getElem? (i := 34) rfl)
theorem dX3_findRule_56 : decode cX3_findRule 56 = .ok (.istore 5, 2) := tX3_findRule_ok (56, .istore 5, 2) (List.mem_of_getElem? (i := 35) rfl)
theorem dX3_findRule_58 : decode cX3_findRule 58 = .ok (.iload 5, 2) := tX3_findRule_ok (58, .iload 5, 2) (List.mem_of_getElem? (i := 36) rfl)
theorem dX3_findRule_60 : decode cX3_findRule 60 = .ok (.bipush 62, 2) := tX3_findRule_ok (60, .bipush 62, 2) (List.mem_of_getElem? (i := 37) rfl)
theorem dX3_findRule_62 : decode cX3_findRule 62 = .ok (.if_icmp .ge 116, 3) := tX3_findRule_ok (62, .if_icmp .ge 116, 3) (List.mem_of_getElem? (i := 38) rfl)
theorem dX3_findRule_65 : decode cX3_findRule 65 = .ok (.aload_n 0, 1) := tX3_findRule_ok (65, .aload_n 0, 1) (List.mem_of_getElem? (i := 39) rfl)
theorem dX3_findRule_66 : decode cX3_findRule 66 = .ok (.iload 5, 2) := tX3_findRule_ok (66, .iload 5, 2) (List.mem_of_getElem? (i := 40) rfl)
theorem dX3_findRule_68 : decode cX3_findRule 68 = .ok (.invokevirtual 89, 3) := tX3_findRule_ok (68, .invokevirtual 89, 3) (List.mem_of_getElem? (i := 41) rfl)
theorem dX3_findRule_71 : decode cX3_findRule 71 = .ok (.lstore 6, 2) := tX3_findRule_ok (71, .lstore 6, 2) (List.mem_of_getElem? (i := 42) rfl)
theorem dX3_findRule_73 : decode cX3_findRule 73 = .ok (.lload 6, 2) := tX3_findRule_ok (73, .lload 6, 2) (List.mem_of_getElem? (i := 43) rfl)
theorem dX3_findRule_75 : decode cX3_findRule 75 = .ok (.lconst 0, 1) := tX3_findRule_ok (75, .lconst 0, 1) (List.mem_of_getElem? (i := 44) rfl)
theorem dX3_findRule_76 : decode cX3_findRule 76 = .ok (.lcmp, 1) := tX3_findRule_ok (76, .lcmp, 1) (List.mem_of_getElem? (i := 45) rfl)
theorem dX3_findRule_77 : decode cX3_findRule 77 = .ok (.ifCond .ne 9, 3) := tX3_findRule_ok (77, .ifCond .ne 9, 3) (List.mem_of_getElem? (i := 46) rfl)
theorem dX3_findRule_80 : decode cX3_findRule 80 = .ok (.iinc 2 1, 3) := tX3_findRule_ok (80, .iinc 2 1, 3) (List.mem_of_getElem? (i := 47) rfl)
theorem dX3_findRule_83 : decode cX3_findRule 83 = .ok (.goto 89, 3) := tX3_findRule_ok (83, .goto 89, 3) (List.mem_of_getElem? (i := 48) rfl)
theorem dX3_findRule_86 : decode cX3_findRule 86 = .ok (.iconst 2, 1) := tX3_findRule_ok (86, .iconst 2, 1) (List.mem_of_getElem? (i := 49) rfl)
theorem dX3_findRule_87 : decode cX3_findRule 87 = .ok (.aload_n 0, 1) := tX3_findRule_ok (87, .aload_n 0, 1) (List.mem_of_getElem? (i := 50) rfl)
theorem dX3_findRule_88 : decode cX3_findRule 88 = .ok (.getfield 53, 3) := tX3_findRule_ok (88, .getfield 53, 3) (List.mem_of_getElem? (i := 51) rfl)
theorem dX3_findRule_91 : decode cX3_findRule 91 = .ok (.imul, 1) := tX3_findRule_ok (91, .imul, 1) (List.mem_of_getElem? (i := 52) rfl)
theorem dX3_findRule_92 : decode cX3_findRule 92 = .ok (.iload 5, 2) := tX3_findRule_ok (92, .iload 5, 2) (List.mem_of_getElem? (i := 53) rfl)
theorem dX3_findRule_94 : decode cX3_findRule 94 = .ok (.if_icmp .gt 67, 3) := tX3_findRule_ok (94, .if_icmp .gt 67, 3) (List.mem_of_getElem? (i := 54) rfl)
theorem dX3_findRule_97 : decode cX3_findRule 97 = .ok (.aload_n 0, 1) := tX3_findRule_ok (97, .aload_n 0, 1) (List.mem_of_getElem? (i := 55) rfl)
theorem dX3_findRule_98 : decode cX3_findRule 98 = .ok (.getfield 21, 3) := tX3_findRule_ok (98, .getfield 21, 3) (List.mem_of_getElem? (i := 56) rfl)
theorem dX3_findRule_101 : decode cX3_findRule 101 = .ok (.iconst 0, 1) := tX3_findRule_ok (101, .iconst 0, 1) (List.mem_of_getElem? (i := 57) rfl)
theorem dX3_findRule_102 : decode cX3_findRule 102 = .ok (.aload_n 0, 1) := tX3_findRule_ok (102, .aload_n 0, 1) (List.mem_of_getElem? (i := 58) rfl)
theorem dX3_findRule_103 : decode cX3_findRule 103 = .ok (.getfield 27, 3) := tX3_findRule_ok (103, .getfield 27, 3) (List.mem_of_getElem? (i := 59) rfl)
theorem dX3_findRule_106 : decode cX3_findRule 106 = .ok (.iconst 0, 1) := tX3_findRule_ok (106, .iconst 0, 1) (List.mem_of_getElem? (i := 60) rfl)
theorem dX3_findRule_107 : decode cX3_findRule 107 = .ok (.bipush 64, 2) := tX3_findRule_ok (107, .bipush 64, 2) (List.mem_of_getElem? (i := 61) rfl)
theorem dX3_findRule_109 : decode cX3_findRule 109 = .ok (.invokestatic 93, 3) := tX3_findRule_ok (109, .invokestatic 93, 3) (List.mem_of_getElem? (i := 62) rfl)
theorem dX3_findRule_112 : decode cX3_findRule 112 = .ok (.aload_n 0, 1) := tX3_findRule_ok (112, .aload_n 0, 1) (List.mem_of_getElem? (i := 63) rfl)
theorem dX3_findRule_113 : decode cX3_findRule 113 = .ok (.lload 6, 2) := tX3_findRule_ok (113, .lload 6, 2) (List.mem_of_getElem? (i := 64) rfl)
theorem dX3_findRule_115 : decode cX3_findRule 115 = .ok (.lload_n 3, 1) := tX3_findRule_ok (115, .lload_n 3, 1) (List.mem_of_getElem? (i := 65) rfl)
theorem dX3_findRule_116 : decode cX3_findRule 116 = .ok (.iload_n 2, 1) := tX3_findRule_ok (116, .iload_n 2, 1) (List.mem_of_getElem? (i := 66) rfl)
theorem dX3_findRule_117 : decode cX3_findRule 117 = .ok (.invokevirtual 99, 3) := tX3_findRule_ok (117, .invokevirtual 99, 3) (List.mem_of_getElem? (i := 67) rfl)
theorem dX3_findRule_120 : decode cX3_findRule 120 = .ok (.aload_n 0, 1) := tX3_findRule_ok (120, .aload_n 0, 1) (List.mem_of_getElem? (i := 68) rfl)
theorem dX3_findRule_121 : decode cX3_findRule 121 = .ok (.getfield 24, 3) := tX3_findRule_ok (121, .getfield 24, 3) (List.mem_of_getElem? (i := 69) rfl)
theorem dX3_findRule_124 : decode cX3_findRule 124 = .ok (.astore 8, 2) := tX3_findRule_ok (124, .astore 8, 2) (List.mem_of_getElem? (i := 70) rfl)
theorem dX3_findRule_126 : decode cX3_findRule 126 = .ok (.aload_n 0, 1) := tX3_findRule_ok (126, .aload_n 0, 1) (List.mem_of_getElem? (i := 71) rfl)
theorem dX3_findRule_127 : decode cX3_findRule 127 = .ok (.aload_n 0, 1) := tX3_findRule_ok (127, .aload_n 0, 1) (List.mem_of_getElem? (i := 72) rfl)
theorem dX3_findRule_128 : decode cX3_findRule 128 = .ok (.getfield 27, 3) := tX3_findRule_ok (128, .getfield 27, 3) (List.mem_of_getElem? (i := 73) rfl)
theorem dX3_findRule_131 : decode cX3_findRule 131 = .ok (.putfield 24, 3) := tX3_findRule_ok (131, .putfield 24, 3) (List.mem_of_getElem? (i := 74) rfl)
theorem dX3_findRule_134 : decode cX3_findRule 134 = .ok (.aload_n 0, 1) := tX3_findRule_ok (134, .aload_n 0, 1) (List.mem_of_getElem? (i := 75) rfl)
theorem dX3_findRule_135 : decode cX3_findRule 135 = .ok (.aload 8, 2) := tX3_findRule_ok (135, .aload 8, 2) (List.mem_of_getElem? (i := 76) rfl)
theorem dX3_findRule_137 : decode cX3_findRule 137 = .ok (.putfield 27, 3) := tX3_findRule_ok (137, .putfield 27, 3) (List.mem_of_getElem? (i := 77) rfl)
theorem dX3_findRule_140 : decode cX3_findRule 140 = .ok (.aload_n 0, 1) := tX3_findRule_ok (140, .aload_n 0, 1) (List.mem_of_getElem? (i := 78) rfl)
theorem dX3_findRule_141 : decode cX3_findRule 141 = .ok (.iload 5, 2) := tX3_findRule_ok (141, .iload 5, 2) (List.mem_of_getElem? (i := 79) rfl)
theorem dX3_findRule_143 : decode cX3_findRule 143 = .ok (.iconst 1, 1) := tX3_findRule_ok (143, .iconst 1, 1) (List.mem_of_getElem? (i := 80) rfl)
theorem dX3_findRule_144 : decode cX3_findRule 144 = .ok (.iadd, 1) := tX3_findRule_ok (144, .iadd, 1) (List.mem_of_getElem? (i := 81) rfl)
theorem dX3_findRule_145 : decode cX3_findRule 145 = .ok (.aload_n 0, 1) := tX3_findRule_ok (145, .aload_n 0, 1) (List.mem_of_getElem? (i := 82) rfl)
theorem dX3_findRule_146 : decode cX3_findRule 146 = .ok (.getfield 53, 3) := tX3_findRule_ok (146, .getfield 53, 3) (List.mem_of_getElem? (i := 83) rfl)
theorem dX3_findRule_149 : decode cX3_findRule 149 = .ok (.isub, 1) := tX3_findRule_ok (149, .isub, 1) (List.mem_of_getElem? (i := 84) rfl)
theorem dX3_findRule_150 : decode cX3_findRule 150 = .ok (.putfield 53, 3) := tX3_findRule_ok (150, .putfield 53, 3) (List.mem_of_getElem? (i := 85) rfl)
theorem dX3_findRule_153 : decode cX3_findRule 153 = .ok (.lload 6, 2) := tX3_findRule_ok (153, .lload 6, 2) (List.mem_of_getElem? (i := 86) rfl)
theorem dX3_findRule_155 : decode cX3_findRule 155 = .ok (.lstore_n 3, 1) := tX3_findRule_ok (155, .lstore_n 3, 1) (List.mem_of_getElem? (i := 87) rfl)
theorem dX3_findRule_156 : decode cX3_findRule 156 = .ok (.iconst 1, 1) := tX3_findRule_ok (156, .iconst 1, 1) (List.mem_of_getElem? (i := 88) rfl)
theorem dX3_findRule_157 : decode cX3_findRule 157 = .ok (.istore_n 2, 1) := tX3_findRule_ok (157, .istore_n 2, 1) (List.mem_of_getElem? (i := 89) rfl)
theorem dX3_findRule_158 : decode cX3_findRule 158 = .ok (.goto 14, 3) := tX3_findRule_ok (158, .goto 14, 3) (List.mem_of_getElem? (i := 90) rfl)
theorem dX3_findRule_161 : decode cX3_findRule 161 = .ok (.aload_n 0, 1) := tX3_findRule_ok (161, .aload_n 0, 1) (List.mem_of_getElem? (i := 91) rfl)
theorem dX3_findRule_162 : decode cX3_findRule 162 = .ok (.lload 6, 2) := tX3_findRule_ok (162, .lload 6, 2) (List.mem_of_getElem? (i := 92) rfl)
theorem dX3_findRule_164 : decode cX3_findRule 164 = .ok (.lload_n 3, 1) := tX3_findRule_ok (164, .lload_n 3, 1) (List.mem_of_getElem? (i := 93) rfl)
theorem dX3_findRule_165 : decode cX3_findRule 165 = .ok (.iload_n 2, 1) := tX3_findRule_ok (165, .iload_n 2, 1) (List.mem_of_getElem? (i := 94) rfl)
theorem dX3_findRule_166 : decode cX3_findRule 166 = .ok (.invokevirtual 99, 3) := tX3_findRule_ok (166, .invokevirtual 99, 3) (List.mem_of_getElem? (i := 95) rfl)
theorem dX3_findRule_169 : decode cX3_findRule 169 = .ok (.iinc 2 1, 3) := tX3_findRule_ok (169, .iinc 2 1, 3) (List.mem_of_getElem? (i := 96) rfl)
theorem dX3_findRule_172 : decode cX3_findRule 172 = .ok (.iinc 5 1, 3) := tX3_findRule_ok (172, .iinc 5 1, 3) (List.mem_of_getElem? (i := 97) rfl)
theorem dX3_findRule_175 : decode cX3_findRule 175 = .ok (.goto (-117), 3) := tX3_findRule_ok (175, .goto (-117), 3) (List.mem_of_getElem? (i := 98) rfl)
theorem dX3_findRule_178 : decode cX3_findRule 178 = .ok (.iconst 1, 1) := tX3_findRule_ok (178, .iconst 1, 1) (List.mem_of_getElem? (i := 99) rfl)
theorem dX3_findRule_179 : decode cX3_findRule 179 = .ok (.istore 5, 2) := tX3_findRule_ok (179, .istore 5, 2) (List.mem_of_getElem? (i := 100) rfl)
theorem dX3_findRule_181 : decode cX3_findRule 181 = .ok (.iload 5, 2) := tX3_findRule_ok (181, .iload 5, 2) (List.mem_of_getElem? (i := 101) rfl)
theorem dX3_findRule_183 : decode cX3_findRule 183 = .ok (.bipush 64, 2) := tX3_findRule_ok (183, .bipush 64, 2) (List.mem_of_getElem? (i := 102) rfl)
theorem dX3_findRule_185 : decode cX3_findRule 185 = .ok (.if_icmp .ge 31, 3) := tX3_findRule_ok (185, .if_icmp .ge 31, 3) (List.mem_of_getElem? (i := 103) rfl)
theorem dX3_findRule_188 : decode cX3_findRule 188 = .ok (.aload_n 0, 1) := tX3_findRule_ok (188, .aload_n 0, 1) (List.mem_of_getElem? (i := 104) rfl)
theorem dX3_findRule_189 : decode cX3_findRule 189 = .ok (.getfield 30, 3) := tX3_findRule_ok (189, .getfield 30, 3) (List.mem_of_getElem? (i := 105) rfl)
theorem dX3_findRule_192 : decode cX3_findRule 192 = .ok (.iload 5, 2) := tX3_findRule_ok (192, .iload 5, 2) (List.mem_of_getElem? (i := 106) rfl)
theorem dX3_findRule_194 : decode cX3_findRule 194 = .ok (.ldc2_w 84, 3) := tX3_findRule_ok (194, .ldc2_w 84, 3) (List.mem_of_getElem? (i := 107) rfl)
theorem dX3_findRule_197 : decode cX3_findRule 197 = .ok (.aload_n 0, 1) := tX3_findRule_ok (197, .aload_n 0, 1) (List.mem_of_getElem? (i := 108) rfl)
theorem dX3_findRule_198 : decode cX3_findRule 198 = .ok (.getfield 21, 3) := tX3_findRule_ok (198, .getfield 21, 3) (List.mem_of_getElem? (i := 109) rfl)
theorem dX3_findRule_201 : decode cX3_findRule 201 = .ok (.iload 5, 2) := tX3_findRule_ok (201, .iload 5, 2) (List.mem_of_getElem? (i := 110) rfl)
theorem dX3_findRule_203 : decode cX3_findRule 203 = .ok (.laload, 1) := tX3_findRule_ok (203, .laload, 1) (List.mem_of_getElem? (i := 111) rfl)
theorem dX3_findRule_204 : decode cX3_findRule 204 = .ok (.lsub, 1) := tX3_findRule_ok (204, .lsub, 1) (List.mem_of_getElem? (i := 112) rfl)
theorem dX3_findRule_205 : decode cX3_findRule 205 = .ok (.ldc2_w 84, 3) := tX3_findRule_ok (205, .ldc2_w 84, 3) (List.mem_of_getElem? (i := 113) rfl)
theorem dX3_findRule_208 : decode cX3_findRule 208 = .ok (.lrem, 1) := tX3_findRule_ok (208, .lrem, 1) (List.mem_of_getElem? (i := 114) rfl)
theorem dX3_findRule_209 : decode cX3_findRule 209 = .ok (.lastore, 1) := tX3_findRule_ok (209, .lastore, 1) (List.mem_of_getElem? (i := 115) rfl)
theorem dX3_findRule_210 : decode cX3_findRule 210 = .ok (.iinc 5 1, 3) := tX3_findRule_ok (210, .iinc 5 1, 3) (List.mem_of_getElem? (i := 116) rfl)
theorem dX3_findRule_213 : decode cX3_findRule 213 = .ok (.goto (-32), 3) := tX3_findRule_ok (213, .goto (-32), 3) (List.mem_of_getElem? (i := 117) rfl)
theorem dX3_findRule_216 : decode cX3_findRule 216 = .ok (.return_, 1) := tX3_findRule_ok (216, .return_, 1) (List.mem_of_getElem? (i := 118) rfl)

def tX3_missAt : List (Nat × Instr × Nat) := [
  (0, .lconst 0, 1),
  (1, .lstore_n 2, 1),
  (2, .iconst 0, 1),
  (3, .istore 4, 2),
  (5, .iload 4, 2),
  (7, .aload_n 0, 1),
  (8, .getfield 53, 3),
  (11, .if_icmp .gt 39, 3),
  (14, .iload 4, 2),
  (16, .iload_n 1, 1),
  (17, .if_icmp .gt 33, 3),
  (20, .lload_n 2, 1),
  (21, .aload_n 0, 1),
  (22, .getfield 21, 3),
  (25, .iload 4, 2),
  (27, .laload, 1),
  (28, .aload_n 0, 1),
  (29, .getfield 11, 3),
  (32, .iload_n 1, 1),
  (33, .iload 4, 2),
  (35, .isub, 1),
  (36, .laload, 1),
  (37, .lmul, 1),
  (38, .ladd, 1),
  (39, .ldc2_w 84, 3),
  (42, .lrem, 1),
  (43, .lstore_n 2, 1),
  (44, .iinc 4 1, 3),
  (47, .goto (-42), 3),
  (50, .lload_n 2, 1),
  (51, .lreturn, 1)]
set_option maxRecDepth 100000 in
theorem tX3_missAt_ok : ∀ q ∈ tX3_missAt, decode cX3_missAt q.1 = .ok q.2 := by decide +kernel
theorem dX3_missAt_0 : decode cX3_missAt 0 = .ok (.lconst 0, 1) := tX3_missAt_ok (0, .lconst 0, 1) (List.mem_of_getElem? (i := 0) rfl)
theorem dX3_missAt_1 : decode cX3_missAt 1 = .ok (.lstore_n 2, 1) := tX3_missAt_ok (1, .lstore_n 2, 1) (List.mem_of_getElem? (i := 1) rfl)
theorem dX3_missAt_2 : decode cX3_missAt 2 = .ok (.iconst 0, 1) := tX3_missAt_ok (2, .iconst 0, 1) (List.mem_of_getElem? (i := 2) rfl)
theorem dX3_missAt_3 : decode cX3_missAt 3 = .ok (.istore 4, 2) := tX3_missAt_ok (3, .istore 4, 2) (List.mem_of_getElem? (i := 3) rfl)
theorem dX3_missAt_5 : decode cX3_missAt 5 = .ok (.iload 4, 2) := tX3_missAt_ok (5, .iload 4, 2) (List.mem_of_getElem? (i := 4) rfl)
theorem dX3_missAt_7 : decode cX3_missAt 7 = .ok (.aload_n 0, 1) := tX3_missAt_ok (7, .aload_n 0, 1) (List.mem_of_getElem? (i := 5) rfl)
theorem dX3_missAt_8 : decode cX3_missAt 8 = .ok (.getfield 53, 3) := tX3_missAt_ok (8, .getfield 53, 3) (List.mem_of_getElem? (i := 6) rfl)
theorem dX3_missAt_11 : decode cX3_missAt 11 = .ok (.if_icmp .gt 39, 3) := tX3_missAt_ok (11, .if_icmp .gt 39, 3) (List.mem_of_getElem? (i := 7) rfl)
theorem dX3_missAt_14 : decode cX3_missAt 14 = .ok (.iload 4, 2) := tX3_missAt_ok (14, .iload 4, 2) (List.mem_of_getElem? (i := 8) rfl)
theorem dX3_missAt_16 : decode cX3_missAt 16 = .ok (.iload_n 1, 1) := tX3_missAt_ok (16, .iload_n 1, 1) (List.mem_of_getElem? (i := 9) rfl)
theorem dX3_missAt_17 : decode cX3_missAt 17 = .ok (.if_icmp .gt 33, 3) := tX3_missAt_ok (17, .if_icmp .gt 33, 3) (List.mem_of_getElem? (i := 10) rfl)
theorem dX3_missAt_20 : decode cX3_missAt 20 = .ok (.lload_n 2, 1) := tX3_missAt_ok (20, .lload_n 2, 1) (List.mem_of_getElem? (i := 11) rfl)
theorem dX3_missAt_21 : decode cX3_missAt 21 = .ok (.aload_n 0, 1) := tX3_missAt_ok (21, .aload_n 0, 1) (List.mem_of_getElem? (i := 12) rfl)
theorem dX3_missAt_22 : decode cX3_missAt 22 = .ok (.getfield 21, 3) := tX3_missAt_ok (22, .getfield 21, 3) (List.mem_of_getElem? (i := 13) rfl)
theorem dX3_missAt_25 : decode cX3_missAt 25 = .ok (.iload 4, 2) := tX3_missAt_ok (25, .iload 4, 2) (List.mem_of_getElem? (i := 14) rfl)
theorem dX3_missAt_27 : decode cX3_missAt 27 = .ok (.laload, 1) := tX3_missAt_ok (27, .laload, 1) (List.mem_of_getElem? (i := 15) rfl)
theorem dX3_missAt_28 : decode cX3_missAt 28 = .ok (.aload_n 0, 1) := tX3_missAt_ok (28, .aload_n 0, 1) (List.mem_of_getElem? (i := 16) rfl)
theorem dX3_missAt_29 : decode cX3_missAt 29 = .ok (.getfield 11, 3) := tX3_missAt_ok (29, .getfield 11, 3) (List.mem_of_getElem? (i := 17) rfl)
theorem dX3_missAt_32 : decode cX3_missAt 32 = .ok (.iload_n 1, 1) := tX3_missAt_ok (32, .iload_n 1, 1) (List.mem_of_getElem? (i := 18) rfl)
theorem dX3_missAt_33 : decode cX3_missAt 33 = .ok (.iload 4, 2) := tX3_missAt_ok (33, .iload 4, 2) (List.mem_of_getElem? (i := 19) rfl)
theorem dX3_missAt_35 : decode cX3_missAt 35 = .ok (.isub, 1) := tX3_missAt_ok (35, .isub, 1) (List.mem_of_getElem? (i := 20) rfl)
theorem dX3_missAt_36 : decode cX3_missAt 36 = .ok (.laload, 1) := tX3_missAt_ok (36, .laload, 1) (List.mem_of_getElem? (i := 21) rfl)
theorem dX3_missAt_37 : decode cX3_missAt 37 = .ok (.lmul, 1) := tX3_missAt_ok (37, .lmul, 1) (List.mem_of_getElem? (i := 22) rfl)
theorem dX3_missAt_38 : decode cX3_missAt 38 = .ok (.ladd, 1) := tX3_missAt_ok (38, .ladd, 1) (List.mem_of_getElem? (i := 23) rfl)
theorem dX3_missAt_39 : decode cX3_missAt 39 = .ok (.ldc2_w 84, 3) := tX3_missAt_ok (39, .ldc2_w 84, 3) (List.mem_of_getElem? (i := 24) rfl)
theorem dX3_missAt_42 : decode cX3_missAt 42 = .ok (.lrem, 1) := tX3_missAt_ok (42, .lrem, 1) (List.mem_of_getElem? (i := 25) rfl)
theorem dX3_missAt_43 : decode cX3_missAt 43 = .ok (.lstore_n 2, 1) := tX3_missAt_ok (43, .lstore_n 2, 1) (List.mem_of_getElem? (i := 26) rfl)
theorem dX3_missAt_44 : decode cX3_missAt 44 = .ok (.iinc 4 1, 3) := tX3_missAt_ok (44, .iinc 4 1, 3) (List.mem_of_getElem? (i := 27) rfl)
theorem dX3_missAt_47 : decode cX3_missAt 47 = .ok (.goto (-42), 3) := tX3_missAt_ok (47, .goto (-42), 3) (List.mem_of_getElem? (i := 28) rfl)
theorem dX3_missAt_50 : decode cX3_missAt 50 = .ok (.lload_n 2, 1) := tX3_missAt_ok (50, .lload_n 2, 1) (List.mem_of_getElem? (i := 29) rfl)
theorem dX3_missAt_51 : decode cX3_missAt 51 = .ok (.lreturn, 1) := tX3_missAt_ok (51, .lreturn, 1) (List.mem_of_getElem? (i := 30) rfl)

def tX3_mend : List (Nat × Instr × Nat) := [
  (0, .lload_n 1, 1),
  (1, .lload_n 3, 1),
  (2, .invokestatic 103, 3),
  (5, .lmul, 1),
  (6, .ldc2_w 84, 3),
  (9, .lrem, 1),
  (10, .lstore 6, 2),
  (12, .iconst 0, 1),
  (13, .istore 8, 2),
  (15, .iload 8, 2),
  (17, .iload 5, 2),
  (19, .iadd, 1),
  (20, .bipush 64, 2),
  (22, .if_icmp .ge 48, 3),
  (25, .aload_n 0, 1),
  (26, .getfield 21, 3),
  (29, .iload 8, 2),
  (31, .iload 5, 2),
  (33, .iadd, 1),
  (34, .aload_n 0, 1),
  (35, .getfield 21, 3),
  (38, .iload 8, 2),
  (40, .iload 5, 2),
  (42, .iadd, 1),
  (43, .laload, 1),
  (44, .ldc2_w 84, 3),
  (47, .lload 6, 2),
  (49, .lsub, 1),
  (50, .aload_n 0, 1),
  (51, .getfield 24, 3),
  (54, .iload 8, 2),
  (56, .laload, 1),
  (57, .lmul, 1),
  (58, .ladd, 1),
  (59, .ldc2_w 84, 3),
  (62, .lrem, 1),
  (63, .lastore, 1),
  (64, .iinc 8 1, 3),
  (67, .goto (-52), 3),
  (70, .return_, 1)]
set_option maxRecDepth 100000 in
theorem tX3_mend_ok : ∀ q ∈ tX3_mend, decode cX3_mend q.1 = .ok q.2 := by decide +kernel
theorem dX3_mend_0 : decode cX3_mend 0 = .ok (.lload_n 1, 1) := tX3_mend_ok (0, .lload_n 1, 1) (List.mem_of_getElem? (i := 0) rfl)
theorem dX3_mend_1 : decode cX3_mend 1 = .ok (.lload_n 3, 1) := tX3_mend_ok (1, .lload_n 3, 1) (List.mem_of_getElem? (i := 1) rfl)
theorem dX3_mend_2 : decode cX3_mend 2 = .ok (.invokestatic 103, 3) := tX3_mend_ok (2, .invokestatic 103, 3) (List.mem_of_getElem? (i := 2) rfl)
theorem dX3_mend_5 : decode cX3_mend 5 = .ok (.lmul, 1) := tX3_mend_ok (5, .lmul, 1) (List.mem_of_getElem? (i := 3) rfl)
theorem dX3_mend_6 : decode cX3_mend 6 = .ok (.ldc2_w 84, 3) := tX3_mend_ok (6, .ldc2_w 84, 3) (List.mem_of_getElem? (i := 4) rfl)
theorem dX3_mend_9 : decode cX3_mend 9 = .ok (.lrem, 1) := tX3_mend_ok (9, .lrem, 1) (List.mem_of_getElem? (i := 5) rfl)
theorem dX3_mend_10 : decode cX3_mend 10 = .ok (.lstore 6, 2) := tX3_mend_ok (10, .lstore 6, 2) (List.mem_of_getElem? (i := 6) rfl)
theorem dX3_mend_12 : decode cX3_mend 12 = .ok (.iconst 0, 1) := tX3_mend_ok (12, .iconst 0, 1) (List.mem_of_getElem? (i := 7) rfl)
theorem dX3_mend_13 : decode cX3_mend 13 = .ok (.istore 8, 2) := tX3_mend_ok (13, .istore 8, 2) (List.mem_of_getElem? (i := 8) rfl)
theorem dX3_mend_15 : decode cX3_mend 15 = .ok (.iload 8, 2) := tX3_mend_ok (15, .iload 8, 2) (List.mem_of_getElem? (i := 9) rfl)
theorem dX3_mend_17 : decode cX3_mend 17 = .ok (.iload 5, 2) := tX3_mend_ok (17, .iload 5, 2) (List.mem_of_getElem? (i := 10) rfl)
theorem dX3_mend_19 : decode cX3_mend 19 = .ok (.iadd, 1) := tX3_mend_ok (19, .iadd, 1) (List.mem_of_getElem? (i := 11) rfl)
theorem dX3_mend_20 : decode cX3_mend 20 = .ok (.bipush 64, 2) := tX3_mend_ok (20, .bipush 64, 2) (List.mem_of_getElem? (i := 12) rfl)
theorem dX3_mend_22 : decode cX3_mend 22 = .ok (.if_icmp .ge 48, 3) := tX3_mend_ok (22, .if_icmp .ge 48, 3) (List.mem_of_getElem? (i := 13) rfl)
theorem dX3_mend_25 : decode cX3_mend 25 = .ok (.aload_n 0, 1) := tX3_mend_ok (25, .aload_n 0, 1) (List.mem_of_getElem? (i := 14) rfl)
theorem dX3_mend_26 : decode cX3_mend 26 = .ok (.getfield 21, 3) := tX3_mend_ok (26, .getfield 21, 3) (List.mem_of_getElem? (i := 15) rfl)
theorem dX3_mend_29 : decode cX3_mend 29 = .ok (.iload 8, 2) := tX3_mend_ok (29, .iload 8, 2) (List.mem_of_getElem? (i := 16) rfl)
theorem dX3_mend_31 : decode cX3_mend 31 = .ok (.iload 5, 2) := tX3_mend_ok (31, .iload 5, 2) (List.mem_of_getElem? (i := 17) rfl)
theorem dX3_mend_33 : decode cX3_mend 33 = .ok (.iadd, 1) := tX3_mend_ok (33, .iadd, 1) (List.mem_of_getElem? (i := 18) rfl)
theorem dX3_mend_34 : decode cX3_mend 34 = .ok (.aload_n 0, 1) := tX3_mend_ok (34, .aload_n 0, 1) (List.mem_of_getElem? (i := 19) rfl)
theorem dX3_mend_35 : decode cX3_mend 35 = .ok (.getfield 21, 3) := tX3_mend_ok (35, .getfield 21, 3) (List.mem_of_getElem? (i := 20) rfl)
theorem dX3_mend_38 : decode cX3_mend 38 = .ok (.iload 8, 2) := tX3_mend_ok (38, .iload 8, 2) (List.mem_of_getElem? (i := 21) rfl)
theorem dX3_mend_40 : decode cX3_mend 40 = .ok (.iload 5, 2) := tX3_mend_ok (40, .iload 5, 2) (List.mem_of_getElem? (i := 22) rfl)
theorem dX3_mend_42 : decode cX3_mend 42 = .ok (.iadd, 1) := tX3_mend_ok (42, .iadd, 1) (List.mem_of_getElem? (i := 23) rfl)
theorem dX3_mend_43 : decode cX3_mend 43 = .ok (.laload, 1) := tX3_mend_ok (43, .laload, 1) (List.mem_of_getElem? (i := 24) rfl)
theorem dX3_mend_44 : decode cX3_mend 44 = .ok (.ldc2_w 84, 3) := tX3_mend_ok (44, .ldc2_w 84, 3) (List.mem_of_getElem? (i := 25) rfl)
theorem dX3_mend_47 : decode cX3_mend 47 = .ok (.lload 6, 2) := tX3_mend_ok (47, .lload 6, 2) (List.mem_of_getElem? (i := 26) rfl)
theorem dX3_mend_49 : decode cX3_mend 49 = .ok (.lsub, 1) := tX3_mend_ok (49, .lsub, 1) (List.mem_of_getElem? (i := 27) rfl)
theorem dX3_mend_50 : decode cX3_mend 50 = .ok (.aload_n 0, 1) := tX3_mend_ok (50, .aload_n 0, 1) (List.mem_of_getElem? (i := 28) rfl)
theorem dX3_mend_51 : decode cX3_mend 51 = .ok (.getfield 24, 3) := tX3_mend_ok (51, .getfield 24, 3) (List.mem_of_getElem? (i := 29) rfl)
theorem dX3_mend_54 : decode cX3_mend 54 = .ok (.iload 8, 2) := tX3_mend_ok (54, .iload 8, 2) (List.mem_of_getElem? (i := 30) rfl)
theorem dX3_mend_56 : decode cX3_mend 56 = .ok (.laload, 1) := tX3_mend_ok (56, .laload, 1) (List.mem_of_getElem? (i := 31) rfl)
theorem dX3_mend_57 : decode cX3_mend 57 = .ok (.lmul, 1) := tX3_mend_ok (57, .lmul, 1) (List.mem_of_getElem? (i := 32) rfl)
theorem dX3_mend_58 : decode cX3_mend 58 = .ok (.ladd, 1) := tX3_mend_ok (58, .ladd, 1) (List.mem_of_getElem? (i := 33) rfl)
theorem dX3_mend_59 : decode cX3_mend 59 = .ok (.ldc2_w 84, 3) := tX3_mend_ok (59, .ldc2_w 84, 3) (List.mem_of_getElem? (i := 34) rfl)
theorem dX3_mend_62 : decode cX3_mend 62 = .ok (.lrem, 1) := tX3_mend_ok (62, .lrem, 1) (List.mem_of_getElem? (i := 35) rfl)
theorem dX3_mend_63 : decode cX3_mend 63 = .ok (.lastore, 1) := tX3_mend_ok (63, .lastore, 1) (List.mem_of_getElem? (i := 36) rfl)
theorem dX3_mend_64 : decode cX3_mend 64 = .ok (.iinc 8 1, 3) := tX3_mend_ok (64, .iinc 8 1, 3) (List.mem_of_getElem? (i := 37) rfl)
theorem dX3_mend_67 : decode cX3_mend 67 = .ok (.goto (-52), 3) := tX3_mend_ok (67, .goto (-52), 3) (List.mem_of_getElem? (i := 38) rfl)
theorem dX3_mend_70 : decode cX3_mend 70 = .ok (.return_, 1) := tX3_mend_ok (70, .return_, 1) (List.mem_of_getElem? (i := 39) rfl)

def tX3_inverse : List (Nat × Instr × Nat) := [
  (0, .lload_n 0, 1),
  (1, .ldc2_w 84, 3),
  (4, .lrem, 1),
  (5, .lstore_n 2, 1),
  (6, .lconst 1, 1),
  (7, .lstore 4, 2),
  (9, .ldc2_w 106, 3),
  (12, .lstore 6, 2),
  (14, .lload 6, 2),
  (16, .lconst 0, 1),
  (17, .lcmp, 1),
  (18, .ifCond .le 39, 3),
  (21, .lload 6, 2),
  (23, .lconst 1, 1),
  (24, .land, 1),
  (25, .lconst 0, 1),
  (26, .lcmp, 1),
  (27, .ifCond .eq 13, 3),
  (30, .lload 4, 2),
  (32, .lload_n 2, 1),
  (33, .lmul, 1),
  (34, .ldc2_w 84, 3),
  (37, .lrem, 1),
  (38, .lstore 4, 2),
  (40, .lload_n 2, 1),
  (41, .lload_n 2, 1),
  (42, .lmul, 1),
  (43, .ldc2_w 84, 3),
  (46, .lrem, 1),
  (47, .lstore_n 2, 1),
  (48, .lload 6, 2),
  (50, .iconst 1, 1),
  (51, .lshr, 1),
  (52, .lstore 6, 2),
  (54, .goto (-40), 3),
  (57, .lload 4, 2),
  (59, .lreturn, 1)]
set_option maxRecDepth 100000 in
theorem tX3_inverse_ok : ∀ q ∈ tX3_inverse, decode cX3_inverse q.1 = .ok q.2 := by decide +kernel
theorem dX3_inverse_0 : decode cX3_inverse 0 = .ok (.lload_n 0, 1) := tX3_inverse_ok (0, .lload_n 0, 1) (List.mem_of_getElem? (i := 0) rfl)
theorem dX3_inverse_1 : decode cX3_inverse 1 = .ok (.ldc2_w 84, 3) := tX3_inverse_ok (1, .ldc2_w 84, 3) (List.mem_of_getElem? (i := 1) rfl)
theorem dX3_inverse_4 : decode cX3_inverse 4 = .ok (.lrem, 1) := tX3_inverse_ok (4, .lrem, 1) (List.mem_of_getElem? (i := 2) rfl)
theorem dX3_inverse_5 : decode cX3_inverse 5 = .ok (.lstore_n 2, 1) := tX3_inverse_ok (5, .lstore_n 2, 1) (List.mem_of_getElem? (i := 3) rfl)
theorem dX3_inverse_6 : decode cX3_inverse 6 = .ok (.lconst 1, 1) := tX3_inverse_ok (6, .lconst 1, 1) (List.mem_of_getElem? (i := 4) rfl)
theorem dX3_inverse_7 : decode cX3_inverse 7 = .ok (.lstore 4, 2) := tX3_inverse_ok (7, .lstore 4, 2) (List.mem_of_getElem? (i := 5) rfl)
theorem dX3_inverse_9 : decode cX3_inverse 9 = .ok (.ldc2_w 106, 3) := tX3_inverse_ok (9, .ldc2_w 106, 3) (List.mem_of_getElem? (i := 6) rfl)
theorem dX3_inverse_12 : decode cX3_inverse 12 = .ok (.lstore 6, 2) := tX3_inverse_ok (12, .lstore 6, 2) (List.mem_of_getElem? (i := 7) rfl)
theorem dX3_inverse_14 : decode cX3_inverse 14 = .ok (.lload 6, 2) := tX3_inverse_ok (14, .lload 6, 2) (List.mem_of_getElem? (i := 8) rfl)
theorem dX3_inverse_16 : decode cX3_inverse 16 = .ok (.lconst 0, 1) := tX3_inverse_ok (16, .lconst 0, 1) (List.mem_of_getElem? (i := 9) rfl)
theorem dX3_inverse_17 : decode cX3_inverse 17 = .ok (.lcmp, 1) := tX3_inverse_ok (17, .lcmp, 1) (List.mem_of_getElem? (i := 10) rfl)
theorem dX3_inverse_18 : decode cX3_inverse 18 = .ok (.ifCond .le 39, 3) := tX3_inverse_ok (18, .ifCond .le 39, 3) (List.mem_of_getElem? (i := 11) rfl)
theorem dX3_inverse_21 : decode cX3_inverse 21 = .ok (.lload 6, 2) := tX3_inverse_ok (21, .lload 6, 2) (List.mem_of_getElem? (i := 12) rfl)
theorem dX3_inverse_23 : decode cX3_inverse 23 = .ok (.lconst 1, 1) := tX3_inverse_ok (23, .lconst 1, 1) (List.mem_of_getElem? (i := 13) rfl)
theorem dX3_inverse_24 : decode cX3_inverse 24 = .ok (.land, 1) := tX3_inverse_ok (24, .land, 1) (List.mem_of_getElem? (i := 14) rfl)
theorem dX3_inverse_25 : decode cX3_inverse 25 = .ok (.lconst 0, 1) := tX3_inverse_ok (25, .lconst 0, 1) (List.mem_of_getElem? (i := 15) rfl)
theorem dX3_inverse_26 : decode cX3_inverse 26 = .ok (.lcmp, 1) := tX3_inverse_ok (26, .lcmp, 1) (List.mem_of_getElem? (i := 16) rfl)
theorem dX3_inverse_27 : decode cX3_inverse 27 = .ok (.ifCond .eq 13, 3) := tX3_inverse_ok (27, .ifCond .eq 13, 3) (List.mem_of_getElem? (i := 17) rfl)
theorem dX3_inverse_30 : decode cX3_inverse 30 = .ok (.lload 4, 2) := tX3_inverse_ok (30, .lload 4, 2) (List.mem_of_getElem? (i := 18) rfl)
theorem dX3_inverse_32 : decode cX3_inverse 32 = .ok (.lload_n 2, 1) := tX3_inverse_ok (32, .lload_n 2, 1) (List.mem_of_getElem? (i := 19) rfl)
theorem dX3_inverse_33 : decode cX3_inverse 33 = .ok (.lmul, 1) := tX3_inverse_ok (33, .lmul, 1) (List.mem_of_getElem? (i := 20) rfl)
theorem dX3_inverse_34 : decode cX3_inverse 34 = .ok (.ldc2_w 84, 3) := tX3_inverse_ok (34, .ldc2_w 84, 3) (List.mem_of_getElem? (i := 21) rfl)
theorem dX3_inverse_37 : decode cX3_inverse 37 = .ok (.lrem, 1) := tX3_inverse_ok (37, .lrem, 1) (List.mem_of_getElem? (i := 22) rfl)
theorem dX3_inverse_38 : decode cX3_inverse 38 = .ok (.lstore 4, 2) := tX3_inverse_ok (38, .lstore 4, 2) (List.mem_of_getElem? (i := 23) rfl)
theorem dX3_inverse_40 : decode cX3_inverse 40 = .ok (.lload_n 2, 1) := tX3_inverse_ok (40, .lload_n 2, 1) (List.mem_of_getElem? (i := 24) rfl)
theorem dX3_inverse_41 : decode cX3_inverse 41 = .ok (.lload_n 2, 1) := tX3_inverse_ok (41, .lload_n 2, 1) (List.mem_of_getElem? (i := 25) rfl)
theorem dX3_inverse_42 : decode cX3_inverse 42 = .ok (.lmul, 1) := tX3_inverse_ok (42, .lmul, 1) (List.mem_of_getElem? (i := 26) rfl)
theorem dX3_inverse_43 : decode cX3_inverse 43 = .ok (.ldc2_w 84, 3) := tX3_inverse_ok (43, .ldc2_w 84, 3) (List.mem_of_getElem? (i := 27) rfl)
theorem dX3_inverse_46 : decode cX3_inverse 46 = .ok (.lrem, 1) := tX3_inverse_ok (46, .lrem, 1) (List.mem_of_getElem? (i := 28) rfl)
theorem dX3_inverse_47 : decode cX3_inverse 47 = .ok (.lstore_n 2, 1) := tX3_inverse_ok (47, .lstore_n 2, 1) (List.mem_of_getElem? (i := 29) rfl)
theorem dX3_inverse_48 : decode cX3_inverse 48 = .ok (.lload 6, 2) := tX3_inverse_ok (48, .lload 6, 2) (List.mem_of_getElem? (i := 30) rfl)
theorem dX3_inverse_50 : decode cX3_inverse 50 = .ok (.iconst 1, 1) := tX3_inverse_ok (50, .iconst 1, 1) (List.mem_of_getElem? (i := 31) rfl)
theorem dX3_inverse_51 : decode cX3_inverse 51 = .ok (.lshr, 1) := tX3_inverse_ok (51, .lshr, 1) (List.mem_of_getElem? (i := 32) rfl)
theorem dX3_inverse_52 : decode cX3_inverse 52 = .ok (.lstore 6, 2) := tX3_inverse_ok (52, .lstore 6, 2) (List.mem_of_getElem? (i := 33) rfl)
theorem dX3_inverse_54 : decode cX3_inverse 54 = .ok (.goto (-40), 3) := tX3_inverse_ok (54, .goto (-40), 3) (List.mem_of_getElem? (i := 34) rfl)
theorem dX3_inverse_57 : decode cX3_inverse 57 = .ok (.lload 4, 2) := tX3_inverse_ok (57, .lload 4, 2) (List.mem_of_getElem? (i := 35) rfl)
theorem dX3_inverse_59 : decode cX3_inverse 59 = .ok (.lreturn, 1) := tX3_inverse_ok (59, .lreturn, 1) (List.mem_of_getElem? (i := 36) rfl)

def tX3_distant : List (Nat × Instr × Nat) := [
  (0, .aload_n 0, 1),
  (1, .getfield 53, 3),
  (4, .iconst 1, 1),
  (5, .if_icmp .lt 14, 3),
  (8, .iconst 2, 1),
  (9, .aload_n 0, 1),
  (10, .getfield 53, 3),
  (13, .imul, 1),
  (14, .bipush 64, 2),
  (16, .if_icmp .lt 5, 3),
  (19, .lconst 0, 1),
  (20, .lreturn, 1),
  (21, .iconst 0, 1),
  (22, .istore_n 3, 1),
  (23, .iload_n 3, 1),
  (24, .bipush 64, 2),
  (26, .if_icmp .ge 24, 3),
  (29, .aload_n 0, 1),
  (30, .getfield 33, 3),
  (33, .iload_n 3, 1),
  (34, .iload_n 3, 1),
  (35, .ifCond .ne 7, 3),
  (38, .lconst 1, 1),
  (39, .goto 4, 3),
  (42, .lconst 0, 1),
  (43, .lastore, 1),
  (44, .iinc 3 1, 3),
  (47, .goto (-24), 3),
  (50, .bipush 62, 2),
  (52, .istore_n 3, 1),
  (53, .iload_n 3, 1),
  (54, .ifCond .lt 27, 3),
  (57, .aload_n 0, 1),
  (58, .invokevirtual 108, 3),
  (61, .lload_n 1, 1),
  (62, .iload_n 3, 1),
  (63, .lshr, 1),
  (64, .lconst 1, 1),
  (65, .land, 1),
  (66, .lconst 0, 1),
  (67, .lcmp, 1),
  (68, .ifCond .eq 7, 3),
  (71, .aload_n 0, 1),
  (72, .invokevirtual 111, 3),
  (75, .iinc 3 (-1), 3),
  (78, .goto (-25), 3),
  (81, .lconst 0, 1),
  (82, .lstore_n 3, 1),
  (83, .iconst 0, 1),
  (84, .istore 5, 2),
  (86, .iload 5, 2),
  (88, .aload_n 0, 1),
  (89, .getfield 53, 3),
  (92, .if_icmp .ge 31, 3),
  (95, .lload_n 3, 1),
  (96, .aload_n 0, 1),
  (97, .getfield 33, 3),
  (100, .iload 5, 2),
  (102, .laload, 1),
  (103, .aload_n 0, 1),
  (104, .getfield 11, 3),
  (107, .iload 5, 2),
  (109, .laload, 1),
  (110, .lmul, 1),
  (111, .ladd, 1),
  (112, .ldc2_w 84, 3),
  (115, .lrem, 1),
  (116, .lstore_n 3, 1),
  (117, .iinc 5 1, 3),
  (120, .goto (-34), 3),
  (123, .lload_n 3, 1),
  (124, .lreturn, 1)]
set_option maxRecDepth 100000 in
theorem tX3_distant_ok : ∀ q ∈ tX3_distant, decode cX3_distant q.1 = .ok q.2 := by decide +kernel
theorem dX3_distant_0 : decode cX3_distant 0 = .ok (.aload_n 0, 1) := tX3_distant_ok (0, .aload_n 0, 1) (List.mem_of_getElem? (i := 0) rfl)
theorem dX3_distant_1 : decode cX3_distant 1 = .ok (.getfield 53, 3) := tX3_distant_ok (1, .getfield 53, 3) (List.mem_of_getElem? (i := 1) rfl)
theorem dX3_distant_4 : decode cX3_distant 4 = .ok (.iconst 1, 1) := tX3_distant_ok (4, .iconst 1, 1) (List.mem_of_getElem? (i := 2) rfl)
theorem dX3_distant_5 : decode cX3_distant 5 = .ok (.if_icmp .lt 14, 3) := tX3_distant_ok (5, .if_icmp .lt 14, 3) (List.mem_of_getElem? (i := 3) rfl)
theorem dX3_distant_8 : decode cX3_distant 8 = .ok (.iconst 2, 1) := tX3_distant_ok (8, .iconst 2, 1) (List.mem_of_getElem? (i := 4) rfl)
theorem dX3_distant_9 : decode cX3_distant 9 = .ok (.aload_n 0, 1) := tX3_distant_ok (9, .aload_n 0, 1) (List.mem_of_getElem? (i := 5) rfl)
theorem dX3_distant_10 : decode cX3_distant 10 = .ok (.getfield 53, 3) := tX3_distant_ok (10, .getfield 53, 3) (List.mem_of_getElem? (i := 6) rfl)
theorem dX3_distant_13 : decode cX3_distant 13 = .ok (.imul, 1) := tX3_distant_ok (13, .imul, 1) (List.mem_of_getElem? (i := 7) rfl)
theorem dX3_distant_14 : decode cX3_distant 14 = .ok (.bipush 64, 2) := tX3_distant_ok (14, .bipush 64, 2) (List.mem_of_getElem? (i := 8) rfl)
theorem dX3_distant_16 : decode cX3_distant 16 = .ok (.if_icmp .lt 5, 3) := tX3_distant_ok (16, .if_icmp .lt 5, 3) (List.mem_of_getElem? (i := 9) rfl)
theorem dX3_distant_19 : decode cX3_distant 19 = .ok (.lconst 0, 1) := tX3_distant_ok (19, .lconst 0, 1) (List.mem_of_getElem? (i := 10) rfl)
theorem dX3_distant_20 : decode cX3_distant 20 = .ok (.lreturn, 1) := tX3_distant_ok (20, .lreturn, 1) (List.mem_of_getElem? (i := 11) rfl)
theorem dX3_distant_21 : decode cX3_distant 21 = .ok (.iconst 0, 1) := tX3_distant_ok (21, .iconst 0, 1) (List.mem_of_getElem? (i := 12) rfl)
theorem dX3_distant_22 : decode cX3_distant 22 = .ok (.istore_n 3, 1) := tX3_distant_ok (22, .istore_n 3, 1) (List.mem_of_getElem? (i := 13) rfl)
theorem dX3_distant_23 : decode cX3_distant 23 = .ok (.iload_n 3, 1) := tX3_distant_ok (23, .iload_n 3, 1) (List.mem_of_getElem? (i := 14) rfl)
theorem dX3_distant_24 : decode cX3_distant 24 = .ok (.bipush 64, 2) := tX3_distant_ok (24, .bipush 64, 2) (List.mem_of_getElem? (i := 15) rfl)
theorem dX3_distant_26 : decode cX3_distant 26 = .ok (.if_icmp .ge 24, 3) := tX3_distant_ok (26, .if_icmp .ge 24, 3) (List.mem_of_getElem? (i := 16) rfl)
theorem dX3_distant_29 : decode cX3_distant 29 = .ok (.aload_n 0, 1) := tX3_distant_ok (29, .aload_n 0, 1) (List.mem_of_getElem? (i := 17) rfl)
theorem dX3_distant_30 : decode cX3_distant 30 = .ok (.getfield 33, 3) := tX3_distant_ok (30, .getfield 33, 3) (List.mem_of_getElem? (i := 18) rfl)
theorem dX3_distant_33 : decode cX3_distant 33 = .ok (.iload_n 3, 1) := tX3_distant_ok (33, .iload_n 3, 1) (List.mem_of_getElem? (i := 19) rfl)
theorem dX3_distant_34 : decode cX3_distant 34 = .ok (.iload_n 3, 1) := tX3_distant_ok (34, .iload_n 3, 1) (List.mem_of_getElem? (i := 20) rfl)
theorem dX3_distant_35 : decode cX3_distant 35 = .ok (.ifCond .ne 7, 3) := tX3_distant_ok (35, .ifCond .ne 7, 3) (List.mem_of_getElem? (i := 21) rfl)
theorem dX3_distant_38 : decode cX3_distant 38 = .ok (.lconst 1, 1) := tX3_distant_ok (38, .lconst 1, 1) (List.mem_of_getElem? (i := 22) rfl)
theorem dX3_distant_39 : decode cX3_distant 39 = .ok (.goto 4, 3) := tX3_distant_ok (39, .goto 4, 3) (List.mem_of_getElem? (i := 23) rfl)
theorem dX3_distant_42 : decode cX3_distant 42 = .ok (.lconst 0, 1) := tX3_distant_ok (42, .lconst 0, 1) (List.mem_of_getElem? (i := 24) rfl)
theorem dX3_distant_43 : decode cX3_distant 43 = .ok (.lastore, 1) := tX3_distant_ok (43, .lastore, 1) (List.mem_of_getElem? (i := 25) rfl)
theorem dX3_distant_44 : decode cX3_distant 44 = .ok (.iinc 3 1, 3) := tX3_distant_ok (44, .iinc 3 1, 3) (List.mem_of_getElem? (i := 26) rfl)
theorem dX3_distant_47 : decode cX3_distant 47 = .ok (.goto (-24), 3) := tX3_distant_ok (47, .goto (-24), 3) (List.mem_of_getElem? (i := 27) rfl)
theorem dX3_distant_50 : decode cX3_distant 50 = .ok (.bipush 62, 2) := tX3_distant_ok (50, .bipush 62, 2) (List.mem_of_getElem? (i := 28) rfl)
theorem dX3_distant_52 : decode cX3_distant 52 = .ok (.istore_n 3, 1) := tX3_distant_ok (52, .istore_n 3, 1) (List.mem_of_getElem? (i := 29) rfl)
theorem dX3_distant_53 : decode cX3_distant 53 = .ok (.iload_n 3, 1) := tX3_distant_ok (53, .iload_n 3, 1) (List.mem_of_getElem? (i := 30) rfl)
theorem dX3_distant_54 : decode cX3_distant 54 = .ok (.ifCond .lt 27, 3) := tX3_distant_ok (54, .ifCond .lt 27, 3) (List.mem_of_getElem? (i := 31) rfl)
theorem dX3_distant_57 : decode cX3_distant 57 = .ok (.aload_n 0, 1) := tX3_distant_ok (57, .aload_n 0, 1) (List.mem_of_getElem? (i := 32) rfl)
theorem dX3_distant_58 : decode cX3_distant 58 = .ok (.invokevirtual 108, 3) := tX3_distant_ok (58, .invokevirtual 108, 3) (List.mem_of_getElem? (i := 33) rfl)
theorem dX3_distant_61 : decode cX3_distant 61 = .ok (.lload_n 1, 1) := tX3_distant_ok (61, .lload_n 1, 1) (List.mem_of_getElem? (i := 34) rfl)
theorem dX3_distant_62 : decode cX3_distant 62 = .ok (.iload_n 3, 1) := tX3_distant_ok (62, .iload_n 3, 1) (List.mem_of_getElem? (i := 35) rfl)
theorem dX3_distant_63 : decode cX3_distant 63 = .ok (.lshr, 1) := tX3_distant_ok (63, .lshr, 1) (List.mem_of_getElem? (i := 36) rfl)
theorem dX3_distant_64 : decode cX3_distant 64 = .ok (.lconst 1, 1) := tX3_distant_ok (64, .lconst 1, 1) (List.mem_of_getElem? (i := 37) rfl)
theorem dX3_distant_65 : decode cX3_distant 65 = .ok (.land, 1) := tX3_distant_ok (65, .land, 1) (List.mem_of_getElem? (i := 38) rfl)
theorem dX3_distant_66 : decode cX3_distant 66 = .ok (.lconst 0, 1) := tX3_distant_ok (66, .lconst 0, 1) (List.mem_of_getElem? (i := 39) rfl)
theorem dX3_distant_67 : decode cX3_distant 67 = .ok (.lcmp, 1) := tX3_distant_ok (67, .lcmp, 1) (List.mem_of_getElem? (i := 40) rfl)
theorem dX3_distant_68 : decode cX3_distant 68 = .ok (.ifCond .eq 7, 3) := tX3_distant_ok (68, .ifCond .eq 7, 3) (List.mem_of_getElem? (i := 41) rfl)
theorem dX3_distant_71 : decode cX3_distant 71 = .ok (.aload_n 0, 1) := tX3_distant_ok (71, .aload_n 0, 1) (List.mem_of_getElem? (i := 42) rfl)
theorem dX3_distant_72 : decode cX3_distant 72 = .ok (.invokevirtual 111, 3) := tX3_distant_ok (72, .invokevirtual 111, 3) (List.mem_of_getElem? (i := 43) rfl)
theorem dX3_distant_75 : decode cX3_distant 75 = .ok (.iinc 3 (-1), 3) := tX3_distant_ok (75, .iinc 3 (-1), 3) (List.mem_of_getElem? (i := 44) rfl)
theorem dX3_distant_78 : decode cX3_distant 78 = .ok (.goto (-25), 3) := tX3_distant_ok (78, .goto (-25), 3) (List.mem_of_getElem? (i := 45) rfl)
theorem dX3_distant_81 : decode cX3_distant 81 = .ok (.lconst 0, 1) := tX3_distant_ok (81, .lconst 0, 1) (List.mem_of_getElem? (i := 46) rfl)
theorem dX3_distant_82 : decode cX3_distant 82 = .ok (.lstore_n 3, 1) := tX3_distant_ok (82, .lstore_n 3, 1) (List.mem_of_getElem? (i := 47) rfl)
theorem dX3_distant_83 : decode cX3_distant 83 = .ok (.iconst 0, 1) := tX3_distant_ok (83, .iconst 0, 1) (List.mem_of_getElem? (i := 48) rfl)
theorem dX3_distant_84 : decode cX3_distant 84 = .ok (.istore 5, 2) := tX3_distant_ok (84, .istore 5, 2) (List.mem_of_getElem? (i := 49) rfl)
theorem dX3_distant_86 : decode cX3_distant 86 = .ok (.iload 5, 2) := tX3_distant_ok (86, .iload 5, 2) (List.mem_of_getElem? (i := 50) rfl)
theorem dX3_distant_88 : decode cX3_distant 88 = .ok (.aload_n 0, 1) := tX3_distant_ok (88, .aload_n 0, 1) (List.mem_of_getElem? (i := 51) rfl)
theorem dX3_distant_89 : decode cX3_distant 89 = .ok (.getfield 53, 3) := tX3_distant_ok (89, .getfield 53, 3) (List.mem_of_getElem? (i := 52) rfl)
theorem dX3_distant_92 : decode cX3_distant 92 = .ok (.if_icmp .ge 31, 3) := tX3_distant_ok (92, .if_icmp .ge 31, 3) (List.mem_of_getElem? (i := 53) rfl)
theorem dX3_distant_95 : decode cX3_distant 95 = .ok (.lload_n 3, 1) := tX3_distant_ok (95, .lload_n 3, 1) (List.mem_of_getElem? (i := 54) rfl)
theorem dX3_distant_96 : decode cX3_distant 96 = .ok (.aload_n 0, 1) := tX3_distant_ok (96, .aload_n 0, 1) (List.mem_of_getElem? (i := 55) rfl)
theorem dX3_distant_97 : decode cX3_distant 97 = .ok (.getfield 33, 3) := tX3_distant_ok (97, .getfield 33, 3) (List.mem_of_getElem? (i := 56) rfl)
theorem dX3_distant_100 : decode cX3_distant 100 = .ok (.iload 5, 2) := tX3_distant_ok (100, .iload 5, 2) (List.mem_of_getElem? (i := 57) rfl)
theorem dX3_distant_102 : decode cX3_distant 102 = .ok (.laload, 1) := tX3_distant_ok (102, .laload, 1) (List.mem_of_getElem? (i := 58) rfl)
theorem dX3_distant_103 : decode cX3_distant 103 = .ok (.aload_n 0, 1) := tX3_distant_ok (103, .aload_n 0, 1) (List.mem_of_getElem? (i := 59) rfl)
theorem dX3_distant_104 : decode cX3_distant 104 = .ok (.getfield 11, 3) := tX3_distant_ok (104, .getfield 11, 3) (List.mem_of_getElem? (i := 60) rfl)
theorem dX3_distant_107 : decode cX3_distant 107 = .ok (.iload 5, 2) := tX3_distant_ok (107, .iload 5, 2) (List.mem_of_getElem? (i := 61) rfl)
theorem dX3_distant_109 : decode cX3_distant 109 = .ok (.laload, 1) := tX3_distant_ok (109, .laload, 1) (List.mem_of_getElem? (i := 62) rfl)
theorem dX3_distant_110 : decode cX3_distant 110 = .ok (.lmul, 1) := tX3_distant_ok (110, .lmul, 1) (List.mem_of_getElem? (i := 63) rfl)
theorem dX3_distant_111 : decode cX3_distant 111 = .ok (.ladd, 1) := tX3_distant_ok (111, .ladd, 1) (List.mem_of_getElem? (i := 64) rfl)
theorem dX3_distant_112 : decode cX3_distant 112 = .ok (.ldc2_w 84, 3) := tX3_distant_ok (112, .ldc2_w 84, 3) (List.mem_of_getElem? (i := 65) rfl)
theorem dX3_distant_115 : decode cX3_distant 115 = .ok (.lrem, 1) := tX3_distant_ok (115, .lrem, 1) (List.mem_of_getElem? (i := 66) rfl)
theorem dX3_distant_116 : decode cX3_distant 116 = .ok (.lstore_n 3, 1) := tX3_distant_ok (116, .lstore_n 3, 1) (List.mem_of_getElem? (i := 67) rfl)
theorem dX3_distant_117 : decode cX3_distant 117 = .ok (.iinc 5 1, 3) := tX3_distant_ok (117, .iinc 5 1, 3) (List.mem_of_getElem? (i := 68) rfl)
theorem dX3_distant_120 : decode cX3_distant 120 = .ok (.goto (-34), 3) := tX3_distant_ok (120, .goto (-34), 3) (List.mem_of_getElem? (i := 69) rfl)
theorem dX3_distant_123 : decode cX3_distant 123 = .ok (.lload_n 3, 1) := tX3_distant_ok (123, .lload_n 3, 1) (List.mem_of_getElem? (i := 70) rfl)
theorem dX3_distant_124 : decode cX3_distant 124 = .ok (.lreturn, 1) := tX3_distant_ok (124, .lreturn, 1) (List.mem_of_getElem? (i := 71) rfl)

def tX3_square : List (Nat × Instr × Nat) := [
  (0, .iconst 0, 1),
  (1, .istore_n 1, 1),
  (2, .iload_n 1, 1),
  (3, .bipush 64, 2),
  (5, .if_icmp .ge 16, 3),
  (8, .aload_n 0, 1),
  (9, .getfield 36, 3),
  (12, .iload_n 1, 1),
  (13, .lconst 0, 1),
  (14, .lastore, 1),
  (15, .iinc 1 1, 3),
  (18, .goto (-16), 3),
  (21, .iconst 0, 1),
  (22, .istore_n 1, 1),
  (23, .iload_n 1, 1),
  (24, .aload_n 0, 1),
  (25, .getfield 53, 3),
  (28, .if_icmp .ge 59, 3),
  (31, .iconst 0, 1),
  (32, .istore_n 2, 1),
  (33, .iload_n 2, 1),
  (34, .aload_n 0, 1),
  (35, .getfield 53, 3),
  (38, .if_icmp .ge 43, 3),
  (41, .aload_n 0, 1),
  (42, .getfield 36, 3),
  (45, .iload_n 1, 1),
  (46, .iload_n 2, 1),
  (47, .iadd, 1),
  (48, .aload_n 0, 1),
  (49, .getfield 36, 3),
  (52, .iload_n 1, 1),
  (53, .iload_n 2, 1),
  (54, .iadd, 1),
  (55, .laload, 1),
  (56, .aload_n 0, 1),
  (57, .getfield 33, 3),
  (60, .iload_n 1, 1),
  (61, .laload, 1),
  (62, .aload_n 0, 1),
  (63, .getfield 33, 3),
  (66, .iload_n 2, 1),
  (67, .laload, 1),
  (68, .lmul, 1),
  (69, .ladd, 1),
  (70, .ldc2_w 84, 3),
  (73, .lrem, 1),
  (74, .lastore, 1),
  (75, .iinc 2 1, 3),
  (78, .goto (-45), 3),
  (81, .iinc 1 1, 3),
  (84, .goto (-61), 3),
  (87, .aload_n 0, 1),
  (88, .iconst 2, 1),
  (89, .aload_n 0, 1),
  (90, .getfield 53, 3),
  (93, .imul, 1),
  (94, .iconst 2, 1),
  (95, .isub, 1),
  (96, .invokevirtual 114, 3),
  (99, .return_, 1)]
set_option maxRecDepth 100000 in
theorem tX3_square_ok : ∀ q ∈ tX3_square, decode cX3_square q.1 = .ok q.2 := by decide +kernel
theorem dX3_square_0 : decode cX3_square 0 = .ok (.iconst 0, 1) := tX3_square_ok (0, .iconst 0, 1) (List.mem_of_getElem? (i := 0) rfl)
theorem dX3_square_1 : decode cX3_square 1 = .ok (.istore_n 1, 1) := tX3_square_ok (1, .istore_n 1, 1) (List.mem_of_getElem? (i := 1) rfl)
theorem dX3_square_2 : decode cX3_square 2 = .ok (.iload_n 1, 1) := tX3_square_ok (2, .iload_n 1, 1) (List.mem_of_getElem? (i := 2) rfl)
theorem dX3_square_3 : decode cX3_square 3 = .ok (.bipush 64, 2) := tX3_square_ok (3, .bipush 64, 2) (List.mem_of_getElem? (i := 3) rfl)
theorem dX3_square_5 : decode cX3_square 5 = .ok (.if_icmp .ge 16, 3) := tX3_square_ok (5, .if_icmp .ge 16, 3) (List.mem_of_getElem? (i := 4) rfl)
theorem dX3_square_8 : decode cX3_square 8 = .ok (.aload_n 0, 1) := tX3_square_ok (8, .aload_n 0, 1) (List.mem_of_getElem? (i := 5) rfl)
theorem dX3_square_9 : decode cX3_square 9 = .ok (.getfield 36, 3) := tX3_square_ok (9, .getfield 36, 3) (List.mem_of_getElem? (i := 6) rfl)
theorem dX3_square_12 : decode cX3_square 12 = .ok (.iload_n 1, 1) := tX3_square_ok (12, .iload_n 1, 1) (List.mem_of_getElem? (i := 7) rfl)
theorem dX3_square_13 : decode cX3_square 13 = .ok (.lconst 0, 1) := tX3_square_ok (13, .lconst 0, 1) (List.mem_of_getElem? (i := 8) rfl)
theorem dX3_square_14 : decode cX3_square 14 = .ok (.lastore, 1) := tX3_square_ok (14, .lastore, 1) (List.mem_of_getElem? (i := 9) rfl)
theorem dX3_square_15 : decode cX3_square 15 = .ok (.iinc 1 1, 3) := tX3_square_ok (15, .iinc 1 1, 3) (List.mem_of_getElem? (i := 10) rfl)
theorem dX3_square_18 : decode cX3_square 18 = .ok (.goto (-16), 3) := tX3_square_ok (18, .goto (-16), 3) (List.mem_of_getElem? (i := 11) rfl)
theorem dX3_square_21 : decode cX3_square 21 = .ok (.iconst 0, 1) := tX3_square_ok (21, .iconst 0, 1) (List.mem_of_getElem? (i := 12) rfl)
theorem dX3_square_22 : decode cX3_square 22 = .ok (.istore_n 1, 1) := tX3_square_ok (22, .istore_n 1, 1) (List.mem_of_getElem? (i := 13) rfl)
theorem dX3_square_23 : decode cX3_square 23 = .ok (.iload_n 1, 1) := tX3_square_ok (23, .iload_n 1, 1) (List.mem_of_getElem? (i := 14) rfl)
theorem dX3_square_24 : decode cX3_square 24 = .ok (.aload_n 0, 1) := tX3_square_ok (24, .aload_n 0, 1) (List.mem_of_getElem? (i := 15) rfl)
theorem dX3_square_25 : decode cX3_square 25 = .ok (.getfield 53, 3) := tX3_square_ok (25, .getfield 53, 3) (List.mem_of_getElem? (i := 16) rfl)
theorem dX3_square_28 : decode cX3_square 28 = .ok (.if_icmp .ge 59, 3) := tX3_square_ok (28, .if_icmp .ge 59, 3) (List.mem_of_getElem? (i := 17) rfl)
theorem dX3_square_31 : decode cX3_square 31 = .ok (.iconst 0, 1) := tX3_square_ok (31, .iconst 0, 1) (List.mem_of_getElem? (i := 18) rfl)
theorem dX3_square_32 : decode cX3_square 32 = .ok (.istore_n 2, 1) := tX3_square_ok (32, .istore_n 2, 1) (List.mem_of_getElem? (i := 19) rfl)
theorem dX3_square_33 : decode cX3_square 33 = .ok (.iload_n 2, 1) := tX3_square_ok (33, .iload_n 2, 1) (List.mem_of_getElem? (i := 20) rfl)
theorem dX3_square_34 : decode cX3_square 34 = .ok (.aload_n 0, 1) := tX3_square_ok (34, .aload_n 0, 1) (List.mem_of_getElem? (i := 21) rfl)
theorem dX3_square_35 : decode cX3_square 35 = .ok (.getfield 53, 3) := tX3_square_ok (35, .getfield 53, 3) (List.mem_of_getElem? (i := 22) rfl)
theorem dX3_square_38 : decode cX3_square 38 = .ok (.if_icmp .ge 43, 3) := tX3_square_ok (38, .if_icmp .ge 43, 3) (List.mem_of_getElem? (i := 23) rfl)
theorem dX3_square_41 : decode cX3_square 41 = .ok (.aload_n 0, 1) := tX3_square_ok (41, .aload_n 0, 1) (List.mem_of_getElem? (i := 24) rfl)
theorem dX3_square_42 : decode cX3_square 42 = .ok (.getfield 36, 3) := tX3_square_ok (42, .getfield 36, 3) (List.mem_of_getElem? (i := 25) rfl)
theorem dX3_square_45 : decode cX3_square 45 = .ok (.iload_n 1, 1) := tX3_square_ok (45, .iload_n 1, 1) (List.mem_of_getElem? (i := 26) rfl)
theorem dX3_square_46 : decode cX3_square 46 = .ok (.iload_n 2, 1) := tX3_square_ok (46, .iload_n 2, 1) (List.mem_of_getElem? (i := 27) rfl)
theorem dX3_square_47 : decode cX3_square 47 = .ok (.iadd, 1) := tX3_square_ok (47, .iadd, 1) (List.mem_of_getElem? (i := 28) rfl)
theorem dX3_square_48 : decode cX3_square 48 = .ok (.aload_n 0, 1) := tX3_square_ok (48, .aload_n 0, 1) (List.mem_of_getElem? (i := 29) rfl)
theorem dX3_square_49 : decode cX3_square 49 = .ok (.getfield 36, 3) := tX3_square_ok (49, .getfield 36, 3) (List.mem_of_getElem? (i := 30) rfl)
theorem dX3_square_52 : decode cX3_square 52 = .ok (.iload_n 1, 1) := tX3_square_ok (52, .iload_n 1, 1) (List.mem_of_getElem? (i := 31) rfl)
theorem dX3_square_53 : decode cX3_square 53 = .ok (.iload_n 2, 1) := tX3_square_ok (53, .iload_n 2, 1) (List.mem_of_getElem? (i := 32) rfl)
theorem dX3_square_54 : decode cX3_square 54 = .ok (.iadd, 1) := tX3_square_ok (54, .iadd, 1) (List.mem_of_getElem? (i := 33) rfl)
theorem dX3_square_55 : decode cX3_square 55 = .ok (.laload, 1) := tX3_square_ok (55, .laload, 1) (List.mem_of_getElem? (i := 34) rfl)
theorem dX3_square_56 : decode cX3_square 56 = .ok (.aload_n 0, 1) := tX3_square_ok (56, .aload_n 0, 1) (List.mem_of_getElem? (i := 35) rfl)
theorem dX3_square_57 : decode cX3_square 57 = .ok (.getfield 33, 3) := tX3_square_ok (57, .getfield 33, 3) (List.mem_of_getElem? (i := 36) rfl)
theorem dX3_square_60 : decode cX3_square 60 = .ok (.iload_n 1, 1) := tX3_square_ok (60, .iload_n 1, 1) (List.mem_of_getElem? (i := 37) rfl)
theorem dX3_square_61 : decode cX3_square 61 = .ok (.laload, 1) := tX3_square_ok (61, .laload, 1) (List.mem_of_getElem? (i := 38) rfl)
theorem dX3_square_62 : decode cX3_square 62 = .ok (.aload_n 0, 1) := tX3_square_ok (62, .aload_n 0, 1) (List.mem_of_getElem? (i := 39) rfl)
theorem dX3_square_63 : decode cX3_square 63 = .ok (.getfield 33, 3) := tX3_square_ok (63, .getfield 33, 3) (List.mem_of_getElem? (i := 40) rfl)
theorem dX3_square_66 : decode cX3_square 66 = .ok (.iload_n 2, 1) := tX3_square_ok (66, .iload_n 2, 1) (List.mem_of_getElem? (i := 41) rfl)
theorem dX3_square_67 : decode cX3_square 67 = .ok (.laload, 1) := tX3_square_ok (67, .laload, 1) (List.mem_of_getElem? (i := 42) rfl)
theorem dX3_square_68 : decode cX3_square 68 = .ok (.lmul, 1) := tX3_square_ok (68, .lmul, 1) (List.mem_of_getElem? (i := 43) rfl)
theorem dX3_square_69 : decode cX3_square 69 = .ok (.ladd, 1) := tX3_square_ok (69, .ladd, 1) (List.mem_of_getElem? (i := 44) rfl)
theorem dX3_square_70 : decode cX3_square 70 = .ok (.ldc2_w 84, 3) := tX3_square_ok (70, .ldc2_w 84, 3) (List.mem_of_getElem? (i := 45) rfl)
theorem dX3_square_73 : decode cX3_square 73 = .ok (.lrem, 1) := tX3_square_ok (73, .lrem, 1) (List.mem_of_getElem? (i := 46) rfl)
theorem dX3_square_74 : decode cX3_square 74 = .ok (.lastore, 1) := tX3_square_ok (74, .lastore, 1) (List.mem_of_getElem? (i := 47) rfl)
theorem dX3_square_75 : decode cX3_square 75 = .ok (.iinc 2 1, 3) := tX3_square_ok (75, .iinc 2 1, 3) (List.mem_of_getElem? (i := 48) rfl)
theorem dX3_square_78 : decode cX3_square 78 = .ok (.goto (-45), 3) := tX3_square_ok (78, .goto (-45), 3) (List.mem_of_getElem? (i := 49) rfl)
theorem dX3_square_81 : decode cX3_square 81 = .ok (.iinc 1 1, 3) := tX3_square_ok (81, .iinc 1 1, 3) (List.mem_of_getElem? (i := 50) rfl)
theorem dX3_square_84 : decode cX3_square 84 = .ok (.goto (-61), 3) := tX3_square_ok (84, .goto (-61), 3) (List.mem_of_getElem? (i := 51) rfl)
theorem dX3_square_87 : decode cX3_square 87 = .ok (.aload_n 0, 1) := tX3_square_ok (87, .aload_n 0, 1) (List.mem_of_getElem? (i := 52) rfl)
theorem dX3_square_88 : decode cX3_square 88 = .ok (.iconst 2, 1) := tX3_square_ok (88, .iconst 2, 1) (List.mem_of_getElem? (i := 53) rfl)
theorem dX3_square_89 : decode cX3_square 89 = .ok (.aload_n 0, 1) := tX3_square_ok (89, .aload_n 0, 1) (List.mem_of_getElem? (i := 54) rfl)
theorem dX3_square_90 : decode cX3_square 90 = .ok (.getfield 53, 3) := tX3_square_ok (90, .getfield 53, 3) (List.mem_of_getElem? (i := 55) rfl)
theorem dX3_square_93 : decode cX3_square 93 = .ok (.imul, 1) := tX3_square_ok (93, .imul, 1) (List.mem_of_getElem? (i := 56) rfl)
theorem dX3_square_94 : decode cX3_square 94 = .ok (.iconst 2, 1) := tX3_square_ok (94, .iconst 2, 1) (List.mem_of_getElem? (i := 57) rfl)
theorem dX3_square_95 : decode cX3_square 95 = .ok (.isub, 1) := tX3_square_ok (95, .isub, 1) (List.mem_of_getElem? (i := 58) rfl)
theorem dX3_square_96 : decode cX3_square 96 = .ok (.invokevirtual 114, 3) := tX3_square_ok (96, .invokevirtual 114, 3) (List.mem_of_getElem? (i := 59) rfl)
theorem dX3_square_99 : decode cX3_square 99 = .ok (.return_, 1) := tX3_square_ok (99, .return_, 1) (List.mem_of_getElem? (i := 60) rfl)

def tX3_raise : List (Nat × Instr × Nat) := [
  (0, .aload_n 0, 1),
  (1, .getfield 36, 3),
  (4, .iconst 0, 1),
  (5, .lconst 0, 1),
  (6, .lastore, 1),
  (7, .iconst 0, 1),
  (8, .istore_n 1, 1),
  (9, .iload_n 1, 1),
  (10, .aload_n 0, 1),
  (11, .getfield 53, 3),
  (14, .if_icmp .ge 23, 3),
  (17, .aload_n 0, 1),
  (18, .getfield 36, 3),
  (21, .iload_n 1, 1),
  (22, .iconst 1, 1),
  (23, .iadd, 1),
  (24, .aload_n 0, 1),
  (25, .getfield 33, 3),
  (28, .iload_n 1, 1),
  (29, .laload, 1),
  (30, .lastore, 1),
  (31, .iinc 1 1, 3),
  (34, .goto (-25), 3),
  (37, .aload_n 0, 1),
  (38, .aload_n 0, 1),
  (39, .getfield 53, 3),
  (42, .invokevirtual 114, 3),
  (45, .return_, 1)]
set_option maxRecDepth 100000 in
theorem tX3_raise_ok : ∀ q ∈ tX3_raise, decode cX3_raise q.1 = .ok q.2 := by decide +kernel
theorem dX3_raise_0 : decode cX3_raise 0 = .ok (.aload_n 0, 1) := tX3_raise_ok (0, .aload_n 0, 1) (List.mem_of_getElem? (i := 0) rfl)
theorem dX3_raise_1 : decode cX3_raise 1 = .ok (.getfield 36, 3) := tX3_raise_ok (1, .getfield 36, 3) (List.mem_of_getElem? (i := 1) rfl)
theorem dX3_raise_4 : decode cX3_raise 4 = .ok (.iconst 0, 1) := tX3_raise_ok (4, .iconst 0, 1) (List.mem_of_getElem? (i := 2) rfl)
theorem dX3_raise_5 : decode cX3_raise 5 = .ok (.lconst 0, 1) := tX3_raise_ok (5, .lconst 0, 1) (List.mem_of_getElem? (i := 3) rfl)
theorem dX3_raise_6 : decode cX3_raise 6 = .ok (.lastore, 1) := tX3_raise_ok (6, .lastore, 1) (List.mem_of_getElem? (i := 4) rfl)
theorem dX3_raise_7 : decode cX3_raise 7 = .ok (.iconst 0, 1) := tX3_raise_ok (7, .iconst 0, 1) (List.mem_of_getElem? (i := 5) rfl)
theorem dX3_raise_8 : decode cX3_raise 8 = .ok (.istore_n 1, 1) := tX3_raise_ok (8, .istore_n 1, 1) (List.mem_of_getElem? (i := 6) rfl)
theorem dX3_raise_9 : decode cX3_raise 9 = .ok (.iload_n 1, 1) := tX3_raise_ok (9, .iload_n 1, 1) (List.mem_of_getElem? (i := 7) rfl)
theorem dX3_raise_10 : decode cX3_raise 10 = .ok (.aload_n 0, 1) := tX3_raise_ok (10, .aload_n 0, 1) (List.mem_of_getElem? (i := 8) rfl)
theorem dX3_raise_11 : decode cX3_raise 11 = .ok (.getfield 53, 3) := tX3_raise_ok (11, .getfield 53, 3) (List.mem_of_getElem? (i := 9) rfl)
theorem dX3_raise_14 : decode cX3_raise 14 = .ok (.if_icmp .ge 23, 3) := tX3_raise_ok (14, .if_icmp .ge 23, 3) (List.mem_of_getElem? (i := 10) rfl)
theorem dX3_raise_17 : decode cX3_raise 17 = .ok (.aload_n 0, 1) := tX3_raise_ok (17, .aload_n 0, 1) (List.mem_of_getElem? (i := 11) rfl)
theorem dX3_raise_18 : decode cX3_raise 18 = .ok (.getfield 36, 3) := tX3_raise_ok (18, .getfield 36, 3) (List.mem_of_getElem? (i := 12) rfl)
theorem dX3_raise_21 : decode cX3_raise 21 = .ok (.iload_n 1, 1) := tX3_raise_ok (21, .iload_n 1, 1) (List.mem_of_getElem? (i := 13) rfl)
theorem dX3_raise_22 : decode cX3_raise 22 = .ok (.iconst 1, 1) := tX3_raise_ok (22, .iconst 1, 1) (List.mem_of_getElem? (i := 14) rfl)
theorem dX3_raise_23 : decode cX3_raise 23 = .ok (.iadd, 1) := tX3_raise_ok (23, .iadd, 1) (List.mem_of_getElem? (i := 15) rfl)
theorem dX3_raise_24 : decode cX3_raise 24 = .ok (.aload_n 0, 1) := tX3_raise_ok (24, .aload_n 0, 1) (List.mem_of_getElem? (i := 16) rfl)
theorem dX3_raise_25 : decode cX3_raise 25 = .ok (.getfield 33, 3) := tX3_raise_ok (25, .getfield 33, 3) (List.mem_of_getElem? (i := 17) rfl)
theorem dX3_raise_28 : decode cX3_raise 28 = .ok (.iload_n 1, 1) := tX3_raise_ok (28, .iload_n 1, 1) (List.mem_of_getElem? (i := 18) rfl)
theorem dX3_raise_29 : decode cX3_raise 29 = .ok (.laload, 1) := tX3_raise_ok (29, .laload, 1) (List.mem_of_getElem? (i := 19) rfl)
theorem dX3_raise_30 : decode cX3_raise 30 = .ok (.lastore, 1) := tX3_raise_ok (30, .lastore, 1) (List.mem_of_getElem? (i := 20) rfl)
theorem dX3_raise_31 : decode cX3_raise 31 = .ok (.iinc 1 1, 3) := tX3_raise_ok (31, .iinc 1 1, 3) (List.mem_of_getElem? (i := 21) rfl)
theorem dX3_raise_34 : decode cX3_raise 34 = .ok (.goto (-25), 3) := tX3_raise_ok (34, .goto (-25), 3) (List.mem_of_getElem? (i := 22) rfl)
theorem dX3_raise_37 : decode cX3_raise 37 = .ok (.aload_n 0, 1) := tX3_raise_ok (37, .aload_n 0, 1) (List.mem_of_getElem? (i := 23) rfl)
theorem dX3_raise_38 : decode cX3_raise 38 = .ok (.aload_n 0, 1) := tX3_raise_ok (38, .aload_n 0, 1) (List.mem_of_getElem? (i := 24) rfl)
theorem dX3_raise_39 : decode cX3_raise 39 = .ok (.getfield 53, 3) := tX3_raise_ok (39, .getfield 53, 3) (List.mem_of_getElem? (i := 25) rfl)
theorem dX3_raise_42 : decode cX3_raise 42 = .ok (.invokevirtual 114, 3) := tX3_raise_ok (42, .invokevirtual 114, 3) (List.mem_of_getElem? (i := 26) rfl)
theorem dX3_raise_45 : decode cX3_raise 45 = .ok (.return_, 1) := tX3_raise_ok (45, .return_, 1) (List.mem_of_getElem? (i := 27) rfl)

def tX3_reduce : List (Nat × Instr × Nat) := [
  (0, .iload_n 1, 1),
  (1, .istore_n 2, 1),
  (2, .iload_n 2, 1),
  (3, .aload_n 0, 1),
  (4, .getfield 53, 3),
  (7, .if_icmp .lt 59, 3),
  (10, .iconst 1, 1),
  (11, .istore_n 3, 1),
  (12, .iload_n 3, 1),
  (13, .aload_n 0, 1),
  (14, .getfield 53, 3),
  (17, .if_icmp .gt 43, 3),
  (20, .aload_n 0, 1),
  (21, .getfield 36, 3),
  (24, .iload_n 2, 1),
  (25, .iload_n 3, 1),
  (26, .isub, 1),
  (27, .aload_n 0, 1),
  (28, .getfield 36, 3),
  (31, .iload_n 2, 1),
  (32, .iload_n 3, 1),
  (33, .isub, 1),
  (34, .laload, 1),
  (35, .aload_n 0, 1),
  (36, .getfield 36, 3),
  (39, .iload_n 2, 1),
  (40, .laload, 1),
  (41, .aload_n 0, 1),
  (42, .getfield 30, 3),
  (45, .iload_n 3, 1),
  (46, .laload, 1),
  (47, .lmul, 1),
  (48, .ladd, 1),
  (49, .ldc2_w 84, 3),
  (52, .lrem, 1),
  (53, .lastore, 1),
  (54, .iinc 3 1, 3),
  (57, .goto (-45), 3),
  (60, .iinc 2 (-1), 3),
  (63, .goto (-61), 3),
  (66, .iconst 0, 1),
  (67, .istore_n 2, 1),
  (68, .iload_n 2, 1),
  (69, .aload_n 0, 1),
  (70, .getfield 53, 3),
  (73, .if_icmp .ge 21, 3),
  (76, .aload_n 0, 1),
  (77, .getfield 33, 3),
  (80, .iload_n 2, 1),
  (81, .aload_n 0, 1),
  (82, .getfield 36, 3),
  (85, .iload_n 2, 1),
  (86, .laload, 1),
  (87, .lastore, 1),
  (88, .iinc 2 1, 3),
  (91, .goto (-23), 3),
  (94, .return_, 1)]
set_option maxRecDepth 100000 in
theorem tX3_reduce_ok : ∀ q ∈ tX3_reduce, decode cX3_reduce q.1 = .ok q.2 := by decide +kernel
theorem dX3_reduce_0 : decode cX3_reduce 0 = .ok (.iload_n 1, 1) := tX3_reduce_ok (0, .iload_n 1, 1) (List.mem_of_getElem? (i := 0) rfl)
theorem dX3_reduce_1 : decode cX3_reduce 1 = .ok (.istore_n 2, 1) := tX3_reduce_ok (1, .istore_n 2, 1) (List.mem_of_getElem? (i := 1) rfl)
theorem dX3_reduce_2 : decode cX3_reduce 2 = .ok (.iload_n 2, 1) := tX3_reduce_ok (2, .iload_n 2, 1) (List.mem_of_getElem? (i := 2) rfl)
theorem dX3_reduce_3 : decode cX3_reduce 3 = .ok (.aload_n 0, 1) := tX3_reduce_ok (3, .aload_n 0, 1) (List.mem_of_getElem? (i := 3) rfl)
theorem dX3_reduce_4 : decode cX3_reduce 4 = .ok (.getfield 53, 3) := tX3_reduce_ok (4, .getfield 53, 3) (List.mem_of_getElem? (i := 4) rfl)
theorem dX3_reduce_7 : decode cX3_reduce 7 = .ok (.if_icmp .lt 59, 3) := tX3_reduce_ok (7, .if_icmp .lt 59, 3) (List.mem_of_getElem? (i := 5) rfl)
theorem dX3_reduce_10 : decode cX3_reduce 10 = .ok (.iconst 1, 1) := tX3_reduce_ok (10, .iconst 1, 1) (List.mem_of_getElem? (i := 6) rfl)
theorem dX3_reduce_11 : decode cX3_reduce 11 = .ok (.istore_n 3, 1) := tX3_reduce_ok (11, .istore_n 3, 1) (List.mem_of_getElem? (i := 7) rfl)
theorem dX3_reduce_12 : decode cX3_reduce 12 = .ok (.iload_n 3, 1) := tX3_reduce_ok (12, .iload_n 3, 1) (List.mem_of_getElem? (i := 8) rfl)
theorem dX3_reduce_13 : decode cX3_reduce 13 = .ok (.aload_n 0, 1) := tX3_reduce_ok (13, .aload_n 0, 1) (List.mem_of_getElem? (i := 9) rfl)
theorem dX3_reduce_14 : decode cX3_reduce 14 = .ok (.getfield 53, 3) := tX3_reduce_ok (14, .getfield 53, 3) (List.mem_of_getElem? (i := 10) rfl)
theorem dX3_reduce_17 : decode cX3_reduce 17 = .ok (.if_icmp .gt 43, 3) := tX3_reduce_ok (17, .if_icmp .gt 43, 3) (List.mem_of_getElem? (i := 11) rfl)
theorem dX3_reduce_20 : decode cX3_reduce 20 = .ok (.aload_n 0, 1) := tX3_reduce_ok (20, .aload_n 0, 1) (List.mem_of_getElem? (i := 12) rfl)
theorem dX3_reduce_21 : decode cX3_reduce 21 = .ok (.getfield 36, 3) := tX3_reduce_ok (21, .getfield 36, 3) (List.mem_of_getElem? (i := 13) rfl)
theorem dX3_reduce_24 : decode cX3_reduce 24 = .ok (.iload_n 2, 1) := tX3_reduce_ok (24, .iload_n 2, 1) (List.mem_of_getElem? (i := 14) rfl)
theorem dX3_reduce_25 : decode cX3_reduce 25 = .ok (.iload_n 3, 1) := tX3_reduce_ok (25, .iload_n 3, 1) (List.mem_of_getElem? (i := 15) rfl)
theorem dX3_reduce_26 : decode cX3_reduce 26 = .ok (.isub, 1) := tX3_reduce_ok (26, .isub, 1) (List.mem_of_getElem? (i := 16) rfl)
theorem dX3_reduce_27 : decode cX3_reduce 27 = .ok (.aload_n 0, 1) := tX3_reduce_ok (27, .aload_n 0, 1) (List.mem_of_getElem? (i := 17) rfl)
theorem dX3_reduce_28 : decode cX3_reduce 28 = .ok (.getfield 36, 3) := tX3_reduce_ok (28, .getfield 36, 3) (List.mem_of_getElem? (i := 18) rfl)
theorem dX3_reduce_31 : decode cX3_reduce 31 = .ok (.iload_n 2, 1) := tX3_reduce_ok (31, .iload_n 2, 1) (List.mem_of_getElem? (i := 19) rfl)
theorem dX3_reduce_32 : decode cX3_reduce 32 = .ok (.iload_n 3, 1) := tX3_reduce_ok (32, .iload_n 3, 1) (List.mem_of_getElem? (i := 20) rfl)
theorem dX3_reduce_33 : decode cX3_reduce 33 = .ok (.isub, 1) := tX3_reduce_ok (33, .isub, 1) (List.mem_of_getElem? (i := 21) rfl)
theorem dX3_reduce_34 : decode cX3_reduce 34 = .ok (.laload, 1) := tX3_reduce_ok (34, .laload, 1) (List.mem_of_getElem? (i := 22) rfl)
theorem dX3_reduce_35 : decode cX3_reduce 35 = .ok (.aload_n 0, 1) := tX3_reduce_ok (35, .aload_n 0, 1) (List.mem_of_getElem? (i := 23) rfl)
theorem dX3_reduce_36 : decode cX3_reduce 36 = .ok (.getfield 36, 3) := tX3_reduce_ok (36, .getfield 36, 3) (List.mem_of_getElem? (i := 24) rfl)
theorem dX3_reduce_39 : decode cX3_reduce 39 = .ok (.iload_n 2, 1) := tX3_reduce_ok (39, .iload_n 2, 1) (List.mem_of_getElem? (i := 25) rfl)
theorem dX3_reduce_40 : decode cX3_reduce 40 = .ok (.laload, 1) := tX3_reduce_ok (40, .laload, 1) (List.mem_of_getElem? (i := 26) rfl)
theorem dX3_reduce_41 : decode cX3_reduce 41 = .ok (.aload_n 0, 1) := tX3_reduce_ok (41, .aload_n 0, 1) (List.mem_of_getElem? (i := 27) rfl)
theorem dX3_reduce_42 : decode cX3_reduce 42 = .ok (.getfield 30, 3) := tX3_reduce_ok (42, .getfield 30, 3) (List.mem_of_getElem? (i := 28) rfl)
theorem dX3_reduce_45 : decode cX3_reduce 45 = .ok (.iload_n 3, 1) := tX3_reduce_ok (45, .iload_n 3, 1) (List.mem_of_getElem? (i := 29) rfl)
theorem dX3_reduce_46 : decode cX3_reduce 46 = .ok (.laload, 1) := tX3_reduce_ok (46, .laload, 1) (List.mem_of_getElem? (i := 30) rfl)
theorem dX3_reduce_47 : decode cX3_reduce 47 = .ok (.lmul, 1) := tX3_reduce_ok (47, .lmul, 1) (List.mem_of_getElem? (i := 31) rfl)
theorem dX3_reduce_48 : decode cX3_reduce 48 = .ok (.ladd, 1) := tX3_reduce_ok (48, .ladd, 1) (List.mem_of_getElem? (i := 32) rfl)
theorem dX3_reduce_49 : decode cX3_reduce 49 = .ok (.ldc2_w 84, 3) := tX3_reduce_ok (49, .ldc2_w 84, 3) (List.mem_of_getElem? (i := 33) rfl)
theorem dX3_reduce_52 : decode cX3_reduce 52 = .ok (.lrem, 1) := tX3_reduce_ok (52, .lrem, 1) (List.mem_of_getElem? (i := 34) rfl)
theorem dX3_reduce_53 : decode cX3_reduce 53 = .ok (.lastore, 1) := tX3_reduce_ok (53, .lastore, 1) (List.mem_of_getElem? (i := 35) rfl)
theorem dX3_reduce_54 : decode cX3_reduce 54 = .ok (.iinc 3 1, 3) := tX3_reduce_ok (54, .iinc 3 1, 3) (List.mem_of_getElem? (i := 36) rfl)
theorem dX3_reduce_57 : decode cX3_reduce 57 = .ok (.goto (-45), 3) := tX3_reduce_ok (57, .goto (-45), 3) (List.mem_of_getElem? (i := 37) rfl)
theorem dX3_reduce_60 : decode cX3_reduce 60 = .ok (.iinc 2 (-1), 3) := tX3_reduce_ok (60, .iinc 2 (-1), 3) (List.mem_of_getElem? (i := 38) rfl)
theorem dX3_reduce_63 : decode cX3_reduce 63 = .ok (.goto (-61), 3) := tX3_reduce_ok (63, .goto (-61), 3) (List.mem_of_getElem? (i := 39) rfl)
theorem dX3_reduce_66 : decode cX3_reduce 66 = .ok (.iconst 0, 1) := tX3_reduce_ok (66, .iconst 0, 1) (List.mem_of_getElem? (i := 40) rfl)
theorem dX3_reduce_67 : decode cX3_reduce 67 = .ok (.istore_n 2, 1) := tX3_reduce_ok (67, .istore_n 2, 1) (List.mem_of_getElem? (i := 41) rfl)
theorem dX3_reduce_68 : decode cX3_reduce 68 = .ok (.iload_n 2, 1) := tX3_reduce_ok (68, .iload_n 2, 1) (List.mem_of_getElem? (i := 42) rfl)
theorem dX3_reduce_69 : decode cX3_reduce 69 = .ok (.aload_n 0, 1) := tX3_reduce_ok (69, .aload_n 0, 1) (List.mem_of_getElem? (i := 43) rfl)
theorem dX3_reduce_70 : decode cX3_reduce 70 = .ok (.getfield 53, 3) := tX3_reduce_ok (70, .getfield 53, 3) (List.mem_of_getElem? (i := 44) rfl)
theorem dX3_reduce_73 : decode cX3_reduce 73 = .ok (.if_icmp .ge 21, 3) := tX3_reduce_ok (73, .if_icmp .ge 21, 3) (List.mem_of_getElem? (i := 45) rfl)
theorem dX3_reduce_76 : decode cX3_reduce 76 = .ok (.aload_n 0, 1) := tX3_reduce_ok (76, .aload_n 0, 1) (List.mem_of_getElem? (i := 46) rfl)
theorem dX3_reduce_77 : decode cX3_reduce 77 = .ok (.getfield 33, 3) := tX3_reduce_ok (77, .getfield 33, 3) (List.mem_of_getElem? (i := 47) rfl)
theorem dX3_reduce_80 : decode cX3_reduce 80 = .ok (.iload_n 2, 1) := tX3_reduce_ok (80, .iload_n 2, 1) (List.mem_of_getElem? (i := 48) rfl)
theorem dX3_reduce_81 : decode cX3_reduce 81 = .ok (.aload_n 0, 1) := tX3_reduce_ok (81, .aload_n 0, 1) (List.mem_of_getElem? (i := 49) rfl)
theorem dX3_reduce_82 : decode cX3_reduce 82 = .ok (.getfield 36, 3) := tX3_reduce_ok (82, .getfield 36, 3) (List.mem_of_getElem? (i := 50) rfl)
theorem dX3_reduce_85 : decode cX3_reduce 85 = .ok (.iload_n 2, 1) := tX3_reduce_ok (85, .iload_n 2, 1) (List.mem_of_getElem? (i := 51) rfl)
theorem dX3_reduce_86 : decode cX3_reduce 86 = .ok (.laload, 1) := tX3_reduce_ok (86, .laload, 1) (List.mem_of_getElem? (i := 52) rfl)
theorem dX3_reduce_87 : decode cX3_reduce 87 = .ok (.lastore, 1) := tX3_reduce_ok (87, .lastore, 1) (List.mem_of_getElem? (i := 53) rfl)
theorem dX3_reduce_88 : decode cX3_reduce 88 = .ok (.iinc 2 1, 3) := tX3_reduce_ok (88, .iinc 2 1, 3) (List.mem_of_getElem? (i := 54) rfl)
theorem dX3_reduce_91 : decode cX3_reduce 91 = .ok (.goto (-23), 3) := tX3_reduce_ok (91, .goto (-23), 3) (List.mem_of_getElem? (i := 55) rfl)
theorem dX3_reduce_94 : decode cX3_reduce 94 = .ok (.return_, 1) := tX3_reduce_ok (94, .return_, 1) (List.mem_of_getElem? (i := 56) rfl)

def tX4_init : List (Nat × Instr × Nat) := [
  (0, .aload_n 0, 1),
  (1, .invokespecial 3, 3),
  (4, .aload_n 0, 1),
  (5, .bipush 8, 2),
  (7, .newarray .int, 2),
  (9, .dup, 1),
  (10, .iconst 0, 1),
  (11, .iconst 1, 1),
  (12, .iastore, 1),
  (13, .dup, 1),
  (14, .iconst 1, 1),
  (15, .iconst 0, 1),
  (16, .iastore, 1),
  (17, .dup, 1),
  (18, .iconst 2, 1),
  (19, .iconst (-1), 1),
  (20, .iastore, 1),
  (21, .dup, 1),
  (22, .iconst 3, 1),
  (23, .iconst 0, 1),
  (24, .iastore, 1),
  (25, .dup, 1),
  (26, .iconst 4, 1),
  (27, .iconst 0, 1),
  (28, .iastore, 1),
  (29, .dup, 1),
  (30, .iconst 5, 1),
  (31, .iconst 0, 1),
  (32, .iastore, 1),
  (33, .dup, 1),
  (34, .bipush 6, 2),
  (36, .iconst 0, 1),
  (37, .iastore, 1),
  (38, .dup, 1),
  (39, .bipush 7, 2),
  (41, .iconst 0, 1),
  (42, .iastore, 1),
  (43, .putfield 9, 3),
  (46, .aload_n 0, 1),
  (47, .bipush 8, 2),
  (49, .newarray .int, 2),
  (51, .dup, 1),
  (52, .iconst 0, 1),
  (53, .iconst 0, 1),
  (54, .iastore, 1),
  (55, .dup, 1),
  (56, .iconst 1, 1),
  (57, .iconst 1, 1),
  (58, .iastore, 1),
  (59, .dup, 1),
  (60, .iconst 2, 1),
  (61, .iconst 0, 1),
  (62, .iastore, 1),
  (63, .dup, 1),
  (64, .iconst 3, 1),
  (65, .iconst (-1), 1),
  (66, .iastore, 1),
  (67, .dup, 1),
  (68, .iconst 4, 1),
  (69, .iconst 0, 1),
  (70, .iastore, 1),
  (71, .dup, 1),
  (72, .iconst 5, 1),
  (73, .iconst 0, 1),
  (74, .iastore, 1),
  (75, .dup, 1),
  (76, .bipush 6, 2),
  (78, .iconst 0, 1),
  (79, .iastore, 1),
  (80, .dup, 1),
  (81, .bipush 7, 2),
  (83, .iconst 0, 1),
  (84, .iastore, 1),
  (85, .putfield 15, 3),
  (88, .aload_n 0, 1),
  (89, .bipush 8, 2),
  (91, .newarray .int, 2),
  (93, .dup, 1),
  (94, .iconst 0, 1),
  (95, .iconst 1, 1),
  (96, .iastore, 1),
  (97, .dup, 1),
  (98, .iconst 1, 1),
  (99, .iconst 1, 1),
  (100, .iastore, 1),
  (101, .dup, 1),
  (102, .iconst 2, 1),
  (103, .iconst 1, 1),
  (104, .iastore, 1),
  (105, .dup, 1),
  (106, .iconst 3, 1),
  (107, .iconst 1, 1),
  (108, .iastore, 1),
  (109, .dup, 1),
  (110, .iconst 4, 1),
  (111, .iconst 1, 1),
  (112, .iastore, 1),
  (113, .dup, 1),
  (114, .iconst 5, 1),
  (115, .iconst 1, 1),
  (116, .iastore, 1),
  (117, .dup, 1),
  (118, .bipush 6, 2),
  (120, .iconst 1, 1),
  (121, .iastore, 1),
  (122, .dup, 1),
  (123, .bipush 7, 2),
  (125, .iconst 1, 1),
  (126, .iastore, 1),
  (127, .putfield 18, 3),
  (130, .aload_n 0, 1),
  (131, .bipush 8, 2),
  (133, .newarray .int, 2),
  (135, .dup, 1),
  (136, .iconst 0, 1),
  (137, .iconst 1, 1),
  (138, .iastore, 1),
  (139, .dup, 1),
  (140, .iconst 1, 1),
  (141, .bipush 67, 2),
  (143, .iastore, 1),
  (144, .dup, 1),
  (145, .iconst 2, 1),
  (146, .iconst (-1), 1),
  (147, .iastore, 1),
  (148, .dup, 1),
  (149, .iconst 3, 1),
  (150, .bipush (-67), 2),
  (152, .iastore, 1),
  (153, .dup, 1),
  (154, .iconst 4, 1),
  (155, .iconst 0, 1),
  (156, .iastore, 1),
  (157, .dup, 1),
  (158, .iconst 5, 1),
  (159, .iconst 0, 1),
  (160, .iastore, 1),
  (161, .dup, 1),
  (162, .bipush 6, 2),
  (164, .iconst 0, 1),
  (165, .iastore, 1),
  (166, .dup, 1),
  (167, .bipush 7, 2),
  (169, .iconst 0, 1),
  (170, .iastore, 1),
  (171, .putfield 21, 3),
  (174, .aload_n 0, 1),
  (175, .iconst 4, 1),
  (176, .putfield 24, 3),
  (179, .aload_n 0, 1),
  (180, .iconst 5, 1),
  (181, .putfield 28, 3),
  (184, .aload_n 0, 1),
  (185, .bipush 6, 2),
  (187, .putfield 31, 3),
  (190, .aload_n 0, 1),
  (191, .sipush 4489, 3),
  (194, .newarray .byte, 2),
  (196, .putfield 34, 3),
  (199, .aload_n 0, 1),
  (200, .sipush 4489, 3),
  (203, .newarray .byte, 2),
  (205, .putfield 38, 3),
  (208, .aload_n 0, 1),
  (209, .invokevirtual 41, 3),
  (212, .return_, 1)]
set_option maxRecDepth 100000 in
theorem tX4_init_ok : ∀ q ∈ tX4_init, decode cX4_init q.1 = .ok q.2 := by decide +kernel
theorem dX4_init_0 : decode cX4_init 0 = .ok (.aload_n 0, 1) := tX4_init_ok (0, .aload_n 0, 1) (List.mem_of_getElem? (i := 0) rfl)
theorem dX4_init_1 : decode cX4_init 1 = .ok (.invokespecial 3, 3) := tX4_init_ok (1, .invokespecial 3, 3) (List.mem_of_getElem? (i := 1) rfl)
theorem dX4_init_4 : decode cX4_init 4 = .ok (.aload_n 0, 1) := tX4_init_ok (4, .aload_n 0, 1) (List.mem_of_getElem? (i := 2) rfl)
theorem dX4_init_5 : decode cX4_init 5 = .ok (.bipush 8, 2) := tX4_init_ok (5, .bipush 8, 2) (List.mem_of_getElem? (i := 3) rfl)
theorem dX4_init_7 : decode cX4_init 7 = .ok (.newarray .int, 2) := tX4_init_ok (7, .newarray .int, 2) (List.mem_of_getElem? (i := 4) rfl)
theorem dX4_init_9 : decode cX4_init 9 = .ok (.dup, 1) := tX4_init_ok (9, .dup, 1) (List.mem_of_getElem? (i := 5) rfl)
theorem dX4_init_10 : decode cX4_init 10 = .ok (.iconst 0, 1) := tX4_init_ok (10, .iconst 0, 1) (List.mem_of_getElem? (i := 6) rfl)
theorem dX4_init_11 : decode cX4_init 11 = .ok (.iconst 1, 1) := tX4_init_ok (11, .iconst 1, 1) (List.mem_of_getElem? (i := 7) rfl)
theorem dX4_init_12 : decode cX4_init 12 = .ok (.iastore, 1) := tX4_init_ok (12, .iastore, 1) (List.mem_of_getElem? (i := 8) rfl)
theorem dX4_init_13 : decode cX4_init 13 = .ok (.dup, 1) := tX4_init_ok (13, .dup, 1) (List.mem_of_getElem? (i := 9) rfl)
theorem dX4_init_14 : decode cX4_init 14 = .ok (.iconst 1, 1) := tX4_init_ok (14, .iconst 1, 1) (List.mem_of_getElem? (i := 10) rfl)
theorem dX4_init_15 : decode cX4_init 15 = .ok (.iconst 0, 1) := tX4_init_ok (15, .iconst 0, 1) (List.mem_of_getElem? (i := 11) rfl)
theorem dX4_init_16 : decode cX4_init 16 = .ok (.iastore, 1) := tX4_init_ok (16, .iastore, 1) (List.mem_of_getElem? (i := 12) rfl)
theorem dX4_init_17 : decode cX4_init 17 = .ok (.dup, 1) := tX4_init_ok (17, .dup, 1) (List.mem_of_getElem? (i := 13) rfl)
theorem dX4_init_18 : decode cX4_init 18 = .ok (.iconst 2, 1) := tX4_init_ok (18, .iconst 2, 1) (List.mem_of_getElem? (i := 14) rfl)
theorem dX4_init_19 : decode cX4_init 19 = .ok (.iconst (-1), 1) := tX4_init_ok (19, .iconst (-1), 1) (List.mem_of_getElem? (i := 15) rfl)
theorem dX4_init_20 : decode cX4_init 20 = .ok (.iastore, 1) := tX4_init_ok (20, .iastore, 1) (List.mem_of_getElem? (i := 16) rfl)
theorem dX4_init_21 : decode cX4_init 21 = .ok (.dup, 1) := tX4_init_ok (21, .dup, 1) (List.mem_of_getElem? (i := 17) rfl)
theorem dX4_init_22 : decode cX4_init 22 = .ok (.iconst 3, 1) := tX4_init_ok (22, .iconst 3, 1) (List.mem_of_getElem? (i := 18) rfl)
theorem dX4_init_23 : decode cX4_init 23 = .ok (.iconst 0, 1) := tX4_init_ok (23, .iconst 0, 1) (List.mem_of_getElem? (i := 19) rfl)
theorem dX4_init_24 : decode cX4_init 24 = .ok (.iastore, 1) := tX4_init_ok (24, .iastore, 1) (List.mem_of_getElem? (i := 20) rfl)
theorem dX4_init_25 : decode cX4_init 25 = .ok (.dup, 1) := tX4_init_ok (25, .dup, 1) (List.mem_of_getElem? (i := 21) rfl)
theorem dX4_init_26 : decode cX4_init 26 = .ok (.iconst 4, 1) := tX4_init_ok (26, .iconst 4, 1) (List.mem_of_getElem? (i := 22) rfl)
theorem dX4_init_27 : decode cX4_init 27 = .ok (.iconst 0, 1) := tX4_init_ok (27, .iconst 0, 1) (List.mem_of_getElem? (i := 23) rfl)
theorem dX4_init_28 : decode cX4_init 28 = .ok (.iastore, 1) := tX4_init_ok (28, .iastore, 1) (List.mem_of_getElem? (i := 24) rfl)
theorem dX4_init_29 : decode cX4_init 29 = .ok (.dup, 1) := tX4_init_ok (29, .dup, 1) (List.mem_of_getElem? (i := 25) rfl)
theorem dX4_init_30 : decode cX4_init 30 = .ok (.iconst 5, 1) := tX4_init_ok (30, .iconst 5, 1) (List.mem_of_getElem? (i := 26) rfl)
theorem dX4_init_31 : decode cX4_init 31 = .ok (.iconst 0, 1) := tX4_init_ok (31, .iconst 0, 1) (List.mem_of_getElem? (i := 27) rfl)
theorem dX4_init_32 : decode cX4_init 32 = .ok (.iastore, 1) := tX4_init_ok (32, .iastore, 1) (List.mem_of_getElem? (i := 28) rfl)
theorem dX4_init_33 : decode cX4_init 33 = .ok (.dup, 1) := tX4_init_ok (33, .dup, 1) (List.mem_of_getElem? (i := 29) rfl)
theorem dX4_init_34 : decode cX4_init 34 = .ok (.bipush 6, 2) := tX4_init_ok (34, .bipush 6, 2) (List.mem_of_getElem? (i := 30) rfl)
theorem dX4_init_36 : decode cX4_init 36 = .ok (.iconst 0, 1) := tX4_init_ok (36, .iconst 0, 1) (List.mem_of_getElem? (i := 31) rfl)
theorem dX4_init_37 : decode cX4_init 37 = .ok (.iastore, 1) := tX4_init_ok (37, .iastore, 1) (List.mem_of_getElem? (i := 32) rfl)
theorem dX4_init_38 : decode cX4_init 38 = .ok (.dup, 1) := tX4_init_ok (38, .dup, 1) (List.mem_of_getElem? (i := 33) rfl)
theorem dX4_init_39 : decode cX4_init 39 = .ok (.bipush 7, 2) := tX4_init_ok (39, .bipush 7, 2) (List.mem_of_getElem? (i := 34) rfl)
theorem dX4_init_41 : decode cX4_init 41 = .ok (.iconst 0, 1) := tX4_init_ok (41, .iconst 0, 1) (List.mem_of_getElem? (i := 35) rfl)
theorem dX4_init_42 : decode cX4_init 42 = .ok (.iastore, 1) := tX4_init_ok (42, .iastore, 1) (List.mem_of_getElem? (i := 36) rfl)
theorem dX4_init_43 : decode cX4_init 43 = .ok (.putfield 9, 3) := tX4_init_ok (43, .putfield 9, 3) (List.mem_of_getElem? (i := 37) rfl)
theorem dX4_init_46 : decode cX4_init 46 = .ok (.aload_n 0, 1) := tX4_init_ok (46, .aload_n 0, 1) (List.mem_of_getElem? (i := 38) rfl)
theorem dX4_init_47 : decode cX4_init 47 = .ok (.bipush 8, 2) := tX4_init_ok (47, .bipush 8, 2) (List.mem_of_getElem? (i := 39) rfl)
theorem dX4_init_49 : decode cX4_init 49 = .ok (.newarray .int, 2) := tX4_init_ok (49, .newarray .int, 2) (List.mem_of_getElem? (i := 40) rfl)
theorem dX4_init_51 : decode cX4_init 51 = .ok (.dup, 1) := tX4_init_ok (51, .dup, 1) (List.mem_of_getElem? (i := 41) rfl)
theorem dX4_init_52 : decode cX4_init 52 = .ok (.iconst 0, 1) := tX4_init_ok (52, .iconst 0, 1) (List.mem_of_getElem? (i := 42) rfl)
theorem dX4_init_53 : decode cX4_init 53 = .ok (.iconst 0, 1) := tX4_init_ok (53, .iconst 0, 1) (List.mem_of_getElem? (i := 43) rfl)
theorem dX4_init_54 : decode cX4_init 54 = .ok (.iastore, 1) := tX4_init_ok (54, .iastore, 1) (List.mem_of_getElem? (i := 44) rfl)
theorem dX4_init_55 : decode cX4_init 55 = .ok (.dup, 1) := tX4_init_ok (55, .dup, 1) (List.mem_of_getElem? (i := 45) rfl)
theorem dX4_init_56 : decode cX4_init 56 = .ok (.iconst 1, 1) := tX4_init_ok (56, .iconst 1, 1) (List.mem_of_getElem? (i := 46) rfl)
theorem dX4_init_57 : decode cX4_init 57 = .ok (.iconst 1, 1) := tX4_init_ok (57, .iconst 1, 1) (List.mem_of_getElem? (i := 47) rfl)
theorem dX4_init_58 : decode cX4_init 58 = .ok (.iastore, 1) := tX4_init_ok (58, .iastore, 1) (List.mem_of_getElem? (i := 48) rfl)
theorem dX4_init_59 : decode cX4_init 59 = .ok (.dup, 1) := tX4_init_ok (59, .dup, 1) (List.mem_of_getElem? (i := 49) rfl)
theorem dX4_init_60 : decode cX4_init 60 = .ok (.iconst 2, 1) := tX4_init_ok (60, .iconst 2, 1) (List.mem_of_getElem? (i := 50) rfl)
theorem dX4_init_61 : decode cX4_init 61 = .ok (.iconst 0, 1) := tX4_init_ok (61, .iconst 0, 1) (List.mem_of_getElem? (i := 51) rfl)
theorem dX4_init_62 : decode cX4_init 62 = .ok (.iastore, 1) := tX4_init_ok (62, .iastore, 1) (List.mem_of_getElem? (i := 52) rfl)
theorem dX4_init_63 : decode cX4_init 63 = .ok (.dup, 1) := tX4_init_ok (63, .dup, 1) (List.mem_of_getElem? (i := 53) rfl)
theorem dX4_init_64 : decode cX4_init 64 = .ok (.iconst 3, 1) := tX4_init_ok (64, .iconst 3, 1) (List.mem_of_getElem? (i := 54) rfl)
theorem dX4_init_65 : decode cX4_init 65 = .ok (.iconst (-1), 1) := tX4_init_ok (65, .iconst (-1), 1) (List.mem_of_getElem? (i := 55) rfl)
theorem dX4_init_66 : decode cX4_init 66 = .ok (.iastore, 1) := tX4_init_ok (66, .iastore, 1) (List.mem_of_getElem? (i := 56) rfl)
theorem dX4_init_67 : decode cX4_init 67 = .ok (.dup, 1) := tX4_init_ok (67, .dup, 1) (List.mem_of_getElem? (i := 57) rfl)
theorem dX4_init_68 : decode cX4_init 68 = .ok (.iconst 4, 1) := tX4_init_ok (68, .iconst 4, 1) (List.mem_of_getElem? (i := 58) rfl)
theorem dX4_init_69 : decode cX4_init 69 = .ok (.iconst 0, 1) := tX4_init_ok (69, .iconst 0, 1) (List.mem_of_getElem? (i := 59) rfl)
theorem dX4_init_70 : decode cX4_init 70 = .ok (.iastore, 1) := tX4_init_ok (70, .iastore, 1) (List.mem_of_getElem? (i := 60) rfl)
theorem dX4_init_71 : decode cX4_init 71 = .ok (.dup, 1) := tX4_init_ok (71, .dup, 1) (List.mem_of_getElem? (i := 61) rfl)
theorem dX4_init_72 : decode cX4_init 72 = .ok (.iconst 5, 1) := tX4_init_ok (72, .iconst 5, 1) (List.mem_of_getElem? (i := 62) rfl)
theorem dX4_init_73 : decode cX4_init 73 = .ok (.iconst 0, 1) := tX4_init_ok (73, .iconst 0, 1) (List.mem_of_getElem? (i := 63) rfl)
theorem dX4_init_74 : decode cX4_init 74 = .ok (.iastore, 1) := tX4_init_ok (74, .iastore, 1) (List.mem_of_getElem? (i := 64) rfl)
theorem dX4_init_75 : decode cX4_init 75 = .ok (.dup, 1) := tX4_init_ok (75, .dup, 1) (List.mem_of_getElem? (i := 65) rfl)
theorem dX4_init_76 : decode cX4_init 76 = .ok (.bipush 6, 2) := tX4_init_ok (76, .bipush 6, 2) (List.mem_of_getElem? (i := 66) rfl)
theorem dX4_init_78 : decode cX4_init 78 = .ok (.iconst 0, 1) := tX4_init_ok (78, .iconst 0, 1) (List.mem_of_getElem? (i := 67) rfl)
theorem dX4_init_79 : decode cX4_init 79 = .ok (.iastore, 1) := tX4_init_ok (79, .iastore, 1) (List.mem_of_getElem? (i := 68) rfl)
theorem dX4_init_80 : decode cX4_init 80 = .ok (.dup, 1) := tX4_init_ok (80, .dup, 1) (List.mem_of_getElem? (i := 69) rfl)
theorem dX4_init_81 : decode cX4_init 81 = .ok (.bipush 7, 2) := tX4_init_ok (81, .bipush 7, 2) (List.mem_of_getElem? (i := 70) rfl)
theorem dX4_init_83 : decode cX4_init 83 = .ok (.iconst 0, 1) := tX4_init_ok (83, .iconst 0, 1) (List.mem_of_getElem? (i := 71) rfl)
theorem dX4_init_84 : decode cX4_init 84 = .ok (.iastore, 1) := tX4_init_ok (84, .iastore, 1) (List.mem_of_getElem? (i := 72) rfl)
theorem dX4_init_85 : decode cX4_init 85 = .ok (.putfield 15, 3) := tX4_init_ok (85, .putfield 15, 3) (List.mem_of_getElem? (i := 73) rfl)
theorem dX4_init_88 : decode cX4_init 88 = .ok (.aload_n 0, 1) := tX4_init_ok (88, .aload_n 0, 1) (List.mem_of_getElem? (i := 74) rfl)
theorem dX4_init_89 : decode cX4_init 89 = .ok (.bipush 8, 2) := tX4_init_ok (89, .bipush 8, 2) (List.mem_of_getElem? (i := 75) rfl)
theorem dX4_init_91 : decode cX4_init 91 = .ok (.newarray .int, 2) := tX4_init_ok (91, .newarray .int, 2) (List.mem_of_getElem? (i := 76) rfl)
theorem dX4_init_93 : decode cX4_init 93 = .ok (.dup, 1) := tX4_init_ok (93, .dup, 1) (List.mem_of_getElem? (i := 77) rfl)
theorem dX4_init_94 : decode cX4_init 94 = .ok (.iconst 0, 1) := tX4_init_ok (94, .iconst 0, 1) (List.mem_of_getElem? (i := 78) rfl)
theorem dX4_init_95 : decode cX4_init 95 = .ok (.iconst 1, 1) := tX4_init_ok (95, .iconst 1, 1) (List.mem_of_getElem? (i := 79) rfl)
theorem dX4_init_96 : decode cX4_init 96 = .ok (.iastore, 1) := tX4_init_ok (96, .iastore, 1) (List.mem_of_getElem? (i := 80) rfl)
theorem dX4_init_97 : decode cX4_init 97 = .ok (.dup, 1) := tX4_init_ok (97, .dup, 1) (List.mem_of_getElem? (i := 81) rfl)
theorem dX4_init_98 : decode cX4_init 98 = .ok (.iconst 1, 1) := tX4_init_ok (98, .iconst 1, 1) (List.mem_of_getElem? (i := 82) rfl)
theorem dX4_init_99 : decode cX4_init 99 = .ok (.iconst 1, 1) := tX4_init_ok (99, .iconst 1, 1) (List.mem_of_getElem? (i := 83) rfl)
theorem dX4_init_100 : decode cX4_init 100 = .ok (.iastore, 1) := tX4_init_ok (100, .iastore, 1) (List.mem_of_getElem? (i := 84) rfl)
theorem dX4_init_101 : decode cX4_init 101 = .ok (.dup, 1) := tX4_init_ok (101, .dup, 1) (List.mem_of_getElem? (i := 85) rfl)
theorem dX4_init_102 : decode cX4_init 102 = .ok (.iconst 2, 1) := tX4_init_ok (102, .iconst 2, 1) (List.mem_of_getElem? (i := 86) rfl)
theorem dX4_init_103 : decode cX4_init 103 = .ok (.iconst 1, 1) := tX4_init_ok (103, .iconst 1, 1) (List.mem_of_getElem? (i := 87) rfl)
theorem dX4_init_104 : decode cX4_init 104 = .ok (.iastore, 1) := tX4_init_ok (104, .iastore, 1) (List.mem_of_getElem? (i := 88) rfl)
theorem dX4_init_105 : decode cX4_init 105 = .ok (.dup, 1) := tX4_init_ok (105, .dup, 1) (List.mem_of_getElem? (i := 89) rfl)
theorem dX4_init_106 : decode cX4_init 106 = .ok (.iconst 3, 1) := tX4_init_ok (106, .iconst 3, 1) (List.mem_of_getElem? (i := 90) rfl)
theorem dX4_init_107 : decode cX4_init 107 = .ok (.iconst 1, 1) := tX4_init_ok (107, .iconst 1, 1) (List.mem_of_getElem? (i := 91) rfl)
theorem dX4_init_108 : decode cX4_init 108 = .ok (.iastore, 1) := tX4_init_ok (108, .iastore, 1) (List.mem_of_getElem? (i := 92) rfl)
theorem dX4_init_109 : decode cX4_init 109 = .ok (.dup, 1) := tX4_init_ok (109, .dup, 1) (List.mem_of_getElem? (i := 93) rfl)
theorem dX4_init_110 : decode cX4_init 110 = .ok (.iconst 4, 1) := tX4_init_ok (110, .iconst 4, 1) (List.mem_of_getElem? (i := 94) rfl)
theorem dX4_init_111 : decode cX4_init 111 = .ok (.iconst 1, 1) := tX4_init_ok (111, .iconst 1, 1) (List.mem_of_getElem? (i := 95) rfl)
theorem dX4_init_112 : decode cX4_init 112 = .ok (.iastore, 1) := tX4_init_ok (112, .iastore, 1) (List.mem_of_getElem? (i := 96) rfl)
theorem dX4_init_113 : decode cX4_init 113 = .ok (.dup, 1) := tX4_init_ok (113, .dup, 1) (List.mem_of_getElem? (i := 97) rfl)
theorem dX4_init_114 : decode cX4_init 114 = .ok (.iconst 5, 1) := tX4_init_ok (114, .iconst 5, 1) (List.mem_of_getElem? (i := 98) rfl)
theorem dX4_init_115 : decode cX4_init 115 = .ok (.iconst 1, 1) := tX4_init_ok (115, .iconst 1, 1) (List.mem_of_getElem? (i := 99) rfl)
theorem dX4_init_116 : decode cX4_init 116 = .ok (.iastore, 1) := tX4_init_ok (116, .iastore, 1) (List.mem_of_getElem? (i := 100) rfl)
theorem dX4_init_117 : decode cX4_init 117 = .ok (.dup, 1) := tX4_init_ok (117, .dup, 1) (List.mem_of_getElem? (i := 101) rfl)
theorem dX4_init_118 : decode cX4_init 118 = .ok (.bipush 6, 2) := tX4_init_ok (118, .bipush 6, 2) (List.mem_of_getElem? (i := 102) rfl)
theorem dX4_init_120 : decode cX4_init 120 = .ok (.iconst 1, 1) := tX4_init_ok (120, .iconst 1, 1) (List.mem_of_getElem? (i := 103) rfl)
theorem dX4_init_121 : decode cX4_init 121 = .ok (.iastore, 1) := tX4_init_ok (121, .iastore, 1) (List.mem_of_getElem? (i := 104) rfl)
theorem dX4_init_122 : decode cX4_init 122 = .ok (.dup, 1) := tX4_init_ok (122, .dup, 1) (List.mem_of_getElem? (i := 105) rfl)
theorem dX4_init_123 : decode cX4_init 123 = .ok (.bipush 7, 2) := tX4_init_ok (123, .bipush 7, 2) (List.mem_of_getElem? (i := 106) rfl)
theorem dX4_init_125 : decode cX4_init 125 = .ok (.iconst 1, 1) := tX4_init_ok (125, .iconst 1, 1) (List.mem_of_getElem? (i := 107) rfl)
theorem dX4_init_126 : decode cX4_init 126 = .ok (.iastore, 1) := tX4_init_ok (126, .iastore, 1) (List.mem_of_getElem? (i := 108) rfl)
theorem dX4_init_127 : decode cX4_init 127 = .ok (.putfield 18, 3) := tX4_init_ok (127, .putfield 18, 3) (List.mem_of_getElem? (i := 109) rfl)
theorem dX4_init_130 : decode cX4_init 130 = .ok (.aload_n 0, 1) := tX4_init_ok (130, .aload_n 0, 1) (List.mem_of_getElem? (i := 110) rfl)
theorem dX4_init_131 : decode cX4_init 131 = .ok (.bipush 8, 2) := tX4_init_ok (131, .bipush 8, 2) (List.mem_of_getElem? (i := 111) rfl)
theorem dX4_init_133 : decode cX4_init 133 = .ok (.newarray .int, 2) := tX4_init_ok (133, .newarray .int, 2) (List.mem_of_getElem? (i := 112) rfl)
theorem dX4_init_135 : decode cX4_init 135 = .ok (.dup, 1) := tX4_init_ok (135, .dup, 1) (List.mem_of_getElem? (i := 113) rfl)
theorem dX4_init_136 : decode cX4_init 136 = .ok (.iconst 0, 1) := tX4_init_ok (136, .iconst 0, 1) (List.mem_of_getElem? (i := 114) rfl)
theorem dX4_init_137 : decode cX4_init 137 = .ok (.iconst 1, 1) := tX4_init_ok (137, .iconst 1, 1) (List.mem_of_getElem? (i := 115) rfl)
theorem dX4_init_138 : decode cX4_init 138 = .ok (.iastore, 1) := tX4_init_ok (138, .iastore, 1) (List.mem_of_getElem? (i := 116) rfl)
theorem dX4_init_139 : decode cX4_init 139 = .ok (.dup, 1) := tX4_init_ok (139, .dup, 1) (List.mem_of_getElem? (i := 117) rfl)
theorem dX4_init_140 : decode cX4_init 140 = .ok (.iconst 1, 1) := tX4_init_ok (140, .iconst 1, 1) (List.mem_of_getElem? (i := 118) rfl)
theorem dX4_init_141 : decode cX4_init 141 = .ok (.bipush 67, 2) := tX4_init_ok (141, .bipush 67, 2) (List.mem_of_getElem? (i := 119) rfl)
theorem dX4_init_143 : decode cX4_init 143 = .ok (.iastore, 1) := tX4_init_ok (143, .iastore, 1) (List.mem_of_getElem? (i := 120) rfl)
theorem dX4_init_144 : decode cX4_init 144 = .ok (.dup, 1) := tX4_init_ok (144, .dup, 1) (List.mem_of_getElem? (i := 121) rfl)
theorem dX4_init_145 : decode cX4_init 145 = .ok (.iconst 2, 1) := tX4_init_ok (145, .iconst 2, 1) (List.mem_of_getElem? (i := 122) rfl)
theorem dX4_init_146 : decode cX4_init 146 = .ok (.iconst (-1), 1) := tX4_init_ok (146, .iconst (-1), 1) (List.mem_of_getElem? (i := 123) rfl)
theorem dX4_init_147 : decode cX4_init 147 = .ok (.iastore, 1) := tX4_init_ok (147, .iastore, 1) (List.mem_of_getElem? (i := 124) rfl)
theorem dX4_init_148 : decode cX4_init 148 = .ok (.dup, 1) := tX4_init_ok (148, .dup, 1) (List.mem_of_getElem? (i := 125) rfl)
theorem dX4_init_149 : decode cX4_init 149 = .ok (.iconst 3, 1) := tX4_init_ok (149, .iconst 3, 1) (List.mem_of_getElem? (i := 126) rfl)
theorem dX4_init_150 : decode cX4_init 150 = .ok (.bipush (-67), 2) := tX4_init_ok (150, .bipush (-67), 2) (List.mem_of_getElem? (i := 127) rfl)
theorem dX4_init_152 : decode cX4_init 152 = .ok (.iastore, 1) := tX4_init_ok (152, .iastore, 1) (List.mem_of_getElem? (i := 128) rfl)
theorem dX4_init_153 : decode cX4_init 153 = .ok (.dup, 1) := tX4_init_ok (153, .dup, 1) (List.mem_of_getElem? (i := 129) rfl)
theorem dX4_init_154 : decode cX4_init 154 = .ok (.iconst 4, 1) := tX4_init_ok (154, .iconst 4, 1) (List.mem_of_getElem? (i := 130) rfl)
theorem dX4_init_155 : decode cX4_init 155 = .ok (.iconst 0, 1) := tX4_init_ok (155, .iconst 0, 1) (List.mem_of_getElem? (i := 131) rfl)
theorem dX4_init_156 : decode cX4_init 156 = .ok (.iastore, 1) := tX4_init_ok (156, .iastore, 1) (List.mem_of_getElem? (i := 132) rfl)
theorem dX4_init_157 : decode cX4_init 157 = .ok (.dup, 1) := tX4_init_ok (157, .dup, 1) (List.mem_of_getElem? (i := 133) rfl)
theorem dX4_init_158 : decode cX4_init 158 = .ok (.iconst 5, 1) := tX4_init_ok (158, .iconst 5, 1) (List.mem_of_getElem? (i := 134) rfl)
theorem dX4_init_159 : decode cX4_init 159 = .ok (.iconst 0, 1) := tX4_init_ok (159, .iconst 0, 1) (List.mem_of_getElem? (i := 135) rfl)
theorem dX4_init_160 : decode cX4_init 160 = .ok (.iastore, 1) := tX4_init_ok (160, .iastore, 1) (List.mem_of_getElem? (i := 136) rfl)
theorem dX4_init_161 : decode cX4_init 161 = .ok (.dup, 1) := tX4_init_ok (161, .dup, 1) (List.mem_of_getElem? (i := 137) rfl)
theorem dX4_init_162 : decode cX4_init 162 = .ok (.bipush 6, 2) := tX4_init_ok (162, .bipush 6, 2) (List.mem_of_getElem? (i := 138) rfl)
theorem dX4_init_164 : decode cX4_init 164 = .ok (.iconst 0, 1) := tX4_init_ok (164, .iconst 0, 1) (List.mem_of_getElem? (i := 139) rfl)
theorem dX4_init_165 : decode cX4_init 165 = .ok (.iastore, 1) := tX4_init_ok (165, .iastore, 1) (List.mem_of_getElem? (i := 140) rfl)
theorem dX4_init_166 : decode cX4_init 166 = .ok (.dup, 1) := tX4_init_ok (166, .dup, 1) (List.mem_of_getElem? (i := 141) rfl)
theorem dX4_init_167 : decode cX4_init 167 = .ok (.bipush 7, 2) := tX4_init_ok (167, .bipush 7, 2) (List.mem_of_getElem? (i := 142) rfl)
theorem dX4_init_169 : decode cX4_init 169 = .ok (.iconst 0, 1) := tX4_init_ok (169, .iconst 0, 1) (List.mem_of_getElem? (i := 143) rfl)
theorem dX4_init_170 : decode cX4_init 170 = .ok (.iastore, 1) := tX4_init_ok (170, .iastore, 1) (List.mem_of_getElem? (i := 144) rfl)
theorem dX4_init_171 : decode cX4_init 171 = .ok (.putfield 21, 3) := tX4_init_ok (171, .putfield 21, 3) (List.mem_of_getElem? (i := 145) rfl)
theorem dX4_init_174 : decode cX4_init 174 = .ok (.aload_n 0, 1) := tX4_init_ok (174, .aload_n 0, 1) (List.mem_of_getElem? (i := 146) rfl)
theorem dX4_init_175 : decode cX4_init 175 = .ok (.iconst 4, 1) := tX4_init_ok (175, .iconst 4, 1) (List.mem_of_getElem? (i := 147) rfl)
theorem dX4_init_176 : decode cX4_init 176 = .ok (.putfield 24, 3) := tX4_init_ok (176, .putfield 24, 3) (List.mem_of_getElem? (i := 148) rfl)
theorem dX4_init_179 : decode cX4_init 179 = .ok (.aload_n 0, 1) := tX4_init_ok (179, .aload_n 0, 1) (List.mem_of_getElem? (i := 149) rfl)
theorem dX4_init_180 : decode cX4_init 180 = .ok (.iconst 5, 1) := tX4_init_ok (180, .iconst 5, 1) (List.mem_of_getElem? (i := 150) rfl)
theorem dX4_init_181 : decode cX4_init 181 = .ok (.putfield 28, 3) := tX4_init_ok (181, .putfield 28, 3) (List.mem_of_getElem? (i := 151) rfl)
theorem dX4_init_184 : decode cX4_init 184 = .ok (.aload_n 0, 1) := tX4_init_ok (184, .aload_n 0, 1) (List.mem_of_getElem? (i := 152) rfl)
theorem dX4_init_185 : decode cX4_init 185 = .ok (.bipush 6, 2) := tX4_init_ok (185, .bipush 6, 2) (List.mem_of_getElem? (i := 153) rfl)
theorem dX4_init_187 : decode cX4_init 187 = .ok (.putfield 31, 3) := tX4_init_ok (187, .putfield 31, 3) (List.mem_of_getElem? (i := 154) rfl)
theorem dX4_init_190 : decode cX4_init 190 = .ok (.aload_n 0, 1) := tX4_init_ok (190, .aload_n 0, 1) (List.mem_of_getElem? (i := 155) rfl)
theorem dX4_init_191 : decode cX4_init 191 = .ok (.sipush 4489, 3) := tX4_init_ok (191, .sipush 4489, 3) (List.mem_of_getElem? (i := 156) rfl)
theorem dX4_init_194 : decode cX4_init 194 = .ok (.newarray .byte, 2) := tX4_init_ok (194, .newarray .byte, 2) (List.mem_of_getElem? (i := 157) rfl)
theorem dX4_init_196 : decode cX4_init 196 = .ok (.putfield 34, 3) := tX4_init_ok (196, .putfield 34, 3) (List.mem_of_getElem? (i := 158) rfl)
theorem dX4_init_199 : decode cX4_init 199 = .ok (.aload_n 0, 1) := tX4_init_ok (199, .aload_n 0, 1) (List.mem_of_getElem? (i := 159) rfl)
theorem dX4_init_200 : decode cX4_init 200 = .ok (.sipush 4489, 3) := tX4_init_ok (200, .sipush 4489, 3) (List.mem_of_getElem? (i := 160) rfl)
theorem dX4_init_203 : decode cX4_init 203 = .ok (.newarray .byte, 2) := tX4_init_ok (203, .newarray .byte, 2) (List.mem_of_getElem? (i := 161) rfl)
theorem dX4_init_205 : decode cX4_init 205 = .ok (.putfield 38, 3) := tX4_init_ok (205, .putfield 38, 3) (List.mem_of_getElem? (i := 162) rfl)
theorem dX4_init_208 : decode cX4_init 208 = .ok (.aload_n 0, 1) := tX4_init_ok (208, .aload_n 0, 1) (List.mem_of_getElem? (i := 163) rfl)
theorem dX4_init_209 : decode cX4_init 209 = .ok (.invokevirtual 41, 3) := tX4_init_ok (209, .invokevirtual 41, 3) (List.mem_of_getElem? (i := 164) rfl)
theorem dX4_init_212 : decode cX4_init 212 = .ok (.return_, 1) := tX4_init_ok (212, .return_, 1) (List.mem_of_getElem? (i := 165) rfl)
