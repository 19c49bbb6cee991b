def tX4_isSquare : List (Nat × Instr × Nat) := [
  (0, .iload_n 0, 1),
  (1, .bipush (-30), 2),
  (3, .if_icmp .lt 25, 3),
  (6, .iload_n 0, 1),
  (7, .bipush 30, 2),
  (9, .if_icmp .gt 19, 3),
  (12, .iload_n 1, 1),
  (13, .bipush (-30), 2),
  (15, .if_icmp .lt 13, 3),
  (18, .iload_n 1, 1),
  (19, .bipush 30, 2),
  (21, .if_icmp .gt 7, 3),
  (24, .iconst 1, 1),
  (25, .goto 4, 3),
  (28, .iconst 0, 1),
  (29, .ireturn, 1)]
set_option maxRecDepth 100000 in
theorem tX4_isSquare_ok : ∀ q ∈ tX4_isSquare, decode cX4_isSquare q.1 = .ok q.2 := by decide +kernel
theorem dX4_isSquare_0 : decode cX4_isSquare 0 = .ok (.iload_n 0, 1) := tX4_isSquare_ok (0, .iload_n 0, 1) (List.mem_of_getElem? (i := 0) rfl)
theorem dX4_isSquare_1 : decode cX4_isSquare 1 = .ok (.bipush (-30), 2) := tX4_isSquare_ok (1, .bipush (-30), 2) (List.mem_of_getElem? (i := 1) rfl)
theorem dX4_isSquare_3 : decode cX4_isSquare 3 = .ok (.if_icmp .lt 25, 3) := tX4_isSquare_ok (3, .if_icmp .lt 25, 3) (List.mem_of_getElem? (i := 2) rfl)
theorem dX4_isSquare_6 : decode cX4_isSquare 6 = .ok (.iload_n 0, 1) := tX4_isSquare_ok (6, .iload_n 0, 1) (List.mem_of_getElem? (i := 3) rfl)
theorem dX4_isSquare_7 : decode cX4_isSquare 7 = .ok (.bipush 30, 2) := tX4_isSquare_ok (7, .bipush 30, 2) (List.mem_of_getElem? (i := 4) rfl)
theorem dX4_isSquare_9 : decode cX4_isSquare 9 = .ok (.if_icmp .gt 19, 3) := tX4_isSquare_ok (9, .if_icmp .gt 19, 3) (List.mem_of_getElem? (i := 5) rfl)
theorem dX4_isSquare_12 : decode cX4_isSquare 12 = .ok (.iload_n 1, 1) := tX4_isSquare_ok (12, .iload_n 1, 1) (List.mem_of_getElem? (i := 6) rfl)
theorem dX4_isSquare_13 : decode cX4_isSquare 13 = .ok (.bipush (-30), 2) := tX4_isSquare_ok (13, .bipush (-30), 2) (List.mem_of_getElem? (i := 7) rfl)
theorem dX4_isSquare_15 : decode cX4_isSquare 15 = .ok (.if_icmp .lt 13, 3) := tX4_isSquare_ok (15, .if_icmp .lt 13, 3) (List.mem_of_getElem? (i := 8) rfl)
theorem dX4_isSquare_18 : decode cX4_isSquare 18 = .ok (.iload_n 1, 1) := tX4_isSquare_ok (18, .iload_n 1, 1) (List.mem_of_getElem? (i := 9) rfl)
theorem dX4_isSquare_19 : decode cX4_isSquare 19 = .ok (.bipush 30, 2) := tX4_isSquare_ok (19, .bipush 30, 2) (List.mem_of_getElem? (i := 10) rfl)
theorem dX4_isSquare_21 : decode cX4_isSquare 21 = .ok (.if_icmp .gt 7, 3) := tX4_isSquare_ok (21, .if_icmp .gt 7, 3) (List.mem_of_getElem? (i := 11) rfl)
theorem dX4_isSquare_24 : decode cX4_isSquare 24 = .ok (.iconst 1, 1) := tX4_isSquare_ok (24, .iconst 1, 1) (List.mem_of_getElem? (i := 12) rfl)
theorem dX4_isSquare_25 : decode cX4_isSquare 25 = .ok (.goto 4, 3) := tX4_isSquare_ok (25, .goto 4, 3) (List.mem_of_getElem? (i := 13) rfl)
theorem dX4_isSquare_28 : decode cX4_isSquare 28 = .ok (.iconst 0, 1) := tX4_isSquare_ok (28, .iconst 0, 1) (List.mem_of_getElem? (i := 14) rfl)
theorem dX4_isSquare_29 : decode cX4_isSquare 29 = .ok (.ireturn, 1) := tX4_isSquare_ok (29, .ireturn, 1) (List.mem_of_getElem? (i := 15) rfl)

def tX4_cellOf : List (Nat × Instr × Nat) := [
  (0, .iload_n 1, 1),
  (1, .bipush 33, 2),
  (3, .iadd, 1),
  (4, .bipush 67, 2),
  (6, .imul, 1),
  (7, .iload_n 0, 1),
  (8, .iadd, 1),
  (9, .bipush 33, 2),
  (11, .iadd, 1),
  (12, .ireturn, 1)]
set_option maxRecDepth 100000 in
theorem tX4_cellOf_ok : ∀ q ∈ tX4_cellOf, decode cX4_cellOf q.1 = .ok q.2 := by decide +kernel
theorem dX4_cellOf_0 : decode cX4_cellOf 0 = .ok (.iload_n 1, 1) := tX4_cellOf_ok (0, .iload_n 1, 1) (List.mem_of_getElem? (i := 0) rfl)
theorem dX4_cellOf_1 : decode cX4_cellOf 1 = .ok (.bipush 33, 2) := tX4_cellOf_ok (1, .bipush 33, 2) (List.mem_of_getElem? (i := 1) rfl)
theorem dX4_cellOf_3 : decode cX4_cellOf 3 = .ok (.iadd, 1) := tX4_cellOf_ok (3, .iadd, 1) (List.mem_of_getElem? (i := 2) rfl)
theorem dX4_cellOf_4 : decode cX4_cellOf 4 = .ok (.bipush 67, 2) := tX4_cellOf_ok (4, .bipush 67, 2) (List.mem_of_getElem? (i := 3) rfl)
theorem dX4_cellOf_6 : decode cX4_cellOf 6 = .ok (.imul, 1) := tX4_cellOf_ok (6, .imul, 1) (List.mem_of_getElem? (i := 4) rfl)
theorem dX4_cellOf_7 : decode cX4_cellOf 7 = .ok (.iload_n 0, 1) := tX4_cellOf_ok (7, .iload_n 0, 1) (List.mem_of_getElem? (i := 5) rfl)
theorem dX4_cellOf_8 : decode cX4_cellOf 8 = .ok (.iadd, 1) := tX4_cellOf_ok (8, .iadd, 1) (List.mem_of_getElem? (i := 6) rfl)
theorem dX4_cellOf_9 : decode cX4_cellOf 9 = .ok (.bipush 33, 2) := tX4_cellOf_ok (9, .bipush 33, 2) (List.mem_of_getElem? (i := 7) rfl)
theorem dX4_cellOf_11 : decode cX4_cellOf 11 = .ok (.iadd, 1) := tX4_cellOf_ok (11, .iadd, 1) (List.mem_of_getElem? (i := 8) rfl)
theorem dX4_cellOf_12 : decode cX4_cellOf 12 = .ok (.ireturn, 1) := tX4_cellOf_ok (12, .ireturn, 1) (List.mem_of_getElem? (i := 9) rfl)

def tX4_cellA : List (Nat × Instr × Nat) := [
  (0, .aload_n 0, 1),
  (1, .getfield 44, 3),
  (4, .aload_n 0, 1),
  (5, .getfield 47, 3),
  (8, .invokestatic 50, 3),
  (11, .ireturn, 1)]
set_option maxRecDepth 100000 in
theorem tX4_cellA_ok : ∀ q ∈ tX4_cellA, decode cX4_cellA q.1 = .ok q.2 := by decide +kernel
theorem dX4_cellA_0 : decode cX4_cellA 0 = .ok (.aload_n 0, 1) := tX4_cellA_ok (0, .aload_n 0, 1) (List.mem_of_getElem? (i := 0) rfl)
theorem dX4_cellA_1 : decode cX4_cellA 1 = .ok (.getfield 44, 3) := tX4_cellA_ok (1, .getfield 44, 3) (List.mem_of_getElem? (i := 1) rfl)
theorem dX4_cellA_4 : decode cX4_cellA 4 = .ok (.aload_n 0, 1) := tX4_cellA_ok (4, .aload_n 0, 1) (List.mem_of_getElem? (i := 2) rfl)
theorem dX4_cellA_5 : decode cX4_cellA 5 = .ok (.getfield 47, 3) := tX4_cellA_ok (5, .getfield 47, 3) (List.mem_of_getElem? (i := 3) rfl)
theorem dX4_cellA_8 : decode cX4_cellA 8 = .ok (.invokestatic 50, 3) := tX4_cellA_ok (8, .invokestatic 50, 3) (List.mem_of_getElem? (i := 4) rfl)
theorem dX4_cellA_11 : decode cX4_cellA 11 = .ok (.ireturn, 1) := tX4_cellA_ok (11, .ireturn, 1) (List.mem_of_getElem? (i := 5) rfl)

def tX4_cellB : List (Nat × Instr × Nat) := [
  (0, .aload_n 0, 1),
  (1, .getfield 54, 3),
  (4, .aload_n 0, 1),
  (5, .getfield 57, 3),
  (8, .invokestatic 50, 3),
  (11, .ireturn, 1)]
set_option maxRecDepth 100000 in
theorem tX4_cellB_ok : ∀ q ∈ tX4_cellB, decode cX4_cellB q.1 = .ok q.2 := by decide +kernel
theorem dX4_cellB_0 : decode cX4_cellB 0 = .ok (.aload_n 0, 1) := tX4_cellB_ok (0, .aload_n 0, 1) (List.mem_of_getElem? (i := 0) rfl)
theorem dX4_cellB_1 : decode cX4_cellB 1 = .ok (.getfield 54, 3) := tX4_cellB_ok (1, .getfield 54, 3) (List.mem_of_getElem? (i := 1) rfl)
theorem dX4_cellB_4 : decode cX4_cellB 4 = .ok (.aload_n 0, 1) := tX4_cellB_ok (4, .aload_n 0, 1) (List.mem_of_getElem? (i := 2) rfl)
theorem dX4_cellB_5 : decode cX4_cellB 5 = .ok (.getfield 57, 3) := tX4_cellB_ok (5, .getfield 57, 3) (List.mem_of_getElem? (i := 3) rfl)
theorem dX4_cellB_8 : decode cX4_cellB 8 = .ok (.invokestatic 50, 3) := tX4_cellB_ok (8, .invokestatic 50, 3) (List.mem_of_getElem? (i := 4) rfl)
theorem dX4_cellB_11 : decode cX4_cellB 11 = .ok (.ireturn, 1) := tX4_cellB_ok (11, .ireturn, 1) (List.mem_of_getElem? (i := 5) rfl)

def tX4_hasStep : List (Nat × Instr × Nat) := [
  (0, .iload_n 1, 1),
  (1, .ifCond .lt 21, 3),
  (4, .iload_n 1, 1),
  (5, .aload_n 0, 1),
  (6, .getfield 24, 3),
  (9, .if_icmp .ge 13, 3),
  (12, .iload_n 1, 1),
  (13, .bipush 8, 2),
  (15, .if_icmp .ge 7, 3),
  (18, .iconst 1, 1),
  (19, .goto 4, 3),
  (22, .iconst 0, 1),
  (23, .ireturn, 1)]
set_option maxRecDepth 100000 in
theorem tX4_hasStep_ok : ∀ q ∈ tX4_hasStep, decode cX4_hasStep q.1 = .ok q.2 := by decide +kernel
theorem dX4_hasStep_0 : decode cX4_hasStep 0 = .ok (.iload_n 1, 1) := tX4_hasStep_ok (0, .iload_n 1, 1) (List.mem_of_getElem? (i := 0) rfl)
theorem dX4_hasStep_1 : decode cX4_hasStep 1 = .ok (.ifCond .lt 21, 3) := tX4_hasStep_ok (1, .ifCond .lt 21, 3) (List.mem_of_getElem? (i := 1) rfl)
theorem dX4_hasStep_4 : decode cX4_hasStep 4 = .ok (.iload_n 1, 1) := tX4_hasStep_ok (4, .iload_n 1, 1) (List.mem_of_getElem? (i := 2) rfl)
theorem dX4_hasStep_5 : decode cX4_hasStep 5 = .ok (.aload_n 0, 1) := tX4_hasStep_ok (5, .aload_n 0, 1) (List.mem_of_getElem? (i := 3) rfl)
theorem dX4_hasStep_6 : decode cX4_hasStep 6 = .ok (.getfield 24, 3) := tX4_hasStep_ok (6, .getfield 24, 3) (List.mem_of_getElem? (i := 4) rfl)
theorem dX4_hasStep_9 : decode cX4_hasStep 9 = .ok (.if_icmp .ge 13, 3) := tX4_hasStep_ok (9, .if_icmp .ge 13, 3) (List.mem_of_getElem? (i := 5) rfl)
theorem dX4_hasStep_12 : decode cX4_hasStep 12 = .ok (.iload_n 1, 1) := tX4_hasStep_ok (12, .iload_n 1, 1) (List.mem_of_getElem? (i := 6) rfl)
theorem dX4_hasStep_13 : decode cX4_hasStep 13 = .ok (.bipush 8, 2) := tX4_hasStep_ok (13, .bipush 8, 2) (List.mem_of_getElem? (i := 7) rfl)
theorem dX4_hasStep_15 : decode cX4_hasStep 15 = .ok (.if_icmp .ge 7, 3) := tX4_hasStep_ok (15, .if_icmp .ge 7, 3) (List.mem_of_getElem? (i := 8) rfl)
theorem dX4_hasStep_18 : decode cX4_hasStep 18 = .ok (.iconst 1, 1) := tX4_hasStep_ok (18, .iconst 1, 1) (List.mem_of_getElem? (i := 9) rfl)
theorem dX4_hasStep_19 : decode cX4_hasStep 19 = .ok (.goto 4, 3) := tX4_hasStep_ok (19, .goto 4, 3) (List.mem_of_getElem? (i := 10) rfl)
theorem dX4_hasStep_22 : decode cX4_hasStep 22 = .ok (.iconst 0, 1) := tX4_hasStep_ok (22, .iconst 0, 1) (List.mem_of_getElem? (i := 11) rfl)
theorem dX4_hasStep_23 : decode cX4_hasStep 23 = .ok (.ireturn, 1) := tX4_hasStep_ok (23, .ireturn, 1) (List.mem_of_getElem? (i := 12) rfl)

def tX4_setStep : List (Nat × Instr × Nat) := [
  (0, .iload_n 1, 1),
  (1, .ifCond .lt 42, 3),
  (4, .iload_n 1, 1),
  (5, .bipush 8, 2),
  (7, .if_icmp .ge 36, 3),
  (10, .aload_n 0, 1),
  (11, .getfield 9, 3),
  (14, .iload_n 1, 1),
  (15, .iload_n 2, 1),
  (16, .iastore, 1),
  (17, .aload_n 0, 1),
  (18, .getfield 15, 3),
  (21, .iload_n 1, 1),
  (22, .iload_n 3, 1),
  (23, .iastore, 1),
  (24, .aload_n 0, 1),
  (25, .getfield 21, 3),
  (28, .iload_n 1, 1),
  (29, .iload_n 3, 1),
  (30, .bipush 67, 2),
  (32, .imul, 1),
  (33, .iload_n 2, 1),
  (34, .iadd, 1),
  (35, .iastore, 1),
  (36, .aload_n 0, 1),
  (37, .getfield 18, 3),
  (40, .iload_n 1, 1),
  (41, .iconst 1, 1),
  (42, .iastore, 1),
  (43, .return_, 1)]
set_option maxRecDepth 100000 in
theorem tX4_setStep_ok : ∀ q ∈ tX4_setStep, decode cX4_setStep q.1 = .ok q.2 := by decide +kernel
theorem dX4_setStep_0 : decode cX4_setStep 0 = .ok (.iload_n 1, 1) := tX4_setStep_ok (0, .iload_n 1, 1) (List.mem_of_getElem? (i := 0) rfl)
theorem dX4_setStep_1 : decode cX4_setStep 1 = .ok (.ifCond .lt 42, 3) := tX4_setStep_ok (1, .ifCond .lt 42, 3) (List.mem_of_getElem? (i := 1) rfl)
theorem dX4_setStep_4 : decode cX4_setStep 4 = .ok (.iload_n 1, 1) := tX4_setStep_ok (4, .iload_n 1, 1) (List.mem_of_getElem? (i := 2) rfl)
theorem dX4_setStep_5 : decode cX4_setStep 5 = .ok (.bipush 8, 2) := tX4_setStep_ok (5, .bipush 8, 2) (List.mem_of_getElem? (i := 3) rfl)
theorem dX4_setStep_7 : decode cX4_setStep 7 = .ok (.if_icmp .ge 36, 3) := tX4_setStep_ok (7, .if_icmp .ge 36, 3) (List.mem_of_getElem? (i := 4) rfl)
theorem dX4_setStep_10 : decode cX4_setStep 10 = .ok (.aload_n 0, 1) := tX4_setStep_ok (10, .aload_n 0, 1) (List.mem_of_getElem? (i := 5) rfl)
theorem dX4_setStep_11 : decode cX4_setStep 11 = .ok (.getfield 9, 3) := tX4_setStep_ok (11, .getfield 9, 3) (List.mem_of_getElem? (i := 6) rfl)
theorem dX4_setStep_14 : decode cX4_setStep 14 = .ok (.iload_n 1, 1) := tX4_setStep_ok (14, .iload_n 1, 1) (List.mem_of_getElem? (i := 7) rfl)
theorem dX4_setStep_15 : decode cX4_setStep 15 = .ok (.iload_n 2, 1) := tX4_setStep_ok (15, .iload_n 2, 1) (List.mem_of_getElem? (i := 8) rfl)
theorem dX4_setStep_16 : decode cX4_setStep 16 = .ok (.iastore, 1) := tX4_setStep_ok (16, .iastore, 1) (List.mem_of_getElem? (i := 9) rfl)
theorem dX4_setStep_17 : decode cX4_setStep 17 = .ok (.aload_n 0, 1) := tX4_setStep_ok (17, .aload_n 0, 1) (List.mem_of_getElem? (i := 10) rfl)
theorem dX4_setStep_18 : decode cX4_setStep 18 = .ok (.getfield 15, 3) := tX4_setStep_ok (18, .getfield 15, 3) (List.mem_of_getElem? (i := 11) rfl)
theorem dX4_setStep_21 : decode cX4_setStep 21 = .ok (.iload_n 1, 1) := tX4_setStep_ok (21, .iload_n 1, 1) (List.mem_of_getElem? (i := 12) rfl)
theorem dX4_setStep_22 : decode cX4_setStep 22 = .ok (.iload_n 3, 1) := tX4_setStep_ok (22, .iload_n 3, 1) (List.mem_of_getElem? (i := 13) rfl)
theorem dX4_setStep_23 : decode cX4_setStep 23 = .ok (.iastore, 1) := tX4_setStep_ok (23, .iastore, 1) (List.mem_of_getElem? (i := 14) rfl)
theorem dX4_setStep_24 : decode cX4_setStep 24 = .ok (.aload_n 0, 1) := tX4_setStep_ok (24, .aload_n 0, 1) (List.mem_of_getElem? (i := 15) rfl)
theorem dX4_setStep_25 : decode cX4_setStep 25 = .ok (.getfield 21, 3) := tX4_setStep_ok (25, .getfield 21, 3) (List.mem_of_getElem? (i := 16) rfl)
theorem dX4_setStep_28 : decode cX4_setStep 28 = .ok (.iload_n 1, 1) := tX4_setStep_ok (28, .iload_n 1, 1) (List.mem_of_getElem? (i := 17) rfl)
theorem dX4_setStep_29 : decode cX4_setStep 29 = .ok (.iload_n 3, 1) := tX4_setStep_ok (29, .iload_n 3, 1) (List.mem_of_getElem? (i := 18) rfl)
theorem dX4_setStep_30 : decode cX4_setStep 30 = .ok (.bipush 67, 2) := tX4_setStep_ok (30, .bipush 67, 2) (List.mem_of_getElem? (i := 19) rfl)
theorem dX4_setStep_32 : decode cX4_setStep 32 = .ok (.imul, 1) := tX4_setStep_ok (32, .imul, 1) (List.mem_of_getElem? (i := 20) rfl)
theorem dX4_setStep_33 : decode cX4_setStep 33 = .ok (.iload_n 2, 1) := tX4_setStep_ok (33, .iload_n 2, 1) (List.mem_of_getElem? (i := 21) rfl)
theorem dX4_setStep_34 : decode cX4_setStep 34 = .ok (.iadd, 1) := tX4_setStep_ok (34, .iadd, 1) (List.mem_of_getElem? (i := 22) rfl)
theorem dX4_setStep_35 : decode cX4_setStep 35 = .ok (.iastore, 1) := tX4_setStep_ok (35, .iastore, 1) (List.mem_of_getElem? (i := 23) rfl)
theorem dX4_setStep_36 : decode cX4_setStep 36 = .ok (.aload_n 0, 1) := tX4_setStep_ok (36, .aload_n 0, 1) (List.mem_of_getElem? (i := 24) rfl)
theorem dX4_setStep_37 : decode cX4_setStep 37 = .ok (.getfield 18, 3) := tX4_setStep_ok (37, .getfield 18, 3) (List.mem_of_getElem? (i := 25) rfl)
theorem dX4_setStep_40 : decode cX4_setStep 40 = .ok (.iload_n 1, 1) := tX4_setStep_ok (40, .iload_n 1, 1) (List.mem_of_getElem? (i := 26) rfl)
theorem dX4_setStep_41 : decode cX4_setStep 41 = .ok (.iconst 1, 1) := tX4_setStep_ok (41, .iconst 1, 1) (List.mem_of_getElem? (i := 27) rfl)
theorem dX4_setStep_42 : decode cX4_setStep 42 = .ok (.iastore, 1) := tX4_setStep_ok (42, .iastore, 1) (List.mem_of_getElem? (i := 28) rfl)
theorem dX4_setStep_43 : decode cX4_setStep 43 = .ok (.return_, 1) := tX4_setStep_ok (43, .return_, 1) (List.mem_of_getElem? (i := 29) rfl)

def tX4_setStepCount : List (Nat × Instr × Nat) := [
  (0, .aload_n 0, 1),
  (1, .iload_n 1, 1),
  (2, .bipush 8, 2),
  (4, .invokestatic 60, 3),
  (7, .putfield 24, 3),
  (10, .return_, 1)]
set_option maxRecDepth 100000 in
theorem tX4_setStepCount_ok : ∀ q ∈ tX4_setStepCount, decode cX4_setStepCount q.1 = .ok q.2 := by decide +kernel
theorem dX4_setStepCount_0 : decode cX4_setStepCount 0 = .ok (.aload_n 0, 1) := tX4_setStepCount_ok (0, .aload_n 0, 1) (List.mem_of_getElem? (i := 0) rfl)
theorem dX4_setStepCount_1 : decode cX4_setStepCount 1 = .ok (.iload_n 1, 1) := tX4_setStepCount_ok (1, .iload_n 1, 1) (List.mem_of_getElem? (i := 1) rfl)
theorem dX4_setStepCount_2 : decode cX4_setStepCount 2 = .ok (.bipush 8, 2) := tX4_setStepCount_ok (2, .bipush 8, 2) (List.mem_of_getElem? (i := 2) rfl)
theorem dX4_setStepCount_4 : decode cX4_setStepCount 4 = .ok (.invokestatic 60, 3) := tX4_setStepCount_ok (4, .invokestatic 60, 3) (List.mem_of_getElem? (i := 3) rfl)
theorem dX4_setStepCount_7 : decode cX4_setStepCount 7 = .ok (.putfield 24, 3) := tX4_setStepCount_ok (7, .putfield 24, 3) (List.mem_of_getElem? (i := 4) rfl)
theorem dX4_setStepCount_10 : decode cX4_setStepCount 10 = .ok (.return_, 1) := tX4_setStepCount_ok (10, .return_, 1) (List.mem_of_getElem? (i := 5) rfl)

def tX4_setKind : List (Nat × Instr × Nat) := [
  (0, .aload_n 0, 1),
  (1, .iload_n 1, 1),
  (2, .putfield 65, 3),
  (5, .aload_n 0, 1),
  (6, .getfield 65, 3),
  (9, .iconst 2, 1),
  (10, .if_icmp .ne 11, 3),
  (13, .aload_n 0, 1),
  (14, .iload_n 2, 1),
  (15, .putfield 28, 3),
  (18, .goto 16, 3),
  (21, .aload_n 0, 1),
  (22, .getfield 65, 3),
  (25, .iconst 4, 1),
  (26, .if_icmp .ne 8, 3),
  (29, .aload_n 0, 1),
  (30, .iload_n 2, 1),
  (31, .putfield 31, 3),
  (34, .aload_n 0, 1),
  (35, .invokevirtual 41, 3),
  (38, .return_, 1)]
set_option maxRecDepth 100000 in
theorem tX4_setKind_ok : ∀ q ∈ tX4_setKind, decode cX4_setKind q.1 = .ok q.2 := by decide +kernel
theorem dX4_setKind_0 : decode cX4_setKind 0 = .ok (.aload_n 0, 1) := tX4_setKind_ok (0, .aload_n 0, 1) (List.mem_of_getElem? (i := 0) rfl)
theorem dX4_setKind_1 : decode cX4_setKind 1 = .ok (.iload_n 1, 1) := tX4_setKind_ok (1, .iload_n 1, 1) (List.mem_of_getElem? (i := 1) rfl)
theorem dX4_setKind_2 : decode cX4_setKind 2 = .ok (.putfield 65, 3) := tX4_setKind_ok (2, .putfield 65, 3) (List.mem_of_getElem? (i := 2) rfl)
theorem dX4_setKind_5 : decode cX4_setKind 5 = .ok (.aload_n 0, 1) := tX4_setKind_ok (5, .aload_n 0, 1) (List.mem_of_getElem? (i := 3) rfl)
theorem dX4_setKind_6 : decode cX4_setKind 6 = .ok (.getfield 65, 3) := tX4_setKind_ok (6, .getfield 65, 3) (List.mem_of_getElem? (i := 4) rfl)
theorem dX4_setKind_9 : decode cX4_setKind 9 = .ok (.iconst 2, 1) := tX4_setKind_ok (9, .iconst 2, 1) (List.mem_of_getElem? (i := 5) rfl)
theorem dX4_setKind_10 : decode cX4_setKind 10 = .ok (.if_icmp .ne 11, 3) := tX4_setKind_ok (10, .if_icmp .ne 11, 3) (List.mem_of_getElem? (i := 6) rfl)
theorem dX4_setKind_13 : decode cX4_setKind 13 = .ok (.aload_n 0, 1) := tX4_setKind_ok (13, .aload_n 0, 1) (List.mem_of_getElem? (i := 7) rfl)
theorem dX4_setKind_14 : decode cX4_setKind 14 = .ok (.iload_n 2, 1) := tX4_setKind_ok (14, .iload_n 2, 1) (List.mem_of_getElem? (i := 8) rfl)
theorem dX4_setKind_15 : decode cX4_setKind 15 = .ok (.putfield 28, 3) := tX4_setKind_ok (15, .putfield 28, 3) (List.mem_of_getElem? (i := 9) rfl)
theorem dX4_setKind_18 : decode cX4_setKind 18 = .ok (.goto 16, 3) := tX4_setKind_ok (18, .goto 16, 3) (List.mem_of_getElem? (i := 10) rfl)
theorem dX4_setKind_21 : decode cX4_setKind 21 = .ok (.aload_n 0, 1) := tX4_setKind_ok (21, .aload_n 0, 1) (List.mem_of_getElem? (i := 11) rfl)
theorem dX4_setKind_22 : decode cX4_setKind 22 = .ok (.getfield 65, 3) := tX4_setKind_ok (22, .getfield 65, 3) (List.mem_of_getElem? (i := 12) rfl)
theorem dX4_setKind_25 : decode cX4_setKind 25 = .ok (.iconst 4, 1) := tX4_setKind_ok (25, .iconst 4, 1) (List.mem_of_getElem? (i := 13) rfl)
theorem dX4_setKind_26 : decode cX4_setKind 26 = .ok (.if_icmp .ne 8, 3) := tX4_setKind_ok (26, .if_icmp .ne 8, 3) (List.mem_of_getElem? (i := 14) rfl)
theorem dX4_setKind_29 : decode cX4_setKind 29 = .ok (.aload_n 0, 1) := tX4_setKind_ok (29, .aload_n 0, 1) (List.mem_of_getElem? (i := 15) rfl)
theorem dX4_setKind_30 : decode cX4_setKind 30 = .ok (.iload_n 2, 1) := tX4_setKind_ok (30, .iload_n 2, 1) (List.mem_of_getElem? (i := 16) rfl)
theorem dX4_setKind_31 : decode cX4_setKind 31 = .ok (.putfield 31, 3) := tX4_setKind_ok (31, .putfield 31, 3) (List.mem_of_getElem? (i := 17) rfl)
theorem dX4_setKind_34 : decode cX4_setKind 34 = .ok (.aload_n 0, 1) := tX4_setKind_ok (34, .aload_n 0, 1) (List.mem_of_getElem? (i := 18) rfl)
theorem dX4_setKind_35 : decode cX4_setKind 35 = .ok (.invokevirtual 41, 3) := tX4_setKind_ok (35, .invokevirtual 41, 3) (List.mem_of_getElem? (i := 19) rfl)
theorem dX4_setKind_38 : decode cX4_setKind 38 = .ok (.return_, 1) := tX4_setKind_ok (38, .return_, 1) (List.mem_of_getElem? (i := 20) rfl)

def tX4_inKind : List (Nat × Instr × Nat) := [
  (0, .aload_n 0, 1),
  (1, .getfield 65, 3),
  (4, .tableswitch 92 1 4 #[32, 42, 60, 74], 32),
  (36, .iload_n 2, 1),
  (37, .ifCond .lt 7, 3),
  (40, .iconst 1, 1),
  (41, .goto 4, 3),
  (44, .iconst 0, 1),
  (45, .ireturn, 1),
  (46, .iload_n 2, 1),
  (47, .ifCond .lt 15, 3),
  (50, .iload_n 2, 1),
  (51, .aload_n 0, 1),
  (52, .getfield 28, 3),
  (55, .if_icmp .gt 7, 3),
  (58, .iconst 1, 1),
  (59, .goto 4, 3),
  (62, .iconst 0, 1),
  (63, .ireturn, 1),
  (64, .iload_n 1, 1),
  (65, .ifCond .lt 11, 3),
  (68, .iload_n 2, 1),
  (69, .ifCond .lt 7, 3),
  (72, .iconst 1, 1),
  (73, .goto 4, 3),
  (76, .iconst 0, 1),
  (77, .ireturn, 1),
  (78, .iload_n 1, 1),
  (79, .ifCond .lt 15, 3),
  (82, .iload_n 1, 1),
  (83, .aload_n 0, 1),
  (84, .getfield 31, 3),
  (87, .if_icmp .ge 7, 3),
  (90, .iconst 1, 1),
  (91, .goto 4, 3),
  (94, .iconst 0, 1),
  (95, .ireturn, 1),
  (96, .iconst 1, 1),
  (97, .ireturn, 1)]
set_option maxRecDepth 100000 in
theorem tX4_inKind_ok : ∀ q ∈ tX4_inKind, decode cX4_inKind q.1 = .ok q.2 := by decide +kernel
theorem dX4_inKind_0 : decode cX4_inKind 0 = .ok (.aload_n 0, 1) := tX4_inKind_ok (0, .aload_n 0, 1) (List.mem_of_getElem? (i := 0) rfl)
theorem dX4_inKind_1 : decode cX4_inKind 1 = .ok (.getfield 65, 3) := tX4_inKind_ok (1, .getfield 65, 3) (List.mem_of_getElem? (i := 1) rfl)
theorem dX4_inKind_4 : decode cX4_inKind 4 = .ok (.tableswitch 92 1 4 #[32, 42, 60, 74], 32) := tX4_inKind_ok (4, .tableswitch 92 1 4 #[32, 42, 60, 74], 32) (List.mem_of_getElem? (i := 2) rfl)
theorem dX4_inKind_36 : decode cX4_inKind 36 = .ok (.iload_n 2, 1) := tX4_inKind_ok (36, .iload_n 2, 1) (List.mem_of_getElem? (i := 3) rfl)
theorem dX4_inKind_37 : decode cX4_inKind 37 = .ok (.ifCond .lt 7, 3) := tX4_inKind_ok (37, .ifCond .lt 7, 3) (List.mem_of_getElem? (i := 4) rfl)
theorem dX4_inKind_40 : decode cX4_inKind 40 = .ok (.iconst 1, 1) := tX4_inKind_ok (40, .iconst 1, 1) (List.mem_of_getElem? (i := 5) rfl)
theorem dX4_inKind_41 : decode cX4_inKind 41 = .ok (.goto 4, 3) := tX4_inKind_ok (41, .goto 4, 3) (List.mem_of_getElem? (i := 6) rfl)
theorem dX4_inKind_44 : decode cX4_inKind 44 = .ok (.iconst 0, 1) := tX4_inKind_ok (44, .iconst 0, 1) (List.mem_of_getElem? (i := 7) rfl)
theorem dX4_inKind_45 : decode cX4_inKind 45 = .ok (.ireturn, 1) := tX4_inKind_ok (45, .ireturn, 1) (List.mem_of_getElem? (i := 8) rfl)
theorem dX4_inKind_46 : decode cX4_inKind 46 = .ok (.iload_n 2, 1) := tX4_inKind_ok (46, .iload_n 2, 1) (List.mem_of_getElem? (i := 9) rfl)
theorem dX4_inKind_47 : decode cX4_inKind 47 = .ok (.ifCond .lt 15, 3) := tX4_inKind_ok (47, .ifCond .lt 15, 3) (List.mem_of_getElem? (i := 10) rfl)
theorem dX4_inKind_50 : decode cX4_inKind 50 = .ok (.iload_n 2, 1) := tX4_inKind_ok (50, .iload_n 2, 1) (List.mem_of_getElem? (i := 11) rfl)
theorem dX4_inKind_51 : decode cX4_inKind 51 = .ok (.aload_n 0, 1) := tX4_inKind_ok (51, .aload_n 0, 1) (List.mem_of_getElem? (i := 12) rfl)
theorem dX4_inKind_52 : decode cX4_inKind 52 = .ok (.getfield 28, 3) := tX4_inKind_ok (52, .getfield 28, 3) (List.mem_of_getElem? (i := 13) rfl)
theorem dX4_inKind_55 : decode cX4_inKind 55 = .ok (.if_icmp .gt 7, 3) := tX4_inKind_ok (55, .if_icmp .gt 7, 3) (List.mem_of_getElem? (i := 14) rfl)
theorem dX4_inKind_58 : decode cX4_inKind 58 = .ok (.iconst 1, 1) := tX4_inKind_ok (58, .iconst 1, 1) (List.mem_of_getElem? (i := 15) rfl)
theorem dX4_inKind_59 : decode cX4_inKind 59 = .ok (.goto 4, 3) := tX4_inKind_ok (59, .goto 4, 3) (List.mem_of_getElem? (i := 16) rfl)
theorem dX4_inKind_62 : decode cX4_inKind 62 = .ok (.iconst 0, 1) := tX4_inKind_ok (62, .iconst 0, 1) (List.mem_of_getElem? (i := 17) rfl)
theorem dX4_inKind_63 : decode cX4_inKind 63 = .ok (.ireturn, 1) := tX4_inKind_ok (63, .ireturn, 1) (List.mem_of_getElem? (i := 18) rfl)
theorem dX4_inKind_64 : decode cX4_inKind 64 = .ok (.iload_n 1, 1) := tX4_inKind_ok (64, .iload_n 1, 1) (List.mem_of_getElem? (i := 19) rfl)
theorem dX4_inKind_65 : decode cX4_inKind 65 = .ok (.ifCond .lt 11, 3) := tX4_inKind_ok (65, .ifCond .lt 11, 3) (List.mem_of_getElem? (i := 20) rfl)
theorem dX4_inKind_68 : decode cX4_inKind 68 = .ok (.iload_n 2, 1) := tX4_inKind_ok (68, .iload_n 2, 1) (List.mem_of_getElem? (i := 21) rfl)
theorem dX4_inKind_69 : decode cX4_inKind 69 = .ok (.ifCond .lt 7, 3) := tX4_inKind_ok (69, .ifCond .lt 7, 3) (List.mem_of_getElem? (i := 22) rfl)
theorem dX4_inKind_72 : decode cX4_inKind 72 = .ok (.iconst 1, 1) := tX4_inKind_ok (72, .iconst 1, 1) (List.mem_of_getElem? (i := 23) rfl)
theorem dX4_inKind_73 : decode cX4_inKind 73 = .ok (.goto 4, 3) := tX4_inKind_ok (73, .goto 4, 3) (List.mem_of_getElem? (i := 24) rfl)
theorem dX4_inKind_76 : decode cX4_inKind 76 = .ok (.iconst 0, 1) := tX4_inKind_ok (76, .iconst 0, 1) (List.mem_of_getElem? (i := 25) rfl)
theorem dX4_inKind_77 : decode cX4_inKind 77 = .ok (.ireturn, 1) := tX4_inKind_ok (77, .ireturn, 1) (List.mem_of_getElem? (i := 26) rfl)
theorem dX4_inKind_78 : decode cX4_inKind 78 = .ok (.iload_n 1, 1) := tX4_inKind_ok (78, .iload_n 1, 1) (List.mem_of_getElem? (i := 27) rfl)
theorem dX4_inKind_79 : decode cX4_inKind 79 = .ok (.ifCond .lt 15, 3) := tX4_inKind_ok (79, .ifCond .lt 15, 3) (List.mem_of_getElem? (i := 28) rfl)
theorem dX4_inKind_82 : decode cX4_inKind 82 = .ok (.iload_n 1, 1) := tX4_inKind_ok (82, .iload_n 1, 1) (List.mem_of_getElem? (i := 29) rfl)
theorem dX4_inKind_83 : decode cX4_inKind 83 = .ok (.aload_n 0, 1) := tX4_inKind_ok (83, .aload_n 0, 1) (List.mem_of_getElem? (i := 30) rfl)
theorem dX4_inKind_84 : decode cX4_inKind 84 = .ok (.getfield 31, 3) := tX4_inKind_ok (84, .getfield 31, 3) (List.mem_of_getElem? (i := 31) rfl)
theorem dX4_inKind_87 : decode cX4_inKind 87 = .ok (.if_icmp .ge 7, 3) := tX4_inKind_ok (87, .if_icmp .ge 7, 3) (List.mem_of_getElem? (i := 32) rfl)
theorem dX4_inKind_90 : decode cX4_inKind 90 = .ok (.iconst 1, 1) := tX4_inKind_ok (90, .iconst 1, 1) (List.mem_of_getElem? (i := 33) rfl)
theorem dX4_inKind_91 : decode cX4_inKind 91 = .ok (.goto 4, 3) := tX4_inKind_ok (91, .goto 4, 3) (List.mem_of_getElem? (i := 34) rfl)
theorem dX4_inKind_94 : decode cX4_inKind 94 = .ok (.iconst 0, 1) := tX4_inKind_ok (94, .iconst 0, 1) (List.mem_of_getElem? (i := 35) rfl)
theorem dX4_inKind_95 : decode cX4_inKind 95 = .ok (.ireturn, 1) := tX4_inKind_ok (95, .ireturn, 1) (List.mem_of_getElem? (i := 36) rfl)
theorem dX4_inKind_96 : decode cX4_inKind 96 = .ok (.iconst 1, 1) := tX4_inKind_ok (96, .iconst 1, 1) (List.mem_of_getElem? (i := 37) rfl)
theorem dX4_inKind_97 : decode cX4_inKind 97 = .ok (.ireturn, 1) := tX4_inKind_ok (97, .ireturn, 1) (List.mem_of_getElem? (i := 38) rfl)

def tX4_renew : List (Nat × Instr × Nat) := [
  (0, .bipush (-30), 2),
  (2, .istore_n 1, 1),
  (3, .iload_n 1, 1),
  (4, .bipush 30, 2),
  (6, .if_icmp .gt 30, 3),
  (9, .bipush (-30), 2),
  (11, .istore_n 2, 1),
  (12, .iload_n 2, 1),
  (13, .bipush 30, 2),
  (15, .if_icmp .gt 15, 3),
  (18, .aload_n 0, 1),
  (19, .iload_n 2, 1),
  (20, .iload_n 1, 1),
  (21, .invokevirtual 68, 3),
  (24, .iinc 2 1, 3),
  (27, .goto (-15), 3),
  (30, .iinc 1 1, 3),
  (33, .goto (-30), 3),
  (36, .return_, 1)]
set_option maxRecDepth 100000 in
theorem tX4_renew_ok : ∀ q ∈ tX4_renew, decode cX4_renew q.1 = .ok q.2 := by decide +kernel
theorem dX4_renew_0 : decode cX4_renew 0 = .ok (.bipush (-30), 2) := tX4_renew_ok (0, .bipush (-30), 2) (List.mem_of_getElem? (i := 0) rfl)
theorem dX4_renew_2 : decode cX4_renew 2 = .ok (.istore_n 1, 1) := tX4_renew_ok (2, .istore_n 1, 1) (List.mem_of_getElem? (i := 1) rfl)
theorem dX4_renew_3 : decode cX4_renew 3 = .ok (.iload_n 1, 1) := tX4_renew_ok (3, .iload_n 1, 1) (List.mem_of_getElem? (i := 2) rfl)
theorem dX4_renew_4 : decode cX4_renew 4 = .ok (.bipush 30, 2) := tX4_renew_ok (4, .bipush 30, 2) (List.mem_of_getElem? (i := 3) rfl)
theorem dX4_renew_6 : decode cX4_renew 6 = .ok (.if_icmp .gt 30, 3) := tX4_renew_ok (6, .if_icmp .gt 30, 3) (List.mem_of_getElem? (i := 4) rfl)
theorem dX4_renew_9 : decode cX4_renew 9 = .ok (.bipush (-30), 2) := tX4_renew_ok (9, .bipush (-30), 2) (List.mem_of_getElem? (i := 5) rfl)
theorem dX4_renew_11 : decode cX4_renew 11 = .ok (.istore_n 2, 1) := tX4_renew_ok (11, .istore_n 2, 1) (List.mem_of_getElem? (i := 6) rfl)
theorem dX4_renew_12 : decode cX4_renew 12 = .ok (.iload_n 2, 1) := tX4_renew_ok (12, .iload_n 2, 1) (List.mem_of_getElem? (i := 7) rfl)
theorem dX4_renew_13 : decode cX4_renew 13 = .ok (.bipush 30, 2) := tX4_renew_ok (13, .bipush 30, 2) (List.mem_of_getElem? (i := 8) rfl)
theorem dX4_renew_15 : decode cX4_renew 15 = .ok (.if_icmp .gt 15, 3) := tX4_renew_ok (15, .if_icmp .gt 15, 3) (List.mem_of_getElem? (i := 9) rfl)
theorem dX4_renew_18 : decode cX4_renew 18 = .ok (.aload_n 0, 1) := tX4_renew_ok (18, .aload_n 0, 1) (List.mem_of_getElem? (i := 10) rfl)
theorem dX4_renew_19 : decode cX4_renew 19 = .ok (.iload_n 2, 1) := tX4_renew_ok (19, .iload_n 2, 1) (List.mem_of_getElem? (i := 11) rfl)
theorem dX4_renew_20 : decode cX4_renew 20 = .ok (.iload_n 1, 1) := tX4_renew_ok (20, .iload_n 1, 1) (List.mem_of_getElem? (i := 12) rfl)
theorem dX4_renew_21 : decode cX4_renew 21 = .ok (.invokevirtual 68, 3) := tX4_renew_ok (21, .invokevirtual 68, 3) (List.mem_of_getElem? (i := 13) rfl)
theorem dX4_renew_24 : decode cX4_renew 24 = .ok (.iinc 2 1, 3) := tX4_renew_ok (24, .iinc 2 1, 3) (List.mem_of_getElem? (i := 14) rfl)
theorem dX4_renew_27 : decode cX4_renew 27 = .ok (.goto (-15), 3) := tX4_renew_ok (27, .goto (-15), 3) (List.mem_of_getElem? (i := 15) rfl)
theorem dX4_renew_30 : decode cX4_renew 30 = .ok (.iinc 1 1, 3) := tX4_renew_ok (30, .iinc 1 1, 3) (List.mem_of_getElem? (i := 16) rfl)
theorem dX4_renew_33 : decode cX4_renew 33 = .ok (.goto (-30), 3) := tX4_renew_ok (33, .goto (-30), 3) (List.mem_of_getElem? (i := 17) rfl)
theorem dX4_renew_36 : decode cX4_renew 36 = .ok (.return_, 1) := tX4_renew_ok (36, .return_, 1) (List.mem_of_getElem? (i := 18) rfl)

def tX4_renewSquare : List (Nat × Instr × Nat) := [
  (0, .iload_n 1, 1),
  (1, .iload_n 2, 1),
  (2, .invokestatic 50, 3),
  (5, .istore_n 3, 1),
  (6, .aload_n 0, 1),
  (7, .getfield 38, 3),
  (10, .iload_n 3, 1),
  (11, .aload_n 0, 1),
  (12, .iload_n 1, 1),
  (13, .iload_n 2, 1),
  (14, .invokevirtual 72, 3),
  (17, .ifCond .eq 16, 3),
  (20, .aload_n 0, 1),
  (21, .getfield 34, 3),
  (24, .iload_n 3, 1),
  (25, .baload, 1),
  (26, .ifCond .ne 7, 3),
  (29, .iconst 1, 1),
  (30, .goto 4, 3),
  (33, .iconst 0, 1),
  (34, .i2b, 1),
  (35, .bastore, 1),
  (36, .return_, 1)]
set_option maxRecDepth 100000 in
theorem tX4_renewSquare_ok : ∀ q ∈ tX4_renewSquare, decode cX4_renewSquare q.1 = .ok q.2 := by decide +kernel
theorem dX4_renewSquare_0 : decode cX4_renewSquare 0 = .ok (.iload_n 1, 1) := tX4_renewSquare_ok (0, .iload_n 1, 1) (List.mem_of_getElem? (i := 0) rfl)
theorem dX4_renewSquare_1 : decode cX4_renewSquare 1 = .ok (.iload_n 2, 1) := tX4_renewSquare_ok (1, .iload_n 2, 1) (List.mem_of_getElem? (i := 1) rfl)
theorem dX4_renewSquare_2 : decode cX4_renewSquare 2 = .ok (.invokestatic 50, 3) := tX4_renewSquare_ok (2, .invokestatic 50, 3) (List.mem_of_getElem? (i := 2) rfl)
theorem dX4_renewSquare_5 : decode cX4_renewSquare 5 = .ok (.istore_n 3, 1) := tX4_renewSquare_ok (5, .istore_n 3, 1) (List.mem_of_getElem? (i := 3) rfl)
theorem dX4_renewSquare_6 : decode cX4_renewSquare 6 = .ok (.aload_n 0, 1) := tX4_renewSquare_ok (6, .aload_n 0, 1) (List.mem_of_getElem? (i := 4) rfl)
theorem dX4_renewSquare_7 : decode cX4_renewSquare 7 = .ok (.getfield 38, 3) := tX4_renewSquare_ok (7, .getfield 38, 3) (List.mem_of_getElem? (i := 5) rfl)
theorem dX4_renewSquare_10 : decode cX4_renewSquare 10 = .ok (.iload_n 3, 1) := tX4_renewSquare_ok (10, .iload_n 3, 1) (List.mem_of_getElem? (i := 6) rfl)
theorem dX4_renewSquare_11 : decode cX4_renewSquare 11 = .ok (.aload_n 0, 1) := tX4_renewSquare_ok (11, .aload_n 0, 1) (List.mem_of_getElem? (i := 7) rfl)
theorem dX4_renewSquare_12 : decode cX4_renewSquare 12 = .ok (.iload_n 1, 1) := tX4_renewSquare_ok (12, .iload_n 1, 1) (List.mem_of_getElem? (i := 8) rfl)
theorem dX4_renewSquare_13 : decode cX4_renewSquare 13 = .ok (.iload_n 2, 1) := tX4_renewSquare_ok (13, .iload_n 2, 1) (List.mem_of_getElem? (i := 9) rfl)
theorem dX4_renewSquare_14 : decode cX4_renewSquare 14 = .ok (.invokevirtual 72, 3) := tX4_renewSquare_ok (14, .invokevirtual 72, 3) (List.mem_of_getElem? (i := 10) rfl)
theorem dX4_renewSquare_17 : decode cX4_renewSquare 17 = .ok (.ifCond .eq 16, 3) := tX4_renewSquare_ok (17, .ifCond .eq 16, 3) (List.mem_of_getElem? (i := 11) rfl)
theorem dX4_renewSquare_20 : decode cX4_renewSquare 20 = .ok (.aload_n 0, 1) := tX4_renewSquare_ok (20, .aload_n 0, 1) (List.mem_of_getElem? (i := 12) rfl)
theorem dX4_renewSquare_21 : decode cX4_renewSquare 21 = .ok (.getfield 34, 3) := tX4_renewSquare_ok (21, .getfield 34, 3) (List.mem_of_getElem? (i := 13) rfl)
theorem dX4_renewSquare_24 : decode cX4_renewSquare 24 = .ok (.iload_n 3, 1) := tX4_renewSquare_ok (24, .iload_n 3, 1) (List.mem_of_getElem? (i := 14) rfl)
theorem dX4_renewSquare_25 : decode cX4_renewSquare 25 = .ok (.baload, 1) := tX4_renewSquare_ok (25, .baload, 1) (List.mem_of_getElem? (i := 15) rfl)
theorem dX4_renewSquare_26 : decode cX4_renewSquare 26 = .ok (.ifCond .ne 7, 3) := tX4_renewSquare_ok (26, .ifCond .ne 7, 3) (List.mem_of_getElem? (i := 16) rfl)
theorem dX4_renewSquare_29 : decode cX4_renewSquare 29 = .ok (.iconst 1, 1) := tX4_renewSquare_ok (29, .iconst 1, 1) (List.mem_of_getElem? (i := 17) rfl)
theorem dX4_renewSquare_30 : decode cX4_renewSquare 30 = .ok (.goto 4, 3) := tX4_renewSquare_ok (30, .goto 4, 3) (List.mem_of_getElem? (i := 18) rfl)
theorem dX4_renewSquare_33 : decode cX4_renewSquare 33 = .ok (.iconst 0, 1) := tX4_renewSquare_ok (33, .iconst 0, 1) (List.mem_of_getElem? (i := 19) rfl)
theorem dX4_renewSquare_34 : decode cX4_renewSquare 34 = .ok (.i2b, 1) := tX4_renewSquare_ok (34, .i2b, 1) (List.mem_of_getElem? (i := 20) rfl)
theorem dX4_renewSquare_35 : decode cX4_renewSquare 35 = .ok (.bastore, 1) := tX4_renewSquare_ok (35, .bastore, 1) (List.mem_of_getElem? (i := 21) rfl)
theorem dX4_renewSquare_36 : decode cX4_renewSquare 36 = .ok (.return_, 1) := tX4_renewSquare_ok (36, .return_, 1) (List.mem_of_getElem? (i := 22) rfl)

def tX4_setBarred : List (Nat × Instr × Nat) := [
  (0, .iload_n 1, 1),
  (1, .iload_n 2, 1),
  (2, .invokestatic 76, 3),
  (5, .ifCond .eq 13, 3),
  (8, .aload_n 0, 1),
  (9, .iload_n 1, 1),
  (10, .iload_n 2, 1),
  (11, .invokevirtual 79, 3),
  (14, .iload_n 3, 1),
  (15, .if_icmp .ne 4, 3),
  (18, .return_, 1),
  (19, .aload_n 0, 1),
  (20, .getfield 34, 3),
  (23, .iload_n 1, 1),
  (24, .iload_n 2, 1),
  (25, .invokestatic 50, 3),
  (28, .iload_n 3, 1),
  (29, .ifCond .eq 7, 3),
  (32, .iconst 1, 1),
  (33, .goto 4, 3),
  (36, .iconst 0, 1),
  (37, .i2b, 1),
  (38, .bastore, 1),
  (39, .aload_n 0, 1),
  (40, .dup, 1),
  (41, .getfield 82, 3),
  (44, .iload_n 3, 1),
  (45, .ifCond .eq 7, 3),
  (48, .iconst 1, 1),
  (49, .goto 4, 3),
  (52, .iconst (-1), 1),
  (53, .iadd, 1),
  (54, .putfield 82, 3),
  (57, .aload_n 0, 1),
  (58, .iload_n 1, 1),
  (59, .iload_n 2, 1),
  (60, .invokevirtual 68, 3),
  (63, .return_, 1)]
set_option maxRecDepth 100000 in
theorem tX4_setBarred_ok : ∀ q ∈ tX4_setBarred, decode cX4_setBarred q.1 = .ok q.2 := by decide +kernel
theorem dX4_setBarred_0 : decode cX4_setBarred 0 = .ok (.iload_n 1, 1) := tX4_setBarred_ok (0, .iload_n 1, 1) (List.mem_of_getElem? (i := 0) rfl)
theorem dX4_setBarred_1 : decode cX4_setBarred 1 = .ok (.iload_n 2, 1) := tX4_setBarred_ok (1, .iload_n 2, 1) (List.mem_of_getElem? (i := 1) rfl)
theorem dX4_setBarred_2 : decode cX4_setBarred 2 = .ok (.invokestatic 76, 3) := tX4_setBarred_ok (2, .invokestatic 76, 3) (List.mem_of_getElem? (i := 2) rfl)
theorem dX4_setBarred_5 : decode cX4_setBarred 5 = .ok (.ifCond .eq 13, 3) := tX4_setBarred_ok (5, .ifCond .eq 13, 3) (List.mem_of_getElem? (i := 3) rfl)
theorem dX4_setBarred_8 : decode cX4_setBarred 8 = .ok (.aload_n 0, 1) := tX4_setBarred_ok (8, .aload_n 0, 1) (List.mem_of_getElem? (i := 4) rfl)
theorem dX4_setBarred_9 : decode cX4_setBarred 9 = .ok (.iload_n 1, 1) := tX4_setBarred_ok (9, .iload_n 1, 1) (List.mem_of_getElem? (i := 5) rfl)
theorem dX4_setBarred_10 : decode cX4_setBarred 10 = .ok (.iload_n 2, 1) := tX4_setBarred_ok (10, .iload_n 2, 1) (List.mem_of_getElem? (i := 6) rfl)
theorem dX4_setBarred_11 : decode cX4_setBarred 11 = .ok (.invokevirtual 79, 3) := tX4_setBarred_ok (11, .invokevirtual 79, 3) (List.mem_of_getElem? (i := 7) rfl)
theorem dX4_setBarred_14 : decode cX4_setBarred 14 = .ok (.iload_n 3, 1) := tX4_setBarred_ok (14, .iload_n 3, 1) (List.mem_of_getElem? (i := 8) rfl)
theorem dX4_setBarred_15 : decode cX4_setBarred 15 = .ok (.if_icmp .ne 4, 3) := tX4_setBarred_ok (15, .if_icmp .ne 4, 3) (List.mem_of_getElem? (i := 9) rfl)
theorem dX4_setBarred_18 : decode cX4_setBarred 18 = .ok (.return_, 1) := tX4_setBarred_ok (18, .return_, 1) (List.mem_of_getElem? (i := 10) rfl)
theorem dX4_setBarred_19 : decode cX4_setBarred 19 = .ok (.aload_n 0, 1) := tX4_setBarred_ok (19, .aload_n 0, 1) (List.mem_of_getElem? (i := 11) rfl)
theorem dX4_setBarred_20 : decode cX4_setBarred 20 = .ok (.getfield 34, 3) := tX4_setBarred_ok (20, .getfield 34, 3) (List.mem_of_getElem? (i := 12) rfl)
theorem dX4_setBarred_23 : decode cX4_setBarred 23 = .ok (.iload_n 1, 1) := tX4_setBarred_ok (23, .iload_n 1, 1) (List.mem_of_getElem? (i := 13) rfl)
theorem dX4_setBarred_24 : decode cX4_setBarred 24 = .ok (.iload_n 2, 1) := tX4_setBarred_ok (24, .iload_n 2, 1) (List.mem_of_getElem? (i := 14) rfl)
theorem dX4_setBarred_25 : decode cX4_setBarred 25 = .ok (.invokestatic 50, 3) := tX4_setBarred_ok (25, .invokestatic 50, 3) (List.mem_of_getElem? (i := 15) rfl)
theorem dX4_setBarred_28 : decode cX4_setBarred 28 = .ok (.iload_n 3, 1) := tX4_setBarred_ok (28, .iload_n 3, 1) (List.mem_of_getElem? (i := 16) rfl)
theorem dX4_setBarred_29 : decode cX4_setBarred 29 = .ok (.ifCond .eq 7, 3) := tX4_setBarred_ok (29, .ifCond .eq 7, 3) (List.mem_of_getElem? (i := 17) rfl)
theorem dX4_setBarred_32 : decode cX4_setBarred 32 = .ok (.iconst 1, 1) := tX4_setBarred_ok (32, .iconst 1, 1) (List.mem_of_getElem? (i := 18) rfl)
theorem dX4_setBarred_33 : decode cX4_setBarred 33 = .ok (.goto 4, 3) := tX4_setBarred_ok (33, .goto 4, 3) (List.mem_of_getElem? (i := 19) rfl)
theorem dX4_setBarred_36 : decode cX4_setBarred 36 = .ok (.iconst 0, 1) := tX4_setBarred_ok (36, .iconst 0, 1) (List.mem_of_getElem? (i := 20) rfl)
theorem dX4_setBarred_37 : decode cX4_setBarred 37 = .ok (.i2b, 1) := tX4_setBarred_ok (37, .i2b, 1) (List.mem_of_getElem? (i := 21) rfl)
theorem dX4_setBarred_38 : decode cX4_setBarred 38 = .ok (.bastore, 1) := tX4_setBarred_ok (38, .bastore, 1) (List.mem_of_getElem? (i := 22) rfl)
theorem dX4_setBarred_39 : decode cX4_setBarred 39 = .ok (.aload_n 0, 1) := tX4_setBarred_ok (39, .aload_n 0, 1) (List.mem_of_getElem? (i := 23) rfl)
theorem dX4_setBarred_40 : decode cX4_setBarred 40 = .ok (.dup, 1) := tX4_setBarred_ok (40, .dup, 1) (List.mem_of_getElem? (i := 24) rfl)
theorem dX4_setBarred_41 : decode cX4_setBarred 41 = .ok (.getfield 82, 3) := tX4_setBarred_ok (41, .getfield 82, 3) (List.mem_of_getElem? (i := 25) rfl)
theorem dX4_setBarred_44 : decode cX4_setBarred 44 = .ok (.iload_n 3, 1) := tX4_setBarred_ok (44, .iload_n 3, 1) (List.mem_of_getElem? (i := 26) rfl)
theorem dX4_setBarred_45 : decode cX4_setBarred 45 = .ok (.ifCond .eq 7, 3) := tX4_setBarred_ok (45, .ifCond .eq 7, 3) (List.mem_of_getElem? (i := 27) rfl)
theorem dX4_setBarred_48 : decode cX4_setBarred 48 = .ok (.iconst 1, 1) := tX4_setBarred_ok (48, .iconst 1, 1) (List.mem_of_getElem? (i := 28) rfl)
theorem dX4_setBarred_49 : decode cX4_setBarred 49 = .ok (.goto 4, 3) := tX4_setBarred_ok (49, .goto 4, 3) (List.mem_of_getElem? (i := 29) rfl)
theorem dX4_setBarred_52 : decode cX4_setBarred 52 = .ok (.iconst (-1), 1) := tX4_setBarred_ok (52, .iconst (-1), 1) (List.mem_of_getElem? (i := 30) rfl)
theorem dX4_setBarred_53 : decode cX4_setBarred 53 = .ok (.iadd, 1) := tX4_setBarred_ok (53, .iadd, 1) (List.mem_of_getElem? (i := 31) rfl)
theorem dX4_setBarred_54 : decode cX4_setBarred 54 = .ok (.putfield 82, 3) := tX4_setBarred_ok (54, .putfield 82, 3) (List.mem_of_getElem? (i := 32) rfl)
theorem dX4_setBarred_57 : decode cX4_setBarred 57 = .ok (.aload_n 0, 1) := tX4_setBarred_ok (57, .aload_n 0, 1) (List.mem_of_getElem? (i := 33) rfl)
theorem dX4_setBarred_58 : decode cX4_setBarred 58 = .ok (.iload_n 1, 1) := tX4_setBarred_ok (58, .iload_n 1, 1) (List.mem_of_getElem? (i := 34) rfl)
theorem dX4_setBarred_59 : decode cX4_setBarred 59 = .ok (.iload_n 2, 1) := tX4_setBarred_ok (59, .iload_n 2, 1) (List.mem_of_getElem? (i := 35) rfl)
theorem dX4_setBarred_60 : decode cX4_setBarred 60 = .ok (.invokevirtual 68, 3) := tX4_setBarred_ok (60, .invokevirtual 68, 3) (List.mem_of_getElem? (i := 36) rfl)
theorem dX4_setBarred_63 : decode cX4_setBarred 63 = .ok (.return_, 1) := tX4_setBarred_ok (63, .return_, 1) (List.mem_of_getElem? (i := 37) rfl)

def tX4_isBarred : List (Nat × Instr × Nat) := [
  (0, .iload_n 1, 1),
  (1, .iload_n 2, 1),
  (2, .invokestatic 76, 3),
  (5, .ifCond .eq 20, 3),
  (8, .aload_n 0, 1),
  (9, .getfield 34, 3),
  (12, .iload_n 1, 1),
  (13, .iload_n 2, 1),
  (14, .invokestatic 50, 3),
  (17, .baload, 1),
  (18, .ifCond .eq 7, 3),
  (21, .iconst 1, 1),
  (22, .goto 4, 3),
  (25, .iconst 0, 1),
  (26, .ireturn, 1)]
set_option maxRecDepth 100000 in
theorem tX4_isBarred_ok : ∀ q ∈ tX4_isBarred, decode cX4_isBarred q.1 = .ok q.2 := by decide +kernel
theorem dX4_isBarred_0 : decode cX4_isBarred 0 = .ok (.iload_n 1, 1) := tX4_isBarred_ok (0, .iload_n 1, 1) (List.mem_of_getElem? (i := 0) rfl)
theorem dX4_isBarred_1 : decode cX4_isBarred 1 = .ok (.iload_n 2, 1) := tX4_isBarred_ok (1, .iload_n 2, 1) (List.mem_of_getElem? (i := 1) rfl)
theorem dX4_isBarred_2 : decode cX4_isBarred 2 = .ok (.invokestatic 76, 3) := tX4_isBarred_ok (2, .invokestatic 76, 3) (List.mem_of_getElem? (i := 2) rfl)
theorem dX4_isBarred_5 : decode cX4_isBarred 5 = .ok (.ifCond .eq 20, 3) := tX4_isBarred_ok (5, .ifCond .eq 20, 3) (List.mem_of_getElem? (i := 3) rfl)
theorem dX4_isBarred_8 : decode cX4_isBarred 8 = .ok (.aload_n 0, 1) := tX4_isBarred_ok (8, .aload_n 0, 1) (List.mem_of_getElem? (i := 4) rfl)
theorem dX4_isBarred_9 : decode cX4_isBarred 9 = .ok (.getfield 34, 3) := tX4_isBarred_ok (9, .getfield 34, 3) (List.mem_of_getElem? (i := 5) rfl)
theorem dX4_isBarred_12 : decode cX4_isBarred 12 = .ok (.iload_n 1, 1) := tX4_isBarred_ok (12, .iload_n 1, 1) (List.mem_of_getElem? (i := 6) rfl)
theorem dX4_isBarred_13 : decode cX4_isBarred 13 = .ok (.iload_n 2, 1) := tX4_isBarred_ok (13, .iload_n 2, 1) (List.mem_of_getElem? (i := 7) rfl)
theorem dX4_isBarred_14 : decode cX4_isBarred 14 = .ok (.invokestatic 50, 3) := tX4_isBarred_ok (14, .invokestatic 50, 3) (List.mem_of_getElem? (i := 8) rfl)
theorem dX4_isBarred_17 : decode cX4_isBarred 17 = .ok (.baload, 1) := tX4_isBarred_ok (17, .baload, 1) (List.mem_of_getElem? (i := 9) rfl)
theorem dX4_isBarred_18 : decode cX4_isBarred 18 = .ok (.ifCond .eq 7, 3) := tX4_isBarred_ok (18, .ifCond .eq 7, 3) (List.mem_of_getElem? (i := 10) rfl)
theorem dX4_isBarred_21 : decode cX4_isBarred 21 = .ok (.iconst 1, 1) := tX4_isBarred_ok (21, .iconst 1, 1) (List.mem_of_getElem? (i := 11) rfl)
theorem dX4_isBarred_22 : decode cX4_isBarred 22 = .ok (.goto 4, 3) := tX4_isBarred_ok (22, .goto 4, 3) (List.mem_of_getElem? (i := 12) rfl)
theorem dX4_isBarred_25 : decode cX4_isBarred 25 = .ok (.iconst 0, 1) := tX4_isBarred_ok (25, .iconst 0, 1) (List.mem_of_getElem? (i := 13) rfl)
theorem dX4_isBarred_26 : decode cX4_isBarred 26 = .ok (.ireturn, 1) := tX4_isBarred_ok (26, .ireturn, 1) (List.mem_of_getElem? (i := 14) rfl)

def tX4_isOpen : List (Nat × Instr × Nat) := [
  (0, .iload_n 1, 1),
  (1, .iload_n 2, 1),
  (2, .invokestatic 76, 3),
  (5, .ifCond .eq 20, 3),
  (8, .aload_n 0, 1),
  (9, .getfield 38, 3),
  (12, .iload_n 1, 1),
  (13, .iload_n 2, 1),
  (14, .invokestatic 50, 3),
  (17, .baload, 1),
  (18, .ifCond .eq 7, 3),
  (21, .iconst 1, 1),
  (22, .goto 4, 3),
  (25, .iconst 0, 1),
  (26, .ireturn, 1)]
set_option maxRecDepth 100000 in
theorem tX4_isOpen_ok : ∀ q ∈ tX4_isOpen, decode cX4_isOpen q.1 = .ok q.2 := by decide +kernel
theorem dX4_isOpen_0 : decode cX4_isOpen 0 = .ok (.iload_n 1, 1) := tX4_isOpen_ok (0, .iload_n 1, 1) (List.mem_of_getElem? (i := 0) rfl)
theorem dX4_isOpen_1 : decode cX4_isOpen 1 = .ok (.iload_n 2, 1) := tX4_isOpen_ok (1, .iload_n 2, 1) (List.mem_of_getElem? (i := 1) rfl)
theorem dX4_isOpen_2 : decode cX4_isOpen 2 = .ok (.invokestatic 76, 3) := tX4_isOpen_ok (2, .invokestatic 76, 3) (List.mem_of_getElem? (i := 2) rfl)
theorem dX4_isOpen_5 : decode cX4_isOpen 5 = .ok (.ifCond .eq 20, 3) := tX4_isOpen_ok (5, .ifCond .eq 20, 3) (List.mem_of_getElem? (i := 3) rfl)
theorem dX4_isOpen_8 : decode cX4_isOpen 8 = .ok (.aload_n 0, 1) := tX4_isOpen_ok (8, .aload_n 0, 1) (List.mem_of_getElem? (i := 4) rfl)
theorem dX4_isOpen_9 : decode cX4_isOpen 9 = .ok (.getfield 38, 3) := tX4_isOpen_ok (9, .getfield 38, 3) (List.mem_of_getElem? (i := 5) rfl)
theorem dX4_isOpen_12 : decode cX4_isOpen 12 = .ok (.iload_n 1, 1) := tX4_isOpen_ok (12, .iload_n 1, 1) (List.mem_of_getElem? (i := 6) rfl)
theorem dX4_isOpen_13 : decode cX4_isOpen 13 = .ok (.iload_n 2, 1) := tX4_isOpen_ok (13, .iload_n 2, 1) (List.mem_of_getElem? (i := 7) rfl)
theorem dX4_isOpen_14 : decode cX4_isOpen 14 = .ok (.invokestatic 50, 3) := tX4_isOpen_ok (14, .invokestatic 50, 3) (List.mem_of_getElem? (i := 8) rfl)
theorem dX4_isOpen_17 : decode cX4_isOpen 17 = .ok (.baload, 1) := tX4_isOpen_ok (17, .baload, 1) (List.mem_of_getElem? (i := 9) rfl)
theorem dX4_isOpen_18 : decode cX4_isOpen 18 = .ok (.ifCond .eq 7, 3) := tX4_isOpen_ok (18, .ifCond .eq 7, 3) (List.mem_of_getElem? (i := 10) rfl)
theorem dX4_isOpen_21 : decode cX4_isOpen 21 = .ok (.iconst 1, 1) := tX4_isOpen_ok (21, .iconst 1, 1) (List.mem_of_getElem? (i := 11) rfl)
theorem dX4_isOpen_22 : decode cX4_isOpen 22 = .ok (.goto 4, 3) := tX4_isOpen_ok (22, .goto 4, 3) (List.mem_of_getElem? (i := 12) rfl)
theorem dX4_isOpen_25 : decode cX4_isOpen 25 = .ok (.iconst 0, 1) := tX4_isOpen_ok (25, .iconst 0, 1) (List.mem_of_getElem? (i := 13) rfl)
theorem dX4_isOpen_26 : decode cX4_isOpen 26 = .ok (.ireturn, 1) := tX4_isOpen_ok (26, .ireturn, 1) (List.mem_of_getElem? (i := 14) rfl)

def tX4_endsOpen : List (Nat × Instr × Nat) := [
  (0, .aload_n 0, 1),
  (1, .aload_n 0, 1),
  (2, .getfield 44, 3),
  (5, .aload_n 0, 1),
  (6, .getfield 47, 3),
  (9, .invokevirtual 85, 3),
  (12, .ifCond .eq 22, 3),
  (15, .aload_n 0, 1),
  (16, .aload_n 0, 1),
  (17, .getfield 54, 3),
  (20, .aload_n 0, 1),
  (21, .getfield 57, 3),
  (24, .invokevirtual 85, 3),
  (27, .ifCond .eq 7, 3),
  (30, .iconst 1, 1),
  (31, .goto 4, 3),
  (34, .iconst 0, 1),
  (35, .ireturn, 1)]
set_option maxRecDepth 100000 in
theorem tX4_endsOpen_ok : ∀ q ∈ tX4_endsOpen, decode cX4_endsOpen q.1 = .ok q.2 := by decide +kernel
theorem dX4_endsOpen_0 : decode cX4_endsOpen 0 = .ok (.aload_n 0, 1) := tX4_endsOpen_ok (0, .aload_n 0, 1) (List.mem_of_getElem? (i := 0) rfl)
theorem dX4_endsOpen_1 : decode cX4_endsOpen 1 = .ok (.aload_n 0, 1) := tX4_endsOpen_ok (1, .aload_n 0, 1) (List.mem_of_getElem? (i := 1) rfl)
theorem dX4_endsOpen_2 : decode cX4_endsOpen 2 = .ok (.getfield 44, 3) := tX4_endsOpen_ok (2, .getfield 44, 3) (List.mem_of_getElem? (i := 2) rfl)
theorem dX4_endsOpen_5 : decode cX4_endsOpen 5 = .ok (.aload_n 0, 1) := tX4_endsOpen_ok (5, .aload_n 0, 1) (List.mem_of_getElem? (i := 3) rfl)
theorem dX4_endsOpen_6 : decode cX4_endsOpen 6 = .ok (.getfield 47, 3) := tX4_endsOpen_ok (6, .getfield 47, 3) (List.mem_of_getElem? (i := 4) rfl)
theorem dX4_endsOpen_9 : decode cX4_endsOpen 9 = .ok (.invokevirtual 85, 3) := tX4_endsOpen_ok (9, .invokevirtual 85, 3) (List.mem_of_getElem? (i := 5) rfl)
theorem dX4_endsOpen_12 : decode cX4_endsOpen 12 = .ok (.ifCond .eq 22, 3) := tX4_endsOpen_ok (12, .ifCond .eq 22, 3) (List.mem_of_getElem? (i := 6) rfl)
theorem dX4_endsOpen_15 : decode cX4_endsOpen 15 = .ok (.aload_n 0, 1) := tX4_endsOpen_ok (15, .aload_n 0, 1) (List.mem_of_getElem? (i := 7) rfl)
theorem dX4_endsOpen_16 : decode cX4_endsOpen 16 = .ok (.aload_n 0, 1) := tX4_endsOpen_ok (16, .aload_n 0, 1) (List.mem_of_getElem? (i := 8) rfl)
theorem dX4_endsOpen_17 : decode cX4_endsOpen 17 = .ok (.getfield 54, 3) := tX4_endsOpen_ok (17, .getfield 54, 3) (List.mem_of_getElem? (i := 9) rfl)
theorem dX4_endsOpen_20 : decode cX4_endsOpen 20 = .ok (.aload_n 0, 1) := tX4_endsOpen_ok (20, .aload_n 0, 1) (List.mem_of_getElem? (i := 10) rfl)
theorem dX4_endsOpen_21 : decode cX4_endsOpen 21 = .ok (.getfield 57, 3) := tX4_endsOpen_ok (21, .getfield 57, 3) (List.mem_of_getElem? (i := 11) rfl)
theorem dX4_endsOpen_24 : decode cX4_endsOpen 24 = .ok (.invokevirtual 85, 3) := tX4_endsOpen_ok (24, .invokevirtual 85, 3) (List.mem_of_getElem? (i := 12) rfl)
theorem dX4_endsOpen_27 : decode cX4_endsOpen 27 = .ok (.ifCond .eq 7, 3) := tX4_endsOpen_ok (27, .ifCond .eq 7, 3) (List.mem_of_getElem? (i := 13) rfl)
theorem dX4_endsOpen_30 : decode cX4_endsOpen 30 = .ok (.iconst 1, 1) := tX4_endsOpen_ok (30, .iconst 1, 1) (List.mem_of_getElem? (i := 14) rfl)
theorem dX4_endsOpen_31 : decode cX4_endsOpen 31 = .ok (.goto 4, 3) := tX4_endsOpen_ok (31, .goto 4, 3) (List.mem_of_getElem? (i := 15) rfl)
theorem dX4_endsOpen_34 : decode cX4_endsOpen 34 = .ok (.iconst 0, 1) := tX4_endsOpen_ok (34, .iconst 0, 1) (List.mem_of_getElem? (i := 16) rfl)
theorem dX4_endsOpen_35 : decode cX4_endsOpen 35 = .ok (.ireturn, 1) := tX4_endsOpen_ok (35, .ireturn, 1) (List.mem_of_getElem? (i := 17) rfl)

def tX4_endsBetweenLines : List (Nat × Instr × Nat) := [
  (0, .aload_n 0, 1),
  (1, .getfield 47, 3),
  (4, .ifCond .lt 36, 3),
  (7, .aload_n 0, 1),
  (8, .getfield 47, 3),
  (11, .aload_n 0, 1),
  (12, .getfield 28, 3),
  (15, .if_icmp .gt 25, 3),
  (18, .aload_n 0, 1),
  (19, .getfield 57, 3),
  (22, .ifCond .lt 18, 3),
  (25, .aload_n 0, 1),
  (26, .getfield 57, 3),
  (29, .aload_n 0, 1),
  (30, .getfield 28, 3),
  (33, .if_icmp .gt 7, 3),
  (36, .iconst 1, 1),
  (37, .goto 4, 3),
  (40, .iconst 0, 1),
  (41, .ireturn, 1)]
set_option maxRecDepth 100000 in
theorem tX4_endsBetweenLines_ok : ∀ q ∈ tX4_endsBetweenLines, decode cX4_endsBetweenLines q.1 = .ok q.2 := by decide +kernel
theorem dX4_endsBetweenLines_0 : decode cX4_endsBetweenLines 0 = .ok (.aload_n 0, 1) := tX4_endsBetweenLines_ok (0, .aload_n 0, 1) (List.mem_of_getElem? (i := 0) rfl)
theorem dX4_endsBetweenLines_1 : decode cX4_endsBetweenLines 1 = .ok (.getfield 47, 3) := tX4_endsBetweenLines_ok (1, .getfield 47, 3) (List.mem_of_getElem? (i := 1) rfl)
theorem dX4_endsBetweenLines_4 : decode cX4_endsBetweenLines 4 = .ok (.ifCond .lt 36, 3) := tX4_endsBetweenLines_ok (4, .ifCond .lt 36, 3) (List.mem_of_getElem? (i := 2) rfl)
theorem dX4_endsBetweenLines_7 : decode cX4_endsBetweenLines 7 = .ok (.aload_n 0, 1) := tX4_endsBetweenLines_ok (7, .aload_n 0, 1) (List.mem_of_getElem? (i := 3) rfl)
theorem dX4_endsBetweenLines_8 : decode cX4_endsBetweenLines 8 = .ok (.getfield 47, 3) := tX4_endsBetweenLines_ok (8, .getfield 47, 3) (List.mem_of_getElem? (i := 4) rfl)
theorem dX4_endsBetweenLines_11 : decode cX4_endsBetweenLines 11 = .ok (.aload_n 0, 1) := tX4_endsBetweenLines_ok (11, .aload_n 0, 1) (List.mem_of_getElem? (i := 5) rfl)
theorem dX4_endsBetweenLines_12 : decode cX4_endsBetweenLines 12 = .ok (.getfield 28, 3) := tX4_endsBetweenLines_ok (12, .getfield 28, 3) (List.mem_of_getElem? (i := 6) rfl)
theorem dX4_endsBetweenLines_15 : decode cX4_endsBetweenLines 15 = .ok (.if_icmp .gt 25, 3) := tX4_endsBetweenLines_ok (15, .if_icmp .gt 25, 3) (List.mem_of_getElem? (i := 7) rfl)
theorem dX4_endsBetweenLines_18 : decode cX4_endsBetweenLines 18 = .ok (.aload_n 0, 1) := tX4_endsBetweenLines_ok (18, .aload_n 0, 1) (List.mem_of_getElem? (i := 8) rfl)
theorem dX4_endsBetweenLines_19 : decode cX4_endsBetweenLines 19 = .ok (.getfield 57, 3) := tX4_endsBetweenLines_ok (19, .getfield 57, 3) (List.mem_of_getElem? (i := 9) rfl)
theorem dX4_endsBetweenLines_22 : decode cX4_endsBetweenLines 22 = .ok (.ifCond .lt 18, 3) := tX4_endsBetweenLines_ok (22, .ifCond .lt 18, 3) (List.mem_of_getElem? (i := 10) rfl)
theorem dX4_endsBetweenLines_25 : decode cX4_endsBetweenLines 25 = .ok (.aload_n 0, 1) := tX4_endsBetweenLines_ok (25, .aload_n 0, 1) (List.mem_of_getElem? (i := 11) rfl)
theorem dX4_endsBetweenLines_26 : decode cX4_endsBetweenLines 26 = .ok (.getfield 57, 3) := tX4_endsBetweenLines_ok (26, .getfield 57, 3) (List.mem_of_getElem? (i := 12) rfl)
theorem dX4_endsBetweenLines_29 : decode cX4_endsBetweenLines 29 = .ok (.aload_n 0, 1) := tX4_endsBetweenLines_ok (29, .aload_n 0, 1) (List.mem_of_getElem? (i := 13) rfl)
theorem dX4_endsBetweenLines_30 : decode cX4_endsBetweenLines 30 = .ok (.getfield 28, 3) := tX4_endsBetweenLines_ok (30, .getfield 28, 3) (List.mem_of_getElem? (i := 14) rfl)
theorem dX4_endsBetweenLines_33 : decode cX4_endsBetweenLines 33 = .ok (.if_icmp .gt 7, 3) := tX4_endsBetweenLines_ok (33, .if_icmp .gt 7, 3) (List.mem_of_getElem? (i := 15) rfl)
theorem dX4_endsBetweenLines_36 : decode cX4_endsBetweenLines 36 = .ok (.iconst 1, 1) := tX4_endsBetweenLines_ok (36, .iconst 1, 1) (List.mem_of_getElem? (i := 16) rfl)
theorem dX4_endsBetweenLines_37 : decode cX4_endsBetweenLines 37 = .ok (.goto 4, 3) := tX4_endsBetweenLines_ok (37, .goto 4, 3) (List.mem_of_getElem? (i := 17) rfl)
theorem dX4_endsBetweenLines_40 : decode cX4_endsBetweenLines 40 = .ok (.iconst 0, 1) := tX4_endsBetweenLines_ok (40, .iconst 0, 1) (List.mem_of_getElem? (i := 18) rfl)
theorem dX4_endsBetweenLines_41 : decode cX4_endsBetweenLines 41 = .ok (.ireturn, 1) := tX4_endsBetweenLines_ok (41, .ireturn, 1) (List.mem_of_getElem? (i := 19) rfl)

def tX4_isPassable : List (Nat × Instr × Nat) := [
  (0, .iload_n 1, 1),
  (1, .ifCond .lt 23, 3),
  (4, .iload_n 1, 1),
  (5, .sipush 4489, 3),
  (8, .if_icmp .ge 16, 3),
  (11, .aload_n 0, 1),
  (12, .getfield 38, 3),
  (15, .iload_n 1, 1),
  (16, .baload, 1),
  (17, .ifCond .eq 7, 3),
  (20, .iconst 1, 1),
  (21, .goto 4, 3),
  (24, .iconst 0, 1),
  (25, .ireturn, 1)]
set_option maxRecDepth 100000 in
theorem tX4_isPassable_ok : ∀ q ∈ tX4_isPassable, decode cX4_isPassable q.1 = .ok q.2 := by decide +kernel
theorem dX4_isPassable_0 : decode cX4_isPassable 0 = .ok (.iload_n 1, 1) := tX4_isPassable_ok (0, .iload_n 1, 1) (List.mem_of_getElem? (i := 0) rfl)
theorem dX4_isPassable_1 : decode cX4_isPassable 1 = .ok (.ifCond .lt 23, 3) := tX4_isPassable_ok (1, .ifCond .lt 23, 3) (List.mem_of_getElem? (i := 1) rfl)
theorem dX4_isPassable_4 : decode cX4_isPassable 4 = .ok (.iload_n 1, 1) := tX4_isPassable_ok (4, .iload_n 1, 1) (List.mem_of_getElem? (i := 2) rfl)
theorem dX4_isPassable_5 : decode cX4_isPassable 5 = .ok (.sipush 4489, 3) := tX4_isPassable_ok (5, .sipush 4489, 3) (List.mem_of_getElem? (i := 3) rfl)
theorem dX4_isPassable_8 : decode cX4_isPassable 8 = .ok (.if_icmp .ge 16, 3) := tX4_isPassable_ok (8, .if_icmp .ge 16, 3) (List.mem_of_getElem? (i := 4) rfl)
theorem dX4_isPassable_11 : decode cX4_isPassable 11 = .ok (.aload_n 0, 1) := tX4_isPassable_ok (11, .aload_n 0, 1) (List.mem_of_getElem? (i := 5) rfl)
theorem dX4_isPassable_12 : decode cX4_isPassable 12 = .ok (.getfield 38, 3) := tX4_isPassable_ok (12, .getfield 38, 3) (List.mem_of_getElem? (i := 6) rfl)
theorem dX4_isPassable_15 : decode cX4_isPassable 15 = .ok (.iload_n 1, 1) := tX4_isPassable_ok (15, .iload_n 1, 1) (List.mem_of_getElem? (i := 7) rfl)
theorem dX4_isPassable_16 : decode cX4_isPassable 16 = .ok (.baload, 1) := tX4_isPassable_ok (16, .baload, 1) (List.mem_of_getElem? (i := 8) rfl)
theorem dX4_isPassable_17 : decode cX4_isPassable 17 = .ok (.ifCond .eq 7, 3) := tX4_isPassable_ok (17, .ifCond .eq 7, 3) (List.mem_of_getElem? (i := 9) rfl)
theorem dX4_isPassable_20 : decode cX4_isPassable 20 = .ok (.iconst 1, 1) := tX4_isPassable_ok (20, .iconst 1, 1) (List.mem_of_getElem? (i := 10) rfl)
theorem dX4_isPassable_21 : decode cX4_isPassable 21 = .ok (.goto 4, 3) := tX4_isPassable_ok (21, .goto 4, 3) (List.mem_of_getElem? (i := 11) rfl)
theorem dX4_isPassable_24 : decode cX4_isPassable 24 = .ok (.iconst 0, 1) := tX4_isPassable_ok (24, .iconst 0, 1) (List.mem_of_getElem? (i := 12) rfl)
theorem dX4_isPassable_25 : decode cX4_isPassable 25 = .ok (.ireturn, 1) := tX4_isPassable_ok (25, .ireturn, 1) (List.mem_of_getElem? (i := 13) rfl)

def tX4_ahead : List (Nat × Instr × Nat) := [
  (0, .aload_n 0, 1),
  (1, .iload_n 2, 1),
  (2, .invokevirtual 88, 3),
  (5, .ifCond .ne 5, 3),
  (8, .iconst (-1), 1),
  (9, .ireturn, 1),
  (10, .iload_n 1, 1),
  (11, .aload_n 0, 1),
  (12, .getfield 21, 3),
  (15, .iload_n 2, 1),
  (16, .iaload, 1),
  (17, .iadd, 1),
  (18, .istore_n 3, 1),
  (19, .aload_n 0, 1),
  (20, .getfield 65, 3),
  (23, .iconst 4, 1),
  (24, .if_icmp .ne 48, 3),
  (27, .aload_n 0, 1),
  (28, .getfield 31, 3),
  (31, .ifCond .le 41, 3),
  (34, .iload_n 1, 1),
  (35, .bipush 67, 2),
  (37, .irem, 1),
  (38, .bipush 33, 2),
  (40, .isub, 1),
  (41, .istore 4, 2),
  (43, .iload_n 3, 1),
  (44, .iload 4, 2),
  (46, .aload_n 0, 1),
  (47, .getfield 9, 3),
  (50, .iload_n 2, 1),
  (51, .iaload, 1),
  (52, .iadd, 1),
  (53, .aload_n 0, 1),
  (54, .getfield 31, 3),
  (57, .invokestatic 92, 3),
  (60, .iload 4, 2),
  (62, .aload_n 0, 1),
  (63, .getfield 9, 3),
  (66, .iload_n 2, 1),
  (67, .iaload, 1),
  (68, .iadd, 1),
  (69, .isub, 1),
  (70, .iadd, 1),
  (71, .istore_n 3, 1),
  (72, .aload_n 0, 1),
  (73, .iload_n 3, 1),
  (74, .invokevirtual 95, 3),
  (77, .ifCond .eq 7, 3),
  (80, .iload_n 3, 1),
  (81, .goto 4, 3),
  (84, .iconst (-1), 1),
  (85, .ireturn, 1)]
set_option maxRecDepth 100000 in
theorem tX4_ahead_ok : ∀ q ∈ tX4_ahead, decode cX4_ahead q.1 = .ok q.2 := by decide +kernel
theorem dX4_ahead_0 : decode cX4_ahead 0 = .ok (.aload_n 0, 1) := tX4_ahead_ok (0, .aload_n 0, 1) (List.mem_of_getElem? (i := 0) rfl)
theorem dX4_ahead_1 : decode cX4_ahead 1 = .ok (.iload_n 2, 1) := tX4_ahead_ok (1, .iload_n 2, 1) (List.mem_of_getElem? (i := 1) rfl)
theorem dX4_ahead_2 : decode cX4_ahead 2 = .ok (.invokevirtual 88, 3) := tX4_ahead_ok (2, .invokevirtual 88, 3) (List.mem_of_getElem? (i := 2) rfl)
theorem dX4_ahead_5 : decode cX4_ahead 5 = .ok (.ifCond .ne 5, 3) := tX4_ahead_ok (5, .ifCond .ne 5, 3) (List.mem_of_getElem? (i := 3) rfl)
theorem dX4_ahead_8 : decode cX4_ahead 8 = .ok (.iconst (-1), 1) := tX4_ahead_ok (8, .iconst (-1), 1) (List.mem_of_getElem? (i := 4) rfl)
theorem dX4_ahead_9 : decode cX4_ahead 9 = .ok (.ireturn, 1) := tX4_ahead_ok (9, .ireturn, 1) (List.mem_of_getElem? (i := 5) rfl)
theorem dX4_ahead_10 : decode cX4_ahead 10 = .ok (.iload_n 1, 1) := tX4_ahead_ok (10, .iload_n 1, 1) (List.mem_of_getElem? (i := 6) rfl)
theorem dX4_ahead_11 : decode cX4_ahead 11 = .ok (.aload_n 0, 1) := tX4_ahead_ok (11, .aload_n 0, 1) (List.mem_of_getElem? (i := 7) rfl)
theorem dX4_ahead_12 : decode cX4_ahead 12 = .ok (.getfield 21, 3) := tX4_ahead_ok (12, .getfield 21, 3) (List.mem_of_getElem? (i := 8) rfl)
theorem dX4_ahead_15 : decode cX4_ahead 15 = .ok (.iload_n 2, 1) := tX4_ahead_ok (15, .iload_n 2, 1) (List.mem_of_getElem? (i := 9) rfl)
theorem dX4_ahead_16 : decode cX4_ahead 16 = .ok (.iaload, 1) := tX4_ahead_ok (16, .iaload, 1) (List.mem_of_getElem? (i := 10) rfl)
theorem dX4_ahead_17 : decode cX4_ahead 17 = .ok (.iadd, 1) := tX4_ahead_ok (17, .iadd, 1) (List.mem_of_getElem? (i := 11) rfl)
theorem dX4_ahead_18 : decode cX4_ahead 18 = .ok (.istore_n 3, 1) := tX4_ahead_ok (18, .istore_n 3, 1) (List.mem_of_getElem? (i := 12) rfl)
theorem dX4_ahead_19 : decode cX4_ahead 19 = .ok (.aload_n 0, 1) := tX4_ahead_ok (19, .aload_n 0, 1) (List.mem_of_getElem? (i := 13) rfl)
theorem dX4_ahead_20 : decode cX4_ahead 20 = .ok (.getfield 65, 3) := tX4_ahead_ok (20, .getfield 65, 3) (List.mem_of_getElem? (i := 14) rfl)
theorem dX4_ahead_23 : decode cX4_ahead 23 = .ok (.iconst 4, 1) := tX4_ahead_ok (23, .iconst 4, 1) (List.mem_of_getElem? (i := 15) rfl)
theorem dX4_ahead_24 : decode cX4_ahead 24 = .ok (.if_icmp .ne 48, 3) := tX4_ahead_ok (24, .if_icmp .ne 48, 3) (List.mem_of_getElem? (i := 16) rfl)
theorem dX4_ahead_27 : decode cX4_ahead 27 = .ok (.aload_n 0, 1) := tX4_ahead_ok (27, .aload_n 0, 1) (List.mem_of_getElem? (i := 17) rfl)
theorem dX4_ahead_28 : decode cX4_ahead 28 = .ok (.getfield 31, 3) := tX4_ahead_ok (28, .getfield 31, 3) (List.mem_of_getElem? (i := 18) rfl)
theorem dX4_ahead_31 : decode cX4_ahead 31 = .ok (.ifCond .le 41, 3) := tX4_ahead_ok (31, .ifCond .le 41, 3) (List.mem_of_getElem? (i := 19) rfl)
theorem dX4_ahead_34 : decode cX4_ahead 34 = .ok (.iload_n 1, 1) := tX4_ahead_ok (34, .iload_n 1, 1) (List.mem_of_getElem? (i := 20) rfl)
theorem dX4_ahead_35 : decode cX4_ahead 35 = .ok (.bipush 67, 2) := tX4_ahead_ok (35, .bipush 67, 2) (List.mem_of_getElem? (i := 21) rfl)
theorem dX4_ahead_37 : decode cX4_ahead 37 = .ok (.irem, 1) := tX4_ahead_ok (37, .irem, 1) (List.mem_of_getElem? (i := 22) rfl)
theorem dX4_ahead_38 : decode cX4_ahead 38 = .ok (.bipush 33, 2) := tX4_ahead_ok (38, .bipush 33, 2) (List.mem_of_getElem? (i := 23) rfl)
theorem dX4_ahead_40 : decode cX4_ahead 40 = .ok (.isub, 1) := tX4_ahead_ok (40, .isub, 1) (List.mem_of_getElem? (i := 24) rfl)
theorem dX4_ahead_41 : decode cX4_ahead 41 = .ok (.istore 4, 2) := tX4_ahead_ok (41, .istore 4, 2) (List.mem_of_getElem? (i := 25) rfl)
theorem dX4_ahead_43 : decode cX4_ahead 43 = .ok (.iload_n 3, 1) := tX4_ahead_ok (43, .iload_n 3, 1) (List.mem_of_getElem? (i := 26) rfl)
theorem dX4_ahead_44 : decode cX4_ahead 44 = .ok (.iload 4, 2) := tX4_ahead_ok (44, .iload 4, 2) (List.mem_of_getElem? (i := 27) rfl)
theorem dX4_ahead_46 : decode cX4_ahead 46 = .ok (.aload_n 0, 1) := tX4_ahead_ok (46, .aload_n 0, 1) (List.mem_of_getElem? (i := 28) rfl)
theorem dX4_ahead_47 : decode cX4_ahead 47 = .ok (.getfield 9, 3) := tX4_ahead_ok (47, .getfield 9, 3) (List.mem_of_getElem? (i := 29) rfl)
theorem dX4_ahead_50 : decode cX4_ahead 50 = .ok (.iload_n 2, 1) := tX4_ahead_ok (50, .iload_n 2, 1) (List.mem_of_getElem? (i := 30) rfl)
theorem dX4_ahead_51 : decode cX4_ahead 51 = .ok (.iaload, 1) := tX4_ahead_ok (51, .iaload, 1) (List.mem_of_getElem? (i := 31) rfl)
theorem dX4_ahead_52 : decode cX4_ahead 52 = .ok (.iadd, 1) := tX4_ahead_ok (52, .iadd, 1) (List.mem_of_getElem? (i := 32) rfl)
theorem dX4_ahead_53 : decode cX4_ahead 53 = .ok (.aload_n 0, 1) := tX4_ahead_ok (53, .aload_n 0, 1) (List.mem_of_getElem? (i := 33) rfl)
theorem dX4_ahead_54 : decode cX4_ahead 54 = .ok (.getfield 31, 3) := tX4_ahead_ok (54, .getfield 31, 3) (List.mem_of_getElem? (i := 34) rfl)
theorem dX4_ahead_57 : decode cX4_ahead 57 = .ok (.invokestatic 92, 3) := tX4_ahead_ok (57, .invokestatic 92, 3) (List.mem_of_getElem? (i := 35) rfl)
theorem dX4_ahead_60 : decode cX4_ahead 60 = .ok (.iload 4, 2) := tX4_ahead_ok (60, .iload 4, 2) (List.mem_of_getElem? (i := 36) rfl)
theorem dX4_ahead_62 : decode cX4_ahead 62 = .ok (.aload_n 0, 1) := tX4_ahead_ok (62, .aload_n 0, 1) (List.mem_of_getElem? (i := 37) rfl)
theorem dX4_ahead_63 : decode cX4_ahead 63 = .ok (.getfield 9, 3) := tX4_ahead_ok (63, .getfield 9, 3) (List.mem_of_getElem? (i := 38) rfl)
theorem dX4_ahead_66 : decode cX4_ahead 66 = .ok (.iload_n 2, 1) := tX4_ahead_ok (66, .iload_n 2, 1) (List.mem_of_getElem? (i := 39) rfl)
theorem dX4_ahead_67 : decode cX4_ahead 67 = .ok (.iaload, 1) := tX4_ahead_ok (67, .iaload, 1) (List.mem_of_getElem? (i := 40) rfl)
theorem dX4_ahead_68 : decode cX4_ahead 68 = .ok (.iadd, 1) := tX4_ahead_ok (68, .iadd, 1) (List.mem_of_getElem? (i := 41) rfl)
theorem dX4_ahead_69 : decode cX4_ahead 69 = .ok (.isub, 1) := tX4_ahead_ok (69, .isub, 1) (List.mem_of_getElem? (i := 42) rfl)
theorem dX4_ahead_70 : decode cX4_ahead 70 = .ok (.iadd, 1) := tX4_ahead_ok (70, .iadd, 1) (List.mem_of_getElem? (i := 43) rfl)
theorem dX4_ahead_71 : decode cX4_ahead 71 = .ok (.istore_n 3, 1) := tX4_ahead_ok (71, .istore_n 3, 1) (List.mem_of_getElem? (i := 44) rfl)
theorem dX4_ahead_72 : decode cX4_ahead 72 = .ok (.aload_n 0, 1) := tX4_ahead_ok (72, .aload_n 0, 1) (List.mem_of_getElem? (i := 45) rfl)
theorem dX4_ahead_73 : decode cX4_ahead 73 = .ok (.iload_n 3, 1) := tX4_ahead_ok (73, .iload_n 3, 1) (List.mem_of_getElem? (i := 46) rfl)
theorem dX4_ahead_74 : decode cX4_ahead 74 = .ok (.invokevirtual 95, 3) := tX4_ahead_ok (74, .invokevirtual 95, 3) (List.mem_of_getElem? (i := 47) rfl)
theorem dX4_ahead_77 : decode cX4_ahead 77 = .ok (.ifCond .eq 7, 3) := tX4_ahead_ok (77, .ifCond .eq 7, 3) (List.mem_of_getElem? (i := 48) rfl)
theorem dX4_ahead_80 : decode cX4_ahead 80 = .ok (.iload_n 3, 1) := tX4_ahead_ok (80, .iload_n 3, 1) (List.mem_of_getElem? (i := 49) rfl)
theorem dX4_ahead_81 : decode cX4_ahead 81 = .ok (.goto 4, 3) := tX4_ahead_ok (81, .goto 4, 3) (List.mem_of_getElem? (i := 50) rfl)
theorem dX4_ahead_84 : decode cX4_ahead 84 = .ok (.iconst (-1), 1) := tX4_ahead_ok (84, .iconst (-1), 1) (List.mem_of_getElem? (i := 51) rfl)
theorem dX4_ahead_85 : decode cX4_ahead 85 = .ok (.ireturn, 1) := tX4_ahead_ok (85, .ireturn, 1) (List.mem_of_getElem? (i := 52) rfl)

def tX4_tallestStep : List (Nat × Instr × Nat) := [
  (0, .iconst 0, 1),
  (1, .istore_n 1, 1),
  (2, .iconst 0, 1),
  (3, .istore_n 2, 1),
  (4, .iload_n 2, 1),
  (5, .aload_n 0, 1),
  (6, .getfield 24, 3),
  (9, .if_icmp .ge 29, 3),
  (12, .iload_n 2, 1),
  (13, .bipush 8, 2),
  (15, .if_icmp .ge 23, 3),
  (18, .iload_n 1, 1),
  (19, .aload_n 0, 1),
  (20, .getfield 15, 3),
  (23, .iload_n 2, 1),
  (24, .iaload, 1),
  (25, .invokestatic 98, 3),
  (28, .invokestatic 102, 3),
  (31, .istore_n 1, 1),
  (32, .iinc 2 1, 3),
  (35, .goto (-31), 3),
  (38, .iload_n 1, 1),
  (39, .ireturn, 1)]
set_option maxRecDepth 100000 in
theorem tX4_tallestStep_ok : ∀ q ∈ tX4_tallestStep, decode cX4_tallestStep q.1 = .ok q.2 := by decide +kernel
theorem dX4_tallestStep_0 : decode cX4_tallestStep 0 = .ok (.iconst 0, 1) := tX4_tallestStep_ok (0, .iconst 0, 1) (List.mem_of_getElem? (i := 0) rfl)
theorem dX4_tallestStep_1 : decode cX4_tallestStep 1 = .ok (.istore_n 1, 1) := tX4_tallestStep_ok (1, .istore_n 1, 1) (List.mem_of_getElem? (i := 1) rfl)
theorem dX4_tallestStep_2 : decode cX4_tallestStep 2 = .ok (.iconst 0, 1) := tX4_tallestStep_ok (2, .iconst 0, 1) (List.mem_of_getElem? (i := 2) rfl)
theorem dX4_tallestStep_3 : decode cX4_tallestStep 3 = .ok (.istore_n 2, 1) := tX4_tallestStep_ok (3, .istore_n 2, 1) (List.mem_of_getElem? (i := 3) rfl)
theorem dX4_tallestStep_4 : decode cX4_tallestStep 4 = .ok (.iload_n 2, 1) := tX4_tallestStep_ok (4, .iload_n 2, 1) (List.mem_of_getElem? (i := 4) rfl)
theorem dX4_tallestStep_5 : decode cX4_tallestStep 5 = .ok (.aload_n 0, 1) := tX4_tallestStep_ok (5, .aload_n 0, 1) (List.mem_of_getElem? (i := 5) rfl)
theorem dX4_tallestStep_6 : decode cX4_tallestStep 6 = .ok (.getfield 24, 3) := tX4_tallestStep_ok (6, .getfield 24, 3) (List.mem_of_getElem? (i := 6) rfl)
theorem dX4_tallestStep_9 : decode cX4_tallestStep 9 = .ok (.if_icmp .ge 29, 3) := tX4_tallestStep_ok (9, .if_icmp .ge 29, 3) (List.mem_of_getElem? (i := 7) rfl)
theorem dX4_tallestStep_12 : decode cX4_tallestStep 12 = .ok (.iload_n 2, 1) := tX4_tallestStep_ok (12, .iload_n 2, 1) (List.mem_of_getElem? (i := 8) rfl)
theorem dX4_tallestStep_13 : decode cX4_tallestStep 13 = .ok (.bipush 8, 2) := tX4_tallestStep_ok (13, .bipush 8, 2) (List.mem_of_getElem? (i := 9) rfl)
theorem dX4_tallestStep_15 : decode cX4_tallestStep 15 = .ok (.if_icmp .ge 23, 3) := tX4_tallestStep_ok (15, .if_icmp .ge 23, 3) (List.mem_of_getElem? (i := 10) rfl)
theorem dX4_tallestStep_18 : decode cX4_tallestStep 18 = .ok (.iload_n 1, 1) := tX4_tallestStep_ok (18, .iload_n 1, 1) (List.mem_of_getElem? (i := 11) rfl)
theorem dX4_tallestStep_19 : decode cX4_tallestStep 19 = .ok (.aload_n 0, 1) := tX4_tallestStep_ok (19, .aload_n 0, 1) (List.mem_of_getElem? (i := 12) rfl)
theorem dX4_tallestStep_20 : decode cX4_tallestStep 20 = .ok (.getfield 15, 3) := tX4_tallestStep_ok (20, .getfield 15, 3) (List.mem_of_getElem? (i := 13) rfl)
theorem dX4_tallestStep_23 : decode cX4_tallestStep 23 = .ok (.iload_n 2, 1) := tX4_tallestStep_ok (23, .iload_n 2, 1) (List.mem_of_getElem? (i := 14) rfl)
theorem dX4_tallestStep_24 : decode cX4_tallestStep 24 = .ok (.iaload, 1) := tX4_tallestStep_ok (24, .iaload, 1) (List.mem_of_getElem? (i := 15) rfl)
theorem dX4_tallestStep_25 : decode cX4_tallestStep 25 = .ok (.invokestatic 98, 3) := tX4_tallestStep_ok (25, .invokestatic 98, 3) (List.mem_of_getElem? (i := 16) rfl)
theorem dX4_tallestStep_28 : decode cX4_tallestStep 28 = .ok (.invokestatic 102, 3) := tX4_tallestStep_ok (28, .invokestatic 102, 3) (List.mem_of_getElem? (i := 17) rfl)
theorem dX4_tallestStep_31 : decode cX4_tallestStep 31 = .ok (.istore_n 1, 1) := tX4_tallestStep_ok (31, .istore_n 1, 1) (List.mem_of_getElem? (i := 18) rfl)
theorem dX4_tallestStep_32 : decode cX4_tallestStep 32 = .ok (.iinc 2 1, 3) := tX4_tallestStep_ok (32, .iinc 2 1, 3) (List.mem_of_getElem? (i := 19) rfl)
theorem dX4_tallestStep_35 : decode cX4_tallestStep 35 = .ok (.goto (-31), 3) := tX4_tallestStep_ok (35, .goto (-31), 3) (List.mem_of_getElem? (i := 20) rfl)
theorem dX4_tallestStep_38 : decode cX4_tallestStep 38 = .ok (.iload_n 1, 1) := tX4_tallestStep_ok (38, .iload_n 1, 1) (List.mem_of_getElem? (i := 21) rfl)
theorem dX4_tallestStep_39 : decode cX4_tallestStep 39 = .ok (.ireturn, 1) := tX4_tallestStep_ok (39, .ireturn, 1) (List.mem_of_getElem? (i := 22) rfl)

def tX4_stepsFallDeep : List (Nat × Instr × Nat) := [
  (0, .iconst 0, 1),
  (1, .istore_n 1, 1),
  (2, .iload_n 1, 1),
  (3, .aload_n 0, 1),
  (4, .getfield 24, 3),
  (7, .if_icmp .ge 27, 3),
  (10, .iload_n 1, 1),
  (11, .bipush 8, 2),
  (13, .if_icmp .ge 21, 3),
  (16, .aload_n 0, 1),
  (17, .getfield 15, 3),
  (20, .iload_n 1, 1),
  (21, .iaload, 1),
  (22, .iconst (-1), 1),
  (23, .if_icmp .ge 5, 3),
  (26, .iconst 1, 1),
  (27, .ireturn, 1),
  (28, .iinc 1 1, 3),
  (31, .goto (-29), 3),
  (34, .iconst 0, 1),
  (35, .ireturn, 1)]
set_option maxRecDepth 100000 in
theorem tX4_stepsFallDeep_ok : ∀ q ∈ tX4_stepsFallDeep, decode cX4_stepsFallDeep q.1 = .ok q.2 := by decide +kernel
theorem dX4_stepsFallDeep_0 : decode cX4_stepsFallDeep 0 = .ok (.iconst 0, 1) := tX4_stepsFallDeep_ok (0, .iconst 0, 1) (List.mem_of_getElem? (i := 0) rfl)
theorem dX4_stepsFallDeep_1 : decode cX4_stepsFallDeep 1 = .ok (.istore_n 1, 1) := tX4_stepsFallDeep_ok (1, .istore_n 1, 1) (List.mem_of_getElem? (i := 1) rfl)
theorem dX4_stepsFallDeep_2 : decode cX4_stepsFallDeep 2 = .ok (.iload_n 1, 1) := tX4_stepsFallDeep_ok (2, .iload_n 1, 1) (List.mem_of_getElem? (i := 2) rfl)
theorem dX4_stepsFallDeep_3 : decode cX4_stepsFallDeep 3 = .ok (.aload_n 0, 1) := tX4_stepsFallDeep_ok (3, .aload_n 0, 1) (List.mem_of_getElem? (i := 3) rfl)
theorem dX4_stepsFallDeep_4 : decode cX4_stepsFallDeep 4 = .ok (.getfield 24, 3) := tX4_stepsFallDeep_ok (4, .getfield 24, 3) (List.mem_of_getElem? (i := 4) rfl)
theorem dX4_stepsFallDeep_7 : decode cX4_stepsFallDeep 7 = .ok (.if_icmp .ge 27, 3) := tX4_stepsFallDeep_ok (7, .if_icmp .ge 27, 3) (List.mem_of_getElem? (i := 5) rfl)
theorem dX4_stepsFallDeep_10 : decode cX4_stepsFallDeep 10 = .ok (.iload_n 1, 1) := tX4_stepsFallDeep_ok (10, .iload_n 1, 1) (List.mem_of_getElem? (i := 6) rfl)
theorem dX4_stepsFallDeep_11 : decode cX4_stepsFallDeep 11 = .ok (.bipush 8, 2) := tX4_stepsFallDeep_ok (11, .bipush 8, 2) (List.mem_of_getElem? (i := 7) rfl)
theorem dX4_stepsFallDeep_13 : decode cX4_stepsFallDeep 13 = .ok (.if_icmp .ge 21, 3) := tX4_stepsFallDeep_ok (13, .if_icmp .ge 21, 3) (List.mem_of_getElem? (i := 8) rfl)
theorem dX4_stepsFallDeep_16 : decode cX4_stepsFallDeep 16 = .ok (.aload_n 0, 1) := tX4_stepsFallDeep_ok (16, .aload_n 0, 1) (List.mem_of_getElem? (i := 9) rfl)
theorem dX4_stepsFallDeep_17 : decode cX4_stepsFallDeep 17 = .ok (.getfield 15, 3) := tX4_stepsFallDeep_ok (17, .getfield 15, 3) (List.mem_of_getElem? (i := 10) rfl)
theorem dX4_stepsFallDeep_20 : decode cX4_stepsFallDeep 20 = .ok (.iload_n 1, 1) := tX4_stepsFallDeep_ok (20, .iload_n 1, 1) (List.mem_of_getElem? (i := 11) rfl)
theorem dX4_stepsFallDeep_21 : decode cX4_stepsFallDeep 21 = .ok (.iaload, 1) := tX4_stepsFallDeep_ok (21, .iaload, 1) (List.mem_of_getElem? (i := 12) rfl)
theorem dX4_stepsFallDeep_22 : decode cX4_stepsFallDeep 22 = .ok (.iconst (-1), 1) := tX4_stepsFallDeep_ok (22, .iconst (-1), 1) (List.mem_of_getElem? (i := 13) rfl)
theorem dX4_stepsFallDeep_23 : decode cX4_stepsFallDeep 23 = .ok (.if_icmp .ge 5, 3) := tX4_stepsFallDeep_ok (23, .if_icmp .ge 5, 3) (List.mem_of_getElem? (i := 14) rfl)
theorem dX4_stepsFallDeep_26 : decode cX4_stepsFallDeep 26 = .ok (.iconst 1, 1) := tX4_stepsFallDeep_ok (26, .iconst 1, 1) (List.mem_of_getElem? (i := 15) rfl)
theorem dX4_stepsFallDeep_27 : decode cX4_stepsFallDeep 27 = .ok (.ireturn, 1) := tX4_stepsFallDeep_ok (27, .ireturn, 1) (List.mem_of_getElem? (i := 16) rfl)
theorem dX4_stepsFallDeep_28 : decode cX4_stepsFallDeep 28 = .ok (.iinc 1 1, 3) := tX4_stepsFallDeep_ok (28, .iinc 1 1, 3) (List.mem_of_getElem? (i := 17) rfl)
theorem dX4_stepsFallDeep_31 : decode cX4_stepsFallDeep 31 = .ok (.goto (-29), 3) := tX4_stepsFallDeep_ok (31, .goto (-29), 3) (List.mem_of_getElem? (i := 18) rfl)
theorem dX4_stepsFallDeep_34 : decode cX4_stepsFallDeep 34 = .ok (.iconst 0, 1) := tX4_stepsFallDeep_ok (34, .iconst 0, 1) (List.mem_of_getElem? (i := 19) rfl)
theorem dX4_stepsFallDeep_35 : decode cX4_stepsFallDeep 35 = .ok (.ireturn, 1) := tX4_stepsFallDeep_ok (35, .ireturn, 1) (List.mem_of_getElem? (i := 20) rfl)

def tX4_stepsMirrored : List (Nat × Instr × Nat) := [
  (0, .iconst 0, 1),
  (1, .istore_n 1, 1),
  (2, .iload_n 1, 1),
  (3, .aload_n 0, 1),
  (4, .getfield 24, 3),
  (7, .if_icmp .ge 57, 3),
  (10, .iload_n 1, 1),
  (11, .bipush 8, 2),
  (13, .if_icmp .ge 51, 3),
  (16, .aload_n 0, 1),
  (17, .getfield 15, 3),
  (20, .iload_n 1, 1),
  (21, .iaload, 1),
  (22, .iconst 1, 1),
  (23, .if_icmp .eq 13, 3),
  (26, .aload_n 0, 1),
  (27, .getfield 15, 3),
  (30, .iload_n 1, 1),
  (31, .iaload, 1),
  (32, .iconst (-1), 1),
  (33, .if_icmp .ne 23, 3),
  (36, .aload_n 0, 1),
  (37, .aload_n 0, 1),
  (38, .getfield 9, 3),
  (41, .iload_n 1, 1),
  (42, .iaload, 1),
  (43, .aload_n 0, 1),
  (44, .getfield 15, 3),
  (47, .iload_n 1, 1),
  (48, .iaload, 1),
  (49, .ineg, 1),
  (50, .invokevirtual 105, 3),
  (53, .ifCond .ne 5, 3),
  (56, .iconst 0, 1),
  (57, .ireturn, 1),
  (58, .iinc 1 1, 3),
  (61, .goto (-59), 3),
  (64, .iconst 1, 1),
  (65, .ireturn, 1)]
set_option maxRecDepth 100000 in
theorem tX4_stepsMirrored_ok : ∀ q ∈ tX4_stepsMirrored, decode cX4_stepsMirrored q.1 = .ok q.2 := by decide +kernel
theorem dX4_stepsMirrored_0 : decode cX4_stepsMirrored 0 = .ok (.iconst 0, 1) := tX4_stepsMirrored_ok (0, .iconst 0, 1) (List.mem_of_getElem? (i := 0) rfl)
theorem dX4_stepsMirrored_1 : decode cX4_stepsMirrored 1 = .ok (.istore_n 1, 1) := tX4_stepsMirrored_ok (1, .istore_n 1, 1) (List.mem_of_getElem? (i := 1) rfl)
theorem dX4_stepsMirrored_2 : decode cX4_stepsMirrored 2 = .ok (.iload_n 1, 1) := tX4_stepsMirrored_ok (2, .iload_n 1, 1) (List.mem_of_getElem? (i := 2) rfl)
theorem dX4_stepsMirrored_3 : decode cX4_stepsMirrored 3 = .ok (.aload_n 0, 1) := tX4_stepsMirrored_ok (3, .aload_n 0, 1) (List.mem_of_getElem? (i := 3) rfl)
theorem dX4_stepsMirrored_4 : decode cX4_stepsMirrored 4 = .ok (.getfield 24, 3) := tX4_stepsMirrored_ok (4, .getfield 24, 3) (List.mem_of_getElem? (i := 4) rfl)
theorem dX4_stepsMirrored_7 : decode cX4_stepsMirrored 7 = .ok (.if_icmp .ge 57, 3) := tX4_stepsMirrored_ok (7, .if_icmp .ge 57, 3) (List.mem_of_getElem? (i := 5) rfl)
theorem dX4_stepsMirrored_10 : decode cX4_stepsMirrored 10 = .ok (.iload_n 1, 1) := tX4_stepsMirrored_ok (10, .iload_n 1, 1) (List.mem_of_getElem? (i := 6) rfl)
theorem dX4_stepsMirrored_11 : decode cX4_stepsMirrored 11 = .ok (.bipush 8, 2) := tX4_stepsMirrored_ok (11, .bipush 8, 2) (List.mem_of_getElem? (i := 7) rfl)
theorem dX4_stepsMirrored_13 : decode cX4_stepsMirrored 13 = .ok (.if_icmp .ge 51, 3) := tX4_stepsMirrored_ok (13, .if_icmp .ge 51, 3) (List.mem_of_getElem? (i := 8) rfl)
theorem dX4_stepsMirrored_16 : decode cX4_stepsMirrored 16 = .ok (.aload_n 0, 1) := tX4_stepsMirrored_ok (16, .aload_n 0, 1) (List.mem_of_getElem? (i := 9) rfl)
theorem dX4_stepsMirrored_17 : decode cX4_stepsMirrored 17 = .ok (.getfield 15, 3) := tX4_stepsMirrored_ok (17, .getfield 15, 3) (List.mem_of_getElem? (i := 10) rfl)
theorem dX4_stepsMirrored_20 : decode cX4_stepsMirrored 20 = .ok (.iload_n 1, 1) := tX4_stepsMirrored_ok (20, .iload_n 1, 1) (List.mem_of_getElem? (i := 11) rfl)
theorem dX4_stepsMirrored_21 : decode cX4_stepsMirrored 21 = .ok (.iaload, 1) := tX4_stepsMirrored_ok (21, .iaload, 1) (List.mem_of_getElem? (i := 12) rfl)
theorem dX4_stepsMirrored_22 : decode cX4_stepsMirrored 22 = .ok (.iconst 1, 1) := tX4_stepsMirrored_ok (22, .iconst 1, 1) (List.mem_of_getElem? (i := 13) rfl)
theorem dX4_stepsMirrored_23 : decode cX4_stepsMirrored 23 = .ok (.if_icmp .eq 13, 3) := tX4_stepsMirrored_ok (23, .if_icmp .eq 13, 3) (List.mem_of_getElem? (i := 14) rfl)
theorem dX4_stepsMirrored_26 : decode cX4_stepsMirrored 26 = .ok (.aload_n 0, 1) := tX4_stepsMirrored_ok (26, .aload_n 0, 1) (List.mem_of_getElem? (i := 15) rfl)
theorem dX4_stepsMirrored_27 : decode cX4_stepsMirrored 27 = .ok (.getfield 15, 3) := tX4_stepsMirrored_ok (27, .getfield 15, 3) (List.mem_of_getElem? (i := 16) rfl)
theorem dX4_stepsMirrored_30 : decode cX4_stepsMirrored 30 = .ok (.iload_n 1, 1) := tX4_stepsMirrored_ok (30, .iload_n 1, 1) (List.mem_of_getElem? (i := 17) rfl)
theorem dX4_stepsMirrored_31 : decode cX4_stepsMirrored 31 = .ok (.iaload, 1) := tX4_stepsMirrored_ok (31, .iaload, 1) (List.mem_of_getElem? (i := 18) rfl)
theorem dX4_stepsMirrored_32 : decode cX4_stepsMirrored 32 = .ok (.iconst (-1), 1) := tX4_stepsMirrored_ok (32, .iconst (-1), 1) (List.mem_of_getElem? (i := 19) rfl)
theorem dX4_stepsMirrored_33 : decode cX4_stepsMirrored 33 = .ok (.if_icmp .ne 23, 3) := tX4_stepsMirrored_ok (33, .if_icmp .ne 23, 3) (List.mem_of_getElem? (i := 20) rfl)
theorem dX4_stepsMirrored_36 : decode cX4_stepsMirrored 36 = .ok (.aload_n 0, 1) := tX4_stepsMirrored_ok (36, .aload_n 0, 1) (List.mem_of_getElem? (i := 21) rfl)
theorem dX4_stepsMirrored_37 : decode cX4_stepsMirrored 37 = .ok (.aload_n 0, 1) := tX4_stepsMirrored_ok (37, .aload_n 0, 1) (List.mem_of_getElem? (i := 22) rfl)
theorem dX4_stepsMirrored_38 : decode cX4_stepsMirrored 38 = .ok (.getfield 9, 3) := tX4_stepsMirrored_ok (38, .getfield 9, 3) (List.mem_of_getElem? (i := 23) rfl)
theorem dX4_stepsMirrored_41 : decode cX4_stepsMirrored 41 = .ok (.iload_n 1, 1) := tX4_stepsMirrored_ok (41, .iload_n 1, 1) (List.mem_of_getElem? (i := 24) rfl)
theorem dX4_stepsMirrored_42 : decode cX4_stepsMirrored 42 = .ok (.iaload, 1) := tX4_stepsMirrored_ok (42, .iaload, 1) (List.mem_of_getElem? (i := 25) rfl)
theorem dX4_stepsMirrored_43 : decode cX4_stepsMirrored 43 = .ok (.aload_n 0, 1) := tX4_stepsMirrored_ok (43, .aload_n 0, 1) (List.mem_of_getElem? (i := 26) rfl)
theorem dX4_stepsMirrored_44 : decode cX4_stepsMirrored 44 = .ok (.getfield 15, 3) := tX4_stepsMirrored_ok (44, .getfield 15, 3) (List.mem_of_getElem? (i := 27) rfl)
theorem dX4_stepsMirrored_47 : decode cX4_stepsMirrored 47 = .ok (.iload_n 1, 1) := tX4_stepsMirrored_ok (47, .iload_n 1, 1) (List.mem_of_getElem? (i := 28) rfl)
theorem dX4_stepsMirrored_48 : decode cX4_stepsMirrored 48 = .ok (.iaload, 1) := tX4_stepsMirrored_ok (48, .iaload, 1) (List.mem_of_getElem? (i := 29) rfl)
theorem dX4_stepsMirrored_49 : decode cX4_stepsMirrored 49 = .ok (.ineg, 1) := tX4_stepsMirrored_ok (49, .ineg, 1) (List.mem_of_getElem? (i := 30) rfl)
theorem dX4_stepsMirrored_50 : decode cX4_stepsMirrored 50 = .ok (.invokevirtual 105, 3) := tX4_stepsMirrored_ok (50, .invokevirtual 105, 3) (List.mem_of_getElem? (i := 31) rfl)
theorem dX4_stepsMirrored_53 : decode cX4_stepsMirrored 53 = .ok (.ifCond .ne 5, 3) := tX4_stepsMirrored_ok (53, .ifCond .ne 5, 3) (List.mem_of_getElem? (i := 32) rfl)
theorem dX4_stepsMirrored_56 : decode cX4_stepsMirrored 56 = .ok (.iconst 0, 1) := tX4_stepsMirrored_ok (56, .iconst 0, 1) (List.mem_of_getElem? (i := 33) rfl)
theorem dX4_stepsMirrored_57 : decode cX4_stepsMirrored 57 = .ok (.ireturn, 1) := tX4_stepsMirrored_ok (57, .ireturn, 1) (List.mem_of_getElem? (i := 34) rfl)
theorem dX4_stepsMirrored_58 : decode cX4_stepsMirrored 58 = .ok (.iinc 1 1, 3) := tX4_stepsMirrored_ok (58, .iinc 1 1, 3) (List.mem_of_getElem? (i := 35) rfl)
theorem dX4_stepsMirrored_61 : decode cX4_stepsMirrored 61 = .ok (.goto (-59), 3) := tX4_stepsMirrored_ok (61, .goto (-59), 3) (List.mem_of_getElem? (i := 36) rfl)
theorem dX4_stepsMirrored_64 : decode cX4_stepsMirrored 64 = .ok (.iconst 1, 1) := tX4_stepsMirrored_ok (64, .iconst 1, 1) (List.mem_of_getElem? (i := 37) rfl)
theorem dX4_stepsMirrored_65 : decode cX4_stepsMirrored 65 = .ok (.ireturn, 1) := tX4_stepsMirrored_ok (65, .ireturn, 1) (List.mem_of_getElem? (i := 38) rfl)

def tX4_hasStepOf : List (Nat × Instr × Nat) := [
  (0, .iconst 0, 1),
  (1, .istore_n 3, 1),
  (2, .iload_n 3, 1),
  (3, .aload_n 0, 1),
  (4, .getfield 24, 3),
  (7, .if_icmp .ge 37, 3),
  (10, .iload_n 3, 1),
  (11, .bipush 8, 2),
  (13, .if_icmp .ge 31, 3),
  (16, .aload_n 0, 1),
  (17, .getfield 9, 3),
  (20, .iload_n 3, 1),
  (21, .iaload, 1),
  (22, .iload_n 1, 1),
  (23, .if_icmp .ne 15, 3),
  (26, .aload_n 0, 1),
  (27, .getfield 15, 3),
  (30, .iload_n 3, 1),
  (31, .iaload, 1),
  (32, .iload_n 2, 1),
  (33, .if_icmp .ne 5, 3),
  (36, .iconst 1, 1),
  (37, .ireturn, 1),
  (38, .iinc 3 1, 3),
  (41, .goto (-39), 3),
  (44, .iconst 0, 1),
  (45, .ireturn, 1)]
set_option maxRecDepth 100000 in
theorem tX4_hasStepOf_ok : ∀ q ∈ tX4_hasStepOf, decode cX4_hasStepOf q.1 = .ok q.2 := by decide +kernel
theorem dX4_hasStepOf_0 : decode cX4_hasStepOf 0 = .ok (.iconst 0, 1) := tX4_hasStepOf_ok (0, .iconst 0, 1) (List.mem_of_getElem? (i := 0) rfl)
theorem dX4_hasStepOf_1 : decode cX4_hasStepOf 1 = .ok (.istore_n 3, 1) := tX4_hasStepOf_ok (1, .istore_n 3, 1) (List.mem_of_getElem? (i := 1) rfl)
theorem dX4_hasStepOf_2 : decode cX4_hasStepOf 2 = .ok (.iload_n 3, 1) := tX4_hasStepOf_ok (2, .iload_n 3, 1) (List.mem_of_getElem? (i := 2) rfl)
theorem dX4_hasStepOf_3 : decode cX4_hasStepOf 3 = .ok (.aload_n 0, 1) := tX4_hasStepOf_ok (3, .aload_n 0, 1) (List.mem_of_getElem? (i := 3) rfl)
theorem dX4_hasStepOf_4 : decode cX4_hasStepOf 4 = .ok (.getfield 24, 3) := tX4_hasStepOf_ok (4, .getfield 24, 3) (List.mem_of_getElem? (i := 4) rfl)
theorem dX4_hasStepOf_7 : decode cX4_hasStepOf 7 = .ok (.if_icmp .ge 37, 3) := tX4_hasStepOf_ok (7, .if_icmp .ge 37, 3) (List.mem_of_getElem? (i := 5) rfl)
theorem dX4_hasStepOf_10 : decode cX4_hasStepOf 10 = .ok (.iload_n 3, 1) := tX4_hasStepOf_ok (10, .iload_n 3, 1) (List.mem_of_getElem? (i := 6) rfl)
theorem dX4_hasStepOf_11 : decode cX4_hasStepOf 11 = .ok (.bipush 8, 2) := tX4_hasStepOf_ok (11, .bipush 8, 2) (List.mem_of_getElem? (i := 7) rfl)
theorem dX4_hasStepOf_13 : decode cX4_hasStepOf 13 = .ok (.if_icmp .ge 31, 3) := tX4_hasStepOf_ok (13, .if_icmp .ge 31, 3) (List.mem_of_getElem? (i := 8) rfl)
theorem dX4_hasStepOf_16 : decode cX4_hasStepOf 16 = .ok (.aload_n 0, 1) := tX4_hasStepOf_ok (16, .aload_n 0, 1) (List.mem_of_getElem? (i := 9) rfl)
theorem dX4_hasStepOf_17 : decode cX4_hasStepOf 17 = .ok (.getfield 9, 3) := tX4_hasStepOf_ok (17, .getfield 9, 3) (List.mem_of_getElem? (i := 10) rfl)
theorem dX4_hasStepOf_20 : decode cX4_hasStepOf 20 = .ok (.iload_n 3, 1) := tX4_hasStepOf_ok (20, .iload_n 3, 1) (List.mem_of_getElem? (i := 11) rfl)
theorem dX4_hasStepOf_21 : decode cX4_hasStepOf 21 = .ok (.iaload, 1) := tX4_hasStepOf_ok (21, .iaload, 1) (List.mem_of_getElem? (i := 12) rfl)
theorem dX4_hasStepOf_22 : decode cX4_hasStepOf 22 = .ok (.iload_n 1, 1) := tX4_hasStepOf_ok (22, .iload_n 1, 1) (List.mem_of_getElem? (i := 13) rfl)
theorem dX4_hasStepOf_23 : decode cX4_hasStepOf 23 = .ok (.if_icmp .ne 15, 3) := tX4_hasStepOf_ok (23, .if_icmp .ne 15, 3) (List.mem_of_getElem? (i := 14) rfl)
theorem dX4_hasStepOf_26 : decode cX4_hasStepOf 26 = .ok (.aload_n 0, 1) := tX4_hasStepOf_ok (26, .aload_n 0, 1) (List.mem_of_getElem? (i := 15) rfl)
theorem dX4_hasStepOf_27 : decode cX4_hasStepOf 27 = .ok (.getfield 15, 3) := tX4_hasStepOf_ok (27, .getfield 15, 3) (List.mem_of_getElem? (i := 16) rfl)
theorem dX4_hasStepOf_30 : decode cX4_hasStepOf 30 = .ok (.iload_n 3, 1) := tX4_hasStepOf_ok (30, .iload_n 3, 1) (List.mem_of_getElem? (i := 17) rfl)
theorem dX4_hasStepOf_31 : decode cX4_hasStepOf 31 = .ok (.iaload, 1) := tX4_hasStepOf_ok (31, .iaload, 1) (List.mem_of_getElem? (i := 18) rfl)
theorem dX4_hasStepOf_32 : decode cX4_hasStepOf 32 = .ok (.iload_n 2, 1) := tX4_hasStepOf_ok (32, .iload_n 2, 1) (List.mem_of_getElem? (i := 19) rfl)
theorem dX4_hasStepOf_33 : decode cX4_hasStepOf 33 = .ok (.if_icmp .ne 5, 3) := tX4_hasStepOf_ok (33, .if_icmp .ne 5, 3) (List.mem_of_getElem? (i := 20) rfl)
theorem dX4_hasStepOf_36 : decode cX4_hasStepOf 36 = .ok (.iconst 1, 1) := tX4_hasStepOf_ok (36, .iconst 1, 1) (List.mem_of_getElem? (i := 21) rfl)
theorem dX4_hasStepOf_37 : decode cX4_hasStepOf 37 = .ok (.ireturn, 1) := tX4_hasStepOf_ok (37, .ireturn, 1) (List.mem_of_getElem? (i := 22) rfl)
theorem dX4_hasStepOf_38 : decode cX4_hasStepOf 38 = .ok (.iinc 3 1, 3) := tX4_hasStepOf_ok (38, .iinc 3 1, 3) (List.mem_of_getElem? (i := 23) rfl)
theorem dX4_hasStepOf_41 : decode cX4_hasStepOf 41 = .ok (.goto (-39), 3) := tX4_hasStepOf_ok (41, .goto (-39), 3) (List.mem_of_getElem? (i := 24) rfl)
theorem dX4_hasStepOf_44 : decode cX4_hasStepOf 44 = .ok (.iconst 0, 1) := tX4_hasStepOf_ok (44, .iconst 0, 1) (List.mem_of_getElem? (i := 25) rfl)
theorem dX4_hasStepOf_45 : decode cX4_hasStepOf 45 = .ok (.ireturn, 1) := tX4_hasStepOf_ok (45, .ireturn, 1) (List.mem_of_getElem? (i := 26) rfl)

def tX5_init : List (Nat × Instr × Nat) := [
  (0, .aload_n 0, 1),
  (1, .invokespecial 3, 3),
  (4, .aload_n 0, 1),
  (5, .sipush 256, 3),
  (8, .newarray .int, 2),
  (10, .putfield 9, 3),
  (13, .aload_n 0, 1),
  (14, .iconst 4, 1),
  (15, .newarray .int, 2),
  (17, .putfield 15, 3),
  (20, .aload_n 0, 1),
  (21, .iconst 4, 1),
  (22, .newarray .int, 2),
  (24, .putfield 18, 3),
  (27, .iconst 0, 1),
  (28, .istore_n 1, 1),
  (29, .iload_n 1, 1),
  (30, .iconst 4, 1),
  (31, .if_icmp .ge 16, 3),
  (34, .aload_n 0, 1),
  (35, .getfield 18, 3),
  (38, .iload_n 1, 1),
  (39, .iconst (-1), 1),
  (40, .iastore, 1),
  (41, .iinc 1 1, 3),
  (44, .goto (-15), 3),
  (47, .return_, 1)]
set_option maxRecDepth 100000 in
theorem tX5_init_ok : ∀ q ∈ tX5_init, decode cX5_init q.1 = .ok q.2 := by decide +kernel
theorem dX5_init_0 : decode cX5_init 0 = .ok (.aload_n 0, 1) := tX5_init_ok (0, .aload_n 0, 1) (List.mem_of_getElem? (i := 0) rfl)
theorem dX5_init_1 : decode cX5_init 1 = .ok (.invokespecial 3, 3) := tX5_init_ok (1, .invokespecial 3, 3) (List.mem_of_getElem? (i := 1) rfl)
theorem dX5_init_4 : decode cX5_init 4 = .ok (.aload_n 0, 1) := tX5_init_ok (4, .aload_n 0, 1) (List.mem_of_getElem? (i := 2) rfl)
theorem dX5_init_5 : decode cX5_init 5 = .ok (.sipush 256, 3) := tX5_init_ok (5, .sipush 256, 3) (List.mem_of_getElem? (i := 3) rfl)
theorem dX5_init_8 : decode cX5_init 8 = .ok (.newarray .int, 2) := tX5_init_ok (8, .newarray .int, 2) (List.mem_of_getElem? (i := 4) rfl)
theorem dX5_init_10 : decode cX5_init 10 = .ok (.putfield 9, 3) := tX5_init_ok (10, .putfield 9, 3) (List.mem_of_getElem? (i := 5) rfl)
theorem dX5_init_13 : decode cX5_init 13 = .ok (.aload_n 0, 1) := tX5_init_ok (13, .aload_n 0, 1) (List.mem_of_getElem? (i := 6) rfl)
theorem dX5_init_14 : decode cX5_init 14 = .ok (.iconst 4, 1) := tX5_init_ok (14, .iconst 4, 1) (List.mem_of_getElem? (i := 7) rfl)
theorem dX5_init_15 : decode cX5_init 15 = .ok (.newarray .int, 2) := tX5_init_ok (15, .newarray .int, 2) (List.mem_of_getElem? (i := 8) rfl)
theorem dX5_init_17 : decode cX5_init 17 = .ok (.putfield 15, 3) := tX5_init_ok (17, .putfield 15, 3) (List.mem_of_getElem? (i := 9) rfl)
theorem dX5_init_20 : decode cX5_init 20 = .ok (.aload_n 0, 1) := tX5_init_ok (20, .aload_n 0, 1) (List.mem_of_getElem? (i := 10) rfl)
theorem dX5_init_21 : decode cX5_init 21 = .ok (.iconst 4, 1) := tX5_init_ok (21, .iconst 4, 1) (List.mem_of_getElem? (i := 11) rfl)
theorem dX5_init_22 : decode cX5_init 22 = .ok (.newarray .int, 2) := tX5_init_ok (22, .newarray .int, 2) (List.mem_of_getElem? (i := 12) rfl)
theorem dX5_init_24 : decode cX5_init 24 = .ok (.putfield 18, 3) := tX5_init_ok (24, .putfield 18, 3) (List.mem_of_getElem? (i := 13) rfl)
theorem dX5_init_27 : decode cX5_init 27 = .ok (.iconst 0, 1) := tX5_init_ok (27, .iconst 0, 1) (List.mem_of_getElem? (i := 14) rfl)
theorem dX5_init_28 : decode cX5_init 28 = .ok (.istore_n 1, 1) := tX5_init_ok (28, .istore_n 1, 1) (List.mem_of_getElem? (i := 15) rfl)
theorem dX5_init_29 : decode cX5_init 29 = .ok (.iload_n 1, 1) := tX5_init_ok (29, .iload_n 1, 1) (List.mem_of_getElem? (i := 16) rfl)
theorem dX5_init_30 : decode cX5_init 30 = .ok (.iconst 4, 1) := tX5_init_ok (30, .iconst 4, 1) (List.mem_of_getElem? (i := 17) rfl)
theorem dX5_init_31 : decode cX5_init 31 = .ok (.if_icmp .ge 16, 3) := tX5_init_ok (31, .if_icmp .ge 16, 3) (List.mem_of_getElem? (i := 18) rfl)
theorem dX5_init_34 : decode cX5_init 34 = .ok (.aload_n 0, 1) := tX5_init_ok (34, .aload_n 0, 1) (List.mem_of_getElem? (i := 19) rfl)
theorem dX5_init_35 : decode cX5_init 35 = .ok (.getfield 18, 3) := tX5_init_ok (35, .getfield 18, 3) (List.mem_of_getElem? (i := 20) rfl)
theorem dX5_init_38 : decode cX5_init 38 = .ok (.iload_n 1, 1) := tX5_init_ok (38, .iload_n 1, 1) (List.mem_of_getElem? (i := 21) rfl)
theorem dX5_init_39 : decode cX5_init 39 = .ok (.iconst (-1), 1) := tX5_init_ok (39, .iconst (-1), 1) (List.mem_of_getElem? (i := 22) rfl)
theorem dX5_init_40 : decode cX5_init 40 = .ok (.iastore, 1) := tX5_init_ok (40, .iastore, 1) (List.mem_of_getElem? (i := 23) rfl)
theorem dX5_init_41 : decode cX5_init 41 = .ok (.iinc 1 1, 3) := tX5_init_ok (41, .iinc 1 1, 3) (List.mem_of_getElem? (i := 24) rfl)
theorem dX5_init_44 : decode cX5_init 44 = .ok (.goto (-15), 3) := tX5_init_ok (44, .goto (-15), 3) (List.mem_of_getElem? (i := 25) rfl)
theorem dX5_init_47 : decode cX5_init 47 = .ok (.return_, 1) := tX5_init_ok (47, .return_, 1) (List.mem_of_getElem? (i := 26) rfl)

def tX5_known : List (Nat × Instr × Nat) := [
  (0, .iload_n 0, 1),
  (1, .ifCond .lt 12, 3),
  (4, .iload_n 0, 1),
  (5, .iconst 4, 1),
  (6, .if_icmp .ge 7, 3),
  (9, .iconst 1, 1),
  (10, .goto 4, 3),
  (13, .iconst 0, 1),
  (14, .ireturn, 1)]
set_option maxRecDepth 100000 in
theorem tX5_known_ok : ∀ q ∈ tX5_known, decode cX5_known q.1 = .ok q.2 := by decide +kernel
theorem dX5_known_0 : decode cX5_known 0 = .ok (.iload_n 0, 1) := tX5_known_ok (0, .iload_n 0, 1) (List.mem_of_getElem? (i := 0) rfl)
theorem dX5_known_1 : decode cX5_known 1 = .ok (.ifCond .lt 12, 3) := tX5_known_ok (1, .ifCond .lt 12, 3) (List.mem_of_getElem? (i := 1) rfl)
theorem dX5_known_4 : decode cX5_known 4 = .ok (.iload_n 0, 1) := tX5_known_ok (4, .iload_n 0, 1) (List.mem_of_getElem? (i := 2) rfl)
theorem dX5_known_5 : decode cX5_known 5 = .ok (.iconst 4, 1) := tX5_known_ok (5, .iconst 4, 1) (List.mem_of_getElem? (i := 3) rfl)
theorem dX5_known_6 : decode cX5_known 6 = .ok (.if_icmp .ge 7, 3) := tX5_known_ok (6, .if_icmp .ge 7, 3) (List.mem_of_getElem? (i := 4) rfl)
theorem dX5_known_9 : decode cX5_known 9 = .ok (.iconst 1, 1) := tX5_known_ok (9, .iconst 1, 1) (List.mem_of_getElem? (i := 5) rfl)
theorem dX5_known_10 : decode cX5_known 10 = .ok (.goto 4, 3) := tX5_known_ok (10, .goto 4, 3) (List.mem_of_getElem? (i := 6) rfl)
theorem dX5_known_13 : decode cX5_known 13 = .ok (.iconst 0, 1) := tX5_known_ok (13, .iconst 0, 1) (List.mem_of_getElem? (i := 7) rfl)
theorem dX5_known_14 : decode cX5_known 14 = .ok (.ireturn, 1) := tX5_known_ok (14, .ireturn, 1) (List.mem_of_getElem? (i := 8) rfl)

def tX5_missing : List (Nat × Instr × Nat) := [
  (0, .iload_n 1, 1),
  (1, .invokestatic 21, 3),
  (4, .ifCond .eq 12, 3),
  (7, .aload_n 0, 1),
  (8, .getfield 18, 3),
  (11, .iload_n 1, 1),
  (12, .iaload, 1),
  (13, .ifCond .ge 7, 3),
  (16, .iconst 1, 1),
  (17, .goto 4, 3),
  (20, .iconst 0, 1),
  (21, .ireturn, 1)]
set_option maxRecDepth 100000 in
theorem tX5_missing_ok : ∀ q ∈ tX5_missing, decode cX5_missing q.1 = .ok q.2 := by decide +kernel
theorem dX5_missing_0 : decode cX5_missing 0 = .ok (.iload_n 1, 1) := tX5_missing_ok (0, .iload_n 1, 1) (List.mem_of_getElem? (i := 0) rfl)
theorem dX5_missing_1 : decode cX5_missing 1 = .ok (.invokestatic 21, 3) := tX5_missing_ok (1, .invokestatic 21, 3) (List.mem_of_getElem? (i := 1) rfl)
theorem dX5_missing_4 : decode cX5_missing 4 = .ok (.ifCond .eq 12, 3) := tX5_missing_ok (4, .ifCond .eq 12, 3) (List.mem_of_getElem? (i := 2) rfl)
theorem dX5_missing_7 : decode cX5_missing 7 = .ok (.aload_n 0, 1) := tX5_missing_ok (7, .aload_n 0, 1) (List.mem_of_getElem? (i := 3) rfl)
theorem dX5_missing_8 : decode cX5_missing 8 = .ok (.getfield 18, 3) := tX5_missing_ok (8, .getfield 18, 3) (List.mem_of_getElem? (i := 4) rfl)
theorem dX5_missing_11 : decode cX5_missing 11 = .ok (.iload_n 1, 1) := tX5_missing_ok (11, .iload_n 1, 1) (List.mem_of_getElem? (i := 5) rfl)
theorem dX5_missing_12 : decode cX5_missing 12 = .ok (.iaload, 1) := tX5_missing_ok (12, .iaload, 1) (List.mem_of_getElem? (i := 6) rfl)
theorem dX5_missing_13 : decode cX5_missing 13 = .ok (.ifCond .ge 7, 3) := tX5_missing_ok (13, .ifCond .ge 7, 3) (List.mem_of_getElem? (i := 7) rfl)
theorem dX5_missing_16 : decode cX5_missing 16 = .ok (.iconst 1, 1) := tX5_missing_ok (16, .iconst 1, 1) (List.mem_of_getElem? (i := 8) rfl)
theorem dX5_missing_17 : decode cX5_missing 17 = .ok (.goto 4, 3) := tX5_missing_ok (17, .goto 4, 3) (List.mem_of_getElem? (i := 9) rfl)
theorem dX5_missing_20 : decode cX5_missing 20 = .ok (.iconst 0, 1) := tX5_missing_ok (20, .iconst 0, 1) (List.mem_of_getElem? (i := 10) rfl)
theorem dX5_missing_21 : decode cX5_missing 21 = .ok (.ireturn, 1) := tX5_missing_ok (21, .ireturn, 1) (List.mem_of_getElem? (i := 11) rfl)

def tX5_sortOf : List (Nat × Instr × Nat) := [
  (0, .iload_n 1, 1),
  (1, .invokestatic 21, 3),
  (4, .ifCond .eq 12, 3),
  (7, .aload_n 0, 1),
  (8, .getfield 15, 3),
  (11, .iload_n 1, 1),
  (12, .iaload, 1),
  (13, .goto 4, 3),
  (16, .iconst (-1), 1),
  (17, .ireturn, 1)]
set_option maxRecDepth 100000 in
theorem tX5_sortOf_ok : ∀ q ∈ tX5_sortOf, decode cX5_sortOf q.1 = .ok q.2 := by decide +kernel
theorem dX5_sortOf_0 : decode cX5_sortOf 0 = .ok (.iload_n 1, 1) := tX5_sortOf_ok (0, .iload_n 1, 1) (List.mem_of_getElem? (i := 0) rfl)
theorem dX5_sortOf_1 : decode cX5_sortOf 1 = .ok (.invokestatic 21, 3) := tX5_sortOf_ok (1, .invokestatic 21, 3) (List.mem_of_getElem? (i := 1) rfl)
theorem dX5_sortOf_4 : decode cX5_sortOf 4 = .ok (.ifCond .eq 12, 3) := tX5_sortOf_ok (4, .ifCond .eq 12, 3) (List.mem_of_getElem? (i := 2) rfl)
theorem dX5_sortOf_7 : decode cX5_sortOf 7 = .ok (.aload_n 0, 1) := tX5_sortOf_ok (7, .aload_n 0, 1) (List.mem_of_getElem? (i := 3) rfl)
theorem dX5_sortOf_8 : decode cX5_sortOf 8 = .ok (.getfield 15, 3) := tX5_sortOf_ok (8, .getfield 15, 3) (List.mem_of_getElem? (i := 4) rfl)
theorem dX5_sortOf_11 : decode cX5_sortOf 11 = .ok (.iload_n 1, 1) := tX5_sortOf_ok (11, .iload_n 1, 1) (List.mem_of_getElem? (i := 5) rfl)
theorem dX5_sortOf_12 : decode cX5_sortOf 12 = .ok (.iaload, 1) := tX5_sortOf_ok (12, .iaload, 1) (List.mem_of_getElem? (i := 6) rfl)
theorem dX5_sortOf_13 : decode cX5_sortOf 13 = .ok (.goto 4, 3) := tX5_sortOf_ok (13, .goto 4, 3) (List.mem_of_getElem? (i := 7) rfl)
theorem dX5_sortOf_16 : decode cX5_sortOf 16 = .ok (.iconst (-1), 1) := tX5_sortOf_ok (16, .iconst (-1), 1) (List.mem_of_getElem? (i := 8) rfl)
theorem dX5_sortOf_17 : decode cX5_sortOf 17 = .ok (.ireturn, 1) := tX5_sortOf_ok (17, .ireturn, 1) (List.mem_of_getElem? (i := 9) rfl)

def tX5_holds : List (Nat × Instr × Nat) := [
  (0, .iload_n 1, 1),
  (1, .invokestatic 21, 3),
  (4, .ifCond .eq 31, 3),
  (7, .iload_n 2, 1),
  (8, .ifCond .lt 27, 3),
  (11, .iload_n 3, 1),
  (12, .ifCond .lt 23, 3),
  (15, .iload_n 2, 1),
  (16, .i2l, 1),
  (17, .iload_n 3, 1),
  (18, .i2l, 1),
  (19, .ladd, 1),
  (20, .aload_n 0, 1),
  (21, .getfield 18, 3),
  (24, .iload_n 1, 1),
  (25, .iaload, 1),
  (26, .i2l, 1),
  (27, .lcmp, 1),
  (28, .ifCond .gt 7, 3),
  (31, .iconst 1, 1),
  (32, .goto 4, 3),
  (35, .iconst 0, 1),
  (36, .ireturn, 1)]
set_option maxRecDepth 100000 in
theorem tX5_holds_ok : ∀ q ∈ tX5_holds, decode cX5_holds q.1 = .ok q.2 := by decide +kernel
theorem dX5_holds_0 : decode cX5_holds 0 = .ok (.iload_n 1, 1) := tX5_holds_ok (0, .iload_n 1, 1) (List.mem_of_getElem? (i := 0) rfl)
theorem dX5_holds_1 : decode cX5_holds 1 = .ok (.invokestatic 21, 3) := tX5_holds_ok (1, .invokestatic 21, 3) (List.mem_of_getElem? (i := 1) rfl)
theorem dX5_holds_4 : decode cX5_holds 4 = .ok (.ifCond .eq 31, 3) := tX5_holds_ok (4, .ifCond .eq 31, 3) (List.mem_of_getElem? (i := 2) rfl)
theorem dX5_holds_7 : decode cX5_holds 7 = .ok (.iload_n 2, 1) := tX5_holds_ok (7, .iload_n 2, 1) (List.mem_of_getElem? (i := 3) rfl)
theorem dX5_holds_8 : decode cX5_holds 8 = .ok (.ifCond .lt 27, 3) := tX5_holds_ok (8, .ifCond .lt 27, 3) (List.mem_of_getElem? (i := 4) rfl)
theorem dX5_holds_11 : decode cX5_holds 11 = .ok (.iload_n 3, 1) := tX5_holds_ok (11, .iload_n 3, 1) (List.mem_of_getElem? (i := 5) rfl)
theorem dX5_holds_12 : decode cX5_holds 12 = .ok (.ifCond .lt 23, 3) := tX5_holds_ok (12, .ifCond .lt 23, 3) (List.mem_of_getElem? (i := 6) rfl)
theorem dX5_holds_15 : decode cX5_holds 15 = .ok (.iload_n 2, 1) := tX5_holds_ok (15, .iload_n 2, 1) (List.mem_of_getElem? (i := 7) rfl)
theorem dX5_holds_16 : decode cX5_holds 16 = .ok (.i2l, 1) := tX5_holds_ok (16, .i2l, 1) (List.mem_of_getElem? (i := 8) rfl)
theorem dX5_holds_17 : decode cX5_holds 17 = .ok (.iload_n 3, 1) := tX5_holds_ok (17, .iload_n 3, 1) (List.mem_of_getElem? (i := 9) rfl)
theorem dX5_holds_18 : decode cX5_holds 18 = .ok (.i2l, 1) := tX5_holds_ok (18, .i2l, 1) (List.mem_of_getElem? (i := 10) rfl)
theorem dX5_holds_19 : decode cX5_holds 19 = .ok (.ladd, 1) := tX5_holds_ok (19, .ladd, 1) (List.mem_of_getElem? (i := 11) rfl)
theorem dX5_holds_20 : decode cX5_holds 20 = .ok (.aload_n 0, 1) := tX5_holds_ok (20, .aload_n 0, 1) (List.mem_of_getElem? (i := 12) rfl)
theorem dX5_holds_21 : decode cX5_holds 21 = .ok (.getfield 18, 3) := tX5_holds_ok (21, .getfield 18, 3) (List.mem_of_getElem? (i := 13) rfl)
theorem dX5_holds_24 : decode cX5_holds 24 = .ok (.iload_n 1, 1) := tX5_holds_ok (24, .iload_n 1, 1) (List.mem_of_getElem? (i := 14) rfl)
theorem dX5_holds_25 : decode cX5_holds 25 = .ok (.iaload, 1) := tX5_holds_ok (25, .iaload, 1) (List.mem_of_getElem? (i := 15) rfl)
theorem dX5_holds_26 : decode cX5_holds 26 = .ok (.i2l, 1) := tX5_holds_ok (26, .i2l, 1) (List.mem_of_getElem? (i := 16) rfl)
theorem dX5_holds_27 : decode cX5_holds 27 = .ok (.lcmp, 1) := tX5_holds_ok (27, .lcmp, 1) (List.mem_of_getElem? (i := 17) rfl)
theorem dX5_holds_28 : decode cX5_holds 28 = .ok (.ifCond .gt 7, 3) := tX5_holds_ok (28, .ifCond .gt 7, 3) (List.mem_of_getElem? (i := 18) rfl)
theorem dX5_holds_31 : decode cX5_holds 31 = .ok (.iconst 1, 1) := tX5_holds_ok (31, .iconst 1, 1) (List.mem_of_getElem? (i := 19) rfl)
theorem dX5_holds_32 : decode cX5_holds 32 = .ok (.goto 4, 3) := tX5_holds_ok (32, .goto 4, 3) (List.mem_of_getElem? (i := 20) rfl)
theorem dX5_holds_35 : decode cX5_holds 35 = .ok (.iconst 0, 1) := tX5_holds_ok (35, .iconst 0, 1) (List.mem_of_getElem? (i := 21) rfl)
theorem dX5_holds_36 : decode cX5_holds 36 = .ok (.ireturn, 1) := tX5_holds_ok (36, .ireturn, 1) (List.mem_of_getElem? (i := 22) rfl)

def tX5_lay : List (Nat × Instr × Nat) := [
  (0, .iload_n 1, 1),
  (1, .invokestatic 21, 3),
  (4, .ifCond .ne 4, 3),
  (7, .return_, 1),
  (8, .aload_n 0, 1),
  (9, .getfield 15, 3),
  (12, .iload_n 1, 1),
  (13, .iload_n 2, 1),
  (14, .iastore, 1),
  (15, .aload_n 0, 1),
  (16, .getfield 18, 3),
  (19, .iload_n 1, 1),
  (20, .iload_n 3, 1),
  (21, .iastore, 1),
  (22, .iconst 0, 1),
  (23, .istore 4, 2),
  (25, .iload 4, 2),
  (27, .bipush 64, 2),
  (29, .if_icmp .ge 22, 3),
  (32, .aload_n 0, 1),
  (33, .getfield 9, 3),
  (36, .iload_n 1, 1),
  (37, .bipush 64, 2),
  (39, .imul, 1),
  (40, .iload 4, 2),
  (42, .iadd, 1),
  (43, .iconst 0, 1),
  (44, .iastore, 1),
  (45, .iinc 4 1, 3),
  (48, .goto (-23), 3),
  (51, .return_, 1)]
set_option maxRecDepth 100000 in
theorem tX5_lay_ok : ∀ q ∈ tX5_lay, decode cX5_lay q.1 = .ok q.2 := by decide +kernel
theorem dX5_lay_0 : decode cX5_lay 0 = .ok (.iload_n 1, 1) := tX5_lay_ok (0, .iload_n 1, 1) (List.mem_of_getElem? (i := 0) rfl)
theorem dX5_lay_1 : decode cX5_lay 1 = .ok (.invokestatic 21, 3) := tX5_lay_ok (1, .invokestatic 21, 3) (List.mem_of_getElem? (i := 1) rfl)
theorem dX5_lay_4 : decode cX5_lay 4 = .ok (.ifCond .ne 4, 3) := tX5_lay_ok (4, .ifCond .ne 4, 3) (List.mem_of_getElem? (i := 2) rfl)
theorem dX5_lay_7 : decode cX5_lay 7 = .ok (.return_, 1) := tX5_lay_ok (7, .return_, 1) (List.mem_of_getElem? (i := 3) rfl)
theorem dX5_lay_8 : decode cX5_lay 8 = .ok (.aload_n 0, 1) := tX5_lay_ok (8, .aload_n 0, 1) (List.mem_of_getElem? (i := 4) rfl)
theorem dX5_lay_9 : decode cX5_lay 9 = .ok (.getfield 15, 3) := tX5_lay_ok (9, .getfield 15, 3) (List.mem_of_getElem? (i := 5) rfl)
theorem dX5_lay_12 : decode cX5_lay 12 = .ok (.iload_n 1, 1) := tX5_lay_ok (12, .iload_n 1, 1) (List.mem_of_getElem? (i := 6) rfl)
theorem dX5_lay_13 : decode cX5_lay 13 = .ok (.iload_n 2, 1) := tX5_lay_ok (13, .iload_n 2, 1) (List.mem_of_getElem? (i := 7) rfl)
theorem dX5_lay_14 : decode cX5_lay 14 = .ok (.iastore, 1) := tX5_lay_ok (14, .iastore, 1) (List.mem_of_getElem? (i := 8) rfl)
theorem dX5_lay_15 : decode cX5_lay 15 = .ok (.aload_n 0, 1) := tX5_lay_ok (15, .aload_n 0, 1) (List.mem_of_getElem? (i := 9) rfl)
theorem dX5_lay_16 : decode cX5_lay 16 = .ok (.getfield 18, 3) := tX5_lay_ok (16, .getfield 18, 3) (List.mem_of_getElem? (i := 10) rfl)
theorem dX5_lay_19 : decode cX5_lay 19 = .ok (.iload_n 1, 1) := tX5_lay_ok (19, .iload_n 1, 1) (List.mem_of_getElem? (i := 11) rfl)
theorem dX5_lay_20 : decode cX5_lay 20 = .ok (.iload_n 3, 1) := tX5_lay_ok (20, .iload_n 3, 1) (List.mem_of_getElem? (i := 12) rfl)
theorem dX5_lay_21 : decode cX5_lay 21 = .ok (.iastore, 1) := tX5_lay_ok (21, .iastore, 1) (List.mem_of_getElem? (i := 13) rfl)
theorem dX5_lay_22 : decode cX5_lay 22 = .ok (.iconst 0, 1) := tX5_lay_ok (22, .iconst 0, 1) (List.mem_of_getElem? (i := 14) rfl)
theorem dX5_lay_23 : decode cX5_lay 23 = .ok (.istore 4, 2) := tX5_lay_ok (23, .istore 4, 2) (List.mem_of_getElem? (i := 15) rfl)
theorem dX5_lay_25 : decode cX5_lay 25 = .ok (.iload 4, 2) := tX5_lay_ok (25, .iload 4, 2) (List.mem_of_getElem? (i := 16) rfl)
theorem dX5_lay_27 : decode cX5_lay 27 = .ok (.bipush 64, 2) := tX5_lay_ok (27, .bipush 64, 2) (List.mem_of_getElem? (i := 17) rfl)
theorem dX5_lay_29 : decode cX5_lay 29 = .ok (.if_icmp .ge 22, 3) := tX5_lay_ok (29, .if_icmp .ge 22, 3) (List.mem_of_getElem? (i := 18) rfl)
theorem dX5_lay_32 : decode cX5_lay 32 = .ok (.aload_n 0, 1) := tX5_lay_ok (32, .aload_n 0, 1) (List.mem_of_getElem? (i := 19) rfl)
theorem dX5_lay_33 : decode cX5_lay 33 = .ok (.getfield 9, 3) := tX5_lay_ok (33, .getfield 9, 3) (List.mem_of_getElem? (i := 20) rfl)
theorem dX5_lay_36 : decode cX5_lay 36 = .ok (.iload_n 1, 1) := tX5_lay_ok (36, .iload_n 1, 1) (List.mem_of_getElem? (i := 21) rfl)
theorem dX5_lay_37 : decode cX5_lay 37 = .ok (.bipush 64, 2) := tX5_lay_ok (37, .bipush 64, 2) (List.mem_of_getElem? (i := 22) rfl)
theorem dX5_lay_39 : decode cX5_lay 39 = .ok (.imul, 1) := tX5_lay_ok (39, .imul, 1) (List.mem_of_getElem? (i := 23) rfl)
theorem dX5_lay_40 : decode cX5_lay 40 = .ok (.iload 4, 2) := tX5_lay_ok (40, .iload 4, 2) (List.mem_of_getElem? (i := 24) rfl)
theorem dX5_lay_42 : decode cX5_lay 42 = .ok (.iadd, 1) := tX5_lay_ok (42, .iadd, 1) (List.mem_of_getElem? (i := 25) rfl)
theorem dX5_lay_43 : decode cX5_lay 43 = .ok (.iconst 0, 1) := tX5_lay_ok (43, .iconst 0, 1) (List.mem_of_getElem? (i := 26) rfl)
theorem dX5_lay_44 : decode cX5_lay 44 = .ok (.iastore, 1) := tX5_lay_ok (44, .iastore, 1) (List.mem_of_getElem? (i := 27) rfl)
theorem dX5_lay_45 : decode cX5_lay 45 = .ok (.iinc 4 1, 3) := tX5_lay_ok (45, .iinc 4 1, 3) (List.mem_of_getElem? (i := 28) rfl)
theorem dX5_lay_48 : decode cX5_lay 48 = .ok (.goto (-23), 3) := tX5_lay_ok (48, .goto (-23), 3) (List.mem_of_getElem? (i := 29) rfl)
theorem dX5_lay_51 : decode cX5_lay 51 = .ok (.return_, 1) := tX5_lay_ok (51, .return_, 1) (List.mem_of_getElem? (i := 30) rfl)

def tX5_put : List (Nat × Instr × Nat) := [
  (0, .aload_n 0, 1),
  (1, .iload_n 1, 1),
  (2, .iload_n 2, 1),
  (3, .iconst 1, 1),
  (4, .invokevirtual 25, 3),
  (7, .ifCond .ne 4, 3),
  (10, .return_, 1),
  (11, .iload_n 3, 1),
  (12, .istore 4, 2),
  (14, .aload_n 0, 1),
  (15, .getfield 15, 3),
  (18, .iload_n 1, 1),
  (19, .iaload, 1),
  (20, .ifCond .ne 10, 3),
  (23, .iload_n 3, 1),
  (24, .i2b, 1),
  (25, .istore 4, 2),
  (27, .goto 17, 3),
  (30, .aload_n 0, 1),
  (31, .getfield 15, 3),
  (34, .iload_n 1, 1),
  (35, .iaload, 1),
  (36, .iconst 1, 1),
  (37, .if_icmp .ne 7, 3),
  (40, .iload_n 3, 1),
  (41, .i2s, 1),
  (42, .istore 4, 2),
  (44, .aload_n 0, 1),
  (45, .getfield 9, 3),
  (48, .iload_n 1, 1),
  (49, .bipush 64, 2),
  (51, .imul, 1),
  (52, .iload_n 2, 1),
  (53, .iadd, 1),
  (54, .iload 4, 2),
  (56, .iastore, 1),
  (57, .return_, 1)]
set_option maxRecDepth 100000 in
theorem tX5_put_ok : ∀ q ∈ tX5_put, decode cX5_put q.1 = .ok q.2 := by decide +kernel
theorem dX5_put_0 : decode cX5_put 0 = .ok (.aload_n 0, 1) := tX5_put_ok (0, .aload_n 0, 1) (List.mem_of_getElem? (i := 0) rfl)
theorem dX5_put_1 : decode cX5_put 1 = .ok (.iload_n 1, 1) := tX5_put_ok (1, .iload_n 1, 1) (List.mem_of_getElem? (i := 1) rfl)
theorem dX5_put_2 : decode cX5_put 2 = .ok (.iload_n 2, 1) := tX5_put_ok (2, .iload_n 2, 1) (List.mem_of_getElem? (i := 2) rfl)
theorem dX5_put_3 : decode cX5_put 3 = .ok (.iconst 1, 1) := tX5_put_ok (3, .iconst 1, 1) (List.mem_of_getElem? (i := 3) rfl)
theorem dX5_put_4 : decode cX5_put 4 = .ok (.invokevirtual 25, 3) := tX5_put_ok (4, .invokevirtual 25, 3) (List.mem_of_getElem? (i := 4) rfl)
theorem dX5_put_7 : decode cX5_put 7 = .ok (.ifCond .ne 4, 3) := tX5_put_ok (7, .ifCond .ne 4, 3) (List.mem_of_getElem? (i := 5) rfl)
theorem dX5_put_10 : decode cX5_put 10 = .ok (.return_, 1) := tX5_put_ok (10, .return_, 1) (List.mem_of_getElem? (i := 6) rfl)
theorem dX5_put_11 : decode cX5_put 11 = .ok (.iload_n 3, 1) := tX5_put_ok (11, .iload_n 3, 1) (List.mem_of_getElem? (i := 7) rfl)
theorem dX5_put_12 : decode cX5_put 12 = .ok (.istore 4, 2) := tX5_put_ok (12, .istore 4, 2) (List.mem_of_getElem? (i := 8) rfl)
theorem dX5_put_14 : decode cX5_put 14 = .ok (.aload_n 0, 1) := tX5_put_ok (14, .aload_n 0, 1) (List.mem_of_getElem? (i := 9) rfl)
theorem dX5_put_15 : decode cX5_put 15 = .ok (.getfield 15, 3) := tX5_put_ok (15, .getfield 15, 3) (List.mem_of_getElem? (i := 10) rfl)
theorem dX5_put_18 : decode cX5_put 18 = .ok (.iload_n 1, 1) := tX5_put_ok (18, .iload_n 1, 1) (List.mem_of_getElem? (i := 11) rfl)
theorem dX5_put_19 : decode cX5_put 19 = .ok (.iaload, 1) := tX5_put_ok (19, .iaload, 1) (List.mem_of_getElem? (i := 12) rfl)
theorem dX5_put_20 : decode cX5_put 20 = .ok (.ifCond .ne 10, 3) := tX5_put_ok (20, .ifCond .ne 10, 3) (List.mem_of_getElem? (i := 13) rfl)
theorem dX5_put_23 : decode cX5_put 23 = .ok (.iload_n 3, 1) := tX5_put_ok (23, .iload_n 3, 1) (List.mem_of_getElem? (i := 14) rfl)
theorem dX5_put_24 : decode cX5_put 24 = .ok (.i2b, 1) := tX5_put_ok (24, .i2b, 1) (List.mem_of_getElem? (i := 15) rfl)
theorem dX5_put_25 : decode cX5_put 25 = .ok (.istore 4, 2) := tX5_put_ok (25, .istore 4, 2) (List.mem_of_getElem? (i := 16) rfl)
theorem dX5_put_27 : decode cX5_put 27 = .ok (.goto 17, 3) := tX5_put_ok (27, .goto 17, 3) (List.mem_of_getElem? (i := 17) rfl)
theorem dX5_put_30 : decode cX5_put 30 = .ok (.aload_n 0, 1) := tX5_put_ok (30, .aload_n 0, 1) (List.mem_of_getElem? (i := 18) rfl)
theorem dX5_put_31 : decode cX5_put 31 = .ok (.getfield 15, 3) := tX5_put_ok (31, .getfield 15, 3) (List.mem_of_getElem? (i := 19) rfl)
theorem dX5_put_34 : decode cX5_put 34 = .ok (.iload_n 1, 1) := tX5_put_ok (34, .iload_n 1, 1) (List.mem_of_getElem? (i := 20) rfl)
theorem dX5_put_35 : decode cX5_put 35 = .ok (.iaload, 1) := tX5_put_ok (35, .iaload, 1) (List.mem_of_getElem? (i := 21) rfl)
theorem dX5_put_36 : decode cX5_put 36 = .ok (.iconst 1, 1) := tX5_put_ok (36, .iconst 1, 1) (List.mem_of_getElem? (i := 22) rfl)
theorem dX5_put_37 : decode cX5_put 37 = .ok (.if_icmp .ne 7, 3) := tX5_put_ok (37, .if_icmp .ne 7, 3) (List.mem_of_getElem? (i := 23) rfl)
theorem dX5_put_40 : decode cX5_put 40 = .ok (.iload_n 3, 1) := tX5_put_ok (40, .iload_n 3, 1) (List.mem_of_getElem? (i := 24) rfl)
theorem dX5_put_41 : decode cX5_put 41 = .ok (.i2s, 1) := tX5_put_ok (41, .i2s, 1) (List.mem_of_getElem? (i := 25) rfl)
theorem dX5_put_42 : decode cX5_put 42 = .ok (.istore 4, 2) := tX5_put_ok (42, .istore 4, 2) (List.mem_of_getElem? (i := 26) rfl)
theorem dX5_put_44 : decode cX5_put 44 = .ok (.aload_n 0, 1) := tX5_put_ok (44, .aload_n 0, 1) (List.mem_of_getElem? (i := 27) rfl)
theorem dX5_put_45 : decode cX5_put 45 = .ok (.getfield 9, 3) := tX5_put_ok (45, .getfield 9, 3) (List.mem_of_getElem? (i := 28) rfl)
theorem dX5_put_48 : decode cX5_put 48 = .ok (.iload_n 1, 1) := tX5_put_ok (48, .iload_n 1, 1) (List.mem_of_getElem? (i := 29) rfl)
theorem dX5_put_49 : decode cX5_put 49 = .ok (.bipush 64, 2) := tX5_put_ok (49, .bipush 64, 2) (List.mem_of_getElem? (i := 30) rfl)
theorem dX5_put_51 : decode cX5_put 51 = .ok (.imul, 1) := tX5_put_ok (51, .imul, 1) (List.mem_of_getElem? (i := 31) rfl)
theorem dX5_put_52 : decode cX5_put 52 = .ok (.iload_n 2, 1) := tX5_put_ok (52, .iload_n 2, 1) (List.mem_of_getElem? (i := 32) rfl)
theorem dX5_put_53 : decode cX5_put 53 = .ok (.iadd, 1) := tX5_put_ok (53, .iadd, 1) (List.mem_of_getElem? (i := 33) rfl)
theorem dX5_put_54 : decode cX5_put 54 = .ok (.iload 4, 2) := tX5_put_ok (54, .iload 4, 2) (List.mem_of_getElem? (i := 34) rfl)
theorem dX5_put_56 : decode cX5_put 56 = .ok (.iastore, 1) := tX5_put_ok (56, .iastore, 1) (List.mem_of_getElem? (i := 35) rfl)
theorem dX5_put_57 : decode cX5_put 57 = .ok (.return_, 1) := tX5_put_ok (57, .return_, 1) (List.mem_of_getElem? (i := 36) rfl)

def tX5_at : List (Nat × Instr × Nat) := [
  (0, .aload_n 0, 1),
  (1, .iload_n 1, 1),
  (2, .iload_n 2, 1),
  (3, .iconst 1, 1),
  (4, .invokevirtual 25, 3),
  (7, .ifCond .eq 17, 3),
  (10, .aload_n 0, 1),
  (11, .getfield 9, 3),
  (14, .iload_n 1, 1),
  (15, .bipush 64, 2),
  (17, .imul, 1),
  (18, .iload_n 2, 1),
  (19, .iadd, 1),
  (20, .iaload, 1),
  (21, .goto 4, 3),
  (24, .iconst 0, 1),
  (25, .ireturn, 1)]
set_option maxRecDepth 100000 in
theorem tX5_at_ok : ∀ q ∈ tX5_at, decode cX5_at q.1 = .ok q.2 := by decide +kernel
theorem dX5_at_0 : decode cX5_at 0 = .ok (.aload_n 0, 1) := tX5_at_ok (0, .aload_n 0, 1) (List.mem_of_getElem? (i := 0) rfl)
theorem dX5_at_1 : decode cX5_at 1 = .ok (.iload_n 1, 1) := tX5_at_ok (1, .iload_n 1, 1) (List.mem_of_getElem? (i := 1) rfl)
theorem dX5_at_2 : decode cX5_at 2 = .ok (.iload_n 2, 1) := tX5_at_ok (2, .iload_n 2, 1) (List.mem_of_getElem? (i := 2) rfl)
theorem dX5_at_3 : decode cX5_at 3 = .ok (.iconst 1, 1) := tX5_at_ok (3, .iconst 1, 1) (List.mem_of_getElem? (i := 3) rfl)
theorem dX5_at_4 : decode cX5_at 4 = .ok (.invokevirtual 25, 3) := tX5_at_ok (4, .invokevirtual 25, 3) (List.mem_of_getElem? (i := 4) rfl)
theorem dX5_at_7 : decode cX5_at 7 = .ok (.ifCond .eq 17, 3) := tX5_at_ok (7, .ifCond .eq 17, 3) (List.mem_of_getElem? (i := 5) rfl)
theorem dX5_at_10 : decode cX5_at 10 = .ok (.aload_n 0, 1) := tX5_at_ok (10, .aload_n 0, 1) (List.mem_of_getElem? (i := 6) rfl)
theorem dX5_at_11 : decode cX5_at 11 = .ok (.getfield 9, 3) := tX5_at_ok (11, .getfield 9, 3) (List.mem_of_getElem? (i := 7) rfl)
theorem dX5_at_14 : decode cX5_at 14 = .ok (.iload_n 1, 1) := tX5_at_ok (14, .iload_n 1, 1) (List.mem_of_getElem? (i := 8) rfl)
theorem dX5_at_15 : decode cX5_at 15 = .ok (.bipush 64, 2) := tX5_at_ok (15, .bipush 64, 2) (List.mem_of_getElem? (i := 9) rfl)
theorem dX5_at_17 : decode cX5_at 17 = .ok (.imul, 1) := tX5_at_ok (17, .imul, 1) (List.mem_of_getElem? (i := 10) rfl)
theorem dX5_at_18 : decode cX5_at 18 = .ok (.iload_n 2, 1) := tX5_at_ok (18, .iload_n 2, 1) (List.mem_of_getElem? (i := 11) rfl)
theorem dX5_at_19 : decode cX5_at 19 = .ok (.iadd, 1) := tX5_at_ok (19, .iadd, 1) (List.mem_of_getElem? (i := 12) rfl)
theorem dX5_at_20 : decode cX5_at 20 = .ok (.iaload, 1) := tX5_at_ok (20, .iaload, 1) (List.mem_of_getElem? (i := 13) rfl)
theorem dX5_at_21 : decode cX5_at 21 = .ok (.goto 4, 3) := tX5_at_ok (21, .goto 4, 3) (List.mem_of_getElem? (i := 14) rfl)
theorem dX5_at_24 : decode cX5_at 24 = .ok (.iconst 0, 1) := tX5_at_ok (24, .iconst 0, 1) (List.mem_of_getElem? (i := 15) rfl)
theorem dX5_at_25 : decode cX5_at 25 = .ok (.ireturn, 1) := tX5_at_ok (25, .ireturn, 1) (List.mem_of_getElem? (i := 16) rfl)

def tX5_move : List (Nat × Instr × Nat) := [
  (0, .aload_n 0, 1),
  (1, .iload_n 1, 1),
  (2, .iload_n 2, 1),
  (3, .iload 5, 2),
  (5, .invokevirtual 25, 3),
  (8, .ifCond .eq 41, 3),
  (11, .aload_n 0, 1),
  (12, .iload_n 3, 1),
  (13, .iload 4, 2),
  (15, .iload 5, 2),
  (17, .invokevirtual 25, 3),
  (20, .ifCond .eq 29, 3),
  (23, .aload_n 0, 1),
  (24, .getfield 9, 3),
  (27, .iload_n 1, 1),
  (28, .bipush 64, 2),
  (30, .imul, 1),
  (31, .iload_n 2, 1),
  (32, .iadd, 1),
  (33, .aload_n 0, 1),
  (34, .getfield 9, 3),
  (37, .iload_n 3, 1),
  (38, .bipush 64, 2),
  (40, .imul, 1),
  (41, .iload 4, 2),
  (43, .iadd, 1),
  (44, .iload 5, 2),
  (46, .invokestatic 29, 3),
  (49, .return_, 1)]
set_option maxRecDepth 100000 in
theorem tX5_move_ok : ∀ q ∈ tX5_move, decode cX5_move q.1 = .ok q.2 := by decide +kernel
theorem dX5_move_0 : decode cX5_move 0 = .ok (.aload_n 0, 1) := tX5_move_ok (0, .aload_n 0, 1) (List.mem_of_getElem? (i := 0) rfl)
theorem dX5_move_1 : decode cX5_move 1 = .ok (.iload_n 1, 1) := tX5_move_ok (1, .iload_n 1, 1) (List.mem_of_getElem? (i := 1) rfl)
theorem dX5_move_2 : decode cX5_move 2 = .ok (.iload_n 2, 1) := tX5_move_ok (2, .iload_n 2, 1) (List.mem_of_getElem? (i := 2) rfl)
theorem dX5_move_3 : decode cX5_move 3 = .ok (.iload 5, 2) := tX5_move_ok (3, .iload 5, 2) (List.mem_of_getElem? (i := 3) rfl)
theorem dX5_move_5 : decode cX5_move 5 = .ok (.invokevirtual 25, 3) := tX5_move_ok (5, .invokevirtual 25, 3) (List.mem_of_getElem? (i := 4) rfl)
theorem dX5_move_8 : decode cX5_move 8 = .ok (.ifCond .eq 41, 3) := tX5_move_ok (8, .ifCond .eq 41, 3) (List.mem_of_getElem? (i := 5) rfl)
theorem dX5_move_11 : decode cX5_move 11 = .ok (.aload_n 0, 1) := tX5_move_ok (11, .aload_n 0, 1) (List.mem_of_getElem? (i := 6) rfl)
theorem dX5_move_12 : decode cX5_move 12 = .ok (.iload_n 3, 1) := tX5_move_ok (12, .iload_n 3, 1) (List.mem_of_getElem? (i := 7) rfl)
theorem dX5_move_13 : decode cX5_move 13 = .ok (.iload 4, 2) := tX5_move_ok (13, .iload 4, 2) (List.mem_of_getElem? (i := 8) rfl)
theorem dX5_move_15 : decode cX5_move 15 = .ok (.iload 5, 2) := tX5_move_ok (15, .iload 5, 2) (List.mem_of_getElem? (i := 9) rfl)
theorem dX5_move_17 : decode cX5_move 17 = .ok (.invokevirtual 25, 3) := tX5_move_ok (17, .invokevirtual 25, 3) (List.mem_of_getElem? (i := 10) rfl)
theorem dX5_move_20 : decode cX5_move 20 = .ok (.ifCond .eq 29, 3) := tX5_move_ok (20, .ifCond .eq 29, 3) (List.mem_of_getElem? (i := 11) rfl)
theorem dX5_move_23 : decode cX5_move 23 = .ok (.aload_n 0, 1) := tX5_move_ok (23, .aload_n 0, 1) (List.mem_of_getElem? (i := 12) rfl)
theorem dX5_move_24 : decode cX5_move 24 = .ok (.getfield 9, 3) := tX5_move_ok (24, .getfield 9, 3) (List.mem_of_getElem? (i := 13) rfl)
theorem dX5_move_27 : decode cX5_move 27 = .ok (.iload_n 1, 1) := tX5_move_ok (27, .iload_n 1, 1) (List.mem_of_getElem? (i := 14) rfl)
theorem dX5_move_28 : decode cX5_move 28 = .ok (.bipush 64, 2) := tX5_move_ok (28, .bipush 64, 2) (List.mem_of_getElem? (i := 15) rfl)
theorem dX5_move_30 : decode cX5_move 30 = .ok (.imul, 1) := tX5_move_ok (30, .imul, 1) (List.mem_of_getElem? (i := 16) rfl)
theorem dX5_move_31 : decode cX5_move 31 = .ok (.iload_n 2, 1) := tX5_move_ok (31, .iload_n 2, 1) (List.mem_of_getElem? (i := 17) rfl)
theorem dX5_move_32 : decode cX5_move 32 = .ok (.iadd, 1) := tX5_move_ok (32, .iadd, 1) (List.mem_of_getElem? (i := 18) rfl)
theorem dX5_move_33 : decode cX5_move 33 = .ok (.aload_n 0, 1) := tX5_move_ok (33, .aload_n 0, 1) (List.mem_of_getElem? (i := 19) rfl)
theorem dX5_move_34 : decode cX5_move 34 = .ok (.getfield 9, 3) := tX5_move_ok (34, .getfield 9, 3) (List.mem_of_getElem? (i := 20) rfl)
theorem dX5_move_37 : decode cX5_move 37 = .ok (.iload_n 3, 1) := tX5_move_ok (37, .iload_n 3, 1) (List.mem_of_getElem? (i := 21) rfl)
theorem dX5_move_38 : decode cX5_move 38 = .ok (.bipush 64, 2) := tX5_move_ok (38, .bipush 64, 2) (List.mem_of_getElem? (i := 22) rfl)
theorem dX5_move_40 : decode cX5_move 40 = .ok (.imul, 1) := tX5_move_ok (40, .imul, 1) (List.mem_of_getElem? (i := 23) rfl)
theorem dX5_move_41 : decode cX5_move 41 = .ok (.iload 4, 2) := tX5_move_ok (41, .iload 4, 2) (List.mem_of_getElem? (i := 24) rfl)
theorem dX5_move_43 : decode cX5_move 43 = .ok (.iadd, 1) := tX5_move_ok (43, .iadd, 1) (List.mem_of_getElem? (i := 25) rfl)
theorem dX5_move_44 : decode cX5_move 44 = .ok (.iload 5, 2) := tX5_move_ok (44, .iload 5, 2) (List.mem_of_getElem? (i := 26) rfl)
theorem dX5_move_46 : decode cX5_move 46 = .ok (.invokestatic 29, 3) := tX5_move_ok (46, .invokestatic 29, 3) (List.mem_of_getElem? (i := 27) rfl)
theorem dX5_move_49 : decode cX5_move 49 = .ok (.return_, 1) := tX5_move_ok (49, .return_, 1) (List.mem_of_getElem? (i := 28) rfl)

def tX6_init : List (Nat × Instr × Nat) := [
  (0, .aload_n 0, 1),
  (1, .invokespecial 3, 3),
  (4, .aload_n 0, 1),
  (5, .ldc 9, 2),
  (7, .newarray .long, 2),
  (9, .putfield 10, 3),
  (12, .aload_n 0, 1),
  (13, .sipush 8978, 3),
  (16, .newarray .long, 2),
  (18, .putfield 16, 3),
  (21, .aload_n 0, 1),
  (22, .aload_n 1, 1),
  (23, .putfield 19, 3),
  (26, .return_, 1)]
set_option maxRecDepth 100000 in
theorem tX6_init_ok : ∀ q ∈ tX6_init, decode cX6_init q.1 = .ok q.2 := by decide +kernel
theorem dX6_init_0 : decode cX6_init 0 = .ok (.aload_n 0, 1) := tX6_init_ok (0, .aload_n 0, 1) (List.mem_of_getElem? (i := 0) rfl)
theorem dX6_init_1 : decode cX6_init 1 = .ok (.invokespecial 3, 3) := tX6_init_ok (1, .invokespecial 3, 3) (List.mem_of_getElem? (i := 1) rfl)
theorem dX6_init_4 : decode cX6_init 4 = .ok (.aload_n 0, 1) := tX6_init_ok (4, .aload_n 0, 1) (List.mem_of_getElem? (i := 2) rfl)
theorem dX6_init_5 : decode cX6_init 5 = .ok (.ldc 9, 2) := tX6_init_ok (5, .ldc 9, 2) (List.mem_of_getElem? (i := 3) rfl)
theorem dX6_init_7 : decode cX6_init 7 = .ok (.newarray .long, 2) := tX6_init_ok (7, .newarray .long, 2) (List.mem_of_getElem? (i := 4) rfl)
theorem dX6_init_9 : decode cX6_init 9 = .ok (.putfield 10, 3) := tX6_init_ok (9, .putfield 10, 3) (List.mem_of_getElem? (i := 5) rfl)
theorem dX6_init_12 : decode cX6_init 12 = .ok (.aload_n 0, 1) := tX6_init_ok (12, .aload_n 0, 1) (List.mem_of_getElem? (i := 6) rfl)
theorem dX6_init_13 : decode cX6_init 13 = .ok (.sipush 8978, 3) := tX6_init_ok (13, .sipush 8978, 3) (List.mem_of_getElem? (i := 7) rfl)
theorem dX6_init_16 : decode cX6_init 16 = .ok (.newarray .long, 2) := tX6_init_ok (16, .newarray .long, 2) (List.mem_of_getElem? (i := 8) rfl)
theorem dX6_init_18 : decode cX6_init 18 = .ok (.putfield 16, 3) := tX6_init_ok (18, .putfield 16, 3) (List.mem_of_getElem? (i := 9) rfl)
theorem dX6_init_21 : decode cX6_init 21 = .ok (.aload_n 0, 1) := tX6_init_ok (21, .aload_n 0, 1) (List.mem_of_getElem? (i := 10) rfl)
theorem dX6_init_22 : decode cX6_init 22 = .ok (.aload_n 1, 1) := tX6_init_ok (22, .aload_n 1, 1) (List.mem_of_getElem? (i := 11) rfl)
theorem dX6_init_23 : decode cX6_init 23 = .ok (.putfield 19, 3) := tX6_init_ok (23, .putfield 19, 3) (List.mem_of_getElem? (i := 12) rfl)
theorem dX6_init_26 : decode cX6_init 26 = .ok (.return_, 1) := tX6_init_ok (26, .return_, 1) (List.mem_of_getElem? (i := 13) rfl)

def tX6_forget : List (Nat × Instr × Nat) := [
  (0, .aload_n 0, 1),
  (1, .iconst 0, 1),
  (2, .putfield 23, 3),
  (5, .return_, 1)]
set_option maxRecDepth 100000 in
theorem tX6_forget_ok : ∀ q ∈ tX6_forget, decode cX6_forget q.1 = .ok q.2 := by decide +kernel
theorem dX6_forget_0 : decode cX6_forget 0 = .ok (.aload_n 0, 1) := tX6_forget_ok (0, .aload_n 0, 1) (List.mem_of_getElem? (i := 0) rfl)
theorem dX6_forget_1 : decode cX6_forget 1 = .ok (.iconst 0, 1) := tX6_forget_ok (1, .iconst 0, 1) (List.mem_of_getElem? (i := 1) rfl)
theorem dX6_forget_2 : decode cX6_forget 2 = .ok (.putfield 23, 3) := tX6_forget_ok (2, .putfield 23, 3) (List.mem_of_getElem? (i := 2) rfl)
theorem dX6_forget_5 : decode cX6_forget 5 = .ok (.return_, 1) := tX6_forget_ok (5, .return_, 1) (List.mem_of_getElem? (i := 3) rfl)

def tX6_prepare : List (Nat × Instr × Nat) := [
  (0, .aload_n 0, 1),
  (1, .getfield 23, 3),
  (4, .ifCond .ne 32, 3),
  (7, .aload_n 0, 1),
  (8, .aload_n 0, 1),
  (9, .getfield 10, 3),
  (12, .aload_n 0, 1),
  (13, .getfield 19, 3),
  (16, .invokevirtual 27, 3),
  (19, .aload_n 0, 1),
  (20, .getfield 19, 3),
  (23, .invokevirtual 27, 3),
  (26, .iconst 1, 1),
  (27, .iadd, 1),
  (28, .invokevirtual 33, 3),
  (31, .aload_n 0, 1),
  (32, .iconst 1, 1),
  (33, .putfield 23, 3),
  (36, .aload_n 0, 1),
  (37, .getfield 19, 3),
  (40, .invokevirtual 37, 3),
  (43, .istore_n 2, 1),
  (44, .aload_n 0, 1),
  (45, .getfield 23, 3),
  (48, .iload_n 1, 1),
  (49, .if_icmp .gt 64, 3),
  (52, .aload_n 0, 1),
  (53, .getfield 23, 3),
  (56, .bipush 60, 2),
  (58, .if_icmp .gt 55, 3),
  (61, .aload_n 0, 1),
  (62, .aload_n 0, 1),
  (63, .getfield 10, 3),
  (66, .aload_n 0, 1),
  (67, .getfield 23, 3),
  (70, .iconst 1, 1),
  (71, .isub, 1),
  (72, .sipush 4489, 3),
  (75, .imul, 1),
  (76, .aload_n 0, 1),
  (77, .getfield 23, 3),
  (80, .sipush 4489, 3),
  (83, .imul, 1),
  (84, .aload_n 0, 1),
  (85, .getfield 19, 3),
  (88, .getfield 40, 3),
  (91, .iload_n 2, 1),
  (92, .aload_n 0, 1),
  (93, .getfield 23, 3),
  (96, .imul, 1),
  (97, .invokevirtual 43, 3),
  (100, .aload_n 0, 1),
  (101, .dup, 1),
  (102, .getfield 23, 3),
  (105, .iconst 1, 1),
  (106, .iadd, 1),
  (107, .putfield 23, 3),
  (110, .goto (-66), 3),
  (113, .return_, 1)]
set_option maxRecDepth 100000 in
theorem tX6_prepare_ok : ∀ q ∈ tX6_prepare, decode cX6_prepare q.1 = .ok q.2 := by decide +kernel
theorem dX6_prepare_0 : decode cX6_prepare 0 = .ok (.aload_n 0, 1) := tX6_prepare_ok (0, .aload_n 0, 1) (List.mem_of_getElem? (i := 0) rfl)
theorem dX6_prepare_1 : decode cX6_prepare 1 = .ok (.getfield 23, 3) := tX6_prepare_ok (1, .getfield 23, 3) (List.mem_of_getElem? (i := 1) rfl)
theorem dX6_prepare_4 : decode cX6_prepare 4 = .ok (.ifCond .ne 32, 3) := tX6_prepare_ok (4, .ifCond .ne 32, 3) (List.mem_of_getElem? (i := 2) rfl)
theorem dX6_prepare_7 : decode cX6_prepare 7 = .ok (.aload_n 0, 1) := tX6_prepare_ok (7, .aload_n 0, 1) (List.mem_of_getElem? (i := 3) rfl)
theorem dX6_prepare_8 : decode cX6_prepare 8 = .ok (.aload_n 0, 1) := tX6_prepare_ok (8, .aload_n 0, 1) (List.mem_of_getElem? (i := 4) rfl)
theorem dX6_prepare_9 : decode cX6_prepare 9 = .ok (.getfield 10, 3) := tX6_prepare_ok (9, .getfield 10, 3) (List.mem_of_getElem? (i := 5) rfl)
theorem dX6_prepare_12 : decode cX6_prepare 12 = .ok (.aload_n 0, 1) := tX6_prepare_ok (12, .aload_n 0, 1) (List.mem_of_getElem? (i := 6) rfl)
theorem dX6_prepare_13 : decode cX6_prepare 13 = .ok (.getfield 19, 3) := tX6_prepare_ok (13, .getfield 19, 3) (List.mem_of_getElem? (i := 7) rfl)
theorem dX6_prepare_16 : decode cX6_prepare 16 = .ok (.invokevirtual 27, 3) := tX6_prepare_ok (16, .invokevirtual 27, 3) (List.mem_of_getElem? (i := 8) rfl)
theorem dX6_prepare_19 : decode cX6_prepare 19 = .ok (.aload_n 0, 1) := tX6_prepare_ok (19, .aload_n 0, 1) (List.mem_of_getElem? (i := 9) rfl)
theorem dX6_prepare_20 : decode cX6_prepare 20 = .ok (.getfield 19, 3) := tX6_prepare_ok (20, .getfield 19, 3) (List.mem_of_getElem? (i := 10) rfl)
theorem dX6_prepare_23 : decode cX6_prepare 23 = .ok (.invokevirtual 27, 3) := tX6_prepare_ok (23, .invokevirtual 27, 3) (List.mem_of_getElem? (i := 11) rfl)
theorem dX6_prepare_26 : decode cX6_prepare 26 = .ok (.iconst 1, 1) := tX6_prepare_ok (26, .iconst 1, 1) (List.mem_of_getElem? (i := 12) rfl)
theorem dX6_prepare_27 : decode cX6_prepare 27 = .ok (.iadd, 1) := tX6_prepare_ok (27, .iadd, 1) (List.mem_of_getElem? (i := 13) rfl)
theorem dX6_prepare_28 : decode cX6_prepare 28 = .ok (.invokevirtual 33, 3) := tX6_prepare_ok (28, .invokevirtual 33, 3) (List.mem_of_getElem? (i := 14) rfl)
theorem dX6_prepare_31 : decode cX6_prepare 31 = .ok (.aload_n 0, 1) := tX6_prepare_ok (31, .aload_n 0, 1) (List.mem_of_getElem? (i := 15) rfl)
theorem dX6_prepare_32 : decode cX6_prepare 32 = .ok (.iconst 1, 1) := tX6_prepare_ok (32, .iconst 1, 1) (List.mem_of_getElem? (i := 16) rfl)
theorem dX6_prepare_33 : decode cX6_prepare 33 = .ok (.putfield 23, 3) := tX6_prepare_ok (33, .putfield 23, 3) (List.mem_of_getElem? (i := 17) rfl)
theorem dX6_prepare_36 : decode cX6_prepare 36 = .ok (.aload_n 0, 1) := tX6_prepare_ok (36, .aload_n 0, 1) (List.mem_of_getElem? (i := 18) rfl)
theorem dX6_prepare_37 : decode cX6_prepare 37 = .ok (.getfield 19, 3) := tX6_prepare_ok (37, .getfield 19, 3) (List.mem_of_getElem? (i := 19) rfl)
theorem dX6_prepare_40 : decode cX6_prepare 40 = .ok (.invokevirtual 37, 3) := tX6_prepare_ok (40, .invokevirtual 37, 3) (List.mem_of_getElem? (i := 20) rfl)
theorem dX6_prepare_43 : decode cX6_prepare 43 = .ok (.istore_n 2, 1) := tX6_prepare_ok (43, .istore_n 2, 1) (List.mem_of_getElem? (i := 21) rfl)
theorem dX6_prepare_44 : decode cX6_prepare 44 = .ok (.aload_n 0, 1) := tX6_prepare_ok (44, .aload_n 0, 1) (List.mem_of_getElem? (i := 22) rfl)
theorem dX6_prepare_45 : decode cX6_prepare 45 = .ok (.getfield 23, 3) := tX6_prepare_ok (45, .getfield 23, 3) (List.mem_of_getElem? (i := 23) rfl)
theorem dX6_prepare_48 : decode cX6_prepare 48 = .ok (.iload_n 1, 1) := tX6_prepare_ok (48, .iload_n 1, 1) (List.mem_of_getElem? (i := 24) rfl)
theorem dX6_prepare_49 : decode cX6_prepare 49 = .ok (.if_icmp .gt 64, 3) := tX6_prepare_ok (49, .if_icmp .gt 64, 3) (List.mem_of_getElem? (i := 25) rfl)
theorem dX6_prepare_52 : decode cX6_prepare 52 = .ok (.aload_n 0, 1) := tX6_prepare_ok (52, .aload_n 0, 1) (List.mem_of_getElem? (i := 26) rfl)
theorem dX6_prepare_53 : decode cX6_prepare 53 = .ok (.getfield 23, 3) := tX6_prepare_ok (53, .getfield 23, 3) (List.mem_of_getElem? (i := 27) rfl)
theorem dX6_prepare_56 : decode cX6_prepare 56 = .ok (.bipush 60, 2) := tX6_prepare_ok (56, .bipush 60, 2) (List.mem_of_getElem? (i := 28) rfl)
theorem dX6_prepare_58 : decode cX6_prepare 58 = .ok (.if_icmp .gt 55, 3) := tX6_prepare_ok (58, .if_icmp .gt 55, 3) (List.mem_of_getElem? (i := 29) rfl)
theorem dX6_prepare_61 : decode cX6_prepare 61 = .ok (.aload_n 0, 1) := tX6_prepare_ok (61, .aload_n 0, 1) (List.mem_of_getElem? (i := 30) rfl)
theorem dX6_prepare_62 : decode cX6_prepare 62 = .ok (.aload_n 0, 1) := tX6_prepare_ok (62, .aload_n 0, 1) (List.mem_of_getElem? (i := 31) rfl)
theorem dX6_prepare_63 : decode cX6_prepare 63 = .ok (.getfield 10, 3) := tX6_prepare_ok (63, .getfield 10, 3) (List.mem_of_getElem? (i := 32) rfl)
theorem dX6_prepare_66 : decode cX6_prepare 66 = .ok (.aload_n 0, 1) := tX6_prepare_ok (66, .aload_n 0, 1) (List.mem_of_getElem? (i := 33) rfl)
theorem dX6_prepare_67 : decode cX6_prepare 67 = .ok (.getfield 23, 3) := tX6_prepare_ok (67, .getfield 23, 3) (List.mem_of_getElem? (i := 34) rfl)
theorem dX6_prepare_70 : decode cX6_prepare 70 = .ok (.iconst 1, 1) := tX6_prepare_ok (70, .iconst 1, 1) (List.mem_of_getElem? (i := 35) rfl)
theorem dX6_prepare_71 : decode cX6_prepare 71 = .ok (.isub, 1) := tX6_prepare_ok (71, .isub, 1) (List.mem_of_getElem? (i := 36) rfl)
theorem dX6_prepare_72 : decode cX6_prepare 72 = .ok (.sipush 4489, 3) := tX6_prepare_ok (72, .sipush 4489, 3) (List.mem_of_getElem? (i := 37) rfl)
theorem dX6_prepare_75 : decode cX6_prepare 75 = .ok (.imul, 1) := tX6_prepare_ok (75, .imul, 1) (List.mem_of_getElem? (i := 38) rfl)
theorem dX6_prepare_76 : decode cX6_prepare 76 = .ok (.aload_n 0, 1) := tX6_prepare_ok (76, .aload_n 0, 1) (List.mem_of_getElem? (i := 39) rfl)
theorem dX6_prepare_77 : decode cX6_prepare 77 = .ok (.getfield 23, 3) := tX6_prepare_ok (77, .getfield 23, 3) (List.mem_of_getElem? (i := 40) rfl)
theorem dX6_prepare_80 : decode cX6_prepare 80 = .ok (.sipush 4489, 3) := tX6_prepare_ok (80, .sipush 4489, 3) (List.mem_of_getElem? (i := 41) rfl)
theorem dX6_prepare_83 : decode cX6_prepare 83 = .ok (.imul, 1) := tX6_prepare_ok (83, .imul, 1) (List.mem_of_getElem? (i := 42) rfl)
theorem dX6_prepare_84 : decode cX6_prepare 84 = .ok (.aload_n 0, 1) := tX6_prepare_ok (84, .aload_n 0, 1) (List.mem_of_getElem? (i := 43) rfl)
theorem dX6_prepare_85 : decode cX6_prepare 85 = .ok (.getfield 19, 3) := tX6_prepare_ok (85, .getfield 19, 3) (List.mem_of_getElem? (i := 44) rfl)
theorem dX6_prepare_88 : decode cX6_prepare 88 = .ok (.getfield 40, 3) := tX6_prepare_ok (88, .getfield 40, 3) (List.mem_of_getElem? (i := 45) rfl)
theorem dX6_prepare_91 : decode cX6_prepare 91 = .ok (.iload_n 2, 1) := tX6_prepare_ok (91, .iload_n 2, 1) (List.mem_of_getElem? (i := 46) rfl)
theorem dX6_prepare_92 : decode cX6_prepare 92 = .ok (.aload_n 0, 1) := tX6_prepare_ok (92, .aload_n 0, 1) (List.mem_of_getElem? (i := 47) rfl)
theorem dX6_prepare_93 : decode cX6_prepare 93 = .ok (.getfield 23, 3) := tX6_prepare_ok (93, .getfield 23, 3) (List.mem_of_getElem? (i := 48) rfl)
theorem dX6_prepare_96 : decode cX6_prepare 96 = .ok (.imul, 1) := tX6_prepare_ok (96, .imul, 1) (List.mem_of_getElem? (i := 49) rfl)
theorem dX6_prepare_97 : decode cX6_prepare 97 = .ok (.invokevirtual 43, 3) := tX6_prepare_ok (97, .invokevirtual 43, 3) (List.mem_of_getElem? (i := 50) rfl)
theorem dX6_prepare_100 : decode cX6_prepare 100 = .ok (.aload_n 0, 1) := tX6_prepare_ok (100, .aload_n 0, 1) (List.mem_of_getElem? (i := 51) rfl)
theorem dX6_prepare_101 : decode cX6_prepare 101 = .ok (.dup, 1) := tX6_prepare_ok (101, .dup, 1) (List.mem_of_getElem? (i := 52) rfl)
theorem dX6_prepare_102 : decode cX6_prepare 102 = .ok (.getfield 23, 3) := tX6_prepare_ok (102, .getfield 23, 3) (List.mem_of_getElem? (i := 53) rfl)
theorem dX6_prepare_105 : decode cX6_prepare 105 = .ok (.iconst 1, 1) := tX6_prepare_ok (105, .iconst 1, 1) (List.mem_of_getElem? (i := 54) rfl)
theorem dX6_prepare_106 : decode cX6_prepare 106 = .ok (.iadd, 1) := tX6_prepare_ok (106, .iadd, 1) (List.mem_of_getElem? (i := 55) rfl)
theorem dX6_prepare_107 : decode cX6_prepare 107 = .ok (.putfield 23, 3) := tX6_prepare_ok (107, .putfield 23, 3) (List.mem_of_getElem? (i := 56) rfl)
theorem dX6_prepare_110 : decode cX6_prepare 110 = .ok (.goto (-66), 3) := tX6_prepare_ok (110, .goto (-66), 3) (List.mem_of_getElem? (i := 57) rfl)
theorem dX6_prepare_113 : decode cX6_prepare 113 = .ok (.return_, 1) := tX6_prepare_ok (113, .return_, 1) (List.mem_of_getElem? (i := 58) rfl)

def tX6_onward : List (Nat × Instr × Nat) := [
  (0, .iload_n 1, 1),
  (1, .ifCond .lt 28, 3),
  (4, .iload_n 1, 1),
  (5, .aload_n 0, 1),
  (6, .getfield 23, 3),
  (9, .if_icmp .ge 20, 3),
  (12, .iload_n 1, 1),
  (13, .bipush 60, 2),
  (15, .if_icmp .gt 14, 3),
  (18, .iload_n 2, 1),
  (19, .ifCond .lt 10, 3),
  (22, .iload_n 2, 1),
  (23, .sipush 4489, 3),
  (26, .if_icmp .lt 5, 3),
  (29, .lconst 0, 1),
  (30, .lreturn, 1),
  (31, .aload_n 0, 1),
  (32, .getfield 10, 3),
  (35, .iload_n 1, 1),
  (36, .sipush 4489, 3),
  (39, .imul, 1),
  (40, .iload_n 2, 1),
  (41, .iadd, 1),
  (42, .laload, 1),
  (43, .lreturn, 1)]
set_option maxRecDepth 100000 in
theorem tX6_onward_ok : ∀ q ∈ tX6_onward, decode cX6_onward q.1 = .ok q.2 := by decide +kernel
theorem dX6_onward_0 : decode cX6_onward 0 = .ok (.iload_n 1, 1) := tX6_onward_ok (0, .iload_n 1, 1) (List.mem_of_getElem? (i := 0) rfl)
theorem dX6_onward_1 : decode cX6_onward 1 = .ok (.ifCond .lt 28, 3) := tX6_onward_ok (1, .ifCond .lt 28, 3) (List.mem_of_getElem? (i := 1) rfl)
theorem dX6_onward_4 : decode cX6_onward 4 = .ok (.iload_n 1, 1) := tX6_onward_ok (4, .iload_n 1, 1) (List.mem_of_getElem? (i := 2) rfl)
theorem dX6_onward_5 : decode cX6_onward 5 = .ok (.aload_n 0, 1) := tX6_onward_ok (5, .aload_n 0, 1) (List.mem_of_getElem? (i := 3) rfl)
theorem dX6_onward_6 : decode cX6_onward 6 = .ok (.getfield 23, 3) := tX6_onward_ok (6, .getfield 23, 3) (List.mem_of_getElem? (i := 4) rfl)
theorem dX6_onward_9 : decode cX6_onward 9 = .ok (.if_icmp .ge 20, 3) := tX6_onward_ok (9, .if_icmp .ge 20, 3) (List.mem_of_getElem? (i := 5) rfl)
theorem dX6_onward_12 : decode cX6_onward 12 = .ok (.iload_n 1, 1) := tX6_onward_ok (12, .iload_n 1, 1) (List.mem_of_getElem? (i := 6) rfl)
theorem dX6_onward_13 : decode cX6_onward 13 = .ok (.bipush 60, 2) := tX6_onward_ok (13, .bipush 60, 2) (List.mem_of_getElem? (i := 7) rfl)
theorem dX6_onward_15 : decode cX6_onward 15 = .ok (.if_icmp .gt 14, 3) := tX6_onward_ok (15, .if_icmp .gt 14, 3) (List.mem_of_getElem? (i := 8) rfl)
theorem dX6_onward_18 : decode cX6_onward 18 = .ok (.iload_n 2, 1) := tX6_onward_ok (18, .iload_n 2, 1) (List.mem_of_getElem? (i := 9) rfl)
theorem dX6_onward_19 : decode cX6_onward 19 = .ok (.ifCond .lt 10, 3) := tX6_onward_ok (19, .ifCond .lt 10, 3) (List.mem_of_getElem? (i := 10) rfl)
theorem dX6_onward_22 : decode cX6_onward 22 = .ok (.iload_n 2, 1) := tX6_onward_ok (22, .iload_n 2, 1) (List.mem_of_getElem? (i := 11) rfl)
theorem dX6_onward_23 : decode cX6_onward 23 = .ok (.sipush 4489, 3) := tX6_onward_ok (23, .sipush 4489, 3) (List.mem_of_getElem? (i := 12) rfl)
theorem dX6_onward_26 : decode cX6_onward 26 = .ok (.if_icmp .lt 5, 3) := tX6_onward_ok (26, .if_icmp .lt 5, 3) (List.mem_of_getElem? (i := 13) rfl)
theorem dX6_onward_29 : decode cX6_onward 29 = .ok (.lconst 0, 1) := tX6_onward_ok (29, .lconst 0, 1) (List.mem_of_getElem? (i := 14) rfl)
theorem dX6_onward_30 : decode cX6_onward 30 = .ok (.lreturn, 1) := tX6_onward_ok (30, .lreturn, 1) (List.mem_of_getElem? (i := 15) rfl)
theorem dX6_onward_31 : decode cX6_onward 31 = .ok (.aload_n 0, 1) := tX6_onward_ok (31, .aload_n 0, 1) (List.mem_of_getElem? (i := 16) rfl)
theorem dX6_onward_32 : decode cX6_onward 32 = .ok (.getfield 10, 3) := tX6_onward_ok (32, .getfield 10, 3) (List.mem_of_getElem? (i := 17) rfl)
theorem dX6_onward_35 : decode cX6_onward 35 = .ok (.iload_n 1, 1) := tX6_onward_ok (35, .iload_n 1, 1) (List.mem_of_getElem? (i := 18) rfl)
theorem dX6_onward_36 : decode cX6_onward 36 = .ok (.sipush 4489, 3) := tX6_onward_ok (36, .sipush 4489, 3) (List.mem_of_getElem? (i := 19) rfl)
theorem dX6_onward_39 : decode cX6_onward 39 = .ok (.imul, 1) := tX6_onward_ok (39, .imul, 1) (List.mem_of_getElem? (i := 20) rfl)
theorem dX6_onward_40 : decode cX6_onward 40 = .ok (.iload_n 2, 1) := tX6_onward_ok (40, .iload_n 2, 1) (List.mem_of_getElem? (i := 21) rfl)
theorem dX6_onward_41 : decode cX6_onward 41 = .ok (.iadd, 1) := tX6_onward_ok (41, .iadd, 1) (List.mem_of_getElem? (i := 22) rfl)
theorem dX6_onward_42 : decode cX6_onward 42 = .ok (.laload, 1) := tX6_onward_ok (42, .laload, 1) (List.mem_of_getElem? (i := 23) rfl)
theorem dX6_onward_43 : decode cX6_onward 43 = .ok (.lreturn, 1) := tX6_onward_ok (43, .lreturn, 1) (List.mem_of_getElem? (i := 24) rfl)

def tX6_anywhere : List (Nat × Instr × Nat) := [
  (0, .aload_n 0, 1),
  (1, .aload_n 0, 1),
  (2, .getfield 16, 3),
  (5, .iconst 0, 1),
  (6, .sipush 4489, 3),
  (9, .invokevirtual 33, 3),
  (12, .aload_n 0, 1),
  (13, .getfield 19, 3),
  (16, .invokevirtual 37, 3),
  (19, .istore_n 2, 1),
  (20, .iconst 0, 1),
  (21, .istore_n 3, 1),
  (22, .iconst 1, 1),
  (23, .istore 4, 2),
  (25, .iload 4, 2),
  (27, .iload_n 1, 1),
  (28, .if_icmp .gt 42, 3),
  (31, .aload_n 0, 1),
  (32, .aload_n 0, 1),
  (33, .getfield 16, 3),
  (36, .iload_n 3, 1),
  (37, .sipush 4489, 3),
  (40, .iload_n 3, 1),
  (41, .isub, 1),
  (42, .aload_n 0, 1),
  (43, .getfield 19, 3),
  (46, .getfield 47, 3),
  (49, .iload_n 2, 1),
  (50, .iload_n 1, 1),
  (51, .iload 4, 2),
  (53, .isub, 1),
  (54, .imul, 1),
  (55, .invokevirtual 43, 3),
  (58, .sipush 4489, 3),
  (61, .iload_n 3, 1),
  (62, .isub, 1),
  (63, .istore_n 3, 1),
  (64, .iinc 4 1, 3),
  (67, .goto (-42), 3),
  (70, .aload_n 0, 1),
  (71, .getfield 16, 3),
  (74, .iload_n 3, 1),
  (75, .aload_n 0, 1),
  (76, .getfield 19, 3),
  (79, .invokevirtual 50, 3),
  (82, .iadd, 1),
  (83, .laload, 1),
  (84, .lreturn, 1)]
set_option maxRecDepth 100000 in
theorem tX6_anywhere_ok : ∀ q ∈ tX6_anywhere, decode cX6_anywhere q.1 = .ok q.2 := by decide +kernel
theorem dX6_anywhere_0 : decode cX6_anywhere 0 = .ok (.aload_n 0, 1) := tX6_anywhere_ok (0, .aload_n 0, 1) (List.mem_of_getElem? (i := 0) rfl)
theorem dX6_anywhere_1 : decode cX6_anywhere 1 = .ok (.aload_n 0, 1) := tX6_anywhere_ok (1, .aload_n 0, 1) (List.mem_of_getElem? (i := 1) rfl)
theorem dX6_anywhere_2 : decode cX6_anywhere 2 = .ok (.getfield 16, 3) := tX6_anywhere_ok (2, .getfield 16, 3) (List.mem_of_getElem? (i := 2) rfl)
theorem dX6_anywhere_5 : decode cX6_anywhere 5 = .ok (.iconst 0, 1) := tX6_anywhere_ok (5, .iconst 0, 1) (List.mem_of_getElem? (i := 3) rfl)
theorem dX6_anywhere_6 : decode cX6_anywhere 6 = .ok (.sipush 4489, 3) := tX6_anywhere_ok (6, .sipush 4489, 3) (List.mem_of_getElem? (i := 4) rfl)
theorem dX6_anywhere_9 : decode cX6_anywhere 9 = .ok (.invokevirtual 33, 3) := tX6_anywhere_ok (9, .invokevirtual 33, 3) (List.mem_of_getElem? (i := 5) rfl)
theorem dX6_anywhere_12 : decode cX6_anywhere 12 = .ok (.aload_n 0, 1) := tX6_anywhere_ok (12, .aload_n 0, 1) (List.mem_of_getElem? (i := 6) rfl)
theorem dX6_anywhere_13 : decode cX6_anywhere 13 = .ok (.getfield 19, 3) := tX6_anywhere_ok (13, .getfield 19, 3) (List.mem_of_getElem? (i := 7) rfl)
theorem dX6_anywhere_16 : decode cX6_anywhere 16 = .ok (.invokevirtual 37, 3) := tX6_anywhere_ok (16, .invokevirtual 37, 3) (List.mem_of_getElem? (i := 8) rfl)
theorem dX6_anywhere_19 : decode cX6_anywhere 19 = .ok (.istore_n 2, 1) := tX6_anywhere_ok (19, .istore_n 2, 1) (List.mem_of_getElem? (i := 9) rfl)
theorem dX6_anywhere_20 : decode cX6_anywhere 20 = .ok (.iconst 0, 1) := tX6_anywhere_ok (20, .iconst 0, 1) (List.mem_of_getElem? (i := 10) rfl)
theorem dX6_anywhere_21 : decode cX6_anywhere 21 = .ok (.istore_n 3, 1) := tX6_anywhere_ok (21, .istore_n 3, 1) (List.mem_of_getElem? (i := 11) rfl)
theorem dX6_anywhere_22 : decode cX6_anywhere 22 = .ok (.iconst 1, 1) := tX6_anywhere_ok (22, .iconst 1, 1) (List.mem_of_getElem? (i := 12) rfl)
theorem dX6_anywhere_23 : decode cX6_anywhere 23 = .ok (.istore 4, 2) := tX6_anywhere_ok (23, .istore 4, 2) (List.mem_of_getElem? (i := 13) rfl)
theorem dX6_anywhere_25 : decode cX6_anywhere 25 = .ok (.iload 4, 2) := tX6_anywhere_ok (25, .iload 4, 2) (List.mem_of_getElem? (i := 14) rfl)
theorem dX6_anywhere_27 : decode cX6_anywhere 27 = .ok (.iload_n 1, 1) := tX6_anywhere_ok (27, .iload_n 1, 1) (List.mem_of_getElem? (i := 15) rfl)
theorem dX6_anywhere_28 : decode cX6_anywhere 28 = .ok (.if_icmp .gt 42, 3) := tX6_anywhere_ok (28, .if_icmp .gt 42, 3) (List.mem_of_getElem? (i := 16) rfl)
theorem dX6_anywhere_31 : decode cX6_anywhere 31 = .ok (.aload_n 0, 1) := tX6_anywhere_ok (31, .aload_n 0, 1) (List.mem_of_getElem? (i := 17) rfl)
theorem dX6_anywhere_32 : decode cX6_anywhere 32 = .ok (.aload_n 0, 1) := tX6_anywhere_ok (32, .aload_n 0, 1) (List.mem_of_getElem? (i := 18) rfl)
theorem dX6_anywhere_33 : decode cX6_anywhere 33 = .ok (.getfield 16, 3) := tX6_anywhere_ok (33, .getfield 16, 3) (List.mem_of_getElem? (i := 19) rfl)
theorem dX6_anywhere_36 : decode cX6_anywhere 36 = .ok (.iload_n 3, 1) := tX6_anywhere_ok (36, .iload_n 3, 1) (List.mem_of_getElem? (i := 20) rfl)
theorem dX6_anywhere_37 : decode cX6_anywhere 37 = .ok (.sipush 4489, 3) := tX6_anywhere_ok (37, .sipush 4489, 3) (List.mem_of_getElem? (i := 21) rfl)
theorem dX6_anywhere_40 : decode cX6_anywhere 40 = .ok (.iload_n 3, 1) := tX6_anywhere_ok (40, .iload_n 3, 1) (List.mem_of_getElem? (i := 22) rfl)
theorem dX6_anywhere_41 : decode cX6_anywhere 41 = .ok (.isub, 1) := tX6_anywhere_ok (41, .isub, 1) (List.mem_of_getElem? (i := 23) rfl)
theorem dX6_anywhere_42 : decode cX6_anywhere 42 = .ok (.aload_n 0, 1) := tX6_anywhere_ok (42, .aload_n 0, 1) (List.mem_of_getElem? (i := 24) rfl)
theorem dX6_anywhere_43 : decode cX6_anywhere 43 = .ok (.getfield 19, 3) := tX6_anywhere_ok (43, .getfield 19, 3) (List.mem_of_getElem? (i := 25) rfl)
theorem dX6_anywhere_46 : decode cX6_anywhere 46 = .ok (.getfield 47, 3) := tX6_anywhere_ok (46, .getfield 47, 3) (List.mem_of_getElem? (i := 26) rfl)
theorem dX6_anywhere_49 : decode cX6_anywhere 49 = .ok (.iload_n 2, 1) := tX6_anywhere_ok (49, .iload_n 2, 1) (List.mem_of_getElem? (i := 27) rfl)
theorem dX6_anywhere_50 : decode cX6_anywhere 50 = .ok (.iload_n 1, 1) := tX6_anywhere_ok (50, .iload_n 1, 1) (List.mem_of_getElem? (i := 28) rfl)
theorem dX6_anywhere_51 : decode cX6_anywhere 51 = .ok (.iload 4, 2) := tX6_anywhere_ok (51, .iload 4, 2) (List.mem_of_getElem? (i := 29) rfl)
theorem dX6_anywhere_53 : decode cX6_anywhere 53 = .ok (.isub, 1) := tX6_anywhere_ok (53, .isub, 1) (List.mem_of_getElem? (i := 30) rfl)
theorem dX6_anywhere_54 : decode cX6_anywhere 54 = .ok (.imul, 1) := tX6_anywhere_ok (54, .imul, 1) (List.mem_of_getElem? (i := 31) rfl)
theorem dX6_anywhere_55 : decode cX6_anywhere 55 = .ok (.invokevirtual 43, 3) := tX6_anywhere_ok (55, .invokevirtual 43, 3) (List.mem_of_getElem? (i := 32) rfl)
theorem dX6_anywhere_58 : decode cX6_anywhere 58 = .ok (.sipush 4489, 3) := tX6_anywhere_ok (58, .sipush 4489, 3) (List.mem_of_getElem? (i := 33) rfl)
theorem dX6_anywhere_61 : decode cX6_anywhere 61 = .ok (.iload_n 3, 1) := tX6_anywhere_ok (61, .iload_n 3, 1) (List.mem_of_getElem? (i := 34) rfl)
theorem dX6_anywhere_62 : decode cX6_anywhere 62 = .ok (.isub, 1) := tX6_anywhere_ok (62, .isub, 1) (List.mem_of_getElem? (i := 35) rfl)
theorem dX6_anywhere_63 : decode cX6_anywhere 63 = .ok (.istore_n 3, 1) := tX6_anywhere_ok (63, .istore_n 3, 1) (List.mem_of_getElem? (i := 36) rfl)
theorem dX6_anywhere_64 : decode cX6_anywhere 64 = .ok (.iinc 4 1, 3) := tX6_anywhere_ok (64, .iinc 4 1, 3) (List.mem_of_getElem? (i := 37) rfl)
theorem dX6_anywhere_67 : decode cX6_anywhere 67 = .ok (.goto (-42), 3) := tX6_anywhere_ok (67, .goto (-42), 3) (List.mem_of_getElem? (i := 38) rfl)
theorem dX6_anywhere_70 : decode cX6_anywhere 70 = .ok (.aload_n 0, 1) := tX6_anywhere_ok (70, .aload_n 0, 1) (List.mem_of_getElem? (i := 39) rfl)
theorem dX6_anywhere_71 : decode cX6_anywhere 71 = .ok (.getfield 16, 3) := tX6_anywhere_ok (71, .getfield 16, 3) (List.mem_of_getElem? (i := 40) rfl)
theorem dX6_anywhere_74 : decode cX6_anywhere 74 = .ok (.iload_n 3, 1) := tX6_anywhere_ok (74, .iload_n 3, 1) (List.mem_of_getElem? (i := 41) rfl)
theorem dX6_anywhere_75 : decode cX6_anywhere 75 = .ok (.aload_n 0, 1) := tX6_anywhere_ok (75, .aload_n 0, 1) (List.mem_of_getElem? (i := 42) rfl)
theorem dX6_anywhere_76 : decode cX6_anywhere 76 = .ok (.getfield 19, 3) := tX6_anywhere_ok (76, .getfield 19, 3) (List.mem_of_getElem? (i := 43) rfl)
theorem dX6_anywhere_79 : decode cX6_anywhere 79 = .ok (.invokevirtual 50, 3) := tX6_anywhere_ok (79, .invokevirtual 50, 3) (List.mem_of_getElem? (i := 44) rfl)
theorem dX6_anywhere_82 : decode cX6_anywhere 82 = .ok (.iadd, 1) := tX6_anywhere_ok (82, .iadd, 1) (List.mem_of_getElem? (i := 45) rfl)
theorem dX6_anywhere_83 : decode cX6_anywhere 83 = .ok (.laload, 1) := tX6_anywhere_ok (83, .laload, 1) (List.mem_of_getElem? (i := 46) rfl)
theorem dX6_anywhere_84 : decode cX6_anywhere 84 = .ok (.lreturn, 1) := tX6_anywhere_ok (84, .lreturn, 1) (List.mem_of_getElem? (i := 47) rfl)

def tX6_begin : List (Nat × Instr × Nat) := [
  (0, .iconst 0, 1),
  (1, .istore 4, 2),
  (3, .iload 4, 2),
  (5, .sipush 4489, 3),
  (8, .if_icmp .ge 42, 3),
  (11, .aload_n 1, 1),
  (12, .iload 4, 2),
  (14, .iload 4, 2),
  (16, .iload_n 2, 1),
  (17, .if_icmp .lt 25, 3),
  (20, .iload 4, 2),
  (22, .iload_n 3, 1),
  (23, .if_icmp .ge 19, 3),
  (26, .aload_n 0, 1),
  (27, .getfield 19, 3),
  (30, .iload 4, 2),
  (32, .invokevirtual 53, 3),
  (35, .ifCond .eq 7, 3),
  (38, .lconst 1, 1),
  (39, .goto 4, 3),
  (42, .lconst 0, 1),
  (43, .lastore, 1),
  (44, .iinc 4 1, 3),
  (47, .goto (-44), 3),
  (50, .aload_n 0, 1),
  (51, .aload_n 1, 1),
  (52, .iconst 0, 1),
  (53, .invokevirtual 57, 3),
  (56, .return_, 1)]
set_option maxRecDepth 100000 in
theorem tX6_begin_ok : ∀ q ∈ tX6_begin, decode cX6_begin q.1 = .ok q.2 := by decide +kernel
theorem dX6_begin_0 : decode cX6_begin 0 = .ok (.iconst 0, 1) := tX6_begin_ok (0, .iconst 0, 1) (List.mem_of_getElem? (i := 0) rfl)
theorem dX6_begin_1 : decode cX6_begin 1 = .ok (.istore 4, 2) := tX6_begin_ok (1, .istore 4, 2) (List.mem_of_getElem? (i := 1) rfl)
theorem dX6_begin_3 : decode cX6_begin 3 = .ok (.iload 4, 2) := tX6_begin_ok (3, .iload 4, 2) (List.mem_of_getElem? (i := 2) rfl)
theorem dX6_begin_5 : decode cX6_begin 5 = .ok (.sipush 4489, 3) := tX6_begin_ok (5, .sipush 4489, 3) (List.mem_of_getElem? (i := 3) rfl)
theorem dX6_begin_8 : decode cX6_begin 8 = .ok (.if_icmp .ge 42, 3) := tX6_begin_ok (8, .if_icmp .ge 42, 3) (List.mem_of_getElem? (i := 4) rfl)
theorem dX6_begin_11 : decode cX6_begin 11 = .ok (.aload_n 1, 1) := tX6_begin_ok (11, .aload_n 1, 1) (List.mem_of_getElem? (i := 5) rfl)
theorem dX6_begin_12 : decode cX6_begin 12 = .ok (.iload 4, 2) := tX6_begin_ok (12, .iload 4, 2) (List.mem_of_getElem? (i := 6) rfl)
theorem dX6_begin_14 : decode cX6_begin 14 = .ok (.iload 4, 2) := tX6_begin_ok (14, .iload 4, 2) (List.mem_of_getElem? (i := 7) rfl)
theorem dX6_begin_16 : decode cX6_begin 16 = .ok (.iload_n 2, 1) := tX6_begin_ok (16, .iload_n 2, 1) (List.mem_of_getElem? (i := 8) rfl)
theorem dX6_begin_17 : decode cX6_begin 17 = .ok (.if_icmp .lt 25, 3) := tX6_begin_ok (17, .if_icmp .lt 25, 3) (List.mem_of_getElem? (i := 9) rfl)
theorem dX6_begin_20 : decode cX6_begin 20 = .ok (.iload 4, 2) := tX6_begin_ok (20, .iload 4, 2) (List.mem_of_getElem? (i := 10) rfl)
theorem dX6_begin_22 : decode cX6_begin 22 = .ok (.iload_n 3, 1) := tX6_begin_ok (22, .iload_n 3, 1) (List.mem_of_getElem? (i := 11) rfl)
theorem dX6_begin_23 : decode cX6_begin 23 = .ok (.if_icmp .ge 19, 3) := tX6_begin_ok (23, .if_icmp .ge 19, 3) (List.mem_of_getElem? (i := 12) rfl)
theorem dX6_begin_26 : decode cX6_begin 26 = .ok (.aload_n 0, 1) := tX6_begin_ok (26, .aload_n 0, 1) (List.mem_of_getElem? (i := 13) rfl)
theorem dX6_begin_27 : decode cX6_begin 27 = .ok (.getfield 19, 3) := tX6_begin_ok (27, .getfield 19, 3) (List.mem_of_getElem? (i := 14) rfl)
theorem dX6_begin_30 : decode cX6_begin 30 = .ok (.iload 4, 2) := tX6_begin_ok (30, .iload 4, 2) (List.mem_of_getElem? (i := 15) rfl)
theorem dX6_begin_32 : decode cX6_begin 32 = .ok (.invokevirtual 53, 3) := tX6_begin_ok (32, .invokevirtual 53, 3) (List.mem_of_getElem? (i := 16) rfl)
theorem dX6_begin_35 : decode cX6_begin 35 = .ok (.ifCond .eq 7, 3) := tX6_begin_ok (35, .ifCond .eq 7, 3) (List.mem_of_getElem? (i := 17) rfl)
theorem dX6_begin_38 : decode cX6_begin 38 = .ok (.lconst 1, 1) := tX6_begin_ok (38, .lconst 1, 1) (List.mem_of_getElem? (i := 18) rfl)
theorem dX6_begin_39 : decode cX6_begin 39 = .ok (.goto 4, 3) := tX6_begin_ok (39, .goto 4, 3) (List.mem_of_getElem? (i := 19) rfl)
theorem dX6_begin_42 : decode cX6_begin 42 = .ok (.lconst 0, 1) := tX6_begin_ok (42, .lconst 0, 1) (List.mem_of_getElem? (i := 20) rfl)
theorem dX6_begin_43 : decode cX6_begin 43 = .ok (.lastore, 1) := tX6_begin_ok (43, .lastore, 1) (List.mem_of_getElem? (i := 21) rfl)
theorem dX6_begin_44 : decode cX6_begin 44 = .ok (.iinc 4 1, 3) := tX6_begin_ok (44, .iinc 4 1, 3) (List.mem_of_getElem? (i := 22) rfl)
theorem dX6_begin_47 : decode cX6_begin 47 = .ok (.goto (-44), 3) := tX6_begin_ok (47, .goto (-44), 3) (List.mem_of_getElem? (i := 23) rfl)
theorem dX6_begin_50 : decode cX6_begin 50 = .ok (.aload_n 0, 1) := tX6_begin_ok (50, .aload_n 0, 1) (List.mem_of_getElem? (i := 24) rfl)
theorem dX6_begin_51 : decode cX6_begin 51 = .ok (.aload_n 1, 1) := tX6_begin_ok (51, .aload_n 1, 1) (List.mem_of_getElem? (i := 25) rfl)
theorem dX6_begin_52 : decode cX6_begin 52 = .ok (.iconst 0, 1) := tX6_begin_ok (52, .iconst 0, 1) (List.mem_of_getElem? (i := 26) rfl)
theorem dX6_begin_53 : decode cX6_begin 53 = .ok (.invokevirtual 57, 3) := tX6_begin_ok (53, .invokevirtual 57, 3) (List.mem_of_getElem? (i := 27) rfl)
theorem dX6_begin_56 : decode cX6_begin 56 = .ok (.return_, 1) := tX6_begin_ok (56, .return_, 1) (List.mem_of_getElem? (i := 28) rfl)

def tX6_spread : List (Nat × Instr × Nat) := [
  (0, .bipush (-33), 2),
  (2, .iload 4, 2),
  (4, .iload 5, 2),
  (6, .isub, 1),
  (7, .bipush (-30), 2),
  (9, .invokestatic 61, 3),
  (12, .invokestatic 67, 3),
  (15, .istore 6, 2),
  (17, .bipush (-33), 2),
  (19, .iload 4, 2),
  (21, .iload 5, 2),
  (23, .iadd, 1),
  (24, .bipush 30, 2),
  (26, .invokestatic 70, 3),
  (29, .iconst 1, 1),
  (30, .iadd, 1),
  (31, .invokestatic 67, 3),
  (34, .istore 7, 2),
  (36, .iconst 0, 1),
  (37, .istore 8, 2),
  (39, .iload 8, 2),
  (41, .sipush 4489, 3),
  (44, .if_icmp .ge 66, 3),
  (47, .iload 8, 2),
  (49, .iload 6, 2),
  (51, .if_icmp .lt 26, 3),
  (54, .iload 8, 2),
  (56, .iload 7, 2),
  (58, .if_icmp .ge 19, 3),
  (61, .aload_n 0, 1),
  (62, .getfield 19, 3),
  (65, .iload 8, 2),
  (67, .invokevirtual 53, 3),
  (70, .ifCond .eq 7, 3),
  (73, .iconst 1, 1),
  (74, .goto 4, 3),
  (77, .iconst 0, 1),
  (78, .istore 9, 2),
  (80, .aload_n 1, 1),
  (81, .iload_n 3, 1),
  (82, .iload 8, 2),
  (84, .iadd, 1),
  (85, .iload 9, 2),
  (87, .ifCond .eq 15, 3),
  (90, .aload_n 0, 1),
  (91, .aload_n 1, 1),
  (92, .iload_n 2, 1),
  (93, .iload 8, 2),
  (95, .iadd, 1),
  (96, .invokevirtual 73, 3),
  (99, .goto 4, 3),
  (102, .lconst 0, 1),
  (103, .lastore, 1),
  (104, .iinc 8 1, 3),
  (107, .goto (-68), 3),
  (110, .aload_n 0, 1),
  (111, .aload_n 1, 1),
  (112, .iload_n 3, 1),
  (113, .invokevirtual 57, 3),
  (116, .return_, 1)]
set_option maxRecDepth 100000 in
theorem tX6_spread_ok : ∀ q ∈ tX6_spread, decode cX6_spread q.1 = .ok q.2 := by decide +kernel
theorem dX6_spread_0 : decode cX6_spread 0 = .ok (.bipush (-33), 2) := tX6_spread_ok (0, .bipush (-33), 2) (List.mem_of_getElem? (i := 0) rfl)
theorem dX6_spread_2 : decode cX6_spread 2 = .ok (.iload 4, 2) := tX6_spread_ok (2, .iload 4, 2) (List.mem_of_getElem? (i := 1) rfl)
theorem dX6_spread_4 : decode cX6_spread 4 = .ok (.iload 5, 2) := tX6_spread_ok (4, .iload 5, 2) (List.mem_of_getElem? (i := 2) rfl)
theorem dX6_spread_6 : decode cX6_spread 6 = .ok (.isub, 1) := tX6_spread_ok (6, .isub, 1) (List.mem_of_getElem? (i := 3) rfl)
theorem dX6_spread_7 : decode cX6_spread 7 = .ok (.bipush (-30), 2) := tX6_spread_ok (7, .bipush (-30), 2) (List.mem_of_getElem? (i := 4) rfl)
theorem dX6_spread_9 : decode cX6_spread 9 = .ok (.invokestatic 61, 3) := tX6_spread_ok (9, .invokestatic 61, 3) (List.mem_of_getElem? (i := 5) rfl)
theorem dX6_spread_12 : decode cX6_spread 12 = .ok (.invokestatic 67, 3) := tX6_spread_ok (12, .invokestatic 67, 3) (List.mem_of_getElem? (i := 6) rfl)
theorem dX6_spread_15 : decode cX6_spread 15 = .ok (.istore 6, 2) := tX6_spread_ok (15, .istore 6, 2) (List.mem_of_getElem? (i := 7) rfl)
theorem dX6_spread_17 : decode cX6_spread 17 = .ok (.bipush (-33), 2) := tX6_spread_ok (17, .bipush (-33), 2) (List.mem_of_getElem? (i := 8) rfl)
theorem dX6_spread_19 : decode cX6_spread 19 = .ok (.iload 4, 2) := tX6_spread_ok (19, .iload 4, 2) (List.mem_of_getElem? (i := 9) rfl)
theorem dX6_spread_21 : decode cX6_spread 21 = .ok (.iload 5, 2) := tX6_spread_ok (21, .iload 5, 2) (List.mem_of_getElem? (i := 10) rfl)
theorem dX6_spread_23 : decode cX6_spread 23 = .ok (.iadd, 1) := tX6_spread_ok (23, .iadd, 1) (List.mem_of_getElem? (i := 11) rfl)
theorem dX6_spread_24 : decode cX6_spread 24 = .ok (.bipush 30, 2) := tX6_spread_ok (24, .bipush 30, 2) (List.mem_of_getElem? (i := 12) rfl)
theorem dX6_spread_26 : decode cX6_spread 26 = .ok (.invokestatic 70, 3) := tX6_spread_ok (26, .invokestatic 70, 3) (List.mem_of_getElem? (i := 13) rfl)
theorem dX6_spread_29 : decode cX6_spread 29 = .ok (.iconst 1, 1) := tX6_spread_ok (29, .iconst 1, 1) (List.mem_of_getElem? (i := 14) rfl)
theorem dX6_spread_30 : decode cX6_spread 30 = .ok (.iadd, 1) := tX6_spread_ok (30, .iadd, 1) (List.mem_of_getElem? (i := 15) rfl)
theorem dX6_spread_31 : decode cX6_spread 31 = .ok (.invokestatic 67, 3) := tX6_spread_ok (31, .invokestatic 67, 3) (List.mem_of_getElem? (i := 16) rfl)
theorem dX6_spread_34 : decode cX6_spread 34 = .ok (.istore 7, 2) := tX6_spread_ok (34, .istore 7, 2) (List.mem_of_getElem? (i := 17) rfl)
theorem dX6_spread_36 : decode cX6_spread 36 = .ok (.iconst 0, 1) := tX6_spread_ok (36, .iconst 0, 1) (List.mem_of_getElem? (i := 18) rfl)
theorem dX6_spread_37 : decode cX6_spread 37 = .ok (.istore 8, 2) := tX6_spread_ok (37, .istore 8, 2) (List.mem_of_getElem? (i := 19) rfl)
theorem dX6_spread_39 : decode cX6_spread 39 = .ok (.iload 8, 2) := tX6_spread_ok (39, .iload 8, 2) (List.mem_of_getElem? (i := 20) rfl)
theorem dX6_spread_41 : decode cX6_spread 41 = .ok (.sipush 4489, 3) := tX6_spread_ok (41, .sipush 4489, 3) (List.mem_of_getElem? (i := 21) rfl)
theorem dX6_spread_44 : decode cX6_spread 44 = .ok (.if_icmp .ge 66, 3) := tX6_spread_ok (44, .if_icmp .ge 66, 3) (List.mem_of_getElem? (i := 22) rfl)
theorem dX6_spread_47 : decode cX6_spread 47 = .ok (.iload 8, 2) := tX6_spread_ok (47, .iload 8, 2) (List.mem_of_getElem? (i := 23) rfl)
theorem dX6_spread_49 : decode cX6_spread 49 = .ok (.iload 6, 2) := tX6_spread_ok (49, .iload 6, 2) (List.mem_of_getElem? (i := 24) rfl)
theorem dX6_spread_51 : decode cX6_spread 51 = .ok (.if_icmp .lt 26, 3) := tX6_spread_ok (51, .if_icmp .lt 26, 3) (List.mem_of_getElem? (i := 25) rfl)
theorem dX6_spread_54 : decode cX6_spread 54 = .ok (.iload 8, 2) := tX6_spread_ok (54, .iload 8, 2) (List.mem_of_getElem? (i := 26) rfl)
theorem dX6_spread_56 : decode cX6_spread 56 = .ok (.iload 7, 2) := tX6_spread_ok (56, .iload 7, 2) (List.mem_of_getElem? (i := 27) rfl)
theorem dX6_spread_58 : decode cX6_spread 58 = .ok (.if_icmp .ge 19, 3) := tX6_spread_ok (58, .if_icmp .ge 19, 3) (List.mem_of_getElem? (i := 28) rfl)
theorem dX6_spread_61 : decode cX6_spread 61 = .ok (.aload_n 0, 1) := tX6_spread_ok (61, .aload_n 0, 1) (List.mem_of_getElem? (i := 29) rfl)
theorem dX6_spread_62 : decode cX6_spread 62 = .ok (.getfield 19, 3) := tX6_spread_ok (62, .getfield 19, 3) (List.mem_of_getElem? (i := 30) rfl)
theorem dX6_spread_65 : decode cX6_spread 65 = .ok (.iload 8, 2) := tX6_spread_ok (65, .iload 8, 2) (List.mem_of_getElem? (i := 31) rfl)
theorem dX6_spread_67 : decode cX6_spread 67 = .ok (.invokevirtual 53, 3) := tX6_spread_ok (67, .invokevirtual 53, 3) (List.mem_of_getElem? (i := 32) rfl)
theorem dX6_spread_70 : decode cX6_spread 70 = .ok (.ifCond .eq 7, 3) := tX6_spread_ok (70, .ifCond .eq 7, 3) (List.mem_of_getElem? (i := 33) rfl)
theorem dX6_spread_73 : decode cX6_spread 73 = .ok (.iconst 1, 1) := tX6_spread_ok (73, .iconst 1, 1) (List.mem_of_getElem? (i := 34) rfl)
theorem dX6_spread_74 : decode cX6_spread 74 = .ok (.goto 4, 3) := tX6_spread_ok (74, .goto 4, 3) (List.mem_of_getElem? (i := 35) rfl)
theorem dX6_spread_77 : decode cX6_spread 77 = .ok (.iconst 0, 1) := tX6_spread_ok (77, .iconst 0, 1) (List.mem_of_getElem? (i := 36) rfl)
theorem dX6_spread_78 : decode cX6_spread 78 = .ok (.istore 9, 2) := tX6_spread_ok (78, .istore 9, 2) (List.mem_of_getElem? (i := 37) rfl)
theorem dX6_spread_80 : decode cX6_spread 80 = .ok (.aload_n 1, 1) := tX6_spread_ok (80, .aload_n 1, 1) (List.mem_of_getElem? (i := 38) rfl)
theorem dX6_spread_81 : decode cX6_spread 81 = .ok (.iload_n 3, 1) := tX6_spread_ok (81, .iload_n 3, 1) (List.mem_of_getElem? (i := 39) rfl)
theorem dX6_spread_82 : decode cX6_spread 82 = .ok (.iload 8, 2) := tX6_spread_ok (82, .iload 8, 2) (List.mem_of_getElem? (i := 40) rfl)
theorem dX6_spread_84 : decode cX6_spread 84 = .ok (.iadd, 1) := tX6_spread_ok (84, .iadd, 1) (List.mem_of_getElem? (i := 41) rfl)
theorem dX6_spread_85 : decode cX6_spread 85 = .ok (.iload 9, 2) := tX6_spread_ok (85, .iload 9, 2) (List.mem_of_getElem? (i := 42) rfl)
theorem dX6_spread_87 : decode cX6_spread 87 = .ok (.ifCond .eq 15, 3) := tX6_spread_ok (87, .ifCond .eq 15, 3) (List.mem_of_getElem? (i := 43) rfl)
theorem dX6_spread_90 : decode cX6_spread 90 = .ok (.aload_n 0, 1) := tX6_spread_ok (90, .aload_n 0, 1) (List.mem_of_getElem? (i := 44) rfl)
theorem dX6_spread_91 : decode cX6_spread 91 = .ok (.aload_n 1, 1) := tX6_spread_ok (91, .aload_n 1, 1) (List.mem_of_getElem? (i := 45) rfl)
theorem dX6_spread_92 : decode cX6_spread 92 = .ok (.iload_n 2, 1) := tX6_spread_ok (92, .iload_n 2, 1) (List.mem_of_getElem? (i := 46) rfl)
theorem dX6_spread_93 : decode cX6_spread 93 = .ok (.iload 8, 2) := tX6_spread_ok (93, .iload 8, 2) (List.mem_of_getElem? (i := 47) rfl)
theorem dX6_spread_95 : decode cX6_spread 95 = .ok (.iadd, 1) := tX6_spread_ok (95, .iadd, 1) (List.mem_of_getElem? (i := 48) rfl)
theorem dX6_spread_96 : decode cX6_spread 96 = .ok (.invokevirtual 73, 3) := tX6_spread_ok (96, .invokevirtual 73, 3) (List.mem_of_getElem? (i := 49) rfl)
theorem dX6_spread_99 : decode cX6_spread 99 = .ok (.goto 4, 3) := tX6_spread_ok (99, .goto 4, 3) (List.mem_of_getElem? (i := 50) rfl)
theorem dX6_spread_102 : decode cX6_spread 102 = .ok (.lconst 0, 1) := tX6_spread_ok (102, .lconst 0, 1) (List.mem_of_getElem? (i := 51) rfl)
theorem dX6_spread_103 : decode cX6_spread 103 = .ok (.lastore, 1) := tX6_spread_ok (103, .lastore, 1) (List.mem_of_getElem? (i := 52) rfl)
theorem dX6_spread_104 : decode cX6_spread 104 = .ok (.iinc 8 1, 3) := tX6_spread_ok (104, .iinc 8 1, 3) (List.mem_of_getElem? (i := 53) rfl)
theorem dX6_spread_107 : decode cX6_spread 107 = .ok (.goto (-68), 3) := tX6_spread_ok (107, .goto (-68), 3) (List.mem_of_getElem? (i := 54) rfl)
theorem dX6_spread_110 : decode cX6_spread 110 = .ok (.aload_n 0, 1) := tX6_spread_ok (110, .aload_n 0, 1) (List.mem_of_getElem? (i := 55) rfl)
theorem dX6_spread_111 : decode cX6_spread 111 = .ok (.aload_n 1, 1) := tX6_spread_ok (111, .aload_n 1, 1) (List.mem_of_getElem? (i := 56) rfl)
theorem dX6_spread_112 : decode cX6_spread 112 = .ok (.iload_n 3, 1) := tX6_spread_ok (112, .iload_n 3, 1) (List.mem_of_getElem? (i := 57) rfl)
theorem dX6_spread_113 : decode cX6_spread 113 = .ok (.invokevirtual 57, 3) := tX6_spread_ok (113, .invokevirtual 57, 3) (List.mem_of_getElem? (i := 58) rfl)
theorem dX6_spread_116 : decode cX6_spread 116 = .ok (.return_, 1) := tX6_spread_ok (116, .return_, 1) (List.mem_of_getElem? (i := 59) rfl)

def tX6_sumAhead : List (Nat × Instr × Nat) := [
  (0, .lconst 0, 1),
  (1, .lstore_n 3, 1),
  (2, .iconst 0, 1),
  (3, .istore 5, 2),
  (5, .iload 5, 2),
  (7, .aload_n 0, 1),
  (8, .getfield 19, 3),
  (11, .getfield 77, 3),
  (14, .if_icmp .ge 34, 3),
  (17, .lload_n 3, 1),
  (18, .ldc2_w 80, 3),
  (21, .lcmp, 1),
  (22, .ifCond .ge 26, 3),
  (25, .lload_n 3, 1),
  (26, .aload_n 1, 1),
  (27, .iload_n 2, 1),
  (28, .aload_n 0, 1),
  (29, .getfield 19, 3),
  (32, .getfield 82, 3),
  (35, .iload 5, 2),
  (37, .iaload, 1),
  (38, .iadd, 1),
  (39, .laload, 1),
  (40, .ladd, 1),
  (41, .lstore_n 3, 1),
  (42, .iinc 5 1, 3),
  (45, .goto (-40), 3),
  (48, .lload_n 3, 1),
  (49, .ldc2_w 80, 3),
  (52, .invokestatic 86, 3),
  (55, .lreturn, 1)]
set_option maxRecDepth 100000 in
theorem tX6_sumAhead_ok : ∀ q ∈ tX6_sumAhead, decode cX6_sumAhead q.1 = .ok q.2 := by decide +kernel
theorem dX6_sumAhead_0 : decode cX6_sumAhead 0 = .ok (.lconst 0, 1) := tX6_sumAhead_ok (0, .lconst 0, 1) (List.mem_of_getElem? (i := 0) rfl)
theorem dX6_sumAhead_1 : decode cX6_sumAhead 1 = .ok (.lstore_n 3, 1) := tX6_sumAhead_ok (1, .lstore_n 3, 1) (List.mem_of_getElem? (i := 1) rfl)
theorem dX6_sumAhead_2 : decode cX6_sumAhead 2 = .ok (.iconst 0, 1) := tX6_sumAhead_ok (2, .iconst 0, 1) (List.mem_of_getElem? (i := 2) rfl)
theorem dX6_sumAhead_3 : decode cX6_sumAhead 3 = .ok (.istore 5, 2) := tX6_sumAhead_ok (3, .istore 5, 2) (List.mem_of_getElem? (i := 3) rfl)
theorem dX6_sumAhead_5 : decode cX6_sumAhead 5 = .ok (.iload 5, 2) := tX6_sumAhead_ok (5, .iload 5, 2) (List.mem_of_getElem? (i := 4) rfl)
theorem dX6_sumAhead_7 : decode cX6_sumAhead 7 = .ok (.aload_n 0, 1) := tX6_sumAhead_ok (7, .aload_n 0, 1) (List.mem_of_getElem? (i := 5) rfl)
theorem dX6_sumAhead_8 : decode cX6_sumAhead 8 = .ok (.getfield 19, 3) := tX6_sumAhead_ok (8, .getfield 19, 3) (List.mem_of_getElem? (i := 6) rfl)
theorem dX6_sumAhead_11 : decode cX6_sumAhead 11 = .ok (.getfield 77, 3) := tX6_sumAhead_ok (11, .getfield 77, 3) (List.mem_of_getElem? (i := 7) rfl)
theorem dX6_sumAhead_14 : decode cX6_sumAhead 14 = .ok (.if_icmp .ge 34, 3) := tX6_sumAhead_ok (14, .if_icmp .ge 34, 3) (List.mem_of_getElem? (i := 8) rfl)
theorem dX6_sumAhead_17 : decode cX6_sumAhead 17 = .ok (.lload_n 3, 1) := tX6_sumAhead_ok (17, .lload_n 3, 1) (List.mem_of_getElem? (i := 9) rfl)
theorem dX6_sumAhead_18 : decode cX6_sumAhead 18 = .ok (.ldc2_w 80, 3) := tX6_sumAhead_ok (18, .ldc2_w 80, 3) (List.mem_of_getElem? (i := 10) rfl)
theorem dX6_sumAhead_21 : decode cX6_sumAhead 21 = .ok (.lcmp, 1) := tX6_sumAhead_ok (21, .lcmp, 1) (List.mem_of_getElem? (i := 11) rfl)
theorem dX6_sumAhead_22 : decode cX6_sumAhead 22 = .ok (.ifCond .ge 26, 3) := tX6_sumAhead_ok (22, .ifCond .ge 26, 3) (List.mem_of_getElem? (i := 12) rfl)
theorem dX6_sumAhead_25 : decode cX6_sumAhead 25 = .ok (.lload_n 3, 1) := tX6_sumAhead_ok (25, .lload_n 3, 1) (List.mem_of_getElem? (i := 13) rfl)
theorem dX6_sumAhead_26 : decode cX6_sumAhead 26 = .ok (.aload_n 1, 1) := tX6_sumAhead_ok (26, .aload_n 1, 1) (List.mem_of_getElem? (i := 14) rfl)
theorem dX6_sumAhead_27 : decode cX6_sumAhead 27 = .ok (.iload_n 2, 1) := tX6_sumAhead_ok (27, .iload_n 2, 1) (List.mem_of_getElem? (i := 15) rfl)
theorem dX6_sumAhead_28 : decode cX6_sumAhead 28 = .ok (.aload_n 0, 1) := tX6_sumAhead_ok (28, .aload_n 0, 1) (List.mem_of_getElem? (i := 16) rfl)
theorem dX6_sumAhead_29 : decode cX6_sumAhead 29 = .ok (.getfield 19, 3) := tX6_sumAhead_ok (29, .getfield 19, 3) (List.mem_of_getElem? (i := 17) rfl)
theorem dX6_sumAhead_32 : decode cX6_sumAhead 32 = .ok (.getfield 82, 3) := tX6_sumAhead_ok (32, .getfield 82, 3) (List.mem_of_getElem? (i := 18) rfl)
theorem dX6_sumAhead_35 : decode cX6_sumAhead 35 = .ok (.iload 5, 2) := tX6_sumAhead_ok (35, .iload 5, 2) (List.mem_of_getElem? (i := 19) rfl)
theorem dX6_sumAhead_37 : decode cX6_sumAhead 37 = .ok (.iaload, 1) := tX6_sumAhead_ok (37, .iaload, 1) (List.mem_of_getElem? (i := 20) rfl)
theorem dX6_sumAhead_38 : decode cX6_sumAhead 38 = .ok (.iadd, 1) := tX6_sumAhead_ok (38, .iadd, 1) (List.mem_of_getElem? (i := 21) rfl)
theorem dX6_sumAhead_39 : decode cX6_sumAhead 39 = .ok (.laload, 1) := tX6_sumAhead_ok (39, .laload, 1) (List.mem_of_getElem? (i := 22) rfl)
theorem dX6_sumAhead_40 : decode cX6_sumAhead 40 = .ok (.ladd, 1) := tX6_sumAhead_ok (40, .ladd, 1) (List.mem_of_getElem? (i := 23) rfl)
theorem dX6_sumAhead_41 : decode cX6_sumAhead 41 = .ok (.lstore_n 3, 1) := tX6_sumAhead_ok (41, .lstore_n 3, 1) (List.mem_of_getElem? (i := 24) rfl)
theorem dX6_sumAhead_42 : decode cX6_sumAhead 42 = .ok (.iinc 5 1, 3) := tX6_sumAhead_ok (42, .iinc 5 1, 3) (List.mem_of_getElem? (i := 25) rfl)
theorem dX6_sumAhead_45 : decode cX6_sumAhead 45 = .ok (.goto (-40), 3) := tX6_sumAhead_ok (45, .goto (-40), 3) (List.mem_of_getElem? (i := 26) rfl)
theorem dX6_sumAhead_48 : decode cX6_sumAhead 48 = .ok (.lload_n 3, 1) := tX6_sumAhead_ok (48, .lload_n 3, 1) (List.mem_of_getElem? (i := 27) rfl)
theorem dX6_sumAhead_49 : decode cX6_sumAhead 49 = .ok (.ldc2_w 80, 3) := tX6_sumAhead_ok (49, .ldc2_w 80, 3) (List.mem_of_getElem? (i := 28) rfl)
theorem dX6_sumAhead_52 : decode cX6_sumAhead 52 = .ok (.invokestatic 86, 3) := tX6_sumAhead_ok (52, .invokestatic 86, 3) (List.mem_of_getElem? (i := 29) rfl)
theorem dX6_sumAhead_55 : decode cX6_sumAhead 55 = .ok (.lreturn, 1) := tX6_sumAhead_ok (55, .lreturn, 1) (List.mem_of_getElem? (i := 30) rfl)

def tX6_closeRing : List (Nat × Instr × Nat) := [
  (0, .aload_n 0, 1),
  (1, .getfield 19, 3),
  (4, .getfield 89, 3),
  (7, .iconst 4, 1),
  (8, .if_icmp .ne 14, 3),
  (11, .aload_n 0, 1),
  (12, .getfield 19, 3),
  (15, .getfield 92, 3),
  (18, .iconst 1, 1),
  (19, .if_icmp .ge 4, 3),
  (22, .return_, 1),
  (23, .bipush (-30), 2),
  (25, .istore_n 3, 1),
  (26, .iload_n 3, 1),
  (27, .bipush 30, 2),
  (29, .if_icmp .gt 91, 3),
  (32, .iload_n 2, 1),
  (33, .iconst 0, 1),
  (34, .iload_n 3, 1),
  (35, .invokestatic 67, 3),
  (38, .iadd, 1),
  (39, .istore 4, 2),
  (41, .iconst 0, 1),
  (42, .istore 5, 2),
  (44, .iload 5, 2),
  (46, .iconst 3, 1),
  (47, .if_icmp .ge 67, 3),
  (50, .aload_n 1, 1),
  (51, .iload 4, 2),
  (53, .iconst 1, 1),
  (54, .isub, 1),
  (55, .iload 5, 2),
  (57, .isub, 1),
  (58, .aload_n 1, 1),
  (59, .iload 4, 2),
  (61, .iconst (-1), 1),
  (62, .iload 5, 2),
  (64, .isub, 1),
  (65, .aload_n 0, 1),
  (66, .getfield 19, 3),
  (69, .getfield 92, 3),
  (72, .invokestatic 95, 3),
  (75, .iadd, 1),
  (76, .laload, 1),
  (77, .lastore, 1),
  (78, .aload_n 1, 1),
  (79, .iload 4, 2),
  (81, .aload_n 0, 1),
  (82, .getfield 19, 3),
  (85, .getfield 92, 3),
  (88, .iadd, 1),
  (89, .iload 5, 2),
  (91, .iadd, 1),
  (92, .aload_n 1, 1),
  (93, .iload 4, 2),
  (95, .iload 5, 2),
  (97, .aload_n 0, 1),
  (98, .getfield 19, 3),
  (101, .getfield 92, 3),
  (104, .irem, 1),
  (105, .iadd, 1),
  (106, .laload, 1),
  (107, .lastore, 1),
  (108, .iinc 5 1, 3),
  (111, .goto (-67), 3),
  (114, .iinc 3 1, 3),
  (117, .goto (-91), 3),
  (120, .return_, 1)]
set_option maxRecDepth 100000 in
theorem tX6_closeRing_ok : ∀ q ∈ tX6_closeRing, decode cX6_closeRing q.1 = .ok q.2 := by decide +kernel
theorem dX6_closeRing_0 : decode cX6_closeRing 0 = .ok (.aload_n 0, 1) := tX6_closeRing_ok (0, .aload_n 0, 1) (List.mem_of_getElem? (i := 0) rfl)
theorem dX6_closeRing_1 : decode cX6_closeRing 1 = .ok (.getfield 19, 3) := tX6_closeRing_ok (1, .getfield 19, 3) (List.mem_of_getElem? (i := 1) rfl)
theorem dX6_closeRing_4 : decode cX6_closeRing 4 = .ok (.getfield 89, 3) := tX6_closeRing_ok (4, .getfield 89, 3) (List.mem_of_getElem? (i := 2) rfl)
theorem dX6_closeRing_7 : decode cX6_closeRing 7 = .ok (.iconst 4, 1) := tX6_closeRing_ok (7, .iconst 4, 1) (List.mem_of_getElem? (i := 3) rfl)
theorem dX6_closeRing_8 : decode cX6_closeRing 8 = .ok (.if_icmp .ne 14, 3) := tX6_closeRing_ok (8, .if_icmp .ne 14, 3) (List.mem_of_getElem? (i := 4) rfl)
theorem dX6_closeRing_11 : decode cX6_closeRing 11 = .ok (.aload_n 0, 1) := tX6_closeRing_ok (11, .aload_n 0, 1) (List.mem_of_getElem? (i := 5) rfl)
theorem dX6_closeRing_12 : decode cX6_closeRing 12 = .ok (.getfield 19, 3) := tX6_closeRing_ok (12, .getfield 19, 3) (List.mem_of_getElem? (i := 6) rfl)
theorem dX6_closeRing_15 : decode cX6_closeRing 15 = .ok (.getfield 92, 3) := tX6_closeRing_ok (15, .getfield 92, 3) (List.mem_of_getElem? (i := 7) rfl)
theorem dX6_closeRing_18 : decode cX6_closeRing 18 = .ok (.iconst 1, 1) := tX6_closeRing_ok (18, .iconst 1, 1) (List.mem_of_getElem? (i := 8) rfl)
theorem dX6_closeRing_19 : decode cX6_closeRing 19 = .ok (.if_icmp .ge 4, 3) := tX6_closeRing_ok (19, .if_icmp .ge 4, 3) (List.mem_of_getElem? (i := 9) rfl)
theorem dX6_closeRing_22 : decode cX6_closeRing 22 = .ok (.return_, 1) := tX6_closeRing_ok (22, .return_, 1) (List.mem_of_getElem? (i := 10) rfl)
theorem dX6_closeRing_23 : decode cX6_closeRing 23 = .ok (.bipush (-30), 2) := tX6_closeRing_ok (23, .bipush (-30), 2) (List.mem_of_getElem? (i := 11) rfl)
theorem dX6_closeRing_25 : decode cX6_closeRing 25 = .ok (.istore_n 3, 1) := tX6_closeRing_ok (25, .istore_n 3, 1) (List.mem_of_getElem? (i := 12) rfl)
theorem dX6_closeRing_26 : decode cX6_closeRing 26 = .ok (.iload_n 3, 1) := tX6_closeRing_ok (26, .iload_n 3, 1) (List.mem_of_getElem? (i := 13) rfl)
theorem dX6_closeRing_27 : decode cX6_closeRing 27 = .ok (.bipush 30, 2) := tX6_closeRing_ok (27, .bipush 30, 2) (List.mem_of_getElem? (i := 14) rfl)
theorem dX6_closeRing_29 : decode cX6_closeRing 29 = .ok (.if_icmp .gt 91, 3) := tX6_closeRing_ok (29, .if_icmp .gt 91, 3) (List.mem_of_getElem? (i := 15) rfl)
theorem dX6_closeRing_32 : decode cX6_closeRing 32 = .ok (.iload_n 2, 1) := tX6_closeRing_ok (32, .iload_n 2, 1) (List.mem_of_getElem? (i := 16) rfl)
theorem dX6_closeRing_33 : decode cX6_closeRing 33 = .ok (.iconst 0, 1) := tX6_closeRing_ok (33, .iconst 0, 1) (List.mem_of_getElem? (i := 17) rfl)
theorem dX6_closeRing_34 : decode cX6_closeRing 34 = .ok (.iload_n 3, 1) := tX6_closeRing_ok (34, .iload_n 3, 1) (List.mem_of_getElem? (i := 18) rfl)
theorem dX6_closeRing_35 : decode cX6_closeRing 35 = .ok (.invokestatic 67, 3) := tX6_closeRing_ok (35, .invokestatic 67, 3) (List.mem_of_getElem? (i := 19) rfl)
theorem dX6_closeRing_38 : decode cX6_closeRing 38 = .ok (.iadd, 1) := tX6_closeRing_ok (38, .iadd, 1) (List.mem_of_getElem? (i := 20) rfl)
theorem dX6_closeRing_39 : decode cX6_closeRing 39 = .ok (.istore 4, 2) := tX6_closeRing_ok (39, .istore 4, 2) (List.mem_of_getElem? (i := 21) rfl)
theorem dX6_closeRing_41 : decode cX6_closeRing 41 = .ok (.iconst 0, 1) := tX6_closeRing_ok (41, .iconst 0, 1) (List.mem_of_getElem? (i := 22) rfl)
theorem dX6_closeRing_42 : decode cX6_closeRing 42 = .ok (.istore 5, 2) := tX6_closeRing_ok (42, .istore 5, 2) (List.mem_of_getElem? (i := 23) rfl)
theorem dX6_closeRing_44 : decode cX6_closeRing 44 = .ok (.iload 5, 2) := tX6_closeRing_ok (44, .iload 5, 2) (List.mem_of_getElem? (i := 24) rfl)
theorem dX6_closeRing_46 : decode cX6_closeRing 46 = .ok (.iconst 3, 1) := tX6_closeRing_ok (46, .iconst 3, 1) (List.mem_of_getElem? (i := 25) rfl)
theorem dX6_closeRing_47 : decode cX6_closeRing 47 = .ok (.if_icmp .ge 67, 3) := tX6_closeRing_ok (47, .if_icmp .ge 67, 3) (List.mem_of_getElem? (i := 26) rfl)
theorem dX6_closeRing_50 : decode cX6_closeRing 50 = .ok (.aload_n 1, 1) := tX6_closeRing_ok (50, .aload_n 1, 1) (List.mem_of_getElem? (i := 27) rfl)
theorem dX6_closeRing_51 : decode cX6_closeRing 51 = .ok (.iload 4, 2) := tX6_closeRing_ok (51, .iload 4, 2) (List.mem_of_getElem? (i := 28) rfl)
theorem dX6_closeRing_53 : decode cX6_closeRing 53 = .ok (.iconst 1, 1) := tX6_closeRing_ok (53, .iconst 1, 1) (List.mem_of_getElem? (i := 29) rfl)
theorem dX6_closeRing_54 : decode cX6_closeRing 54 = .ok (.isub, 1) := tX6_closeRing_ok (54, .isub, 1) (List.mem_of_getElem? (i := 30) rfl)
theorem dX6_closeRing_55 : decode cX6_closeRing 55 = .ok (.iload 5, 2) := tX6_closeRing_ok (55, .iload 5, 2) (List.mem_of_getElem? (i := 31) rfl)
theorem dX6_closeRing_57 : decode cX6_closeRing 57 = .ok (.isub, 1) := tX6_closeRing_ok (57, .isub, 1) (List.mem_of_getElem? (i := 32) rfl)
theorem dX6_closeRing_58 : decode cX6_closeRing 58 = .ok (.aload_n 1, 1) := tX6_closeRing_ok (58, .aload_n 1, 1) (List.mem_of_getElem? (i := 33) rfl)
theorem dX6_closeRing_59 : decode cX6_closeRing 59 = .ok (.iload 4, 2) := tX6_closeRing_ok (59, .iload 4, 2) (List.mem_of_getElem? (i := 34) rfl)
theorem dX6_closeRing_61 : decode cX6_closeRing 61 = .ok (.iconst (-1), 1) := tX6_closeRing_ok (61, .iconst (-1), 1) (List.mem_of_getElem? (i := 35) rfl)
theorem dX6_closeRing_62 : decode cX6_closeRing 62 = .ok (.iload 5, 2) := tX6_closeRing_ok (62, .iload 5, 2) (List.mem_of_getElem? (i := 36) rfl)
theorem dX6_closeRing_64 : decode cX6_closeRing 64 = .ok (.isub, 1) := tX6_closeRing_ok (64, .isub, 1) (List.mem_of_getElem? (i := 37) rfl)
theorem dX6_closeRing_65 : decode cX6_closeRing 65 = .ok (.aload_n 0, 1) := tX6_closeRing_ok (65, .aload_n 0, 1) (List.mem_of_getElem? (i := 38) rfl)
theorem dX6_closeRing_66 : decode cX6_closeRing 66 = .ok (.getfield 19, 3) := tX6_closeRing_ok (66, .getfield 19, 3) (List.mem_of_getElem? (i := 39) rfl)
theorem dX6_closeRing_69 : decode cX6_closeRing 69 = .ok (.getfield 92, 3) := tX6_closeRing_ok (69, .getfield 92, 3) (List.mem_of_getElem? (i := 40) rfl)
theorem dX6_closeRing_72 : decode cX6_closeRing 72 = .ok (.invokestatic 95, 3) := tX6_closeRing_ok (72, .invokestatic 95, 3) (List.mem_of_getElem? (i := 41) rfl)
theorem dX6_closeRing_75 : decode cX6_closeRing 75 = .ok (.iadd, 1) := tX6_closeRing_ok (75, .iadd, 1) (List.mem_of_getElem? (i := 42) rfl)
theorem dX6_closeRing_76 : decode cX6_closeRing 76 = .ok (.laload, 1) := tX6_closeRing_ok (76, .laload, 1) (List.mem_of_getElem? (i := 43) rfl)
theorem dX6_closeRing_77 : decode cX6_closeRing 77 = .ok (.lastore, 1) := tX6_closeRing_ok (77, .lastore, 1) (List.mem_of_getElem? (i := 44) rfl)
theorem dX6_closeRing_78 : decode cX6_closeRing 78 = .ok (.aload_n 1, 1) := tX6_closeRing_ok (78, .aload_n 1, 1) (List.mem_of_getElem? (i := 45) rfl)
theorem dX6_closeRing_79 : decode cX6_closeRing 79 = .ok (.iload 4, 2) := tX6_closeRing_ok (79, .iload 4, 2) (List.mem_of_getElem? (i := 46) rfl)
theorem dX6_closeRing_81 : decode cX6_closeRing 81 = .ok (.aload_n 0, 1) := tX6_closeRing_ok (81, .aload_n 0, 1) (List.mem_of_getElem? (i := 47) rfl)
theorem dX6_closeRing_82 : decode cX6_closeRing 82 = .ok (.getfield 19, 3) := tX6_closeRing_ok (82, .getfield 19, 3) (List.mem_of_getElem? (i := 48) rfl)
theorem dX6_closeRing_85 : decode cX6_closeRing 85 = .ok (.getfield 92, 3) := tX6_closeRing_ok (85, .getfield 92, 3) (List.mem_of_getElem? (i := 49) rfl)
theorem dX6_closeRing_88 : decode cX6_closeRing 88 = .ok (.iadd, 1) := tX6_closeRing_ok (88, .iadd, 1) (List.mem_of_getElem? (i := 50) rfl)
theorem dX6_closeRing_89 : decode cX6_closeRing 89 = .ok (.iload 5, 2) := tX6_closeRing_ok (89, .iload 5, 2) (List.mem_of_getElem? (i := 51) rfl)
theorem dX6_closeRing_91 : decode cX6_closeRing 91 = .ok (.iadd, 1) := tX6_closeRing_ok (91, .iadd, 1) (List.mem_of_getElem? (i := 52) rfl)
theorem dX6_closeRing_92 : decode cX6_closeRing 92 = .ok (.aload_n 1, 1) := tX6_closeRing_ok (92, .aload_n 1, 1) (List.mem_of_getElem? (i := 53) rfl)
theorem dX6_closeRing_93 : decode cX6_closeRing 93 = .ok (.iload 4, 2) := tX6_closeRing_ok (93, .iload 4, 2) (List.mem_of_getElem? (i := 54) rfl)
theorem dX6_closeRing_95 : decode cX6_closeRing 95 = .ok (.iload 5, 2) := tX6_closeRing_ok (95, .iload 5, 2) (List.mem_of_getElem? (i := 55) rfl)
theorem dX6_closeRing_97 : decode cX6_closeRing 97 = .ok (.aload_n 0, 1) := tX6_closeRing_ok (97, .aload_n 0, 1) (List.mem_of_getElem? (i := 56) rfl)
theorem dX6_closeRing_98 : decode cX6_closeRing 98 = .ok (.getfield 19, 3) := tX6_closeRing_ok (98, .getfield 19, 3) (List.mem_of_getElem? (i := 57) rfl)
theorem dX6_closeRing_101 : decode cX6_closeRing 101 = .ok (.getfield 92, 3) := tX6_closeRing_ok (101, .getfield 92, 3) (List.mem_of_getElem? (i := 58) rfl)
theorem dX6_closeRing_104 : decode cX6_closeRing 104 = .ok (.irem, 1) := tX6_closeRing_ok (104, .irem, 1) (List.mem_of_getElem? (i := 59) rfl)
theorem dX6_closeRing_105 : decode cX6_closeRing 105 = .ok (.iadd, 1) := tX6_closeRing_ok (105, .iadd, 1) (List.mem_of_getElem? (i := 60) rfl)
theorem dX6_closeRing_106 : decode cX6_closeRing 106 = .ok (.laload, 1) := tX6_closeRing_ok (106, .laload, 1) (List.mem_of_getElem? (i := 61) rfl)
theorem dX6_closeRing_107 : decode cX6_closeRing 107 = .ok (.lastore, 1) := tX6_closeRing_ok (107, .lastore, 1) (List.mem_of_getElem? (i := 62) rfl)
theorem dX6_closeRing_108 : decode cX6_closeRing 108 = .ok (.iinc 5 1, 3) := tX6_closeRing_ok (108, .iinc 5 1, 3) (List.mem_of_getElem? (i := 63) rfl)
theorem dX6_closeRing_111 : decode cX6_closeRing 111 = .ok (.goto (-67), 3) := tX6_closeRing_ok (111, .goto (-67), 3) (List.mem_of_getElem? (i := 64) rfl)
theorem dX6_closeRing_114 : decode cX6_closeRing 114 = .ok (.iinc 3 1, 3) := tX6_closeRing_ok (114, .iinc 3 1, 3) (List.mem_of_getElem? (i := 65) rfl)
theorem dX6_closeRing_117 : decode cX6_closeRing 117 = .ok (.goto (-91), 3) := tX6_closeRing_ok (117, .goto (-91), 3) (List.mem_of_getElem? (i := 66) rfl)
theorem dX6_closeRing_120 : decode cX6_closeRing 120 = .ok (.return_, 1) := tX6_closeRing_ok (120, .return_, 1) (List.mem_of_getElem? (i := 67) rfl)

def tX7_init : List (Nat × Instr × Nat) := [
  (0, .aload_n 0, 1),
  (1, .invokespecial 3, 3),
  (4, .aload_n 0, 1),
  (5, .sipush 4489, 3),
  (8, .newarray .int, 2),
  (10, .putfield 9, 3),
  (13, .aload_n 0, 1),
  (14, .sipush 1849, 3),
  (17, .newarray .int, 2),
  (19, .putfield 15, 3),
  (22, .aload_n 0, 1),
  (23, .sipush 1849, 3),
  (26, .newarray .int, 2),
  (28, .putfield 18, 3),
  (31, .aload_n 0, 1),
  (32, .ldc 21, 2),
  (34, .newarray .long, 2),
  (36, .putfield 22, 3),
  (39, .aload_n 0, 1),
  (40, .ldc 21, 2),
  (42, .newarray .long, 2),
  (44, .putfield 26, 3),
  (47, .aload_n 0, 1),
  (48, .aload_n 1, 1),
  (49, .putfield 29, 3),
  (52, .aload_n 0, 1),
  (53, .aload_n 2, 1),
  (54, .putfield 33, 3),
  (57, .return_, 1)]
set_option maxRecDepth 100000 in
theorem tX7_init_ok : ∀ q ∈ tX7_init, decode cX7_init q.1 = .ok q.2 := by decide +kernel
theorem dX7_init_0 : decode cX7_init 0 = .ok (.aload_n 0, 1) := tX7_init_ok (0, .aload_n 0, 1) (List.mem_of_getElem? (i := 0) rfl)
theorem dX7_init_1 : decode cX7_init 1 = .ok (.invokespecial 3, 3) := tX7_init_ok (1, .invokespecial 3, 3) (List.mem_of_getElem? (i := 1) rfl)
theorem dX7_init_4 : decode cX7_init 4 = .ok (.aload_n 0, 1) := tX7_init_ok (4, .aload_n 0, 1) (List.mem_of_getElem? (i := 2) rfl)
theorem dX7_init_5 : decode cX7_init 5 = .ok (.sipush 4489, 3) := tX7_init_ok (5, .sipush 4489, 3) (List.mem_of_getElem? (i := 3) rfl)
theorem dX7_init_8 : decode cX7_init 8 = .ok (.newarray .int, 2) := tX7_init_ok (8, .newarray .int, 2) (List.mem_of_getElem? (i := 4) rfl)
theorem dX7_init_10 : decode cX7_init 10 = .ok (.putfield 9, 3) := tX7_init_ok (10, .putfield 9, 3) (List.mem_of_getElem? (i := 5) rfl)
theorem dX7_init_13 : decode cX7_init 13 = .ok (.aload_n 0, 1) := tX7_init_ok (13, .aload_n 0, 1) (List.mem_of_getElem? (i := 6) rfl)
theorem dX7_init_14 : decode cX7_init 14 = .ok (.sipush 1849, 3) := tX7_init_ok (14, .sipush 1849, 3) (List.mem_of_getElem? (i := 7) rfl)
theorem dX7_init_17 : decode cX7_init 17 = .ok (.newarray .int, 2) := tX7_init_ok (17, .newarray .int, 2) (List.mem_of_getElem? (i := 8) rfl)
theorem dX7_init_19 : decode cX7_init 19 = .ok (.putfield 15, 3) := tX7_init_ok (19, .putfield 15, 3) (List.mem_of_getElem? (i := 9) rfl)
theorem dX7_init_22 : decode cX7_init 22 = .ok (.aload_n 0, 1) := tX7_init_ok (22, .aload_n 0, 1) (List.mem_of_getElem? (i := 10) rfl)
theorem dX7_init_23 : decode cX7_init 23 = .ok (.sipush 1849, 3) := tX7_init_ok (23, .sipush 1849, 3) (List.mem_of_getElem? (i := 11) rfl)
theorem dX7_init_26 : decode cX7_init 26 = .ok (.newarray .int, 2) := tX7_init_ok (26, .newarray .int, 2) (List.mem_of_getElem? (i := 12) rfl)
theorem dX7_init_28 : decode cX7_init 28 = .ok (.putfield 18, 3) := tX7_init_ok (28, .putfield 18, 3) (List.mem_of_getElem? (i := 13) rfl)
theorem dX7_init_31 : decode cX7_init 31 = .ok (.aload_n 0, 1) := tX7_init_ok (31, .aload_n 0, 1) (List.mem_of_getElem? (i := 14) rfl)
theorem dX7_init_32 : decode cX7_init 32 = .ok (.ldc 21, 2) := tX7_init_ok (32, .ldc 21, 2) (List.mem_of_getElem? (i := 15) rfl)
theorem dX7_init_34 : decode cX7_init 34 = .ok (.newarray .long, 2) := tX7_init_ok (34, .newarray .long, 2) (List.mem_of_getElem? (i := 16) rfl)
theorem dX7_init_36 : decode cX7_init 36 = .ok (.putfield 22, 3) := tX7_init_ok (36, .putfield 22, 3) (List.mem_of_getElem? (i := 17) rfl)
theorem dX7_init_39 : decode cX7_init 39 = .ok (.aload_n 0, 1) := tX7_init_ok (39, .aload_n 0, 1) (List.mem_of_getElem? (i := 18) rfl)
theorem dX7_init_40 : decode cX7_init 40 = .ok (.ldc 21, 2) := tX7_init_ok (40, .ldc 21, 2) (List.mem_of_getElem? (i := 19) rfl)
theorem dX7_init_42 : decode cX7_init 42 = .ok (.newarray .long, 2) := tX7_init_ok (42, .newarray .long, 2) (List.mem_of_getElem? (i := 20) rfl)
theorem dX7_init_44 : decode cX7_init 44 = .ok (.putfield 26, 3) := tX7_init_ok (44, .putfield 26, 3) (List.mem_of_getElem? (i := 21) rfl)
theorem dX7_init_47 : decode cX7_init 47 = .ok (.aload_n 0, 1) := tX7_init_ok (47, .aload_n 0, 1) (List.mem_of_getElem? (i := 22) rfl)
theorem dX7_init_48 : decode cX7_init 48 = .ok (.aload_n 1, 1) := tX7_init_ok (48, .aload_n 1, 1) (List.mem_of_getElem? (i := 23) rfl)
theorem dX7_init_49 : decode cX7_init 49 = .ok (.putfield 29, 3) := tX7_init_ok (49, .putfield 29, 3) (List.mem_of_getElem? (i := 24) rfl)
theorem dX7_init_52 : decode cX7_init 52 = .ok (.aload_n 0, 1) := tX7_init_ok (52, .aload_n 0, 1) (List.mem_of_getElem? (i := 25) rfl)
theorem dX7_init_53 : decode cX7_init 53 = .ok (.aload_n 2, 1) := tX7_init_ok (53, .aload_n 2, 1) (List.mem_of_getElem? (i := 26) rfl)
theorem dX7_init_54 : decode cX7_init 54 = .ok (.putfield 33, 3) := tX7_init_ok (54, .putfield 33, 3) (List.mem_of_getElem? (i := 27) rfl)
theorem dX7_init_57 : decode cX7_init 57 = .ok (.return_, 1) := tX7_init_ok (57, .return_, 1) (List.mem_of_getElem? (i := 28) rfl)

def tX7_tallied : List (Nat × Instr × Nat) := [
  (0, .aload_n 0, 1),
  (1, .iload_n 1, 1),
  (2, .putfield 37, 3),
  (5, .aload_n 0, 1),
  (6, .iload_n 3, 1),
  (7, .putfield 41, 3),
  (10, .aload_n 0, 1),
  (11, .iconst 1, 1),
  (12, .putfield 44, 3),
  (15, .aload_n 0, 1),
  (16, .iload_n 2, 1),
  (17, .invokevirtual 48, 3),
  (20, .aload_n 0, 1),
  (21, .getfield 37, 3),
  (24, .iconst 1, 1),
  (25, .if_icmp .eq 24, 3),
  (28, .iload_n 3, 1),
  (29, .ifCond .lt 18, 3),
  (32, .iload_n 3, 1),
  (33, .bipush 121, 2),
  (35, .if_icmp .ge 12, 3),
  (38, .aload_n 0, 1),
  (39, .getfield 22, 3),
  (42, .iload_n 3, 1),
  (43, .laload, 1),
  (44, .goto 4, 3),
  (47, .lconst 0, 1),
  (48, .lreturn, 1),
  (49, .lconst 0, 1),
  (50, .lstore 4, 2),
  (52, .iconst 0, 1),
  (53, .istore 6, 2),
  (55, .iload 6, 2),
  (57, .bipush 8, 2),
  (59, .if_icmp .ge 36, 3),
  (62, .iload_n 3, 1),
  (63, .ifCond .lt 32, 3),
  (66, .iload_n 3, 1),
  (67, .bipush 14, 2),
  (69, .if_icmp .ge 26, 3),
  (72, .lload 4, 2),
  (74, .aload_n 0, 1),
  (75, .getfield 22, 3),
  (78, .iload 6, 2),
  (80, .bipush 14, 2),
  (82, .imul, 1),
  (83, .iload_n 3, 1),
  (84, .iadd, 1),
  (85, .laload, 1),
  (86, .ladd, 1),
  (87, .lstore 4, 2),
  (89, .iinc 6 1, 3),
  (92, .goto (-37), 3),
  (95, .lload 4, 2),
  (97, .lreturn, 1)]
set_option maxRecDepth 100000 in
theorem tX7_tallied_ok : ∀ q ∈ tX7_tallied, decode cX7_tallied q.1 = .ok q.2 := by decide +kernel
theorem dX7_tallied_0 : decode cX7_tallied 0 = .ok (.aload_n 0, 1) := tX7_tallied_ok (0, .aload_n 0, 1) (List.mem_of_getElem? (i := 0) rfl)
theorem dX7_tallied_1 : decode cX7_tallied 1 = .ok (.iload_n 1, 1) := tX7_tallied_ok (1, .iload_n 1, 1) (List.mem_of_getElem? (i := 1) rfl)
theorem dX7_tallied_2 : decode cX7_tallied 2 = .ok (.putfield 37, 3) := tX7_tallied_ok (2, .putfield 37, 3) (List.mem_of_getElem? (i := 2) rfl)
theorem dX7_tallied_5 : decode cX7_tallied 5 = .ok (.aload_n 0, 1) := tX7_tallied_ok (5, .aload_n 0, 1) (List.mem_of_getElem? (i := 3) rfl)
theorem dX7_tallied_6 : decode cX7_tallied 6 = .ok (.iload_n 3, 1) := tX7_tallied_ok (6, .iload_n 3, 1) (List.mem_of_getElem? (i := 4) rfl)
theorem dX7_tallied_7 : decode cX7_tallied 7 = .ok (.putfield 41, 3) := tX7_tallied_ok (7, .putfield 41, 3) (List.mem_of_getElem? (i := 5) rfl)
theorem dX7_tallied_10 : decode cX7_tallied 10 = .ok (.aload_n 0, 1) := tX7_tallied_ok (10, .aload_n 0, 1) (List.mem_of_getElem? (i := 6) rfl)
theorem dX7_tallied_11 : decode cX7_tallied 11 = .ok (.iconst 1, 1) := tX7_tallied_ok (11, .iconst 1, 1) (List.mem_of_getElem? (i := 7) rfl)
theorem dX7_tallied_12 : decode cX7_tallied 12 = .ok (.putfield 44, 3) := tX7_tallied_ok (12, .putfield 44, 3) (List.mem_of_getElem? (i := 8) rfl)
theorem dX7_tallied_15 : decode cX7_tallied 15 = .ok (.aload_n 0, 1) := tX7_tallied_ok (15, .aload_n 0, 1) (List.mem_of_getElem? (i := 9) rfl)
theorem dX7_tallied_16 : decode cX7_tallied 16 = .ok (.iload_n 2, 1) := tX7_tallied_ok (16, .iload_n 2, 1) (List.mem_of_getElem? (i := 10) rfl)
theorem dX7_tallied_17 : decode cX7_tallied 17 = .ok (.invokevirtual 48, 3) := tX7_tallied_ok (17, .invokevirtual 48, 3) (List.mem_of_getElem? (i := 11) rfl)
theorem dX7_tallied_20 : decode cX7_tallied 20 = .ok (.aload_n 0, 1) := tX7_tallied_ok (20, .aload_n 0, 1) (List.mem_of_getElem? (i := 12) rfl)
theorem dX7_tallied_21 : decode cX7_tallied 21 = .ok (.getfield 37, 3) := tX7_tallied_ok (21, .getfield 37, 3) (List.mem_of_getElem? (i := 13) rfl)
theorem dX7_tallied_24 : decode cX7_tallied 24 = .ok (.iconst 1, 1) := tX7_tallied_ok (24, .iconst 1, 1) (List.mem_of_getElem? (i := 14) rfl)
theorem dX7_tallied_25 : decode cX7_tallied 25 = .ok (.if_icmp .eq 24, 3) := tX7_tallied_ok (25, .if_icmp .eq 24, 3) (List.mem_of_getElem? (i := 15) rfl)
theorem dX7_tallied_28 : decode cX7_tallied 28 = .ok (.iload_n 3, 1) := tX7_tallied_ok (28, .iload_n 3, 1) (List.mem_of_getElem? (i := 16) rfl)
theorem dX7_tallied_29 : decode cX7_tallied 29 = .ok (.ifCond .lt 18, 3) := tX7_tallied_ok (29, .ifCond .lt 18, 3) (List.mem_of_getElem? (i := 17) rfl)
theorem dX7_tallied_32 : decode cX7_tallied 32 = .ok (.iload_n 3, 1) := tX7_tallied_ok (32, .iload_n 3, 1) (List.mem_of_getElem? (i := 18) rfl)
theorem dX7_tallied_33 : decode cX7_tallied 33 = .ok (.bipush 121, 2) := tX7_tallied_ok (33, .bipush 121, 2) (List.mem_of_getElem? (i := 19) rfl)
theorem dX7_tallied_35 : decode cX7_tallied 35 = .ok (.if_icmp .ge 12, 3) := tX7_tallied_ok (35, .if_icmp .ge 12, 3) (List.mem_of_getElem? (i := 20) rfl)
theorem dX7_tallied_38 : decode cX7_tallied 38 = .ok (.aload_n 0, 1) := tX7_tallied_ok (38, .aload_n 0, 1) (List.mem_of_getElem? (i := 21) rfl)
theorem dX7_tallied_39 : decode cX7_tallied 39 = .ok (.getfield 22, 3) := tX7_tallied_ok (39, .getfield 22, 3) (List.mem_of_getElem? (i := 22) rfl)
theorem dX7_tallied_42 : decode cX7_tallied 42 = .ok (.iload_n 3, 1) := tX7_tallied_ok (42, .iload_n 3, 1) (List.mem_of_getElem? (i := 23) rfl)
theorem dX7_tallied_43 : decode cX7_tallied 43 = .ok (.laload, 1) := tX7_tallied_ok (43, .laload, 1) (List.mem_of_getElem? (i := 24) rfl)
theorem dX7_tallied_44 : decode cX7_tallied 44 = .ok (.goto 4, 3) := tX7_tallied_ok (44, .goto 4, 3) (List.mem_of_getElem? (i := 25) rfl)
theorem dX7_tallied_47 : decode cX7_tallied 47 = .ok (.lconst 0, 1) := tX7_tallied_ok (47, .lconst 0, 1) (List.mem_of_getElem? (i := 26) rfl)
theorem dX7_tallied_48 : decode cX7_tallied 48 = .ok (.lreturn, 1) := tX7_tallied_ok (48, .lreturn, 1) (List.mem_of_getElem? (i := 27) rfl)
theorem dX7_tallied_49 : decode cX7_tallied 49 = .ok (.lconst 0, 1) := tX7_tallied_ok (49, .lconst 0, 1) (List.mem_of_getElem? (i := 28) rfl)
theorem dX7_tallied_50 : decode cX7_tallied 50 = .ok (.lstore 4, 2) := tX7_tallied_ok (50, .lstore 4, 2) (List.mem_of_getElem? (i := 29) rfl)
theorem dX7_tallied_52 : decode cX7_tallied 52 = .ok (.iconst 0, 1) := tX7_tallied_ok (52, .iconst 0, 1) (List.mem_of_getElem? (i := 30) rfl)
theorem dX7_tallied_53 : decode cX7_tallied 53 = .ok (.istore 6, 2) := tX7_tallied_ok (53, .istore 6, 2) (List.mem_of_getElem? (i := 31) rfl)
theorem dX7_tallied_55 : decode cX7_tallied 55 = .ok (.iload 6, 2) := tX7_tallied_ok (55, .iload 6, 2) (List.mem_of_getElem? (i := 32) rfl)
theorem dX7_tallied_57 : decode cX7_tallied 57 = .ok (.bipush 8, 2) := tX7_tallied_ok (57, .bipush 8, 2) (List.mem_of_getElem? (i := 33) rfl)
theorem dX7_tallied_59 : decode cX7_tallied 59 = .ok (.if_icmp .ge 36, 3) := tX7_tallied_ok (59, .if_icmp .ge 36, 3) (List.mem_of_getElem? (i := 34) rfl)
theorem dX7_tallied_62 : decode cX7_tallied 62 = .ok (.iload_n 3, 1) := tX7_tallied_ok (62, .iload_n 3, 1) (List.mem_of_getElem? (i := 35) rfl)
theorem dX7_tallied_63 : decode cX7_tallied 63 = .ok (.ifCond .lt 32, 3) := tX7_tallied_ok (63, .ifCond .lt 32, 3) (List.mem_of_getElem? (i := 36) rfl)
theorem dX7_tallied_66 : decode cX7_tallied 66 = .ok (.iload_n 3, 1) := tX7_tallied_ok (66, .iload_n 3, 1) (List.mem_of_getElem? (i := 37) rfl)
theorem dX7_tallied_67 : decode cX7_tallied 67 = .ok (.bipush 14, 2) := tX7_tallied_ok (67, .bipush 14, 2) (List.mem_of_getElem? (i := 38) rfl)
theorem dX7_tallied_69 : decode cX7_tallied 69 = .ok (.if_icmp .ge 26, 3) := tX7_tallied_ok (69, .if_icmp .ge 26, 3) (List.mem_of_getElem? (i := 39) rfl)
theorem dX7_tallied_72 : decode cX7_tallied 72 = .ok (.lload 4, 2) := tX7_tallied_ok (72, .lload 4, 2) (List.mem_of_getElem? (i := 40) rfl)
theorem dX7_tallied_74 : decode cX7_tallied 74 = .ok (.aload_n 0, 1) := tX7_tallied_ok (74, .aload_n 0, 1) (List.mem_of_getElem? (i := 41) rfl)
theorem dX7_tallied_75 : decode cX7_tallied 75 = .ok (.getfield 22, 3) := tX7_tallied_ok (75, .getfield 22, 3) (List.mem_of_getElem? (i := 42) rfl)
theorem dX7_tallied_78 : decode cX7_tallied 78 = .ok (.iload 6, 2) := tX7_tallied_ok (78, .iload 6, 2) (List.mem_of_getElem? (i := 43) rfl)
theorem dX7_tallied_80 : decode cX7_tallied 80 = .ok (.bipush 14, 2) := tX7_tallied_ok (80, .bipush 14, 2) (List.mem_of_getElem? (i := 44) rfl)
theorem dX7_tallied_82 : decode cX7_tallied 82 = .ok (.imul, 1) := tX7_tallied_ok (82, .imul, 1) (List.mem_of_getElem? (i := 45) rfl)
theorem dX7_tallied_83 : decode cX7_tallied 83 = .ok (.iload_n 3, 1) := tX7_tallied_ok (83, .iload_n 3, 1) (List.mem_of_getElem? (i := 46) rfl)
theorem dX7_tallied_84 : decode cX7_tallied 84 = .ok (.iadd, 1) := tX7_tallied_ok (84, .iadd, 1) (List.mem_of_getElem? (i := 47) rfl)
theorem dX7_tallied_85 : decode cX7_tallied 85 = .ok (.laload, 1) := tX7_tallied_ok (85, .laload, 1) (List.mem_of_getElem? (i := 48) rfl)
theorem dX7_tallied_86 : decode cX7_tallied 86 = .ok (.ladd, 1) := tX7_tallied_ok (86, .ladd, 1) (List.mem_of_getElem? (i := 49) rfl)
theorem dX7_tallied_87 : decode cX7_tallied 87 = .ok (.lstore 4, 2) := tX7_tallied_ok (87, .lstore 4, 2) (List.mem_of_getElem? (i := 50) rfl)
theorem dX7_tallied_89 : decode cX7_tallied 89 = .ok (.iinc 6 1, 3) := tX7_tallied_ok (89, .iinc 6 1, 3) (List.mem_of_getElem? (i := 51) rfl)
theorem dX7_tallied_92 : decode cX7_tallied 92 = .ok (.goto (-37), 3) := tX7_tallied_ok (92, .goto (-37), 3) (List.mem_of_getElem? (i := 52) rfl)
theorem dX7_tallied_95 : decode cX7_tallied 95 = .ok (.lload 4, 2) := tX7_tallied_ok (95, .lload 4, 2) (List.mem_of_getElem? (i := 53) rfl)
theorem dX7_tallied_97 : decode cX7_tallied 97 = .ok (.lreturn, 1) := tX7_tallied_ok (97, .lreturn, 1) (List.mem_of_getElem? (i := 54) rfl)

def tX7_extreme : List (Nat × Instr × Nat) := [
  (0, .aload_n 0, 1),
  (1, .iload_n 1, 1),
  (2, .putfield 37, 3),
  (5, .aload_n 0, 1),
  (6, .iload_n 3, 1),
  (7, .putfield 52, 3),
  (10, .aload_n 0, 1),
  (11, .iconst 0, 1),
  (12, .putfield 44, 3),
  (15, .aload_n 0, 1),
  (16, .iload_n 2, 1),
  (17, .invokevirtual 48, 3),
  (20, .lconst 0, 1),
  (21, .lstore 4, 2),
  (23, .iconst 0, 1),
  (24, .istore 6, 2),
  (26, .iload 6, 2),
  (28, .bipush 8, 2),
  (30, .if_icmp .ge 24, 3),
  (33, .aload_n 0, 1),
  (34, .lload 4, 2),
  (36, .aload_n 0, 1),
  (37, .getfield 22, 3),
  (40, .iload 6, 2),
  (42, .laload, 1),
  (43, .invokevirtual 55, 3),
  (46, .lstore 4, 2),
  (48, .iinc 6 1, 3),
  (51, .goto (-25), 3),
  (54, .lload 4, 2),
  (56, .l2i, 1),
  (57, .iconst 1, 1),
  (58, .isub, 1),
  (59, .ireturn, 1)]
set_option maxRecDepth 100000 in
theorem tX7_extreme_ok : ∀ q ∈ tX7_extreme, decode cX7_extreme q.1 = .ok q.2 := by decide +kernel
theorem dX7_extreme_0 : decode cX7_extreme 0 = .ok (.aload_n 0, 1) := tX7_extreme_ok (0, .aload_n 0, 1) (List.mem_of_getElem? (i := 0) rfl)
theorem dX7_extreme_1 : decode cX7_extreme 1 = .ok (.iload_n 1, 1) := tX7_extreme_ok (1, .iload_n 1, 1) (List.mem_of_getElem? (i := 1) rfl)
theorem dX7_extreme_2 : decode cX7_extreme 2 = .ok (.putfield 37, 3) := tX7_extreme_ok (2, .putfield 37, 3) (List.mem_of_getElem? (i := 2) rfl)
theorem dX7_extreme_5 : decode cX7_extreme 5 = .ok (.aload_n 0, 1) := tX7_extreme_ok (5, .aload_n 0, 1) (List.mem_of_getElem? (i := 3) rfl)
theorem dX7_extreme_6 : decode cX7_extreme 6 = .ok (.iload_n 3, 1) := tX7_extreme_ok (6, .iload_n 3, 1) (List.mem_of_getElem? (i := 4) rfl)
theorem dX7_extreme_7 : decode cX7_extreme 7 = .ok (.putfield 52, 3) := tX7_extreme_ok (7, .putfield 52, 3) (List.mem_of_getElem? (i := 5) rfl)
theorem dX7_extreme_10 : decode cX7_extreme 10 = .ok (.aload_n 0, 1) := tX7_extreme_ok (10, .aload_n 0, 1) (List.mem_of_getElem? (i := 6) rfl)
theorem dX7_extreme_11 : decode cX7_extreme 11 = .ok (.iconst 0, 1) := tX7_extreme_ok (11, .iconst 0, 1) (List.mem_of_getElem? (i := 7) rfl)
theorem dX7_extreme_12 : decode cX7_extreme 12 = .ok (.putfield 44, 3) := tX7_extreme_ok (12, .putfield 44, 3) (List.mem_of_getElem? (i := 8) rfl)
theorem dX7_extreme_15 : decode cX7_extreme 15 = .ok (.aload_n 0, 1) := tX7_extreme_ok (15, .aload_n 0, 1) (List.mem_of_getElem? (i := 9) rfl)
theorem dX7_extreme_16 : decode cX7_extreme 16 = .ok (.iload_n 2, 1) := tX7_extreme_ok (16, .iload_n 2, 1) (List.mem_of_getElem? (i := 10) rfl)
theorem dX7_extreme_17 : decode cX7_extreme 17 = .ok (.invokevirtual 48, 3) := tX7_extreme_ok (17, .invokevirtual 48, 3) (List.mem_of_getElem? (i := 11) rfl)
theorem dX7_extreme_20 : decode cX7_extreme 20 = .ok (.lconst 0, 1) := tX7_extreme_ok (20, .lconst 0, 1) (List.mem_of_getElem? (i := 12) rfl)
theorem dX7_extreme_21 : decode cX7_extreme 21 = .ok (.lstore 4, 2) := tX7_extreme_ok (21, .lstore 4, 2) (List.mem_of_getElem? (i := 13) rfl)
theorem dX7_extreme_23 : decode cX7_extreme 23 = .ok (.iconst 0, 1) := tX7_extreme_ok (23, .iconst 0, 1) (List.mem_of_getElem? (i := 14) rfl)
theorem dX7_extreme_24 : decode cX7_extreme 24 = .ok (.istore 6, 2) := tX7_extreme_ok (24, .istore 6, 2) (List.mem_of_getElem? (i := 15) rfl)
theorem dX7_extreme_26 : decode cX7_extreme 26 = .ok (.iload 6, 2) := tX7_extreme_ok (26, .iload 6, 2) (List.mem_of_getElem? (i := 16) rfl)
theorem dX7_extreme_28 : decode cX7_extreme 28 = .ok (.bipush 8, 2) := tX7_extreme_ok (28, .bipush 8, 2) (List.mem_of_getElem? (i := 17) rfl)
theorem dX7_extreme_30 : decode cX7_extreme 30 = .ok (.if_icmp .ge 24, 3) := tX7_extreme_ok (30, .if_icmp .ge 24, 3) (List.mem_of_getElem? (i := 18) rfl)
theorem dX7_extreme_33 : decode cX7_extreme 33 = .ok (.aload_n 0, 1) := tX7_extreme_ok (33, .aload_n 0, 1) (List.mem_of_getElem? (i := 19) rfl)
theorem dX7_extreme_34 : decode cX7_extreme 34 = .ok (.lload 4, 2) := tX7_extreme_ok (34, .lload 4, 2) (List.mem_of_getElem? (i := 20) rfl)
theorem dX7_extreme_36 : decode cX7_extreme 36 = .ok (.aload_n 0, 1) := tX7_extreme_ok (36, .aload_n 0, 1) (List.mem_of_getElem? (i := 21) rfl)
theorem dX7_extreme_37 : decode cX7_extreme 37 = .ok (.getfield 22, 3) := tX7_extreme_ok (37, .getfield 22, 3) (List.mem_of_getElem? (i := 22) rfl)
theorem dX7_extreme_40 : decode cX7_extreme 40 = .ok (.iload 6, 2) := tX7_extreme_ok (40, .iload 6, 2) (List.mem_of_getElem? (i := 23) rfl)
theorem dX7_extreme_42 : decode cX7_extreme 42 = .ok (.laload, 1) := tX7_extreme_ok (42, .laload, 1) (List.mem_of_getElem? (i := 24) rfl)
theorem dX7_extreme_43 : decode cX7_extreme 43 = .ok (.invokevirtual 55, 3) := tX7_extreme_ok (43, .invokevirtual 55, 3) (List.mem_of_getElem? (i := 25) rfl)
theorem dX7_extreme_46 : decode cX7_extreme 46 = .ok (.lstore 4, 2) := tX7_extreme_ok (46, .lstore 4, 2) (List.mem_of_getElem? (i := 26) rfl)
theorem dX7_extreme_48 : decode cX7_extreme 48 = .ok (.iinc 6 1, 3) := tX7_extreme_ok (48, .iinc 6 1, 3) (List.mem_of_getElem? (i := 27) rfl)
theorem dX7_extreme_51 : decode cX7_extreme 51 = .ok (.goto (-25), 3) := tX7_extreme_ok (51, .goto (-25), 3) (List.mem_of_getElem? (i := 28) rfl)
theorem dX7_extreme_54 : decode cX7_extreme 54 = .ok (.lload 4, 2) := tX7_extreme_ok (54, .lload 4, 2) (List.mem_of_getElem? (i := 29) rfl)
theorem dX7_extreme_56 : decode cX7_extreme 56 = .ok (.l2i, 1) := tX7_extreme_ok (56, .l2i, 1) (List.mem_of_getElem? (i := 30) rfl)
theorem dX7_extreme_57 : decode cX7_extreme 57 = .ok (.iconst 1, 1) := tX7_extreme_ok (57, .iconst 1, 1) (List.mem_of_getElem? (i := 31) rfl)
theorem dX7_extreme_58 : decode cX7_extreme 58 = .ok (.isub, 1) := tX7_extreme_ok (58, .isub, 1) (List.mem_of_getElem? (i := 32) rfl)
theorem dX7_extreme_59 : decode cX7_extreme 59 = .ok (.ireturn, 1) := tX7_extreme_ok (59, .ireturn, 1) (List.mem_of_getElem? (i := 33) rfl)

def tX7_travel : List (Nat × Instr × Nat) := [
  (0, .aload_n 0, 1),
  (1, .getfield 15, 3),
  (4, .iconst 0, 1),
  (5, .aload_n 0, 1),
  (6, .getfield 29, 3),
  (9, .invokevirtual 59, 3),
  (12, .iastore, 1),
  (13, .aload_n 0, 1),
  (14, .iconst 1, 1),
  (15, .putfield 65, 3),
  (18, .aload_n 0, 1),
  (19, .iconst 0, 1),
  (20, .putfield 68, 3),
  (23, .iconst 0, 1),
  (24, .istore_n 2, 1),
  (25, .iload_n 2, 1),
  (26, .bipush 121, 2),
  (28, .if_icmp .ge 16, 3),
  (31, .aload_n 0, 1),
  (32, .getfield 22, 3),
  (35, .iload_n 2, 1),
  (36, .lconst 0, 1),
  (37, .lastore, 1),
  (38, .iinc 2 1, 3),
  (41, .goto (-16), 3),
  (44, .aload_n 0, 1),
  (45, .getfield 22, 3),
  (48, .iconst 0, 1),
  (49, .lconst 1, 1),
  (50, .lastore, 1),
  (51, .iconst 0, 1),
  (52, .istore_n 2, 1),
  (53, .iload_n 2, 1),
  (54, .iload_n 1, 1),
  (55, .if_icmp .ge 19, 3),
  (58, .aload_n 0, 1),
  (59, .iload_n 2, 1),
  (60, .iload_n 1, 1),
  (61, .iload_n 2, 1),
  (62, .isub, 1),
  (63, .iconst 1, 1),
  (64, .isub, 1),
  (65, .invokevirtual 71, 3),
  (68, .iinc 2 1, 3),
  (71, .goto (-18), 3),
  (74, .return_, 1)]
set_option maxRecDepth 100000 in
theorem tX7_travel_ok : ∀ q ∈ tX7_travel, decode cX7_travel q.1 = .ok q.2 := by decide +kernel
theorem dX7_travel_0 : decode cX7_travel 0 = .ok (.aload_n 0, 1) := tX7_travel_ok (0, .aload_n 0, 1) (List.mem_of_getElem? (i := 0) rfl)
theorem dX7_travel_1 : decode cX7_travel 1 = .ok (.getfield 15, 3) := tX7_travel_ok (1, .getfield 15, 3) (List.mem_of_getElem? (i := 1) rfl)
theorem dX7_travel_4 : decode cX7_travel 4 = .ok (.iconst 0, 1) := tX7_travel_ok (4, .iconst 0, 1) (List.mem_of_getElem? (i := 2) rfl)
theorem dX7_travel_5 : decode cX7_travel 5 = .ok (.aload_n 0, 1) := tX7_travel_ok (5, .aload_n 0, 1) (List.mem_of_getElem? (i := 3) rfl)
theorem dX7_travel_6 : decode cX7_travel 6 = .ok (.getfield 29, 3) := tX7_travel_ok (6, .getfield 29, 3) (List.mem_of_getElem? (i := 4) rfl)
theorem dX7_travel_9 : decode cX7_travel 9 = .ok (.invokevirtual 59, 3) := tX7_travel_ok (9, .invokevirtual 59, 3) (List.mem_of_getElem? (i := 5) rfl)
theorem dX7_travel_12 : decode cX7_travel 12 = .ok (.iastore, 1) := tX7_travel_ok (12, .iastore, 1) (List.mem_of_getElem? (i := 6) rfl)
theorem dX7_travel_13 : decode cX7_travel 13 = .ok (.aload_n 0, 1) := tX7_travel_ok (13, .aload_n 0, 1) (List.mem_of_getElem? (i := 7) rfl)
theorem dX7_travel_14 : decode cX7_travel 14 = .ok (.iconst 1, 1) := tX7_travel_ok (14, .iconst 1, 1) (List.mem_of_getElem? (i := 8) rfl)
theorem dX7_travel_15 : decode cX7_travel 15 = .ok (.putfield 65, 3) := tX7_travel_ok (15, .putfield 65, 3) (List.mem_of_getElem? (i := 9) rfl)
theorem dX7_travel_18 : decode cX7_travel 18 = .ok (.aload_n 0, 1) := tX7_travel_ok (18, .aload_n 0, 1) (List.mem_of_getElem? (i := 10) rfl)
theorem dX7_travel_19 : decode cX7_travel 19 = .ok (.iconst 0, 1) := tX7_travel_ok (19, .iconst 0, 1) (List.mem_of_getElem? (i := 11) rfl)
theorem dX7_travel_20 : decode cX7_travel 20 = .ok (.putfield 68, 3) := tX7_travel_ok (20, .putfield 68, 3) (List.mem_of_getElem? (i := 12) rfl)
theorem dX7_travel_23 : decode cX7_travel 23 = .ok (.iconst 0, 1) := tX7_travel_ok (23, .iconst 0, 1) (List.mem_of_getElem? (i := 13) rfl)
theorem dX7_travel_24 : decode cX7_travel 24 = .ok (.istore_n 2, 1) := tX7_travel_ok (24, .istore_n 2, 1) (List.mem_of_getElem? (i := 14) rfl)
theorem dX7_travel_25 : decode cX7_travel 25 = .ok (.iload_n 2, 1) := tX7_travel_ok (25, .iload_n 2, 1) (List.mem_of_getElem? (i := 15) rfl)
theorem dX7_travel_26 : decode cX7_travel 26 = .ok (.bipush 121, 2) := tX7_travel_ok (26, .bipush 121, 2) (List.mem_of_getElem? (i := 16) rfl)
theorem dX7_travel_28 : decode cX7_travel 28 = .ok (.if_icmp .ge 16, 3) := tX7_travel_ok (28, .if_icmp .ge 16, 3) (List.mem_of_getElem? (i := 17) rfl)
theorem dX7_travel_31 : decode cX7_travel 31 = .ok (.aload_n 0, 1) := tX7_travel_ok (31, .aload_n 0, 1) (List.mem_of_getElem? (i := 18) rfl)
theorem dX7_travel_32 : decode cX7_travel 32 = .ok (.getfield 22, 3) := tX7_travel_ok (32, .getfield 22, 3) (List.mem_of_getElem? (i := 19) rfl)
theorem dX7_travel_35 : decode cX7_travel 35 = .ok (.iload_n 2, 1) := tX7_travel_ok (35, .iload_n 2, 1) (List.mem_of_getElem? (i := 20) rfl)
theorem dX7_travel_36 : decode cX7_travel 36 = .ok (.lconst 0, 1) := tX7_travel_ok (36, .lconst 0, 1) (List.mem_of_getElem? (i := 21) rfl)
theorem dX7_travel_37 : decode cX7_travel 37 = .ok (.lastore, 1) := tX7_travel_ok (37, .lastore, 1) (List.mem_of_getElem? (i := 22) rfl)
theorem dX7_travel_38 : decode cX7_travel 38 = .ok (.iinc 2 1, 3) := tX7_travel_ok (38, .iinc 2 1, 3) (List.mem_of_getElem? (i := 23) rfl)
theorem dX7_travel_41 : decode cX7_travel 41 = .ok (.goto (-16), 3) := tX7_travel_ok (41, .goto (-16), 3) (List.mem_of_getElem? (i := 24) rfl)
theorem dX7_travel_44 : decode cX7_travel 44 = .ok (.aload_n 0, 1) := tX7_travel_ok (44, .aload_n 0, 1) (List.mem_of_getElem? (i := 25) rfl)
theorem dX7_travel_45 : decode cX7_travel 45 = .ok (.getfield 22, 3) := tX7_travel_ok (45, .getfield 22, 3) (List.mem_of_getElem? (i := 26) rfl)
theorem dX7_travel_48 : decode cX7_travel 48 = .ok (.iconst 0, 1) := tX7_travel_ok (48, .iconst 0, 1) (List.mem_of_getElem? (i := 27) rfl)
theorem dX7_travel_49 : decode cX7_travel 49 = .ok (.lconst 1, 1) := tX7_travel_ok (49, .lconst 1, 1) (List.mem_of_getElem? (i := 28) rfl)
theorem dX7_travel_50 : decode cX7_travel 50 = .ok (.lastore, 1) := tX7_travel_ok (50, .lastore, 1) (List.mem_of_getElem? (i := 29) rfl)
theorem dX7_travel_51 : decode cX7_travel 51 = .ok (.iconst 0, 1) := tX7_travel_ok (51, .iconst 0, 1) (List.mem_of_getElem? (i := 30) rfl)
theorem dX7_travel_52 : decode cX7_travel 52 = .ok (.istore_n 2, 1) := tX7_travel_ok (52, .istore_n 2, 1) (List.mem_of_getElem? (i := 31) rfl)
theorem dX7_travel_53 : decode cX7_travel 53 = .ok (.iload_n 2, 1) := tX7_travel_ok (53, .iload_n 2, 1) (List.mem_of_getElem? (i := 32) rfl)
theorem dX7_travel_54 : decode cX7_travel 54 = .ok (.iload_n 1, 1) := tX7_travel_ok (54, .iload_n 1, 1) (List.mem_of_getElem? (i := 33) rfl)
theorem dX7_travel_55 : decode cX7_travel 55 = .ok (.if_icmp .ge 19, 3) := tX7_travel_ok (55, .if_icmp .ge 19, 3) (List.mem_of_getElem? (i := 34) rfl)
theorem dX7_travel_58 : decode cX7_travel 58 = .ok (.aload_n 0, 1) := tX7_travel_ok (58, .aload_n 0, 1) (List.mem_of_getElem? (i := 35) rfl)
theorem dX7_travel_59 : decode cX7_travel 59 = .ok (.iload_n 2, 1) := tX7_travel_ok (59, .iload_n 2, 1) (List.mem_of_getElem? (i := 36) rfl)
theorem dX7_travel_60 : decode cX7_travel 60 = .ok (.iload_n 1, 1) := tX7_travel_ok (60, .iload_n 1, 1) (List.mem_of_getElem? (i := 37) rfl)
theorem dX7_travel_61 : decode cX7_travel 61 = .ok (.iload_n 2, 1) := tX7_travel_ok (61, .iload_n 2, 1) (List.mem_of_getElem? (i := 38) rfl)
theorem dX7_travel_62 : decode cX7_travel 62 = .ok (.isub, 1) := tX7_travel_ok (62, .isub, 1) (List.mem_of_getElem? (i := 39) rfl)
theorem dX7_travel_63 : decode cX7_travel 63 = .ok (.iconst 1, 1) := tX7_travel_ok (63, .iconst 1, 1) (List.mem_of_getElem? (i := 40) rfl)
theorem dX7_travel_64 : decode cX7_travel 64 = .ok (.isub, 1) := tX7_travel_ok (64, .isub, 1) (List.mem_of_getElem? (i := 41) rfl)
theorem dX7_travel_65 : decode cX7_travel 65 = .ok (.invokevirtual 71, 3) := tX7_travel_ok (65, .invokevirtual 71, 3) (List.mem_of_getElem? (i := 42) rfl)
theorem dX7_travel_68 : decode cX7_travel 68 = .ok (.iinc 2 1, 3) := tX7_travel_ok (68, .iinc 2 1, 3) (List.mem_of_getElem? (i := 43) rfl)
theorem dX7_travel_71 : decode cX7_travel 71 = .ok (.goto (-18), 3) := tX7_travel_ok (71, .goto (-18), 3) (List.mem_of_getElem? (i := 44) rfl)
theorem dX7_travel_74 : decode cX7_travel 74 = .ok (.return_, 1) := tX7_travel_ok (74, .return_, 1) (List.mem_of_getElem? (i := 45) rfl)

def tX7_advance : List (Nat × Instr × Nat) := [
  (0, .aload_n 0, 1),
  (1, .iconst 0, 1),
  (2, .putfield 75, 3),
  (5, .iconst 0, 1),
  (6, .istore_n 3, 1),
  (7, .iload_n 3, 1),
  (8, .aload_n 0, 1),
  (9, .getfield 65, 3),
  (12, .if_icmp .ge 85, 3),
  (15, .iload_n 3, 1),
  (16, .sipush 1849, 3),
  (19, .if_icmp .ge 78, 3),
  (22, .iconst 0, 1),
  (23, .istore 4, 2),
  (25, .iload 4, 2),
  (27, .aload_n 0, 1),
  (28, .getfield 29, 3),
  (31, .getfield 78, 3),
  (34, .if_icmp .ge 57, 3),
  (37, .aload_n 0, 1),
  (38, .getfield 29, 3),
  (41, .aload_n 0, 1),
  (42, .getfield 15, 3),
  (45, .iload_n 3, 1),
  (46, .iaload, 1),
  (47, .iload 4, 2),
  (49, .invokevirtual 81, 3),
  (52, .istore 5, 2),
  (54, .aload_n 0, 1),
  (55, .getfield 33, 3),
  (58, .iload_n 2, 1),
  (59, .iload 5, 2),
  (61, .invokevirtual 85, 3),
  (64, .lconst 0, 1),
  (65, .lcmp, 1),
  (66, .ifCond .le 19, 3),
  (69, .aload_n 0, 1),
  (70, .iload_n 3, 1),
  (71, .aload_n 0, 1),
  (72, .iload 5, 2),
  (74, .invokevirtual 91, 3),
  (77, .iload 4, 2),
  (79, .iload 5, 2),
  (81, .iload_n 1, 1),
  (82, .invokevirtual 95, 3),
  (85, .iinc 4 1, 3),
  (88, .goto (-63), 3),
  (91, .iinc 3 1, 3),
  (94, .goto (-87), 3),
  (97, .iconst 0, 1),
  (98, .istore_n 3, 1),
  (99, .iload_n 3, 1),
  (100, .aload_n 0, 1),
  (101, .getfield 75, 3),
  (104, .if_icmp .ge 28, 3),
  (107, .iload_n 3, 1),
  (108, .sipush 1849, 3),
  (111, .if_icmp .ge 21, 3),
  (114, .aload_n 0, 1),
  (115, .getfield 9, 3),
  (118, .aload_n 0, 1),
  (119, .getfield 18, 3),
  (122, .iload_n 3, 1),
  (123, .iaload, 1),
  (124, .iconst 0, 1),
  (125, .iastore, 1),
  (126, .iinc 3 1, 3),
  (129, .goto (-30), 3),
  (132, .aload_n 0, 1),
  (133, .invokevirtual 99, 3),
  (136, .aload_n 0, 1),
  (137, .aload_n 0, 1),
  (138, .getfield 41, 3),
  (141, .aload_n 0, 1),
  (142, .getfield 68, 3),
  (145, .aload_n 0, 1),
  (146, .invokevirtual 102, 3),
  (149, .iadd, 1),
  (150, .invokestatic 105, 3),
  (153, .putfield 68, 3),
  (156, .return_, 1)]
set_option maxRecDepth 100000 in
theorem tX7_advance_ok : ∀ q ∈ tX7_advance, decode cX7_advance q.1 = .ok q.2 := by decide +kernel
theorem dX7_advance_0 : decode cX7_advance 0 = .ok (.aload_n 0, 1) := tX7_advance_ok (0, .aload_n 0, 1) (List.mem_of_getElem? (i := 0) rfl)
theorem dX7_advance_1 : decode cX7_advance 1 = .ok (.iconst 0, 1) := tX7_advance_ok (1, .iconst 0, 1) (List.mem_of_getElem? (i := 1) rfl)
theorem dX7_advance_2 : decode cX7_advance 2 = .ok (.putfield 75, 3) := tX7_advance_ok (2, .putfield 75, 3) (List.mem_of_getElem? (i := 2) rfl)
theorem dX7_advance_5 : decode cX7_advance 5 = .ok (.iconst 0, 1) := tX7_advance_ok (5, .iconst 0, 1) (List.mem_of_getElem? (i := 3) rfl)
theorem dX7_advance_6 : decode cX7_advance 6 = .ok (.istore_n 3, 1) := tX7_advance_ok (6, .istore_n 3, 1) (List.mem_of_getElem? (i := 4) rfl)
theorem dX7_advance_7 : decode cX7_advance 7 = .ok (.iload_n 3, 1) := tX7_advance_ok (7, .iload_n 3, 1) (List.mem_of_getElem? (i := 5) rfl)
theorem dX7_advance_8 : decode cX7_advance 8 = .ok (.aload_n 0, 1) := tX7_advance_ok (8, .aload_n 0, 1) (List.mem_of_getElem? (i := 6) rfl)
theorem dX7_advance_9 : decode cX7_advance 9 = .ok (.getfield 65, 3) := tX7_advance_ok (9, .getfield 65, 3) (List.mem_of_getElem? (i := 7) rfl)
theorem dX7_advance_12 : decode cX7_advance 12 = .ok (.if_icmp .ge 85, 3) := tX7_advance_ok (12, .if_icmp .ge 85, 3) (List.mem_of_getElem? (i := 8) rfl)
theorem dX7_advance_15 : decode cX7_advance 15 = .ok (.iload_n 3, 1) := tX7_advance_ok (15, .iload_n 3, 1) (List.mem_of_getElem? (i := 9) rfl)
theorem dX7_advance_16 : decode cX7_advance 16 = .ok (.sipush 1849, 3) := tX7_advance_ok (16, .sipush 1849, 3) (List.mem_of_getElem? (i := 10) rfl)
theorem dX7_advance_19 : decode cX7_advance 19 = .ok (.if_icmp .ge 78, 3) := tX7_advance_ok (19, .if_icmp .ge 78, 3) (List.mem_of_getElem? (i := 11) rfl)
theorem dX7_advance_22 : decode cX7_advance 22 = .ok (.iconst 0, 1) := tX7_advance_ok (22, .iconst 0, 1) (List.mem_of_getElem? (i := 12) rfl)
theorem dX7_advance_23 : decode cX7_advance 23 = .ok (.istore 4, 2) := tX7_advance_ok (23, .istore 4, 2) (List.mem_of_getElem? (i := 13) rfl)
theorem dX7_advance_25 : decode cX7_advance 25 = .ok (.iload 4, 2) := tX7_advance_ok (25, .iload 4, 2) (List.mem_of_getElem? (i := 14) rfl)
theorem dX7_advance_27 : decode cX7_advance 27 = .ok (.aload_n 0, 1) := tX7_advance_ok (27, .aload_n 0, 1) (List.mem_of_getElem? (i := 15) rfl)
theorem dX7_advance_28 : decode cX7_advance 28 = .ok (.getfield 29, 3) := tX7_advance_ok (28, .getfield 29, 3) (List.mem_of_getElem? (i := 16) rfl)
theorem dX7_advance_31 : decode cX7_advance 31 = .ok (.getfield 78, 3) := tX7_advance_ok (31, .getfield 78, 3) (List.mem_of_getElem? (i := 17) rfl)
theorem dX7_advance_34 : decode cX7_advance 34 = .ok (.if_icmp .ge 57, 3) := tX7_advance_ok (34, .if_icmp .ge 57, 3) (List.mem_of_getElem? (i := 18) rfl)
theorem dX7_advance_37 : decode cX7_advance 37 = .ok (.aload_n 0, 1) := tX7_advance_ok (37, .aload_n 0, 1) (List.mem_of_getElem? (i := 19) rfl)
theorem dX7_advance_38 : decode cX7_advance 38 = .ok (.getfield 29, 3) := tX7_advance_ok (38, .getfield 29, 3) (List.mem_of_getElem? (i := 20) rfl)
theorem dX7_advance_41 : decode cX7_advance 41 = .ok (.aload_n 0, 1) := tX7_advance_ok (41, .aload_n 0, 1) (List.mem_of_getElem? (i := 21) rfl)
theorem dX7_advance_42 : decode cX7_advance 42 = .ok (.getfield 15, 3) := tX7_advance_ok (42, .getfield 15, 3) (List.mem_of_getElem? (i := 22) rfl)
theorem dX7_advance_45 : decode cX7_advance 45 = .ok (.iload_n 3, 1) := tX7_advance_ok (45, .iload_n 3, 1) (List.mem_of_getElem? (i := 23) rfl)
theorem dX7_advance_46 : decode cX7_advance 46 = .ok (.iaload, 1) := tX7_advance_ok (46, .iaload, 1) (List.mem_of_getElem? (i := 24) rfl)
theorem dX7_advance_47 : decode cX7_advance 47 = .ok (.iload 4, 2) := tX7_advance_ok (47, .iload 4, 2) (List.mem_of_getElem? (i := 25) rfl)
theorem dX7_advance_49 : decode cX7_advance 49 = .ok (.invokevirtual 81, 3) := tX7_advance_ok (49, .invokevirtual 81, 3) (List.mem_of_getElem? (i := 26) rfl)
theorem dX7_advance_52 : decode cX7_advance 52 = .ok (.istore 5, 2) := tX7_advance_ok (52, .istore 5, 2) (List.mem_of_getElem? (i := 27) rfl)
theorem dX7_advance_54 : decode cX7_advance 54 = .ok (.aload_n 0, 1) := tX7_advance_ok (54, .aload_n 0, 1) (List.mem_of_getElem? (i := 28) rfl)
theorem dX7_advance_55 : decode cX7_advance 55 = .ok (.getfield 33, 3) := tX7_advance_ok (55, .getfield 33, 3) (List.mem_of_getElem? (i := 29) rfl)
theorem dX7_advance_58 : decode cX7_advance 58 = .ok (.iload_n 2, 1) := tX7_advance_ok (58, .iload_n 2, 1) (List.mem_of_getElem? (i := 30) rfl)
theorem dX7_advance_59 : decode cX7_advance 59 = .ok (.iload 5, 2) := tX7_advance_ok (59, .iload 5, 2) (List.mem_of_getElem? (i := 31) rfl)
theorem dX7_advance_61 : decode cX7_advance 61 = .ok (.invokevirtual 85, 3) := tX7_advance_ok (61, .invokevirtual 85, 3) (List.mem_of_getElem? (i := 32) rfl)
theorem dX7_advance_64 : decode cX7_advance 64 = .ok (.lconst 0, 1) := tX7_advance_ok (64, .lconst 0, 1) (List.mem_of_getElem? (i := 33) rfl)
theorem dX7_advance_65 : decode cX7_advance 65 = .ok (.lcmp, 1) := tX7_advance_ok (65, .lcmp, 1) (List.mem_of_getElem? (i := 34) rfl)
theorem dX7_advance_66 : decode cX7_advance 66 = .ok (.ifCond .le 19, 3) := tX7_advance_ok (66, .ifCond .le 19, 3) (List.mem_of_getElem? (i := 35) rfl)
theorem dX7_advance_69 : decode cX7_advance 69 = .ok (.aload_n 0, 1) := tX7_advance_ok (69, .aload_n 0, 1) (List.mem_of_getElem? (i := 36) rfl)
theorem dX7_advance_70 : decode cX7_advance 70 = .ok (.iload_n 3, 1) := tX7_advance_ok (70, .iload_n 3, 1) (List.mem_of_getElem? (i := 37) rfl)
theorem dX7_advance_71 : decode cX7_advance 71 = .ok (.aload_n 0, 1) := tX7_advance_ok (71, .aload_n 0, 1) (List.mem_of_getElem? (i := 38) rfl)
theorem dX7_advance_72 : decode cX7_advance 72 = .ok (.iload 5, 2) := tX7_advance_ok (72, .iload 5, 2) (List.mem_of_getElem? (i := 39) rfl)
theorem dX7_advance_74 : decode cX7_advance 74 = .ok (.invokevirtual 91, 3) := tX7_advance_ok (74, .invokevirtual 91, 3) (List.mem_of_getElem? (i := 40) rfl)
theorem dX7_advance_77 : decode cX7_advance 77 = .ok (.iload 4, 2) := tX7_advance_ok (77, .iload 4, 2) (List.mem_of_getElem? (i := 41) rfl)
theorem dX7_advance_79 : decode cX7_advance 79 = .ok (.iload 5, 2) := tX7_advance_ok (79, .iload 5, 2) (List.mem_of_getElem? (i := 42) rfl)
theorem dX7_advance_81 : decode cX7_advance 81 = .ok (.iload_n 1, 1) := tX7_advance_ok (81, .iload_n 1, 1) (List.mem_of_getElem? (i := 43) rfl)
theorem dX7_advance_82 : decode cX7_advance 82 = .ok (.invokevirtual 95, 3) := tX7_advance_ok (82, .invokevirtual 95, 3) (List.mem_of_getElem? (i := 44) rfl)
theorem dX7_advance_85 : decode cX7_advance 85 = .ok (.iinc 4 1, 3) := tX7_advance_ok (85, .iinc 4 1, 3) (List.mem_of_getElem? (i := 45) rfl)
theorem dX7_advance_88 : decode cX7_advance 88 = .ok (.goto (-63), 3) := tX7_advance_ok (88, .goto (-63), 3) (List.mem_of_getElem? (i := 46) rfl)
theorem dX7_advance_91 : decode cX7_advance 91 = .ok (.iinc 3 1, 3) := tX7_advance_ok (91, .iinc 3 1, 3) (List.mem_of_getElem? (i := 47) rfl)
theorem dX7_advance_94 : decode cX7_advance 94 = .ok (.goto (-87), 3) := tX7_advance_ok (94, .goto (-87), 3) (List.mem_of_getElem? (i := 48) rfl)
theorem dX7_advance_97 : decode cX7_advance 97 = .ok (.iconst 0, 1) := tX7_advance_ok (97, .iconst 0, 1) (List.mem_of_getElem? (i := 49) rfl)
theorem dX7_advance_98 : decode cX7_advance 98 = .ok (.istore_n 3, 1) := tX7_advance_ok (98, .istore_n 3, 1) (List.mem_of_getElem? (i := 50) rfl)
theorem dX7_advance_99 : decode cX7_advance 99 = .ok (.iload_n 3, 1) := tX7_advance_ok (99, .iload_n 3, 1) (List.mem_of_getElem? (i := 51) rfl)
theorem dX7_advance_100 : decode cX7_advance 100 = .ok (.aload_n 0, 1) := tX7_advance_ok (100, .aload_n 0, 1) (List.mem_of_getElem? (i := 52) rfl)
theorem dX7_advance_101 : decode cX7_advance 101 = .ok (.getfield 75, 3) := tX7_advance_ok (101, .getfield 75, 3) (List.mem_of_getElem? (i := 53) rfl)
theorem dX7_advance_104 : decode cX7_advance 104 = .ok (.if_icmp .ge 28, 3) := tX7_advance_ok (104, .if_icmp .ge 28, 3) (List.mem_of_getElem? (i := 54) rfl)
theorem dX7_advance_107 : decode cX7_advance 107 = .ok (.iload_n 3, 1) := tX7_advance_ok (107, .iload_n 3, 1) (List.mem_of_getElem? (i := 55) rfl)
theorem dX7_advance_108 : decode cX7_advance 108 = .ok (.sipush 1849, 3) := tX7_advance_ok (108, .sipush 1849, 3) (List.mem_of_getElem? (i := 56) rfl)
theorem dX7_advance_111 : decode cX7_advance 111 = .ok (.if_icmp .ge 21, 3) := tX7_advance_ok (111, .if_icmp .ge 21, 3) (List.mem_of_getElem? (i := 57) rfl)
theorem dX7_advance_114 : decode cX7_advance 114 = .ok (.aload_n 0, 1) := tX7_advance_ok (114, .aload_n 0, 1) (List.mem_of_getElem? (i := 58) rfl)
theorem dX7_advance_115 : decode cX7_advance 115 = .ok (.getfield 9, 3) := tX7_advance_ok (115, .getfield 9, 3) (List.mem_of_getElem? (i := 59) rfl)
theorem dX7_advance_118 : decode cX7_advance 118 = .ok (.aload_n 0, 1) := tX7_advance_ok (118, .aload_n 0, 1) (List.mem_of_getElem? (i := 60) rfl)
theorem dX7_advance_119 : decode cX7_advance 119 = .ok (.getfield 18, 3) := tX7_advance_ok (119, .getfield 18, 3) (List.mem_of_getElem? (i := 61) rfl)
theorem dX7_advance_122 : decode cX7_advance 122 = .ok (.iload_n 3, 1) := tX7_advance_ok (122, .iload_n 3, 1) (List.mem_of_getElem? (i := 62) rfl)
theorem dX7_advance_123 : decode cX7_advance 123 = .ok (.iaload, 1) := tX7_advance_ok (123, .iaload, 1) (List.mem_of_getElem? (i := 63) rfl)
theorem dX7_advance_124 : decode cX7_advance 124 = .ok (.iconst 0, 1) := tX7_advance_ok (124, .iconst 0, 1) (List.mem_of_getElem? (i := 64) rfl)
theorem dX7_advance_125 : decode cX7_advance 125 = .ok (.iastore, 1) := tX7_advance_ok (125, .iastore, 1) (List.mem_of_getElem? (i := 65) rfl)
theorem dX7_advance_126 : decode cX7_advance 126 = .ok (.iinc 3 1, 3) := tX7_advance_ok (126, .iinc 3 1, 3) (List.mem_of_getElem? (i := 66) rfl)
theorem dX7_advance_129 : decode cX7_advance 129 = .ok (.goto (-30), 3) := tX7_advance_ok (129, .goto (-30), 3) (List.mem_of_getElem? (i := 67) rfl)
theorem dX7_advance_132 : decode cX7_advance 132 = .ok (.aload_n 0, 1) := tX7_advance_ok (132, .aload_n 0, 1) (List.mem_of_getElem? (i := 68) rfl)
theorem dX7_advance_133 : decode cX7_advance 133 = .ok (.invokevirtual 99, 3) := tX7_advance_ok (133, .invokevirtual 99, 3) (List.mem_of_getElem? (i := 69) rfl)
theorem dX7_advance_136 : decode cX7_advance 136 = .ok (.aload_n 0, 1) := tX7_advance_ok (136, .aload_n 0, 1) (List.mem_of_getElem? (i := 70) rfl)
theorem dX7_advance_137 : decode cX7_advance 137 = .ok (.aload_n 0, 1) := tX7_advance_ok (137, .aload_n 0, 1) (List.mem_of_getElem? (i := 71) rfl)
theorem dX7_advance_138 : decode cX7_advance 138 = .ok (.getfield 41, 3) := tX7_advance_ok (138, .getfield 41, 3) (List.mem_of_getElem? (i := 72) rfl)
theorem dX7_advance_141 : decode cX7_advance 141 = .ok (.aload_n 0, 1) := tX7_advance_ok (141, .aload_n 0, 1) (List.mem_of_getElem? (i := 73) rfl)
theorem dX7_advance_142 : decode cX7_advance 142 = .ok (.getfield 68, 3) := tX7_advance_ok (142, .getfield 68, 3) (List.mem_of_getElem? (i := 74) rfl)
theorem dX7_advance_145 : decode cX7_advance 145 = .ok (.aload_n 0, 1) := tX7_advance_ok (145, .aload_n 0, 1) (List.mem_of_getElem? (i := 75) rfl)
theorem dX7_advance_146 : decode cX7_advance 146 = .ok (.invokevirtual 102, 3) := tX7_advance_ok (146, .invokevirtual 102, 3) (List.mem_of_getElem? (i := 76) rfl)
theorem dX7_advance_149 : decode cX7_advance 149 = .ok (.iadd, 1) := tX7_advance_ok (149, .iadd, 1) (List.mem_of_getElem? (i := 77) rfl)
theorem dX7_advance_150 : decode cX7_advance 150 = .ok (.invokestatic 105, 3) := tX7_advance_ok (150, .invokestatic 105, 3) (List.mem_of_getElem? (i := 78) rfl)
theorem dX7_advance_153 : decode cX7_advance 153 = .ok (.putfield 68, 3) := tX7_advance_ok (153, .putfield 68, 3) (List.mem_of_getElem? (i := 79) rfl)
theorem dX7_advance_156 : decode cX7_advance 156 = .ok (.return_, 1) := tX7_advance_ok (156, .return_, 1) (List.mem_of_getElem? (i := 80) rfl)

def tX7_swapLayers : List (Nat × Instr × Nat) := [
  (0, .aload_n 0, 1),
  (1, .getfield 15, 3),
  (4, .astore_n 1, 1),
  (5, .aload_n 0, 1),
  (6, .aload_n 0, 1),
  (7, .getfield 18, 3),
  (10, .putfield 15, 3),
  (13, .aload_n 0, 1),
  (14, .aload_n 1, 1),
  (15, .putfield 18, 3),
  (18, .aload_n 0, 1),
  (19, .getfield 22, 3),
  (22, .astore_n 2, 1),
  (23, .aload_n 0, 1),
  (24, .aload_n 0, 1),
  (25, .getfield 26, 3),
  (28, .putfield 22, 3),
  (31, .aload_n 0, 1),
  (32, .aload_n 2, 1),
  (33, .putfield 26, 3),
  (36, .aload_n 0, 1),
  (37, .aload_n 0, 1),
  (38, .getfield 75, 3),
  (41, .putfield 65, 3),
  (44, .return_, 1)]
set_option maxRecDepth 100000 in
theorem tX7_swapLayers_ok : ∀ q ∈ tX7_swapLayers, decode cX7_swapLayers q.1 = .ok q.2 := by decide +kernel
theorem dX7_swapLayers_0 : decode cX7_swapLayers 0 = .ok (.aload_n 0, 1) := tX7_swapLayers_ok (0, .aload_n 0, 1) (List.mem_of_getElem? (i := 0) rfl)
theorem dX7_swapLayers_1 : decode cX7_swapLayers 1 = .ok (.getfield 15, 3) := tX7_swapLayers_ok (1, .getfield 15, 3) (List.mem_of_getElem? (i := 1) rfl)
theorem dX7_swapLayers_4 : decode cX7_swapLayers 4 = .ok (.astore_n 1, 1) := tX7_swapLayers_ok (4, .astore_n 1, 1) (List.mem_of_getElem? (i := 2) rfl)
theorem dX7_swapLayers_5 : decode cX7_swapLayers 5 = .ok (.aload_n 0, 1) := tX7_swapLayers_ok (5, .aload_n 0, 1) (List.mem_of_getElem? (i := 3) rfl)
theorem dX7_swapLayers_6 : decode cX7_swapLayers 6 = .ok (.aload_n 0, 1) := tX7_swapLayers_ok (6, .aload_n 0, 1) (List.mem_of_getElem? (i := 4) rfl)
theorem dX7_swapLayers_7 : decode cX7_swapLayers 7 = .ok (.getfield 18, 3) := tX7_swapLayers_ok (7, .getfield 18, 3) (List.mem_of_getElem? (i := 5) rfl)
theorem dX7_swapLayers_10 : decode cX7_swapLayers 10 = .ok (.putfield 15, 3) := tX7_swapLayers_ok (10, .putfield 15, 3) (List.mem_of_getElem? (i := 6) rfl)
theorem dX7_swapLayers_13 : decode cX7_swapLayers 13 = .ok (.aload_n 0, 1) := tX7_swapLayers_ok (13, .aload_n 0, 1) (List.mem_of_getElem? (i := 7) rfl)
theorem dX7_swapLayers_14 : decode cX7_swapLayers 14 = .ok (.aload_n 1, 1) := tX7_swapLayers_ok (14, .aload_n 1, 1) (List.mem_of_getElem? (i := 8) rfl)
theorem dX7_swapLayers_15 : decode cX7_swapLayers 15 = .ok (.putfield 18, 3) := tX7_swapLayers_ok (15, .putfield 18, 3) (List.mem_of_getElem? (i := 9) rfl)
theorem dX7_swapLayers_18 : decode cX7_swapLayers 18 = .ok (.aload_n 0, 1) := tX7_swapLayers_ok (18, .aload_n 0, 1) (List.mem_of_getElem? (i := 10) rfl)
theorem dX7_swapLayers_19 : decode cX7_swapLayers 19 = .ok (.getfield 22, 3) := tX7_swapLayers_ok (19, .getfield 22, 3) (List.mem_of_getElem? (i := 11) rfl)
theorem dX7_swapLayers_22 : decode cX7_swapLayers 22 = .ok (.astore_n 2, 1) := tX7_swapLayers_ok (22, .astore_n 2, 1) (List.mem_of_getElem? (i := 12) rfl)
theorem dX7_swapLayers_23 : decode cX7_swapLayers 23 = .ok (.aload_n 0, 1) := tX7_swapLayers_ok (23, .aload_n 0, 1) (List.mem_of_getElem? (i := 13) rfl)
theorem dX7_swapLayers_24 : decode cX7_swapLayers 24 = .ok (.aload_n 0, 1) := tX7_swapLayers_ok (24, .aload_n 0, 1) (List.mem_of_getElem? (i := 14) rfl)
theorem dX7_swapLayers_25 : decode cX7_swapLayers 25 = .ok (.getfield 26, 3) := tX7_swapLayers_ok (25, .getfield 26, 3) (List.mem_of_getElem? (i := 15) rfl)
theorem dX7_swapLayers_28 : decode cX7_swapLayers 28 = .ok (.putfield 22, 3) := tX7_swapLayers_ok (28, .putfield 22, 3) (List.mem_of_getElem? (i := 16) rfl)
theorem dX7_swapLayers_31 : decode cX7_swapLayers 31 = .ok (.aload_n 0, 1) := tX7_swapLayers_ok (31, .aload_n 0, 1) (List.mem_of_getElem? (i := 17) rfl)
theorem dX7_swapLayers_32 : decode cX7_swapLayers 32 = .ok (.aload_n 2, 1) := tX7_swapLayers_ok (32, .aload_n 2, 1) (List.mem_of_getElem? (i := 18) rfl)
theorem dX7_swapLayers_33 : decode cX7_swapLayers 33 = .ok (.putfield 26, 3) := tX7_swapLayers_ok (33, .putfield 26, 3) (List.mem_of_getElem? (i := 19) rfl)
theorem dX7_swapLayers_36 : decode cX7_swapLayers 36 = .ok (.aload_n 0, 1) := tX7_swapLayers_ok (36, .aload_n 0, 1) (List.mem_of_getElem? (i := 20) rfl)
theorem dX7_swapLayers_37 : decode cX7_swapLayers 37 = .ok (.aload_n 0, 1) := tX7_swapLayers_ok (37, .aload_n 0, 1) (List.mem_of_getElem? (i := 21) rfl)
theorem dX7_swapLayers_38 : decode cX7_swapLayers 38 = .ok (.getfield 75, 3) := tX7_swapLayers_ok (38, .getfield 75, 3) (List.mem_of_getElem? (i := 22) rfl)
theorem dX7_swapLayers_41 : decode cX7_swapLayers 41 = .ok (.putfield 65, 3) := tX7_swapLayers_ok (41, .putfield 65, 3) (List.mem_of_getElem? (i := 23) rfl)
theorem dX7_swapLayers_44 : decode cX7_swapLayers 44 = .ok (.return_, 1) := tX7_swapLayers_ok (44, .return_, 1) (List.mem_of_getElem? (i := 24) rfl)

def tX7_slotFor : List (Nat × Instr × Nat) := [
  (0, .iload_n 1, 1),
  (1, .ifCond .lt 10, 3),
  (4, .iload_n 1, 1),
  (5, .sipush 4489, 3),
  (8, .if_icmp .lt 5, 3),
  (11, .iconst (-1), 1),
  (12, .ireturn, 1),
  (13, .aload_n 0, 1),
  (14, .getfield 9, 3),
  (17, .iload_n 1, 1),
  (18, .iaload, 1),
  (19, .ifCond .ne 72, 3),
  (22, .aload_n 0, 1),
  (23, .getfield 75, 3),
  (26, .sipush 1849, 3),
  (29, .if_icmp .ge 62, 3),
  (32, .aload_n 0, 1),
  (33, .getfield 18, 3),
  (36, .aload_n 0, 1),
  (37, .getfield 75, 3),
  (40, .iload_n 1, 1),
  (41, .iastore, 1),
  (42, .iconst 0, 1),
  (43, .istore_n 2, 1),
  (44, .iload_n 2, 1),
  (45, .bipush 121, 2),
  (47, .if_icmp .ge 24, 3),
  (50, .aload_n 0, 1),
  (51, .getfield 26, 3),
  (54, .aload_n 0, 1),
  (55, .getfield 75, 3),
  (58, .bipush 121, 2),
  (60, .imul, 1),
  (61, .iload_n 2, 1),
  (62, .iadd, 1),
  (63, .lconst 0, 1),
  (64, .lastore, 1),
  (65, .iinc 2 1, 3),
  (68, .goto (-24), 3),
  (71, .aload_n 0, 1),
  (72, .dup, 1),
  (73, .getfield 75, 3),
  (76, .iconst 1, 1),
  (77, .iadd, 1),
  (78, .putfield 75, 3),
  (81, .aload_n 0, 1),
  (82, .getfield 9, 3),
  (85, .iload_n 1, 1),
  (86, .aload_n 0, 1),
  (87, .getfield 75, 3),
  (90, .iastore, 1),
  (91, .aload_n 0, 1),
  (92, .getfield 9, 3),
  (95, .iload_n 1, 1),
  (96, .iaload, 1),
  (97, .iconst 1, 1),
  (98, .isub, 1),
  (99, .ireturn, 1)]
set_option maxRecDepth 100000 in
theorem tX7_slotFor_ok : ∀ q ∈ tX7_slotFor, decode cX7_slotFor q.1 = .ok q.2 := by decide +kernel
theorem dX7_slotFor_0 : decode cX7_slotFor 0 = .ok (.iload_n 1, 1) := tX7_slotFor_ok (0, .iload_n 1, 1) (List.mem_of_getElem? (i := 0) rfl)
theorem dX7_slotFor_1 : decode cX7_slotFor 1 = .ok (.ifCond .lt 10, 3) := tX7_slotFor_ok (1, .ifCond .lt 10, 3) (List.mem_of_getElem? (i := 1) rfl)
theorem dX7_slotFor_4 : decode cX7_slotFor 4 = .ok (.iload_n 1, 1) := tX7_slotFor_ok (4, .iload_n 1, 1) (List.mem_of_getElem? (i := 2) rfl)
theorem dX7_slotFor_5 : decode cX7_slotFor 5 = .ok (.sipush 4489, 3) := tX7_slotFor_ok (5, .sipush 4489, 3) (List.mem_of_getElem? (i := 3) rfl)
theorem dX7_slotFor_8 : decode cX7_slotFor 8 = .ok (.if_icmp .lt 5, 3) := tX7_slotFor_ok (8, .if_icmp .lt 5, 3) (List.mem_of_getElem? (i := 4) rfl)
theorem dX7_slotFor_11 : decode cX7_slotFor 11 = .ok (.iconst (-1), 1) := tX7_slotFor_ok (11, .iconst (-1), 1) (List.mem_of_getElem? (i := 5) rfl)
theorem dX7_slotFor_12 : decode cX7_slotFor 12 = .ok (.ireturn, 1) := tX7_slotFor_ok (12, .ireturn, 1) (List.mem_of_getElem? (i := 6) rfl)
theorem dX7_slotFor_13 : decode cX7_slotFor 13 = .ok (.aload_n 0, 1) := tX7_slotFor_ok (13, .aload_n 0, 1) (List.mem_of_getElem? (i := 7) rfl)
theorem dX7_slotFor_14 : decode cX7_slotFor 14 = .ok (.getfield 9, 3) := tX7_slotFor_ok (14, .getfield 9, 3) (List.mem_of_getElem? (i := 8) rfl)
theorem dX7_slotFor_17 : decode cX7_slotFor 17 = .ok (.iload_n 1, 1) := tX7_slotFor_ok (17, .iload_n 1, 1) (List.mem_of_getElem? (i := 9) rfl)
theorem dX7_slotFor_18 : decode cX7_slotFor 18 = .ok (.iaload, 1) := tX7_slotFor_ok (18, .iaload, 1) (List.mem_of_getElem? (i := 10) rfl)
theorem dX7_slotFor_19 : decode cX7_slotFor 19 = .ok (.ifCond .ne 72, 3) := tX7_slotFor_ok (19, .ifCond .ne 72, 3) (List.mem_of_getElem? (i := 11) rfl)
theorem dX7_slotFor_22 : decode cX7_slotFor 22 = .ok (.aload_n 0, 1) := tX7_slotFor_ok (22, .aload_n 0, 1) (List.mem_of_getElem? (i := 12) rfl)
theorem dX7_slotFor_23 : decode cX7_slotFor 23 = .ok (.getfield 75, 3) := tX7_slotFor_ok (23, .getfield 75, 3) (List.mem_of_getElem? (i := 13) rfl)
theorem dX7_slotFor_26 : decode cX7_slotFor 26 = .ok (.sipush 1849, 3) := tX7_slotFor_ok (26, .sipush 1849, 3) (List.mem_of_getElem? (i := 14) rfl)
theorem dX7_slotFor_29 : decode cX7_slotFor 29 = .ok (.if_icmp .ge 62, 3) := tX7_slotFor_ok (29, .if_icmp .ge 62, 3) (List.mem_of_getElem? (i := 15) rfl)
theorem dX7_slotFor_32 : decode cX7_slotFor 32 = .ok (.aload_n 0, 1) := tX7_slotFor_ok (32, .aload_n 0, 1) (List.mem_of_getElem? (i := 16) rfl)
theorem dX7_slotFor_33 : decode cX7_slotFor 33 = .ok (.getfield 18, 3) := tX7_slotFor_ok (33, .getfield 18, 3) (List.mem_of_getElem? (i := 17) rfl)
theorem dX7_slotFor_36 : decode cX7_slotFor 36 = .ok (.aload_n 0, 1) := tX7_slotFor_ok (36, .aload_n 0, 1) (List.mem_of_getElem? (i := 18) rfl)
theorem dX7_slotFor_37 : decode cX7_slotFor 37 = .ok (.getfield 75, 3) := tX7_slotFor_ok (37, .getfield 75, 3) (List.mem_of_getElem? (i := 19) rfl)
theorem dX7_slotFor_40 : decode cX7_slotFor 40 = .ok (.iload_n 1, 1) := tX7_slotFor_ok (40, .iload_n 1, 1) (List.mem_of_getElem? (i := 20) rfl)
theorem dX7_slotFor_41 : decode cX7_slotFor 41 = .ok (.iastore, 1) := tX7_slotFor_ok (41, .iastore, 1) (List.mem_of_getElem? (i := 21) rfl)
theorem dX7_slotFor_42 : decode cX7_slotFor 42 = .ok (.iconst 0, 1) := tX7_slotFor_ok (42, .iconst 0, 1) (List.mem_of_getElem? (i := 22) rfl)
theorem dX7_slotFor_43 : decode cX7_slotFor 43 = .ok (.istore_n 2, 1) := tX7_slotFor_ok (43, .istore_n 2, 1) (List.mem_of_getElem? (i := 23) rfl)
theorem dX7_slotFor_44 : decode cX7_slotFor 44 = .ok (.iload_n 2, 1) := tX7_slotFor_ok (44, .iload_n 2, 1) (List.mem_of_getElem? (i := 24) rfl)
theorem dX7_slotFor_45 : decode cX7_slotFor 45 = .ok (.bipush 121, 2) := tX7_slotFor_ok (45, .bipush 121, 2) (List.mem_of_getElem? (i := 25) rfl)
theorem dX7_slotFor_47 : decode cX7_slotFor 47 = .ok (.if_icmp .ge 24, 3) := tX7_slotFor_ok (47, .if_icmp .ge 24, 3) (List.mem_of_getElem? (i := 26) rfl)
theorem dX7_slotFor_50 : decode cX7_slotFor 50 = .ok (.aload_n 0, 1) := tX7_slotFor_ok (50, .aload_n 0, 1) (List.mem_of_getElem? (i := 27) rfl)
theorem dX7_slotFor_51 : decode cX7_slotFor 51 = .ok (.getfield 26, 3) := tX7_slotFor_ok (51, .getfield 26, 3) (List.mem_of_getElem? (i := 28) rfl)
theorem dX7_slotFor_54 : decode cX7_slotFor 54 = .ok (.aload_n 0, 1) := tX7_slotFor_ok (54, .aload_n 0, 1) (List.mem_of_getElem? (i := 29) rfl)
theorem dX7_slotFor_55 : decode cX7_slotFor 55 = .ok (.getfield 75, 3) := tX7_slotFor_ok (55, .getfield 75, 3) (List.mem_of_getElem? (i := 30) rfl)
theorem dX7_slotFor_58 : decode cX7_slotFor 58 = .ok (.bipush 121, 2) := tX7_slotFor_ok (58, .bipush 121, 2) (List.mem_of_getElem? (i := 31) rfl)
theorem dX7_slotFor_60 : decode cX7_slotFor 60 = .ok (.imul, 1) := tX7_slotFor_ok (60, .imul, 1) (List.mem_of_getElem? (i := 32) rfl)
theorem dX7_slotFor_61 : decode cX7_slotFor 61 = .ok (.iload_n 2, 1) := tX7_slotFor_ok (61, .iload_n 2, 1) (List.mem_of_getElem? (i := 33) rfl)
theorem dX7_slotFor_62 : decode cX7_slotFor 62 = .ok (.iadd, 1) := tX7_slotFor_ok (62, .iadd, 1) (List.mem_of_getElem? (i := 34) rfl)
theorem dX7_slotFor_63 : decode cX7_slotFor 63 = .ok (.lconst 0, 1) := tX7_slotFor_ok (63, .lconst 0, 1) (List.mem_of_getElem? (i := 35) rfl)
theorem dX7_slotFor_64 : decode cX7_slotFor 64 = .ok (.lastore, 1) := tX7_slotFor_ok (64, .lastore, 1) (List.mem_of_getElem? (i := 36) rfl)
theorem dX7_slotFor_65 : decode cX7_slotFor 65 = .ok (.iinc 2 1, 3) := tX7_slotFor_ok (65, .iinc 2 1, 3) (List.mem_of_getElem? (i := 37) rfl)
theorem dX7_slotFor_68 : decode cX7_slotFor 68 = .ok (.goto (-24), 3) := tX7_slotFor_ok (68, .goto (-24), 3) (List.mem_of_getElem? (i := 38) rfl)
theorem dX7_slotFor_71 : decode cX7_slotFor 71 = .ok (.aload_n 0, 1) := tX7_slotFor_ok (71, .aload_n 0, 1) (List.mem_of_getElem? (i := 39) rfl)
theorem dX7_slotFor_72 : decode cX7_slotFor 72 = .ok (.dup, 1) := tX7_slotFor_ok (72, .dup, 1) (List.mem_of_getElem? (i := 40) rfl)
theorem dX7_slotFor_73 : decode cX7_slotFor 73 = .ok (.getfield 75, 3) := tX7_slotFor_ok (73, .getfield 75, 3) (List.mem_of_getElem? (i := 41) rfl)
theorem dX7_slotFor_76 : decode cX7_slotFor 76 = .ok (.iconst 1, 1) := tX7_slotFor_ok (76, .iconst 1, 1) (List.mem_of_getElem? (i := 42) rfl)
theorem dX7_slotFor_77 : decode cX7_slotFor 77 = .ok (.iadd, 1) := tX7_slotFor_ok (77, .iadd, 1) (List.mem_of_getElem? (i := 43) rfl)
theorem dX7_slotFor_78 : decode cX7_slotFor 78 = .ok (.putfield 75, 3) := tX7_slotFor_ok (78, .putfield 75, 3) (List.mem_of_getElem? (i := 44) rfl)
theorem dX7_slotFor_81 : decode cX7_slotFor 81 = .ok (.aload_n 0, 1) := tX7_slotFor_ok (81, .aload_n 0, 1) (List.mem_of_getElem? (i := 45) rfl)
theorem dX7_slotFor_82 : decode cX7_slotFor 82 = .ok (.getfield 9, 3) := tX7_slotFor_ok (82, .getfield 9, 3) (List.mem_of_getElem? (i := 46) rfl)
theorem dX7_slotFor_85 : decode cX7_slotFor 85 = .ok (.iload_n 1, 1) := tX7_slotFor_ok (85, .iload_n 1, 1) (List.mem_of_getElem? (i := 47) rfl)
theorem dX7_slotFor_86 : decode cX7_slotFor 86 = .ok (.aload_n 0, 1) := tX7_slotFor_ok (86, .aload_n 0, 1) (List.mem_of_getElem? (i := 48) rfl)
theorem dX7_slotFor_87 : decode cX7_slotFor 87 = .ok (.getfield 75, 3) := tX7_slotFor_ok (87, .getfield 75, 3) (List.mem_of_getElem? (i := 49) rfl)
theorem dX7_slotFor_90 : decode cX7_slotFor 90 = .ok (.iastore, 1) := tX7_slotFor_ok (90, .iastore, 1) (List.mem_of_getElem? (i := 50) rfl)
theorem dX7_slotFor_91 : decode cX7_slotFor 91 = .ok (.aload_n 0, 1) := tX7_slotFor_ok (91, .aload_n 0, 1) (List.mem_of_getElem? (i := 51) rfl)
theorem dX7_slotFor_92 : decode cX7_slotFor 92 = .ok (.getfield 9, 3) := tX7_slotFor_ok (92, .getfield 9, 3) (List.mem_of_getElem? (i := 52) rfl)
theorem dX7_slotFor_95 : decode cX7_slotFor 95 = .ok (.iload_n 1, 1) := tX7_slotFor_ok (95, .iload_n 1, 1) (List.mem_of_getElem? (i := 53) rfl)
theorem dX7_slotFor_96 : decode cX7_slotFor 96 = .ok (.iaload, 1) := tX7_slotFor_ok (96, .iaload, 1) (List.mem_of_getElem? (i := 54) rfl)
theorem dX7_slotFor_97 : decode cX7_slotFor 97 = .ok (.iconst 1, 1) := tX7_slotFor_ok (97, .iconst 1, 1) (List.mem_of_getElem? (i := 55) rfl)
theorem dX7_slotFor_98 : decode cX7_slotFor 98 = .ok (.isub, 1) := tX7_slotFor_ok (98, .isub, 1) (List.mem_of_getElem? (i := 56) rfl)
theorem dX7_slotFor_99 : decode cX7_slotFor 99 = .ok (.ireturn, 1) := tX7_slotFor_ok (99, .ireturn, 1) (List.mem_of_getElem? (i := 57) rfl)

def tX7_carry : List (Nat × Instr × Nat) := [
  (0, .iload_n 2, 1),
  (1, .ifCond .ge 4, 3),
  (4, .return_, 1),
  (5, .iload_n 1, 1),
  (6, .bipush 121, 2),
  (8, .imul, 1),
  (9, .istore 6, 2),
  (11, .iload_n 2, 1),
  (12, .bipush 121, 2),
  (14, .imul, 1),
  (15, .istore 7, 2),
  (17, .aload_n 0, 1),
  (18, .getfield 37, 3),
  (21, .iconst 1, 1),
  (22, .if_icmp .ne 96, 3),
  (25, .iconst 0, 1),
  (26, .istore 8, 2),
  (28, .iload 8, 2),
  (30, .aload_n 0, 1),
  (31, .getfield 29, 3),
  (34, .getfield 78, 3),
  (37, .if_icmp .ge 78, 3),
  (40, .iload 5, 2),
  (42, .ifCond .le 13, 3),
  (45, .iload 8, 2),
  (47, .iload_n 3, 1),
  (48, .if_icmp .eq 7, 3),
  (51, .iconst 1, 1),
  (52, .goto 4, 3),
  (55, .iconst 0, 1),
  (56, .istore 9, 2),
  (58, .aload_n 0, 1),
  (59, .getfield 44, 3),
  (62, .ifCond .eq 32, 3),
  (65, .aload_n 0, 1),
  (66, .iload 6, 2),
  (68, .iload 8, 2),
  (70, .bipush 14, 2),
  (72, .imul, 1),
  (73, .iadd, 1),
  (74, .iload 7, 2),
  (76, .iload_n 3, 1),
  (77, .bipush 14, 2),
  (79, .imul, 1),
  (80, .iadd, 1),
  (81, .iload 9, 2),
  (83, .bipush 13, 2),
  (85, .iload 9, 2),
  (87, .isub, 1),
  (88, .invokevirtual 110, 3),
  (91, .goto 18, 3),
  (94, .aload_n 0, 1),
  (95, .iload 6, 2),
  (97, .iload 8, 2),
  (99, .iadd, 1),
  (100, .iload 7, 2),
  (102, .iload_n 3, 1),
  (103, .iadd, 1),
  (104, .iload 9, 2),
  (106, .invokevirtual 114, 3),
  (109, .iinc 8 1, 3),
  (112, .goto (-84), 3),
  (115, .goto 61, 3),
  (118, .aload_n 0, 1),
  (119, .getfield 44, 3),
  (122, .ifCond .eq 39, 3),
  (125, .aload_n 0, 1),
  (126, .iload_n 3, 1),
  (127, .iload 4, 2),
  (129, .invokevirtual 118, 3),
  (132, .istore 8, 2),
  (134, .aload_n 0, 1),
  (135, .iload 6, 2),
  (137, .iload 7, 2),
  (139, .iload 8, 2),
  (141, .aload_n 0, 1),
  (142, .getfield 68, 3),
  (145, .aload_n 0, 1),
  (146, .getfield 41, 3),
  (149, .iload 8, 2),
  (151, .isub, 1),
  (152, .invokestatic 105, 3),
  (155, .invokevirtual 110, 3),
  (158, .goto 18, 3),
  (161, .aload_n 0, 1),
  (162, .iload 6, 2),
  (164, .iload 7, 2),
  (166, .aload_n 0, 1),
  (167, .iload_n 3, 1),
  (168, .iload 4, 2),
  (170, .invokevirtual 118, 3),
  (173, .invokevirtual 114, 3),
  (176, .return_, 1)]
set_option maxRecDepth 100000 in
theorem tX7_carry_ok : ∀ q ∈ tX7_carry, decode cX7_carry q.1 = .ok q.2 := by decide +kernel
theorem dX7_carry_0 : decode cX7_carry 0 = .ok (.iload_n 2, 1) := tX7_carry_ok (0, .iload_n 2, 1) (List.mem_of_getElem? (i := 0) rfl)
theorem dX7_carry_1 : decode cX7_carry 1 = .ok (.ifCond .ge 4, 3) := tX7_carry_ok (1, .ifCond .ge 4, 3) (List.mem_of_getElem? (i := 1) rfl)
theorem dX7_carry_4 : decode cX7_carry 4 = .ok (.return_, 1) := tX7_carry_ok (4, .return_, 1) (List.mem_of_getElem? (i := 2) rfl)
theorem dX7_carry_5 : decode cX7_carry 5 = .ok (.iload_n 1, 1) := tX7_carry_ok (5, .iload_n 1, 1) (List.mem_of_getElem? (i := 3) rfl)
theorem dX7_carry_6 : decode cX7_carry 6 = .ok (.bipush 121, 2) := tX7_carry_ok (6, .bipush 121, 2) (List.mem_of_getElem? (i := 4) rfl)
theorem dX7_carry_8 : decode cX7_carry 8 = .ok (.imul, 1) := tX7_carry_ok (8, .imul, 1) (List.mem_of_getElem? (i := 5) rfl)
theorem dX7_carry_9 : decode cX7_carry 9 = .ok (.istore 6, 2) := tX7_carry_ok (9, .istore 6, 2) (List.mem_of_getElem? (i := 6) rfl)
theorem dX7_carry_11 : decode cX7_carry 11 = .ok (.iload_n 2, 1) := tX7_carry_ok (11, .iload_n 2, 1) (List.mem_of_getElem? (i := 7) rfl)
theorem dX7_carry_12 : decode cX7_carry 12 = .ok (.bipush 121, 2) := tX7_carry_ok (12, .bipush 121, 2) (List.mem_of_getElem? (i := 8) rfl)
theorem dX7_carry_14 : decode cX7_carry 14 = .ok (.imul, 1) := tX7_carry_ok (14, .imul, 1) (List.mem_of_getElem? (i := 9) rfl)
theorem dX7_carry_15 : decode cX7_carry 15 = .ok (.istore 7, 2) := tX7_carry_ok (15, .istore 7, 2) (List.mem_of_getElem? (i := 10) rfl)
theorem dX7_carry_17 : decode cX7_carry 17 = .ok (.aload_n 0, 1) := tX7_carry_ok (17, .aload_n 0, 1) (List.mem_of_getElem? (i := 11) rfl)
theorem dX7_carry_18 : decode cX7_carry 18 = .ok (.getfield 37, 3) := tX7_carry_ok (18, .getfield 37, 3) (List.mem_of_getElem? (i := 12) rfl)
theorem dX7_carry_21 : decode cX7_carry 21 = .ok (.iconst 1, 1) := tX7_carry_ok (21, .iconst 1, 1) (List.mem_of_getElem? (i := 13) rfl)
theorem dX7_carry_22 : decode cX7_carry 22 = .ok (.if_icmp .ne 96, 3) := tX7_carry_ok (22, .if_icmp .ne 96, 3) (List.mem_of_getElem? (i := 14) rfl)
theorem dX7_carry_25 : decode cX7_carry 25 = .ok (.iconst 0, 1) := tX7_carry_ok (25, .iconst 0, 1) (List.mem_of_getElem? (i := 15) rfl)
theorem dX7_carry_26 : decode cX7_carry 26 = .ok (.istore 8, 2) := tX7_carry_ok (26, .istore 8, 2) (List.mem_of_getElem? (i := 16) rfl)
theorem dX7_carry_28 : decode cX7_carry 28 = .ok (.iload 8, 2) := tX7_carry_ok (28, .iload 8, 2) (List.mem_of_getElem? (i := 17) rfl)
theorem dX7_carry_30 : decode cX7_carry 30 = .ok (.aload_n 0, 1) := tX7_carry_ok (30, .aload_n 0, 1) (List.mem_of_getElem? (i := 18) rfl)
theorem dX7_carry_31 : decode cX7_carry 31 = .ok (.getfield 29, 3) := tX7_carry_ok (31, .getfield 29, 3) (List.mem_of_getElem? (i := 19) rfl)
theorem dX7_carry_34 : decode cX7_carry 34 = .ok (.getfield 78, 3) := tX7_carry_ok (34, .getfield 78, 3) (List.mem_of_getElem? (i := 20) rfl)
theorem dX7_carry_37 : decode cX7_carry 37 = .ok (.if_icmp .ge 78, 3) := tX7_carry_ok (37, .if_icmp .ge 78, 3) (List.mem_of_getElem? (i := 21) rfl)
theorem dX7_carry_40 : decode cX7_carry 40 = .ok (.iload 5, 2) := tX7_carry_ok (40, .iload 5, 2) (List.mem_of_getElem? (i := 22) rfl)
theorem dX7_carry_42 : decode cX7_carry 42 = .ok (.ifCond .le 13, 3) := tX7_carry_ok (42, .ifCond .le 13, 3) (List.mem_of_getElem? (i := 23) rfl)
theorem dX7_carry_45 : decode cX7_carry 45 = .ok (.iload 8, 2) := tX7_carry_ok (45, .iload 8, 2) (List.mem_of_getElem? (i := 24) rfl)
theorem dX7_carry_47 : decode cX7_carry 47 = .ok (.iload_n 3, 1) := tX7_carry_ok (47, .iload_n 3, 1) (List.mem_of_getElem? (i := 25) rfl)
theorem dX7_carry_48 : decode cX7_carry 48 = .ok (.if_icmp .eq 7, 3) := tX7_carry_ok (48, .if_icmp .eq 7, 3) (List.mem_of_getElem? (i := 26) rfl)
theorem dX7_carry_51 : decode cX7_carry 51 = .ok (.iconst 1, 1) := tX7_carry_ok (51, .iconst 1, 1) (List.mem_of_getElem? (i := 27) rfl)
theorem dX7_carry_52 : decode cX7_carry 52 = .ok (.goto 4, 3) := tX7_carry_ok (52, .goto 4, 3) (List.mem_of_getElem? (i := 28) rfl)
theorem dX7_carry_55 : decode cX7_carry 55 = .ok (.iconst 0, 1) := tX7_carry_ok (55, .iconst 0, 1) (List.mem_of_getElem? (i := 29) rfl)
theorem dX7_carry_56 : decode cX7_carry 56 = .ok (.istore 9, 2) := tX7_carry_ok (56, .istore 9, 2) (List.mem_of_getElem? (i := 30) rfl)
theorem dX7_carry_58 : decode cX7_carry 58 = .ok (.aload_n 0, 1) := tX7_carry_ok (58, .aload_n 0, 1) (List.mem_of_getElem? (i := 31) rfl)
theorem dX7_carry_59 : decode cX7_carry 59 = .ok (.getfield 44, 3) := tX7_carry_ok (59, .getfield 44, 3) (List.mem_of_getElem? (i := 32) rfl)
theorem dX7_carry_62 : decode cX7_carry 62 = .ok (.ifCond .eq 32, 3) := tX7_carry_ok (62, .ifCond .eq 32, 3) (List.mem_of_getElem? (i := 33) rfl)
theorem dX7_carry_65 : decode cX7_carry 65 = .ok (.aload_n 0, 1) := tX7_carry_ok (65, .aload_n 0, 1) (List.mem_of_getElem? (i := 34) rfl)
theorem dX7_carry_66 : decode cX7_carry 66 = .ok (.iload 6, 2) := tX7_carry_ok (66, .iload 6, 2) (List.mem_of_getElem? (i := 35) rfl)
theorem dX7_carry_68 : decode cX7_carry 68 = .ok (.iload 8, 2) := tX7_carry_ok (68, .iload 8, 2) (List.mem_of_getElem? (i := 36) rfl)
theorem dX7_carry_70 : decode cX7_carry 70 = .ok (.bipush 14, 2) := tX7_carry_ok (70, .bipush 14, 2) (List.mem_of_getElem? (i := 37) rfl)
theorem dX7_carry_72 : decode cX7_carry 72 = .ok (.imul, 1) := tX7_carry_ok (72, .imul, 1) (List.mem_of_getElem? (i := 38) rfl)
theorem dX7_carry_73 : decode cX7_carry 73 = .ok (.iadd, 1) := tX7_carry_ok (73, .iadd, 1) (List.mem_of_getElem? (i := 39) rfl)
theorem dX7_carry_74 : decode cX7_carry 74 = .ok (.iload 7, 2) := tX7_carry_ok (74, .iload 7, 2) (List.mem_of_getElem? (i := 40) rfl)
theorem dX7_carry_76 : decode cX7_carry 76 = .ok (.iload_n 3, 1) := tX7_carry_ok (76, .iload_n 3, 1) (List.mem_of_getElem? (i := 41) rfl)
theorem dX7_carry_77 : decode cX7_carry 77 = .ok (.bipush 14, 2) := tX7_carry_ok (77, .bipush 14, 2) (List.mem_of_getElem? (i := 42) rfl)
theorem dX7_carry_79 : decode cX7_carry 79 = .ok (.imul, 1) := tX7_carry_ok (79, .imul, 1) (List.mem_of_getElem? (i := 43) rfl)
theorem dX7_carry_80 : decode cX7_carry 80 = .ok (.iadd, 1) := tX7_carry_ok (80, .iadd, 1) (List.mem_of_getElem? (i := 44) rfl)
theorem dX7_carry_81 : decode cX7_carry 81 = .ok (.iload 9, 2) := tX7_carry_ok (81, .iload 9, 2) (List.mem_of_getElem? (i := 45) rfl)
theorem dX7_carry_83 : decode cX7_carry 83 = .ok (.bipush 13, 2) := tX7_carry_ok (83, .bipush 13, 2) (List.mem_of_getElem? (i := 46) rfl)
theorem dX7_carry_85 : decode cX7_carry 85 = .ok (.iload 9, 2) := tX7_carry_ok (85, .iload 9, 2) (List.mem_of_getElem? (i := 47) rfl)
theorem dX7_carry_87 : decode cX7_carry 87 = .ok (.isub, 1) := tX7_carry_ok (87, .isub, 1) (List.mem_of_getElem? (i := 48) rfl)
theorem dX7_carry_88 : decode cX7_carry 88 = .ok (.invokevirtual 110, 3) := tX7_carry_ok (88, .invokevirtual 110, 3) (List.mem_of_getElem? (i := 49) rfl)
theorem dX7_carry_91 : decode cX7_carry 91 = .ok (.goto 18, 3) := tX7_carry_ok (91, .goto 18, 3) (List.mem_of_getElem? (i := 50) rfl)
theorem dX7_carry_94 : decode cX7_carry 94 = .ok (.aload_n 0, 1) := tX7_carry_ok (94, .aload_n 0, 1) (List.mem_of_getElem? (i := 51) rfl)
theorem dX7_carry_95 : decode cX7_carry 95 = .ok (.iload 6, 2) := tX7_carry_ok (95, .iload 6, 2) (List.mem_of_getElem? (i := 52) rfl)
theorem dX7_carry_97 : decode cX7_carry 97 = .ok (.iload 8, 2) := tX7_carry_ok (97, .iload 8, 2) (List.mem_of_getElem? (i := 53) rfl)
theorem dX7_carry_99 : decode cX7_carry 99 = .ok (.iadd, 1) := tX7_carry_ok (99, .iadd, 1) (List.mem_of_getElem? (i := 54) rfl)
theorem dX7_carry_100 : decode cX7_carry 100 = .ok (.iload 7, 2) := tX7_carry_ok (100, .iload 7, 2) (List.mem_of_getElem? (i := 55) rfl)
theorem dX7_carry_102 : decode cX7_carry 102 = .ok (.iload_n 3, 1) := tX7_carry_ok (102, .iload_n 3, 1) (List.mem_of_getElem? (i := 56) rfl)
theorem dX7_carry_103 : decode cX7_carry 103 = .ok (.iadd, 1) := tX7_carry_ok (103, .iadd, 1) (List.mem_of_getElem? (i := 57) rfl)
theorem dX7_carry_104 : decode cX7_carry 104 = .ok (.iload 9, 2) := tX7_carry_ok (104, .iload 9, 2) (List.mem_of_getElem? (i := 58) rfl)
theorem dX7_carry_106 : decode cX7_carry 106 = .ok (.invokevirtual 114, 3) := tX7_carry_ok (106, .invokevirtual 114, 3) (List.mem_of_getElem? (i := 59) rfl)
theorem dX7_carry_109 : decode cX7_carry 109 = .ok (.iinc 8 1, 3) := tX7_carry_ok (109, .iinc 8 1, 3) (List.mem_of_getElem? (i := 60) rfl)
theorem dX7_carry_112 : decode cX7_carry 112 = .ok (.goto (-84), 3) := tX7_carry_ok (112, .goto (-84), 3) (List.mem_of_getElem? (i := 61) rfl)
theorem dX7_carry_115 : decode cX7_carry 115 = .ok (.goto 61, 3) := tX7_carry_ok (115, .goto 61, 3) (List.mem_of_getElem? (i := 62) rfl)
theorem dX7_carry_118 : decode cX7_carry 118 = .ok (.aload_n 0, 1) := tX7_carry_ok (118, .aload_n 0, 1) (List.mem_of_getElem? (i := 63) rfl)
theorem dX7_carry_119 : decode cX7_carry 119 = .ok (.getfield 44, 3) := tX7_carry_ok (119, .getfield 44, 3) (List.mem_of_getElem? (i := 64) rfl)
theorem dX7_carry_122 : decode cX7_carry 122 = .ok (.ifCond .eq 39, 3) := tX7_carry_ok (122, .ifCond .eq 39, 3) (List.mem_of_getElem? (i := 65) rfl)
theorem dX7_carry_125 : decode cX7_carry 125 = .ok (.aload_n 0, 1) := tX7_carry_ok (125, .aload_n 0, 1) (List.mem_of_getElem? (i := 66) rfl)
theorem dX7_carry_126 : decode cX7_carry 126 = .ok (.iload_n 3, 1) := tX7_carry_ok (126, .iload_n 3, 1) (List.mem_of_getElem? (i := 67) rfl)
theorem dX7_carry_127 : decode cX7_carry 127 = .ok (.iload 4, 2) := tX7_carry_ok (127, .iload 4, 2) (List.mem_of_getElem? (i := 68) rfl)
theorem dX7_carry_129 : decode cX7_carry 129 = .ok (.invokevirtual 118, 3) := tX7_carry_ok (129, .invokevirtual 118, 3) (List.mem_of_getElem? (i := 69) rfl)
theorem dX7_carry_132 : decode cX7_carry 132 = .ok (.istore 8, 2) := tX7_carry_ok (132, .istore 8, 2) (List.mem_of_getElem? (i := 70) rfl)
theorem dX7_carry_134 : decode cX7_carry 134 = .ok (.aload_n 0, 1) := tX7_carry_ok (134, .aload_n 0, 1) (List.mem_of_getElem? (i := 71) rfl)
theorem dX7_carry_135 : decode cX7_carry 135 = .ok (.iload 6, 2) := tX7_carry_ok (135, .iload 6, 2) (List.mem_of_getElem? (i := 72) rfl)
theorem dX7_carry_137 : decode cX7_carry 137 = .ok (.iload 7, 2) := tX7_carry_ok (137, .iload 7, 2) (List.mem_of_getElem? (i := 73) rfl)
theorem dX7_carry_139 : decode cX7_carry 139 = .ok (.iload 8, 2) := tX7_carry_ok (139, .iload 8, 2) (List.mem_of_getElem? (i := 74) rfl)
theorem dX7_carry_141 : decode cX7_carry 141 = .ok (.aload_n 0, 1) := tX7_carry_ok (141, .aload_n 0, 1) (List.mem_of_getElem? (i := 75) rfl)
theorem dX7_carry_142 : decode cX7_carry 142 = .ok (.getfield 68, 3) := tX7_carry_ok (142, .getfield 68, 3) (List.mem_of_getElem? (i := 76) rfl)
theorem dX7_carry_145 : decode cX7_carry 145 = .ok (.aload_n 0, 1) := tX7_carry_ok (145, .aload_n 0, 1) (List.mem_of_getElem? (i := 77) rfl)
theorem dX7_carry_146 : decode cX7_carry 146 = .ok (.getfield 41, 3) := tX7_carry_ok (146, .getfield 41, 3) (List.mem_of_getElem? (i := 78) rfl)
theorem dX7_carry_149 : decode cX7_carry 149 = .ok (.iload 8, 2) := tX7_carry_ok (149, .iload 8, 2) (List.mem_of_getElem? (i := 79) rfl)
theorem dX7_carry_151 : decode cX7_carry 151 = .ok (.isub, 1) := tX7_carry_ok (151, .isub, 1) (List.mem_of_getElem? (i := 80) rfl)
theorem dX7_carry_152 : decode cX7_carry 152 = .ok (.invokestatic 105, 3) := tX7_carry_ok (152, .invokestatic 105, 3) (List.mem_of_getElem? (i := 81) rfl)
theorem dX7_carry_155 : decode cX7_carry 155 = .ok (.invokevirtual 110, 3) := tX7_carry_ok (155, .invokevirtual 110, 3) (List.mem_of_getElem? (i := 82) rfl)
theorem dX7_carry_158 : decode cX7_carry 158 = .ok (.goto 18, 3) := tX7_carry_ok (158, .goto 18, 3) (List.mem_of_getElem? (i := 83) rfl)
theorem dX7_carry_161 : decode cX7_carry 161 = .ok (.aload_n 0, 1) := tX7_carry_ok (161, .aload_n 0, 1) (List.mem_of_getElem? (i := 84) rfl)
theorem dX7_carry_162 : decode cX7_carry 162 = .ok (.iload 6, 2) := tX7_carry_ok (162, .iload 6, 2) (List.mem_of_getElem? (i := 85) rfl)
theorem dX7_carry_164 : decode cX7_carry 164 = .ok (.iload 7, 2) := tX7_carry_ok (164, .iload 7, 2) (List.mem_of_getElem? (i := 86) rfl)
theorem dX7_carry_166 : decode cX7_carry 166 = .ok (.aload_n 0, 1) := tX7_carry_ok (166, .aload_n 0, 1) (List.mem_of_getElem? (i := 87) rfl)
theorem dX7_carry_167 : decode cX7_carry 167 = .ok (.iload_n 3, 1) := tX7_carry_ok (167, .iload_n 3, 1) (List.mem_of_getElem? (i := 88) rfl)
theorem dX7_carry_168 : decode cX7_carry 168 = .ok (.iload 4, 2) := tX7_carry_ok (168, .iload 4, 2) (List.mem_of_getElem? (i := 89) rfl)
theorem dX7_carry_170 : decode cX7_carry 170 = .ok (.invokevirtual 118, 3) := tX7_carry_ok (170, .invokevirtual 118, 3) (List.mem_of_getElem? (i := 90) rfl)
theorem dX7_carry_173 : decode cX7_carry 173 = .ok (.invokevirtual 114, 3) := tX7_carry_ok (173, .invokevirtual 114, 3) (List.mem_of_getElem? (i := 91) rfl)
theorem dX7_carry_176 : decode cX7_carry 176 = .ok (.return_, 1) := tX7_carry_ok (176, .return_, 1) (List.mem_of_getElem? (i := 92) rfl)

def tX7_gainOf : List (Nat × Instr × Nat) := [
  (0, .aload_n 0, 1),
  (1, .getfield 37, 3),
  (4, .iconst 3, 1),
  (5, .if_icmp .ne 13, 3),
  (8, .aload_n 0, 1),
  (9, .getfield 29, 3),
  (12, .getfield 121, 3),
  (15, .iload_n 1, 1),
  (16, .iaload, 1),
  (17, .ireturn, 1),
  (18, .iload_n 2, 1),
  (19, .bipush 67, 2),
  (21, .idiv, 1),
  (22, .bipush 33, 2),
  (24, .isub, 1),
  (25, .istore_n 3, 1),
  (26, .aload_n 0, 1),
  (27, .getfield 37, 3),
  (30, .iconst 2, 1),
  (31, .if_icmp .ne 5, 3),
  (34, .iload_n 3, 1),
  (35, .ireturn, 1),
  (36, .iload_n 3, 1),
  (37, .ifCond .ne 7, 3),
  (40, .iconst 1, 1),
  (41, .goto 4, 3),
  (44, .iconst 0, 1),
  (45, .ireturn, 1)]
set_option maxRecDepth 100000 in
theorem tX7_gainOf_ok : ∀ q ∈ tX7_gainOf, decode cX7_gainOf q.1 = .ok q.2 := by decide +kernel
theorem dX7_gainOf_0 : decode cX7_gainOf 0 = .ok (.aload_n 0, 1) := tX7_gainOf_ok (0, .aload_n 0, 1) (List.mem_of_getElem? (i := 0) rfl)
theorem dX7_gainOf_1 : decode cX7_gainOf 1 = .ok (.getfield 37, 3) := tX7_gainOf_ok (1, .getfield 37, 3) (List.mem_of_getElem? (i := 1) rfl)
theorem dX7_gainOf_4 : decode cX7_gainOf 4 = .ok (.iconst 3, 1) := tX7_gainOf_ok (4, .iconst 3, 1) (List.mem_of_getElem? (i := 2) rfl)
theorem dX7_gainOf_5 : decode cX7_gainOf 5 = .ok (.if_icmp .ne 13, 3) := tX7_gainOf_ok (5, .if_icmp .ne 13, 3) (List.mem_of_getElem? (i := 3) rfl)
theorem dX7_gainOf_8 : decode cX7_gainOf 8 = .ok (.aload_n 0, 1) := tX7_gainOf_ok (8, .aload_n 0, 1) (List.mem_of_getElem? (i := 4) rfl)
theorem dX7_gainOf_9 : decode cX7_gainOf 9 = .ok (.getfield 29, 3) := tX7_gainOf_ok (9, .getfield 29, 3) (List.mem_of_getElem? (i := 5) rfl)
theorem dX7_gainOf_12 : decode cX7_gainOf 12 = .ok (.getfield 121, 3) := tX7_gainOf_ok (12, .getfield 121, 3) (List.mem_of_getElem? (i := 6) rfl)
theorem dX7_gainOf_15 : decode cX7_gainOf 15 = .ok (.iload_n 1, 1) := tX7_gainOf_ok (15, .iload_n 1, 1) (List.mem_of_getElem? (i := 7) rfl)
theorem dX7_gainOf_16 : decode cX7_gainOf 16 = .ok (.iaload, 1) := tX7_gainOf_ok (16, .iaload, 1) (List.mem_of_getElem? (i := 8) rfl)
theorem dX7_gainOf_17 : decode cX7_gainOf 17 = .ok (.ireturn, 1) := tX7_gainOf_ok (17, .ireturn, 1) (List.mem_of_getElem? (i := 9) rfl)
theorem dX7_gainOf_18 : decode cX7_gainOf 18 = .ok (.iload_n 2, 1) := tX7_gainOf_ok (18, .iload_n 2, 1) (List.mem_of_getElem? (i := 10) rfl)
theorem dX7_gainOf_19 : decode cX7_gainOf 19 = .ok (.bipush 67, 2) := tX7_gainOf_ok (19, .bipush 67, 2) (List.mem_of_getElem? (i := 11) rfl)
theorem dX7_gainOf_21 : decode cX7_gainOf 21 = .ok (.idiv, 1) := tX7_gainOf_ok (21, .idiv, 1) (List.mem_of_getElem? (i := 12) rfl)
theorem dX7_gainOf_22 : decode cX7_gainOf 22 = .ok (.bipush 33, 2) := tX7_gainOf_ok (22, .bipush 33, 2) (List.mem_of_getElem? (i := 13) rfl)
theorem dX7_gainOf_24 : decode cX7_gainOf 24 = .ok (.isub, 1) := tX7_gainOf_ok (24, .isub, 1) (List.mem_of_getElem? (i := 14) rfl)
theorem dX7_gainOf_25 : decode cX7_gainOf 25 = .ok (.istore_n 3, 1) := tX7_gainOf_ok (25, .istore_n 3, 1) (List.mem_of_getElem? (i := 15) rfl)
theorem dX7_gainOf_26 : decode cX7_gainOf 26 = .ok (.aload_n 0, 1) := tX7_gainOf_ok (26, .aload_n 0, 1) (List.mem_of_getElem? (i := 16) rfl)
theorem dX7_gainOf_27 : decode cX7_gainOf 27 = .ok (.getfield 37, 3) := tX7_gainOf_ok (27, .getfield 37, 3) (List.mem_of_getElem? (i := 17) rfl)
theorem dX7_gainOf_30 : decode cX7_gainOf 30 = .ok (.iconst 2, 1) := tX7_gainOf_ok (30, .iconst 2, 1) (List.mem_of_getElem? (i := 18) rfl)
theorem dX7_gainOf_31 : decode cX7_gainOf 31 = .ok (.if_icmp .ne 5, 3) := tX7_gainOf_ok (31, .if_icmp .ne 5, 3) (List.mem_of_getElem? (i := 19) rfl)
theorem dX7_gainOf_34 : decode cX7_gainOf 34 = .ok (.iload_n 3, 1) := tX7_gainOf_ok (34, .iload_n 3, 1) (List.mem_of_getElem? (i := 20) rfl)
theorem dX7_gainOf_35 : decode cX7_gainOf 35 = .ok (.ireturn, 1) := tX7_gainOf_ok (35, .ireturn, 1) (List.mem_of_getElem? (i := 21) rfl)
theorem dX7_gainOf_36 : decode cX7_gainOf 36 = .ok (.iload_n 3, 1) := tX7_gainOf_ok (36, .iload_n 3, 1) (List.mem_of_getElem? (i := 22) rfl)
theorem dX7_gainOf_37 : decode cX7_gainOf 37 = .ok (.ifCond .ne 7, 3) := tX7_gainOf_ok (37, .ifCond .ne 7, 3) (List.mem_of_getElem? (i := 23) rfl)
theorem dX7_gainOf_40 : decode cX7_gainOf 40 = .ok (.iconst 1, 1) := tX7_gainOf_ok (40, .iconst 1, 1) (List.mem_of_getElem? (i := 24) rfl)
theorem dX7_gainOf_41 : decode cX7_gainOf 41 = .ok (.goto 4, 3) := tX7_gainOf_ok (41, .goto 4, 3) (List.mem_of_getElem? (i := 25) rfl)
theorem dX7_gainOf_44 : decode cX7_gainOf 44 = .ok (.iconst 0, 1) := tX7_gainOf_ok (44, .iconst 0, 1) (List.mem_of_getElem? (i := 26) rfl)
theorem dX7_gainOf_45 : decode cX7_gainOf 45 = .ok (.ireturn, 1) := tX7_gainOf_ok (45, .ireturn, 1) (List.mem_of_getElem? (i := 27) rfl)

def tX7_mostGain : List (Nat × Instr × Nat) := [
  (0, .aload_n 0, 1),
  (1, .getfield 37, 3),
  (4, .iconst 3, 1),
  (5, .if_icmp .ne 6, 3),
  (8, .bipush 9, 2),
  (10, .ireturn, 1),
  (11, .aload_n 0, 1),
  (12, .getfield 37, 3),
  (15, .iconst 2, 1),
  (16, .if_icmp .ne 8, 3),
  (19, .bipush 30, 2),
  (21, .goto 4, 3),
  (24, .iconst 1, 1),
  (25, .ireturn, 1)]
set_option maxRecDepth 100000 in
theorem tX7_mostGain_ok : ∀ q ∈ tX7_mostGain, decode cX7_mostGain q.1 = .ok q.2 := by decide +kernel
theorem dX7_mostGain_0 : decode cX7_mostGain 0 = .ok (.aload_n 0, 1) := tX7_mostGain_ok (0, .aload_n 0, 1) (List.mem_of_getElem? (i := 0) rfl)
theorem dX7_mostGain_1 : decode cX7_mostGain 1 = .ok (.getfield 37, 3) := tX7_mostGain_ok (1, .getfield 37, 3) (List.mem_of_getElem? (i := 1) rfl)
theorem dX7_mostGain_4 : decode cX7_mostGain 4 = .ok (.iconst 3, 1) := tX7_mostGain_ok (4, .iconst 3, 1) (List.mem_of_getElem? (i := 2) rfl)
theorem dX7_mostGain_5 : decode cX7_mostGain 5 = .ok (.if_icmp .ne 6, 3) := tX7_mostGain_ok (5, .if_icmp .ne 6, 3) (List.mem_of_getElem? (i := 3) rfl)
theorem dX7_mostGain_8 : decode cX7_mostGain 8 = .ok (.bipush 9, 2) := tX7_mostGain_ok (8, .bipush 9, 2) (List.mem_of_getElem? (i := 4) rfl)
theorem dX7_mostGain_10 : decode cX7_mostGain 10 = .ok (.ireturn, 1) := tX7_mostGain_ok (10, .ireturn, 1) (List.mem_of_getElem? (i := 5) rfl)
theorem dX7_mostGain_11 : decode cX7_mostGain 11 = .ok (.aload_n 0, 1) := tX7_mostGain_ok (11, .aload_n 0, 1) (List.mem_of_getElem? (i := 6) rfl)
theorem dX7_mostGain_12 : decode cX7_mostGain 12 = .ok (.getfield 37, 3) := tX7_mostGain_ok (12, .getfield 37, 3) (List.mem_of_getElem? (i := 7) rfl)
theorem dX7_mostGain_15 : decode cX7_mostGain 15 = .ok (.iconst 2, 1) := tX7_mostGain_ok (15, .iconst 2, 1) (List.mem_of_getElem? (i := 8) rfl)
theorem dX7_mostGain_16 : decode cX7_mostGain 16 = .ok (.if_icmp .ne 8, 3) := tX7_mostGain_ok (16, .if_icmp .ne 8, 3) (List.mem_of_getElem? (i := 9) rfl)
theorem dX7_mostGain_19 : decode cX7_mostGain 19 = .ok (.bipush 30, 2) := tX7_mostGain_ok (19, .bipush 30, 2) (List.mem_of_getElem? (i := 10) rfl)
theorem dX7_mostGain_21 : decode cX7_mostGain 21 = .ok (.goto 4, 3) := tX7_mostGain_ok (21, .goto 4, 3) (List.mem_of_getElem? (i := 11) rfl)
theorem dX7_mostGain_24 : decode cX7_mostGain 24 = .ok (.iconst 1, 1) := tX7_mostGain_ok (24, .iconst 1, 1) (List.mem_of_getElem? (i := 12) rfl)
theorem dX7_mostGain_25 : decode cX7_mostGain 25 = .ok (.ireturn, 1) := tX7_mostGain_ok (25, .ireturn, 1) (List.mem_of_getElem? (i := 13) rfl)

def tX7_shift : List (Nat × Instr × Nat) := [
  (0, .iconst 0, 1),
  (1, .istore 5, 2),
  (3, .iload 5, 2),
  (5, .iload 4, 2),
  (7, .if_icmp .gt 32, 3),
  (10, .aload_n 0, 1),
  (11, .getfield 26, 3),
  (14, .iload_n 2, 1),
  (15, .iload_n 3, 1),
  (16, .iadd, 1),
  (17, .iload 5, 2),
  (19, .iadd, 1),
  (20, .dup2, 1),
  (21, .laload, 1),
  (22, .aload_n 0, 1),
  (23, .getfield 22, 3),
  (26, .iload_n 1, 1),
  (27, .iload 5, 2),
  (29, .iadd, 1),
  (30, .laload, 1),
  (31, .ladd, 1),
  (32, .lastore, 1),
  (33, .iinc 5 1, 3),
  (36, .goto (-33), 3),
  (39, .return_, 1)]
set_option maxRecDepth 100000 in
theorem tX7_shift_ok : ∀ q ∈ tX7_shift, decode cX7_shift q.1 = .ok q.2 := by decide +kernel
theorem dX7_shift_0 : decode cX7_shift 0 = .ok (.iconst 0, 1) := tX7_shift_ok (0, .iconst 0, 1) (List.mem_of_getElem? (i := 0) rfl)
theorem dX7_shift_1 : decode cX7_shift 1 = .ok (.istore 5, 2) := tX7_shift_ok (1, .istore 5, 2) (List.mem_of_getElem? (i := 1) rfl)
theorem dX7_shift_3 : decode cX7_shift 3 = .ok (.iload 5, 2) := tX7_shift_ok (3, .iload 5, 2) (List.mem_of_getElem? (i := 2) rfl)
theorem dX7_shift_5 : decode cX7_shift 5 = .ok (.iload 4, 2) := tX7_shift_ok (5, .iload 4, 2) (List.mem_of_getElem? (i := 3) rfl)
theorem dX7_shift_7 : decode cX7_shift 7 = .ok (.if_icmp .gt 32, 3) := tX7_shift_ok (7, .if_icmp .gt 32, 3) (List.mem_of_getElem? (i := 4) rfl)
theorem dX7_shift_10 : decode cX7_shift 10 = .ok (.aload_n 0, 1) := tX7_shift_ok (10, .aload_n 0, 1) (List.mem_of_getElem? (i := 5) rfl)
theorem dX7_shift_11 : decode cX7_shift 11 = .ok (.getfield 26, 3) := tX7_shift_ok (11, .getfield 26, 3) (List.mem_of_getElem? (i := 6) rfl)
theorem dX7_shift_14 : decode cX7_shift 14 = .ok (.iload_n 2, 1) := tX7_shift_ok (14, .iload_n 2, 1) (List.mem_of_getElem? (i := 7) rfl)
theorem dX7_shift_15 : decode cX7_shift 15 = .ok (.iload_n 3, 1) := tX7_shift_ok (15, .iload_n 3, 1) (List.mem_of_getElem? (i := 8) rfl)
theorem dX7_shift_16 : decode cX7_shift 16 = .ok (.iadd, 1) := tX7_shift_ok (16, .iadd, 1) (List.mem_of_getElem? (i := 9) rfl)
theorem dX7_shift_17 : decode cX7_shift 17 = .ok (.iload 5, 2) := tX7_shift_ok (17, .iload 5, 2) (List.mem_of_getElem? (i := 10) rfl)
theorem dX7_shift_19 : decode cX7_shift 19 = .ok (.iadd, 1) := tX7_shift_ok (19, .iadd, 1) (List.mem_of_getElem? (i := 11) rfl)
theorem dX7_shift_20 : decode cX7_shift 20 = .ok (.dup2, 1) := tX7_shift_ok (20, .dup2, 1) (List.mem_of_getElem? (i := 12) rfl)
theorem dX7_shift_21 : decode cX7_shift 21 = .ok (.laload, 1) := tX7_shift_ok (21, .laload, 1) (List.mem_of_getElem? (i := 13) rfl)
theorem dX7_shift_22 : decode cX7_shift 22 = .ok (.aload_n 0, 1) := tX7_shift_ok (22, .aload_n 0, 1) (List.mem_of_getElem? (i := 14) rfl)
theorem dX7_shift_23 : decode cX7_shift 23 = .ok (.getfield 22, 3) := tX7_shift_ok (23, .getfield 22, 3) (List.mem_of_getElem? (i := 15) rfl)
theorem dX7_shift_26 : decode cX7_shift 26 = .ok (.iload_n 1, 1) := tX7_shift_ok (26, .iload_n 1, 1) (List.mem_of_getElem? (i := 16) rfl)
theorem dX7_shift_27 : decode cX7_shift 27 = .ok (.iload 5, 2) := tX7_shift_ok (27, .iload 5, 2) (List.mem_of_getElem? (i := 17) rfl)
theorem dX7_shift_29 : decode cX7_shift 29 = .ok (.iadd, 1) := tX7_shift_ok (29, .iadd, 1) (List.mem_of_getElem? (i := 18) rfl)
theorem dX7_shift_30 : decode cX7_shift 30 = .ok (.laload, 1) := tX7_shift_ok (30, .laload, 1) (List.mem_of_getElem? (i := 19) rfl)
theorem dX7_shift_31 : decode cX7_shift 31 = .ok (.ladd, 1) := tX7_shift_ok (31, .ladd, 1) (List.mem_of_getElem? (i := 20) rfl)
theorem dX7_shift_32 : decode cX7_shift 32 = .ok (.lastore, 1) := tX7_shift_ok (32, .lastore, 1) (List.mem_of_getElem? (i := 21) rfl)
theorem dX7_shift_33 : decode cX7_shift 33 = .ok (.iinc 5 1, 3) := tX7_shift_ok (33, .iinc 5 1, 3) (List.mem_of_getElem? (i := 22) rfl)
theorem dX7_shift_36 : decode cX7_shift 36 = .ok (.goto (-33), 3) := tX7_shift_ok (36, .goto (-33), 3) (List.mem_of_getElem? (i := 23) rfl)
theorem dX7_shift_39 : decode cX7_shift 39 = .ok (.return_, 1) := tX7_shift_ok (39, .return_, 1) (List.mem_of_getElem? (i := 24) rfl)

def tX7_improve : List (Nat × Instr × Nat) := [
  (0, .aload_n 0, 1),
  (1, .getfield 22, 3),
  (4, .iload_n 1, 1),
  (5, .laload, 1),
  (6, .lconst 0, 1),
  (7, .lcmp, 1),
  (8, .ifCond .le 28, 3),
  (11, .aload_n 0, 1),
  (12, .getfield 26, 3),
  (15, .iload_n 2, 1),
  (16, .aload_n 0, 1),
  (17, .aload_n 0, 1),
  (18, .getfield 26, 3),
  (21, .iload_n 2, 1),
  (22, .laload, 1),
  (23, .aload_n 0, 1),
  (24, .getfield 22, 3),
  (27, .iload_n 1, 1),
  (28, .laload, 1),
  (29, .iload_n 3, 1),
  (30, .i2l, 1),
  (31, .ladd, 1),
  (32, .invokevirtual 55, 3),
  (35, .lastore, 1),
  (36, .return_, 1)]
set_option maxRecDepth 100000 in
theorem tX7_improve_ok : ∀ q ∈ tX7_improve, decode cX7_improve q.1 = .ok q.2 := by decide +kernel
theorem dX7_improve_0 : decode cX7_improve 0 = .ok (.aload_n 0, 1) := tX7_improve_ok (0, .aload_n 0, 1) (List.mem_of_getElem? (i := 0) rfl)
theorem dX7_improve_1 : decode cX7_improve 1 = .ok (.getfield 22, 3) := tX7_improve_ok (1, .getfield 22, 3) (List.mem_of_getElem? (i := 1) rfl)
theorem dX7_improve_4 : decode cX7_improve 4 = .ok (.iload_n 1, 1) := tX7_improve_ok (4, .iload_n 1, 1) (List.mem_of_getElem? (i := 2) rfl)
theorem dX7_improve_5 : decode cX7_improve 5 = .ok (.laload, 1) := tX7_improve_ok (5, .laload, 1) (List.mem_of_getElem? (i := 3) rfl)
theorem dX7_improve_6 : decode cX7_improve 6 = .ok (.lconst 0, 1) := tX7_improve_ok (6, .lconst 0, 1) (List.mem_of_getElem? (i := 4) rfl)
theorem dX7_improve_7 : decode cX7_improve 7 = .ok (.lcmp, 1) := tX7_improve_ok (7, .lcmp, 1) (List.mem_of_getElem? (i := 5) rfl)
theorem dX7_improve_8 : decode cX7_improve 8 = .ok (.ifCond .le 28, 3) := tX7_improve_ok (8, .ifCond .le 28, 3) (List.mem_of_getElem? (i := 6) rfl)
theorem dX7_improve_11 : decode cX7_improve 11 = .ok (.aload_n 0, 1) := tX7_improve_ok (11, .aload_n 0, 1) (List.mem_of_getElem? (i := 7) rfl)
theorem dX7_improve_12 : decode cX7_improve 12 = .ok (.getfield 26, 3) := tX7_improve_ok (12, .getfield 26, 3) (List.mem_of_getElem? (i := 8) rfl)
theorem dX7_improve_15 : decode cX7_improve 15 = .ok (.iload_n 2, 1) := tX7_improve_ok (15, .iload_n 2, 1) (List.mem_of_getElem? (i := 9) rfl)
theorem dX7_improve_16 : decode cX7_improve 16 = .ok (.aload_n 0, 1) := tX7_improve_ok (16, .aload_n 0, 1) (List.mem_of_getElem? (i := 10) rfl)
theorem dX7_improve_17 : decode cX7_improve 17 = .ok (.aload_n 0, 1) := tX7_improve_ok (17, .aload_n 0, 1) (List.mem_of_getElem? (i := 11) rfl)
theorem dX7_improve_18 : decode cX7_improve 18 = .ok (.getfield 26, 3) := tX7_improve_ok (18, .getfield 26, 3) (List.mem_of_getElem? (i := 12) rfl)
theorem dX7_improve_21 : decode cX7_improve 21 = .ok (.iload_n 2, 1) := tX7_improve_ok (21, .iload_n 2, 1) (List.mem_of_getElem? (i := 13) rfl)
theorem dX7_improve_22 : decode cX7_improve 22 = .ok (.laload, 1) := tX7_improve_ok (22, .laload, 1) (List.mem_of_getElem? (i := 14) rfl)
theorem dX7_improve_23 : decode cX7_improve 23 = .ok (.aload_n 0, 1) := tX7_improve_ok (23, .aload_n 0, 1) (List.mem_of_getElem? (i := 15) rfl)
theorem dX7_improve_24 : decode cX7_improve 24 = .ok (.getfield 22, 3) := tX7_improve_ok (24, .getfield 22, 3) (List.mem_of_getElem? (i := 16) rfl)
theorem dX7_improve_27 : decode cX7_improve 27 = .ok (.iload_n 1, 1) := tX7_improve_ok (27, .iload_n 1, 1) (List.mem_of_getElem? (i := 17) rfl)
theorem dX7_improve_28 : decode cX7_improve 28 = .ok (.laload, 1) := tX7_improve_ok (28, .laload, 1) (List.mem_of_getElem? (i := 18) rfl)
theorem dX7_improve_29 : decode cX7_improve 29 = .ok (.iload_n 3, 1) := tX7_improve_ok (29, .iload_n 3, 1) (List.mem_of_getElem? (i := 19) rfl)
theorem dX7_improve_30 : decode cX7_improve 30 = .ok (.i2l, 1) := tX7_improve_ok (30, .i2l, 1) (List.mem_of_getElem? (i := 20) rfl)
theorem dX7_improve_31 : decode cX7_improve 31 = .ok (.ladd, 1) := tX7_improve_ok (31, .ladd, 1) (List.mem_of_getElem? (i := 21) rfl)
theorem dX7_improve_32 : decode cX7_improve 32 = .ok (.invokevirtual 55, 3) := tX7_improve_ok (32, .invokevirtual 55, 3) (List.mem_of_getElem? (i := 22) rfl)
theorem dX7_improve_35 : decode cX7_improve 35 = .ok (.lastore, 1) := tX7_improve_ok (35, .lastore, 1) (List.mem_of_getElem? (i := 23) rfl)
theorem dX7_improve_36 : decode cX7_improve 36 = .ok (.return_, 1) := tX7_improve_ok (36, .return_, 1) (List.mem_of_getElem? (i := 24) rfl)

def tX7_better : List (Nat × Instr × Nat) := [
  (0, .lload_n 1, 1),
  (1, .lconst 0, 1),
  (2, .lcmp, 1),
  (3, .ifCond .eq 9, 3),
  (6, .lload_n 3, 1),
  (7, .lconst 0, 1),
  (8, .lcmp, 1),
  (9, .ifCond .ne 7, 3),
  (12, .lload_n 1, 1),
  (13, .lload_n 3, 1),
  (14, .ladd, 1),
  (15, .lreturn, 1),
  (16, .aload_n 0, 1),
  (17, .getfield 52, 3),
  (20, .lload_n 1, 1),
  (21, .lload_n 3, 1),
  (22, .lcmp, 1),
  (23, .ifCond .le 7, 3),
  (26, .iconst 1, 1),
  (27, .goto 4, 3),
  (30, .iconst 0, 1),
  (31, .if_icmp .ne 7, 3),
  (34, .lload_n 1, 1),
  (35, .goto 4, 3),
  (38, .lload_n 3, 1),
  (39, .lreturn, 1)]
set_option maxRecDepth 100000 in
theorem tX7_better_ok : ∀ q ∈ tX7_better, decode cX7_better q.1 = .ok q.2 := by decide +kernel
theorem dX7_better_0 : decode cX7_better 0 = .ok (.lload_n 1, 1) := tX7_better_ok (0, .lload_n 1, 1) (List.mem_of_getElem? (i := 0) rfl)
theorem dX7_better_1 : decode cX7_better 1 = .ok (.lconst 0, 1) := tX7_better_ok (1, .lconst 0, 1) (List.mem_of_getElem? (i := 1) rfl)
theorem dX7_better_2 : decode cX7_better 2 = .ok (.lcmp, 1) := tX7_better_ok (2, .lcmp, 1) (List.mem_of_getElem? (i := 2) rfl)
theorem dX7_better_3 : decode cX7_better 3 = .ok (.ifCond .eq 9, 3) := tX7_better_ok (3, .ifCond .eq 9, 3) (List.mem_of_getElem? (i := 3) rfl)
theorem dX7_better_6 : decode cX7_better 6 = .ok (.lload_n 3, 1) := tX7_better_ok (6, .lload_n 3, 1) (List.mem_of_getElem? (i := 4) rfl)
theorem dX7_better_7 : decode cX7_better 7 = .ok (.lconst 0, 1) := tX7_better_ok (7, .lconst 0, 1) (List.mem_of_getElem? (i := 5) rfl)
theorem dX7_better_8 : decode cX7_better 8 = .ok (.lcmp, 1) := tX7_better_ok (8, .lcmp, 1) (List.mem_of_getElem? (i := 6) rfl)
theorem dX7_better_9 : decode cX7_better 9 = .ok (.ifCond .ne 7, 3) := tX7_better_ok (9, .ifCond .ne 7, 3) (List.mem_of_getElem? (i := 7) rfl)
theorem dX7_better_12 : decode cX7_better 12 = .ok (.lload_n 1, 1) := tX7_better_ok (12, .lload_n 1, 1) (List.mem_of_getElem? (i := 8) rfl)
theorem dX7_better_13 : decode cX7_better 13 = .ok (.lload_n 3, 1) := tX7_better_ok (13, .lload_n 3, 1) (List.mem_of_getElem? (i := 9) rfl)
theorem dX7_better_14 : decode cX7_better 14 = .ok (.ladd, 1) := tX7_better_ok (14, .ladd, 1) (List.mem_of_getElem? (i := 10) rfl)
theorem dX7_better_15 : decode cX7_better 15 = .ok (.lreturn, 1) := tX7_better_ok (15, .lreturn, 1) (List.mem_of_getElem? (i := 11) rfl)
theorem dX7_better_16 : decode cX7_better 16 = .ok (.aload_n 0, 1) := tX7_better_ok (16, .aload_n 0, 1) (List.mem_of_getElem? (i := 12) rfl)
theorem dX7_better_17 : decode cX7_better 17 = .ok (.getfield 52, 3) := tX7_better_ok (17, .getfield 52, 3) (List.mem_of_getElem? (i := 13) rfl)
theorem dX7_better_20 : decode cX7_better 20 = .ok (.lload_n 1, 1) := tX7_better_ok (20, .lload_n 1, 1) (List.mem_of_getElem? (i := 14) rfl)
theorem dX7_better_21 : decode cX7_better 21 = .ok (.lload_n 3, 1) := tX7_better_ok (21, .lload_n 3, 1) (List.mem_of_getElem? (i := 15) rfl)
theorem dX7_better_22 : decode cX7_better 22 = .ok (.lcmp, 1) := tX7_better_ok (22, .lcmp, 1) (List.mem_of_getElem? (i := 16) rfl)
theorem dX7_better_23 : decode cX7_better 23 = .ok (.ifCond .le 7, 3) := tX7_better_ok (23, .ifCond .le 7, 3) (List.mem_of_getElem? (i := 17) rfl)
theorem dX7_better_26 : decode cX7_better 26 = .ok (.iconst 1, 1) := tX7_better_ok (26, .iconst 1, 1) (List.mem_of_getElem? (i := 18) rfl)
theorem dX7_better_27 : decode cX7_better 27 = .ok (.goto 4, 3) := tX7_better_ok (27, .goto 4, 3) (List.mem_of_getElem? (i := 19) rfl)
theorem dX7_better_30 : decode cX7_better 30 = .ok (.iconst 0, 1) := tX7_better_ok (30, .iconst 0, 1) (List.mem_of_getElem? (i := 20) rfl)
theorem dX7_better_31 : decode cX7_better 31 = .ok (.if_icmp .ne 7, 3) := tX7_better_ok (31, .if_icmp .ne 7, 3) (List.mem_of_getElem? (i := 21) rfl)
theorem dX7_better_34 : decode cX7_better 34 = .ok (.lload_n 1, 1) := tX7_better_ok (34, .lload_n 1, 1) (List.mem_of_getElem? (i := 22) rfl)
theorem dX7_better_35 : decode cX7_better 35 = .ok (.goto 4, 3) := tX7_better_ok (35, .goto 4, 3) (List.mem_of_getElem? (i := 23) rfl)
theorem dX7_better_38 : decode cX7_better 38 = .ok (.lload_n 3, 1) := tX7_better_ok (38, .lload_n 3, 1) (List.mem_of_getElem? (i := 24) rfl)
theorem dX7_better_39 : decode cX7_better 39 = .ok (.lreturn, 1) := tX7_better_ok (39, .lreturn, 1) (List.mem_of_getElem? (i := 25) rfl)

def tX8_init : List (Nat × Instr × Nat) := [
  (0, .aload_n 0, 1),
  (1, .invokespecial 3, 3),
  (4, .aload_n 0, 1),
  (5, .new 9, 3),
  (8, .dup, 1),
  (9, .invokespecial 11, 3),
  (12, .putfield 12, 3),
  (15, .aload_n 0, 1),
  (16, .new 16, 3),
  (19, .dup, 1),
  (20, .invokespecial 18, 3),
  (23, .putfield 19, 3),
  (26, .aload_n 0, 1),
  (27, .new 23, 3),
  (30, .dup, 1),
  (31, .invokespecial 25, 3),
  (34, .putfield 26, 3),
  (37, .aload_n 0, 1),
  (38, .new 30, 3),
  (41, .dup, 1),
  (42, .invokespecial 32, 3),
  (45, .putfield 33, 3),
  (48, .aload_n 0, 1),
  (49, .new 37, 3),
  (52, .dup, 1),
  (53, .invokespecial 39, 3),
  (56, .putfield 40, 3),
  (59, .aload_n 0, 1),
  (60, .new 44, 3),
  (63, .dup, 1),
  (64, .invokespecial 46, 3),
  (67, .putfield 47, 3),
  (70, .aload_n 0, 1),
  (71, .bipush 60, 2),
  (73, .newarray .int, 2),
  (75, .putfield 51, 3),
  (78, .aload_n 0, 1),
  (79, .bipush 18, 2),
  (81, .newarray .int, 2),
  (83, .putfield 55, 3),
  (86, .return_, 1)]
set_option maxRecDepth 100000 in
theorem tX8_init_ok : ∀ q ∈ tX8_init, decode cX8_init q.1 = .ok q.2 := by decide +kernel
theorem dX8_init_0 : decode cX8_init 0 = .ok (.aload_n 0, 1) := tX8_init_ok (0, .aload_n 0, 1) (List.mem_of_getElem? (i := 0) rfl)
theorem dX8_init_1 : decode cX8_init 1 = .ok (.invokespecial 3, 3) := tX8_init_ok (1, .invokespecial 3, 3) (List.mem_of_getElem? (i := 1) rfl)
theorem dX8_init_4 : decode cX8_init 4 = .ok (.aload_n 0, 1) := tX8_init_ok (4, .aload_n 0, 1) (List.mem_of_getElem? (i := 2) rfl)
theorem dX8_init_5 : decode cX8_init 5 = .ok (.new 9, 3) := tX8_init_ok (5, .new 9, 3) (List.mem_of_getElem? (i := 3) rfl)
theorem dX8_init_8 : decode cX8_init 8 = .ok (.dup, 1) := tX8_init_ok (8, .dup, 1) (List.mem_of_getElem? (i := 4) rfl)
theorem dX8_init_9 : decode cX8_init 9 = .ok (.invokespecial 11, 3) := tX8_init_ok (9, .invokespecial 11, 3) (List.mem_of_getElem? (i := 5) rfl)
theorem dX8_init_12 : decode cX8_init 12 = .ok (.putfield 12, 3) := tX8_init_ok (12, .putfield 12, 3) (List.mem_of_getElem? (i := 6) rfl)
theorem dX8_init_15 : decode cX8_init 15 = .ok (.aload_n 0, 1) := tX8_init_ok (15, .aload_n 0, 1) (List.mem_of_getElem? (i := 7) rfl)
theorem dX8_init_16 : decode cX8_init 16 = .ok (.new 16, 3) := tX8_init_ok (16, .new 16, 3) (List.mem_of_getElem? (i := 8) rfl)
theorem dX8_init_19 : decode cX8_init 19 = .ok (.dup, 1) := tX8_init_ok (19, .dup, 1) (List.mem_of_getElem? (i := 9) rfl)
theorem dX8_init_20 : decode cX8_init 20 = .ok (.invokespecial 18, 3) := tX8_init_ok (20, .invokespecial 18, 3) (List.mem_of_getElem? (i := 10) rfl)
theorem dX8_init_23 : decode cX8_init 23 = .ok (.putfield 19, 3) := tX8_init_ok (23, .putfield 19, 3) (List.mem_of_getElem? (i := 11) rfl)
theorem dX8_init_26 : decode cX8_init 26 = .ok (.aload_n 0, 1) := tX8_init_ok (26, .aload_n 0, 1) (List.mem_of_getElem? (i := 12) rfl)
theorem dX8_init_27 : decode cX8_init 27 = .ok (.new 23, 3) := tX8_init_ok (27, .new 23, 3) (List.mem_of_getElem? (i := 13) rfl)
theorem dX8_init_30 : decode cX8_init 30 = .ok (.dup, 1) := tX8_init_ok (30, .dup, 1) (List.mem_of_getElem? (i := 14) rfl)
theorem dX8_init_31 : decode cX8_init 31 = .ok (.invokespecial 25, 3) := tX8_init_ok (31, .invokespecial 25, 3) (List.mem_of_getElem? (i := 15) rfl)
theorem dX8_init_34 : decode cX8_init 34 = .ok (.putfield 26, 3) := tX8_init_ok (34, .putfield 26, 3) (List.mem_of_getElem? (i := 16) rfl)
theorem dX8_init_37 : decode cX8_init 37 = .ok (.aload_n 0, 1) := tX8_init_ok (37, .aload_n 0, 1) (List.mem_of_getElem? (i := 17) rfl)
theorem dX8_init_38 : decode cX8_init 38 = .ok (.new 30, 3) := tX8_init_ok (38, .new 30, 3) (List.mem_of_getElem? (i := 18) rfl)
theorem dX8_init_41 : decode cX8_init 41 = .ok (.dup, 1) := tX8_init_ok (41, .dup, 1) (List.mem_of_getElem? (i := 19) rfl)
theorem dX8_init_42 : decode cX8_init 42 = .ok (.invokespecial 32, 3) := tX8_init_ok (42, .invokespecial 32, 3) (List.mem_of_getElem? (i := 20) rfl)
theorem dX8_init_45 : decode cX8_init 45 = .ok (.putfield 33, 3) := tX8_init_ok (45, .putfield 33, 3) (List.mem_of_getElem? (i := 21) rfl)
theorem dX8_init_48 : decode cX8_init 48 = .ok (.aload_n 0, 1) := tX8_init_ok (48, .aload_n 0, 1) (List.mem_of_getElem? (i := 22) rfl)
theorem dX8_init_49 : decode cX8_init 49 = .ok (.new 37, 3) := tX8_init_ok (49, .new 37, 3) (List.mem_of_getElem? (i := 23) rfl)
theorem dX8_init_52 : decode cX8_init 52 = .ok (.dup, 1) := tX8_init_ok (52, .dup, 1) (List.mem_of_getElem? (i := 24) rfl)
theorem dX8_init_53 : decode cX8_init 53 = .ok (.invokespecial 39, 3) := tX8_init_ok (53, .invokespecial 39, 3) (List.mem_of_getElem? (i := 25) rfl)
theorem dX8_init_56 : decode cX8_init 56 = .ok (.putfield 40, 3) := tX8_init_ok (56, .putfield 40, 3) (List.mem_of_getElem? (i := 26) rfl)
theorem dX8_init_59 : decode cX8_init 59 = .ok (.aload_n 0, 1) := tX8_init_ok (59, .aload_n 0, 1) (List.mem_of_getElem? (i := 27) rfl)
theorem dX8_init_60 : decode cX8_init 60 = .ok (.new 44, 3) := tX8_init_ok (60, .new 44, 3) (List.mem_of_getElem? (i := 28) rfl)
theorem dX8_init_63 : decode cX8_init 63 = .ok (.dup, 1) := tX8_init_ok (63, .dup, 1) (List.mem_of_getElem? (i := 29) rfl)
theorem dX8_init_64 : decode cX8_init 64 = .ok (.invokespecial 46, 3) := tX8_init_ok (64, .invokespecial 46, 3) (List.mem_of_getElem? (i := 30) rfl)
theorem dX8_init_67 : decode cX8_init 67 = .ok (.putfield 47, 3) := tX8_init_ok (67, .putfield 47, 3) (List.mem_of_getElem? (i := 31) rfl)
theorem dX8_init_70 : decode cX8_init 70 = .ok (.aload_n 0, 1) := tX8_init_ok (70, .aload_n 0, 1) (List.mem_of_getElem? (i := 32) rfl)
theorem dX8_init_71 : decode cX8_init 71 = .ok (.bipush 60, 2) := tX8_init_ok (71, .bipush 60, 2) (List.mem_of_getElem? (i := 33) rfl)
theorem dX8_init_73 : decode cX8_init 73 = .ok (.newarray .int, 2) := tX8_init_ok (73, .newarray .int, 2) (List.mem_of_getElem? (i := 34) rfl)
theorem dX8_init_75 : decode cX8_init 75 = .ok (.putfield 51, 3) := tX8_init_ok (75, .putfield 51, 3) (List.mem_of_getElem? (i := 35) rfl)
theorem dX8_init_78 : decode cX8_init 78 = .ok (.aload_n 0, 1) := tX8_init_ok (78, .aload_n 0, 1) (List.mem_of_getElem? (i := 36) rfl)
theorem dX8_init_79 : decode cX8_init 79 = .ok (.bipush 18, 2) := tX8_init_ok (79, .bipush 18, 2) (List.mem_of_getElem? (i := 37) rfl)
theorem dX8_init_81 : decode cX8_init 81 = .ok (.newarray .int, 2) := tX8_init_ok (81, .newarray .int, 2) (List.mem_of_getElem? (i := 38) rfl)
theorem dX8_init_83 : decode cX8_init 83 = .ok (.putfield 55, 3) := tX8_init_ok (83, .putfield 55, 3) (List.mem_of_getElem? (i := 39) rfl)
theorem dX8_init_86 : decode cX8_init 86 = .ok (.return_, 1) := tX8_init_ok (86, .return_, 1) (List.mem_of_getElem? (i := 40) rfl)

def tX8_status : List (Nat × Instr × Nat) := [
  (0, .aload_n 0, 1),
  (1, .getfield 58, 3),
  (4, .ireturn, 1)]
set_option maxRecDepth 100000 in
theorem tX8_status_ok : ∀ q ∈ tX8_status, decode cX8_status q.1 = .ok q.2 := by decide +kernel
theorem dX8_status_0 : decode cX8_status 0 = .ok (.aload_n 0, 1) := tX8_status_ok (0, .aload_n 0, 1) (List.mem_of_getElem? (i := 0) rfl)
theorem dX8_status_1 : decode cX8_status 1 = .ok (.getfield 58, 3) := tX8_status_ok (1, .getfield 58, 3) (List.mem_of_getElem? (i := 1) rfl)
theorem dX8_status_4 : decode cX8_status 4 = .ok (.ireturn, 1) := tX8_status_ok (4, .ireturn, 1) (List.mem_of_getElem? (i := 2) rfl)

def tX8_sheet : List (Nat × Instr × Nat) := [
  (0, .iload_n 1, 1),
  (1, .invokestatic 62, 3),
  (4, .ifCond .eq 12, 3),
  (7, .iload_n 2, 1),
  (8, .iconst 0, 1),
  (9, .iconst 2, 1),
  (10, .invokestatic 66, 3),
  (13, .ifCond .ne 9, 3),
  (16, .aload_n 0, 1),
  (17, .iconst 1, 1),
  (18, .invokevirtual 70, 3),
  (21, .ireturn, 1),
  (22, .iload_n 3, 1),
  (23, .bipush 64, 2),
  (25, .if_icmp .le 9, 3),
  (28, .aload_n 0, 1),
  (29, .iconst 2, 1),
  (30, .invokevirtual 70, 3),
  (33, .ireturn, 1),
  (34, .iload_n 3, 1),
  (35, .ifCond .ge 10, 3),
  (38, .aload_n 0, 1),
  (39, .bipush 6, 2),
  (41, .invokevirtual 70, 3),
  (44, .ireturn, 1),
  (45, .aload_n 0, 1),
  (46, .getfield 12, 3),
  (49, .iload_n 1, 1),
  (50, .iload_n 2, 1),
  (51, .iload_n 3, 1),
  (52, .invokevirtual 73, 3),
  (55, .aload_n 0, 1),
  (56, .invokevirtual 77, 3),
  (59, .ireturn, 1)]
set_option maxRecDepth 100000 in
theorem tX8_sheet_ok : ∀ q ∈ tX8_sheet, decode cX8_sheet q.1 = .ok q.2 := by decide +kernel
theorem dX8_sheet_0 : decode cX8_sheet 0 = .ok (.iload_n 1, 1) := tX8_sheet_ok (0, .iload_n 1, 1) (List.mem_of_getElem? (i := 0) rfl)
theorem dX8_sheet_1 : decode cX8_sheet 1 = .ok (.invokestatic 62, 3) := tX8_sheet_ok (1, .invokestatic 62, 3) (List.mem_of_getElem? (i := 1) rfl)
theorem dX8_sheet_4 : decode cX8_sheet 4 = .ok (.ifCond .eq 12, 3) := tX8_sheet_ok (4, .ifCond .eq 12, 3) (List.mem_of_getElem? (i := 2) rfl)
theorem dX8_sheet_7 : decode cX8_sheet 7 = .ok (.iload_n 2, 1) := tX8_sheet_ok (7, .iload_n 2, 1) (List.mem_of_getElem? (i := 3) rfl)
theorem dX8_sheet_8 : decode cX8_sheet 8 = .ok (.iconst 0, 1) := tX8_sheet_ok (8, .iconst 0, 1) (List.mem_of_getElem? (i := 4) rfl)
theorem dX8_sheet_9 : decode cX8_sheet 9 = .ok (.iconst 2, 1) := tX8_sheet_ok (9, .iconst 2, 1) (List.mem_of_getElem? (i := 5) rfl)
theorem dX8_sheet_10 : decode cX8_sheet 10 = .ok (.invokestatic 66, 3) := tX8_sheet_ok (10, .invokestatic 66, 3) (List.mem_of_getElem? (i := 6) rfl)
theorem dX8_sheet_13 : decode cX8_sheet 13 = .ok (.ifCond .ne 9, 3) := tX8_sheet_ok (13, .ifCond .ne 9, 3) (List.mem_of_getElem? (i := 7) rfl)
theorem dX8_sheet_16 : decode cX8_sheet 16 = .ok (.aload_n 0, 1) := tX8_sheet_ok (16, .aload_n 0, 1) (List.mem_of_getElem? (i := 8) rfl)
theorem dX8_sheet_17 : decode cX8_sheet 17 = .ok (.iconst 1, 1) := tX8_sheet_ok (17, .iconst 1, 1) (List.mem_of_getElem? (i := 9) rfl)
theorem dX8_sheet_18 : decode cX8_sheet 18 = .ok (.invokevirtual 70, 3) := tX8_sheet_ok (18, .invokevirtual 70, 3) (List.mem_of_getElem? (i := 10) rfl)
theorem dX8_sheet_21 : decode cX8_sheet 21 = .ok (.ireturn, 1) := tX8_sheet_ok (21, .ireturn, 1) (List.mem_of_getElem? (i := 11) rfl)
theorem dX8_sheet_22 : decode cX8_sheet 22 = .ok (.iload_n 3, 1) := tX8_sheet_ok (22, .iload_n 3, 1) (List.mem_of_getElem? (i := 12) rfl)
theorem dX8_sheet_23 : decode cX8_sheet 23 = .ok (.bipush 64, 2) := tX8_sheet_ok (23, .bipush 64, 2) (List.mem_of_getElem? (i := 13) rfl)
theorem dX8_sheet_25 : decode cX8_sheet 25 = .ok (.if_icmp .le 9, 3) := tX8_sheet_ok (25, .if_icmp .le 9, 3) (List.mem_of_getElem? (i := 14) rfl)
theorem dX8_sheet_28 : decode cX8_sheet 28 = .ok (.aload_n 0, 1) := tX8_sheet_ok (28, .aload_n 0, 1) (List.mem_of_getElem? (i := 15) rfl)
theorem dX8_sheet_29 : decode cX8_sheet 29 = .ok (.iconst 2, 1) := tX8_sheet_ok (29, .iconst 2, 1) (List.mem_of_getElem? (i := 16) rfl)
theorem dX8_sheet_30 : decode cX8_sheet 30 = .ok (.invokevirtual 70, 3) := tX8_sheet_ok (30, .invokevirtual 70, 3) (List.mem_of_getElem? (i := 17) rfl)
theorem dX8_sheet_33 : decode cX8_sheet 33 = .ok (.ireturn, 1) := tX8_sheet_ok (33, .ireturn, 1) (List.mem_of_getElem? (i := 18) rfl)
theorem dX8_sheet_34 : decode cX8_sheet 34 = .ok (.iload_n 3, 1) := tX8_sheet_ok (34, .iload_n 3, 1) (List.mem_of_getElem? (i := 19) rfl)
theorem dX8_sheet_35 : decode cX8_sheet 35 = .ok (.ifCond .ge 10, 3) := tX8_sheet_ok (35, .ifCond .ge 10, 3) (List.mem_of_getElem? (i := 20) rfl)
theorem dX8_sheet_38 : decode cX8_sheet 38 = .ok (.aload_n 0, 1) := tX8_sheet_ok (38, .aload_n 0, 1) (List.mem_of_getElem? (i := 21) rfl)
theorem dX8_sheet_39 : decode cX8_sheet 39 = .ok (.bipush 6, 2) := tX8_sheet_ok (39, .bipush 6, 2) (List.mem_of_getElem? (i := 22) rfl)
theorem dX8_sheet_41 : decode cX8_sheet 41 = .ok (.invokevirtual 70, 3) := tX8_sheet_ok (41, .invokevirtual 70, 3) (List.mem_of_getElem? (i := 23) rfl)
theorem dX8_sheet_44 : decode cX8_sheet 44 = .ok (.ireturn, 1) := tX8_sheet_ok (44, .ireturn, 1) (List.mem_of_getElem? (i := 24) rfl)
theorem dX8_sheet_45 : decode cX8_sheet 45 = .ok (.aload_n 0, 1) := tX8_sheet_ok (45, .aload_n 0, 1) (List.mem_of_getElem? (i := 25) rfl)
theorem dX8_sheet_46 : decode cX8_sheet 46 = .ok (.getfield 12, 3) := tX8_sheet_ok (46, .getfield 12, 3) (List.mem_of_getElem? (i := 26) rfl)
theorem dX8_sheet_49 : decode cX8_sheet 49 = .ok (.iload_n 1, 1) := tX8_sheet_ok (49, .iload_n 1, 1) (List.mem_of_getElem? (i := 27) rfl)
theorem dX8_sheet_50 : decode cX8_sheet 50 = .ok (.iload_n 2, 1) := tX8_sheet_ok (50, .iload_n 2, 1) (List.mem_of_getElem? (i := 28) rfl)
theorem dX8_sheet_51 : decode cX8_sheet 51 = .ok (.iload_n 3, 1) := tX8_sheet_ok (51, .iload_n 3, 1) (List.mem_of_getElem? (i := 29) rfl)
theorem dX8_sheet_52 : decode cX8_sheet 52 = .ok (.invokevirtual 73, 3) := tX8_sheet_ok (52, .invokevirtual 73, 3) (List.mem_of_getElem? (i := 30) rfl)
theorem dX8_sheet_55 : decode cX8_sheet 55 = .ok (.aload_n 0, 1) := tX8_sheet_ok (55, .aload_n 0, 1) (List.mem_of_getElem? (i := 31) rfl)
theorem dX8_sheet_56 : decode cX8_sheet 56 = .ok (.invokevirtual 77, 3) := tX8_sheet_ok (56, .invokevirtual 77, 3) (List.mem_of_getElem? (i := 32) rfl)
theorem dX8_sheet_59 : decode cX8_sheet 59 = .ok (.ireturn, 1) := tX8_sheet_ok (59, .ireturn, 1) (List.mem_of_getElem? (i := 33) rfl)
