section ZH
variable {C : zC} {cc : ByteArray} {y : MethodName} {Ts : List Cond} {rm : Room} {nL : Nat} {k n : Nat} {ws : va_W} {lv : List (Nat × Value)} {pc : Nat} {st : List Value}
theorem z_iceq (hC : zOK C cc y Ts rm nL) {a b off : Int} (tgt : Nat) (hd : decode cc pc = .ok (.if_icmp .eq off, 3)) (ht : (pc : Int) + off = (tgt : Int)) (hr : zR a ∧ zR b) (kt : a = b → ZW C k n ws lv tgt st) (kf : a ≠ b → ZW C k n ws lv (pc + 3) st) : ZW C k n ws lv pc (.int (zI b) :: .int (zI a) :: st) := by
  obtain ⟨p, l, e, R, s, m, args, below, meth, c, Q, A, nL', D, cA⟩ := C
  intro H locs ls hP hD hS hl
  refine lv_icmp_eq hC.1 hC.2.1 hd ht (fun q => kt ?_ H locs ls hP hD hS hl) (fun q => kf ?_ H locs ls hP hD hS hl)
  · simp only [zI_le hr, zI_lt hr, zI_le hr.symm, zI_lt hr.symm, zI_eq hr, zI_eq hr.symm, ne_eq, Int.not_le, Int.not_lt] at q
    first | exact q | omega
  · simp only [zI_le hr, zI_lt hr, zI_le hr.symm, zI_lt hr.symm, zI_eq hr, zI_eq hr.symm, ne_eq, Int.not_le, Int.not_lt] at q
    first | exact q | omega
theorem z_icne (hC : zOK C cc y Ts rm nL) {a b off : Int} (tgt : Nat) (hd : decode cc pc = .ok (.if_icmp .ne off, 3)) (ht : (pc : Int) + off = (tgt : Int)) (hr : zR a ∧ zR b) (kt : a ≠ b → ZW C k n ws lv tgt st) (kf : a = b → ZW C k n ws lv (pc + 3) st) : ZW C k n ws lv pc (.int (zI b) :: .int (zI a) :: st) := by
  obtain ⟨p, l, e, R, s, m, args, below, meth, c, Q, A, nL', D, cA⟩ := C
  intro H locs ls hP hD hS hl
  refine lv_icmp_ne hC.1 hC.2.1 hd ht (fun q => kt ?_ H locs ls hP hD hS hl) (fun q => kf ?_ H locs ls hP hD hS hl)
  · simp only [zI_le hr, zI_lt hr, zI_le hr.symm, zI_lt hr.symm, zI_eq hr, zI_eq hr.symm, ne_eq, Int.not_le, Int.not_lt] at q
    first | exact q | omega
  · simp only [zI_le hr, zI_lt hr, zI_le hr.symm, zI_lt hr.symm, zI_eq hr, zI_eq hr.symm, ne_eq, Int.not_le, Int.not_lt] at q
    first | exact q | omega
theorem z_iclt (hC : zOK C cc y Ts rm nL) {a b off : Int} (tgt : Nat) (hd : decode cc pc = .ok (.if_icmp .lt off, 3)) (ht : (pc : Int) + off = (tgt : Int)) (hr : zR a ∧ zR b) (kt : a < b → ZW C k n ws lv tgt st) (kf : b ≤ a → ZW C k n ws lv (pc + 3) st) : ZW C k n ws lv pc (.int (zI b) :: .int (zI a) :: st) := by
  obtain ⟨p, l, e, R, s, m, args, below, meth, c, Q, A, nL', D, cA⟩ := C
  intro H locs ls hP hD hS hl
  refine lv_icmp_lt hC.1 hC.2.1 hd ht (fun q => kt ?_ H locs ls hP hD hS hl) (fun q => kf ?_ H locs ls hP hD hS hl)
  · simp only [zI_le hr, zI_lt hr, zI_le hr.symm, zI_lt hr.symm, zI_eq hr, zI_eq hr.symm, ne_eq, Int.not_le, Int.not_lt] at q
    first | exact q | omega
  · simp only [zI_le hr, zI_lt hr, zI_le hr.symm, zI_lt hr.symm, zI_eq hr, zI_eq hr.symm, ne_eq, Int.not_le, Int.not_lt] at q
    first | exact q | omega
theorem z_icge (hC : zOK C cc y Ts rm nL) {a b off : Int} (tgt : Nat) (hd : decode cc pc = .ok (.if_icmp .ge off, 3)) (ht : (pc : Int) + off = (tgt : Int)) (hr : zR a ∧ zR b) (kt : b ≤ a → ZW C k n ws lv tgt st) (kf : a < b → ZW C k n ws lv (pc + 3) st) : ZW C k n ws lv pc (.int (zI b) :: .int (zI a) :: st) := by
  obtain ⟨p, l, e, R, s, m, args, below, meth, c, Q, A, nL', D, cA⟩ := C
  intro H locs ls hP hD hS hl
  refine lv_icmp_ge hC.1 hC.2.1 hd ht (fun q => kt ?_ H locs ls hP hD hS hl) (fun q => kf ?_ H locs ls hP hD hS hl)
  · simp only [zI_le hr, zI_lt hr, zI_le hr.symm, zI_lt hr.symm, zI_eq hr, zI_eq hr.symm, ne_eq, Int.not_le, Int.not_lt] at q
    first | exact q | omega
  · simp only [zI_le hr, zI_lt hr, zI_le hr.symm, zI_lt hr.symm, zI_eq hr, zI_eq hr.symm, ne_eq, Int.not_le, Int.not_lt] at q
    first | exact q | omega
theorem z_icgt (hC : zOK C cc y Ts rm nL) {a b off : Int} (tgt : Nat) (hd : decode cc pc = .ok (.if_icmp .gt off, 3)) (ht : (pc : Int) + off = (tgt : Int)) (hr : zR a ∧ zR b) (kt : b < a → ZW C k n ws lv tgt st) (kf : a ≤ b → ZW C k n ws lv (pc + 3) st) : ZW C k n ws lv pc (.int (zI b) :: .int (zI a) :: st) := by
  obtain ⟨p, l, e, R, s, m, args, below, meth, c, Q, A, nL', D, cA⟩ := C
  intro H locs ls hP hD hS hl
  refine lv_icmp_gt hC.1 hC.2.1 hd ht (fun q => kt ?_ H locs ls hP hD hS hl) (fun q => kf ?_ H locs ls hP hD hS hl)
  · simp only [zI_le hr, zI_lt hr, zI_le hr.symm, zI_lt hr.symm, zI_eq hr, zI_eq hr.symm, ne_eq, Int.not_le, Int.not_lt] at q
    first | exact q | omega
  · simp only [zI_le hr, zI_lt hr, zI_le hr.symm, zI_lt hr.symm, zI_eq hr, zI_eq hr.symm, ne_eq, Int.not_le, Int.not_lt] at q
    first | exact q | omega
theorem z_icle (hC : zOK C cc y Ts rm nL) {a b off : Int} (tgt : Nat) (hd : decode cc pc = .ok (.if_icmp .le off, 3)) (ht : (pc : Int) + off = (tgt : Int)) (hr : zR a ∧ zR b) (kt : a ≤ b → ZW C k n ws lv tgt st) (kf : b < a → ZW C k n ws lv (pc + 3) st) : ZW C k n ws lv pc (.int (zI b) :: .int (zI a) :: st) := by
  obtain ⟨p, l, e, R, s, m, args, below, meth, c, Q, A, nL', D, cA⟩ := C
  intro H locs ls hP hD hS hl
  refine lv_icmp_le hC.1 hC.2.1 hd ht (fun q => kt ?_ H locs ls hP hD hS hl) (fun q => kf ?_ H locs ls hP hD hS hl)
  · simp only [zI_le hr, zI_lt hr, zI_le hr.symm, zI_lt hr.symm, zI_eq hr, zI_eq hr.symm, ne_eq, Int.not_le, Int.not_lt] at q
    first | exact q | omega
  · simp only [zI_le hr, zI_lt hr, zI_le hr.symm, zI_lt hr.symm, zI_eq hr, zI_eq hr.symm, ne_eq, Int.not_le, Int.not_lt] at q
    first | exact q | omega
theorem z_ifeq (hC : zOK C cc y Ts rm nL) {a off : Int} (tgt : Nat) (hd : decode cc pc = .ok (.ifCond .eq off, 3)) (ht : (pc : Int) + off = (tgt : Int)) (hr : zR a) (kt : a = 0 → ZW C k n ws lv tgt st) (kf : a ≠ 0 → ZW C k n ws lv (pc + 3) st) : ZW C k n ws lv pc (.int (zI a) :: st) := by
  obtain ⟨p, l, e, R, s, m, args, below, meth, c, Q, A, nL', D, cA⟩ := C
  intro H locs ls hP hD hS hl
  have hr : zR a ∧ zR 0 := ⟨hr, by omega⟩
  refine lv_if_eq hC.1 hC.2.1 hd ht (fun q => kt ?_ H locs ls hP hD hS hl) (fun q => kf ?_ H locs ls hP hD hS hl)
  · simp only [← zI_0, zI_le hr, zI_lt hr, zI_le hr.symm, zI_lt hr.symm, zI_eq hr, zI_eq hr.symm, ne_eq, Int.not_le, Int.not_lt] at q
    first | exact q | omega
  · simp only [← zI_0, zI_le hr, zI_lt hr, zI_le hr.symm, zI_lt hr.symm, zI_eq hr, zI_eq hr.symm, ne_eq, Int.not_le, Int.not_lt] at q
    first | exact q | omega
theorem z_ifne (hC : zOK C cc y Ts rm nL) {a off : Int} (tgt : Nat) (hd : decode cc pc = .ok (.ifCond .ne off, 3)) (ht : (pc : Int) + off = (tgt : Int)) (hr : zR a) (kt : a ≠ 0 → ZW C k n ws lv tgt st) (kf : a = 0 → ZW C k n ws lv (pc + 3) st) : ZW C k n ws lv pc (.int (zI a) :: st) := by
  obtain ⟨p, l, e, R, s, m, args, below, meth, c, Q, A, nL', D, cA⟩ := C
  intro H locs ls hP hD hS hl
  have hr : zR a ∧ zR 0 := ⟨hr, by omega⟩
  refine lv_if_ne hC.1 hC.2.1 hd ht (fun q => kt ?_ H locs ls hP hD hS hl) (fun q => kf ?_ H locs ls hP hD hS hl)
  · simp only [← zI_0, zI_le hr, zI_lt hr, zI_le hr.symm, zI_lt hr.symm, zI_eq hr, zI_eq hr.symm, ne_eq, Int.not_le, Int.not_lt] at q
    first | exact q | omega
  · simp only [← zI_0, zI_le hr, zI_lt hr, zI_le hr.symm, zI_lt hr.symm, zI_eq hr, zI_eq hr.symm, ne_eq, Int.not_le, Int.not_lt] at q
    first | exact q | omega
theorem z_iflt (hC : zOK C cc y Ts rm nL) {a off : Int} (tgt : Nat) (hd : decode cc pc = .ok (.ifCond .lt off, 3)) (ht : (pc : Int) + off = (tgt : Int)) (hr : zR a) (kt : a < 0 → ZW C k n ws lv tgt st) (kf : 0 ≤ a → ZW C k n ws lv (pc + 3) st) : ZW C k n ws lv pc (.int (zI a) :: st) := by
  obtain ⟨p, l, e, R, s, m, args, below, meth, c, Q, A, nL', D, cA⟩ := C
  intro H locs ls hP hD hS hl
  have hr : zR a ∧ zR 0 := ⟨hr, by omega⟩
  refine lv_if_lt hC.1 hC.2.1 hd ht (fun q => kt ?_ H locs ls hP hD hS hl) (fun q => kf ?_ H locs ls hP hD hS hl)
  · simp only [← zI_0, zI_le hr, zI_lt hr, zI_le hr.symm, zI_lt hr.symm, zI_eq hr, zI_eq hr.symm, ne_eq, Int.not_le, Int.not_lt] at q
    first | exact q | omega
  · simp only [← zI_0, zI_le hr, zI_lt hr, zI_le hr.symm, zI_lt hr.symm, zI_eq hr, zI_eq hr.symm, ne_eq, Int.not_le, Int.not_lt] at q
    first | exact q | omega
theorem z_ifge (hC : zOK C cc y Ts rm nL) {a off : Int} (tgt : Nat) (hd : decode cc pc = .ok (.ifCond .ge off, 3)) (ht : (pc : Int) + off = (tgt : Int)) (hr : zR a) (kt : 0 ≤ a → ZW C k n ws lv tgt st) (kf : a < 0 → ZW C k n ws lv (pc + 3) st) : ZW C k n ws lv pc (.int (zI a) :: st) := by
  obtain ⟨p, l, e, R, s, m, args, below, meth, c, Q, A, nL', D, cA⟩ := C
  intro H locs ls hP hD hS hl
  have hr : zR a ∧ zR 0 := ⟨hr, by omega⟩
  refine lv_if_ge hC.1 hC.2.1 hd ht (fun q => kt ?_ H locs ls hP hD hS hl) (fun q => kf ?_ H locs ls hP hD hS hl)
  · simp only [← zI_0, zI_le hr, zI_lt hr, zI_le hr.symm, zI_lt hr.symm, zI_eq hr, zI_eq hr.symm, ne_eq, Int.not_le, Int.not_lt] at q
    first | exact q | omega
  · simp only [← zI_0, zI_le hr, zI_lt hr, zI_le hr.symm, zI_lt hr.symm, zI_eq hr, zI_eq hr.symm, ne_eq, Int.not_le, Int.not_lt] at q
    first | exact q | omega
theorem z_ifgt (hC : zOK C cc y Ts rm nL) {a off : Int} (tgt : Nat) (hd : decode cc pc = .ok (.ifCond .gt off, 3)) (ht : (pc : Int) + off = (tgt : Int)) (hr : zR a) (kt : 0 < a → ZW C k n ws lv tgt st) (kf : a ≤ 0 → ZW C k n ws lv (pc + 3) st) : ZW C k n ws lv pc (.int (zI a) :: st) := by
  obtain ⟨p, l, e, R, s, m, args, below, meth, c, Q, A, nL', D, cA⟩ := C
  intro H locs ls hP hD hS hl
  have hr : zR a ∧ zR 0 := ⟨hr, by omega⟩
  refine lv_if_gt hC.1 hC.2.1 hd ht (fun q => kt ?_ H locs ls hP hD hS hl) (fun q => kf ?_ H locs ls hP hD hS hl)
  · simp only [← zI_0, zI_le hr, zI_lt hr, zI_le hr.symm, zI_lt hr.symm, zI_eq hr, zI_eq hr.symm, ne_eq, Int.not_le, Int.not_lt] at q
    first | exact q | omega
  · simp only [← zI_0, zI_le hr, zI_lt hr, zI_le hr.symm, zI_lt hr.symm, zI_eq hr, zI_eq hr.symm, ne_eq, Int.not_le, Int.not_lt] at q
    first | exact q | omega
theorem z_ifle (hC : zOK C cc y Ts rm nL) {a off : Int} (tgt : Nat) (hd : decode cc pc = .ok (.ifCond .le off, 3)) (ht : (pc : Int) + off = (tgt : Int)) (hr : zR a) (kt : a ≤ 0 → ZW C k n ws lv tgt st) (kf : 0 < a → ZW C k n ws lv (pc + 3) st) : ZW C k n ws lv pc (.int (zI a) :: st) := by
  obtain ⟨p, l, e, R, s, m, args, below, meth, c, Q, A, nL', D, cA⟩ := C
  intro H locs ls hP hD hS hl
  have hr : zR a ∧ zR 0 := ⟨hr, by omega⟩
  refine lv_if_le hC.1 hC.2.1 hd ht (fun q => kt ?_ H locs ls hP hD hS hl) (fun q => kf ?_ H locs ls hP hD hS hl)
  · simp only [← zI_0, zI_le hr, zI_lt hr, zI_le hr.symm, zI_lt hr.symm, zI_eq hr, zI_eq hr.symm, ne_eq, Int.not_le, Int.not_lt] at q
    first | exact q | omega
  · simp only [← zI_0, zI_le hr, zI_lt hr, zI_le hr.symm, zI_lt hr.symm, zI_eq hr, zI_eq hr.symm, ne_eq, Int.not_le, Int.not_lt] at q
    first | exact q | omega
theorem zcmp {a b : Int} (hr : zRL a ∧ zRL b) : lg_cmp (zL a) (zL b) = zI (if a < b then -1 else if a = b then 0 else 1) := by
  unfold lg_cmp
  simp only [zL_lt hr, zL_lt hr.symm, zL_eq hr, zL_le hr, zL_le hr.symm]
  repeat' split
  all_goals first | rfl | omega
theorem z_lceq (hC : zOK C cc y Ts rm nL) {a b off : Int} (tgt : Nat) (hd1 : decode cc pc = .ok (.lcmp, 1)) (hd : decode cc (pc + 1) = .ok (.ifCond .eq off, 3)) (ht : ((pc + 1 : Nat) : Int) + off = (tgt : Int)) (hr : zRL a ∧ zRL b) (kt : a = b → ZW C k n ws lv tgt st) (kf : a ≠ b → ZW C k n ws lv (pc + 4) st) : ZW C k n ws lv pc (.long (zL b) :: .long (zL a) :: st) := by
  have h2 : ZW C k n ws lv (pc + 1) (.int (zI (if a < b then -1 else if a = b then 0 else 1)) :: st) := by
    refine z_ifeq hC tgt hd ht (by unfold zR; split <;> (try split) <;> omega) (fun q => kt ?_) (fun q => kf ?_)
    · split at q <;> (try split at q) <;> omega
    · split at q <;> (try split at q) <;> omega
  obtain ⟨p, l, e, R, s, m, args, below, meth, c, Q, A, nL', D, cA⟩ := C
  intro H locs ls hP hD hS hl
  refine W.lcmp hC.1 hC.2.1 hd1 ?_
  rw [zcmp hr]
  exact h2 H locs ls hP hD hS hl
theorem z_lcne (hC : zOK C cc y Ts rm nL) {a b off : Int} (tgt : Nat) (hd1 : decode cc pc = .ok (.lcmp, 1)) (hd : decode cc (pc + 1) = .ok (.ifCond .ne off, 3)) (ht : ((pc + 1 : Nat) : Int) + off = (tgt : Int)) (hr : zRL a ∧ zRL b) (kt : a ≠ b → ZW C k n ws lv tgt st) (kf : a = b → ZW C k n ws lv (pc + 4) st) : ZW C k n ws lv pc (.long (zL b) :: .long (zL a) :: st) := by
  have h2 : ZW C k n ws lv (pc + 1) (.int (zI (if a < b then -1 else if a = b then 0 else 1)) :: st) := by
    refine z_ifne hC tgt hd ht (by unfold zR; split <;> (try split) <;> omega) (fun q => kt ?_) (fun q => kf ?_)
    · split at q <;> (try split at q) <;> omega
    · split at q <;> (try split at q) <;> omega
  obtain ⟨p, l, e, R, s, m, args, below, meth, c, Q, A, nL', D, cA⟩ := C
  intro H locs ls hP hD hS hl
  refine W.lcmp hC.1 hC.2.1 hd1 ?_
  rw [zcmp hr]
  exact h2 H locs ls hP hD hS hl
theorem z_lclt (hC : zOK C cc y Ts rm nL) {a b off : Int} (tgt : Nat) (hd1 : decode cc pc = .ok (.lcmp, 1)) (hd : decode cc (pc + 1) = .ok (.ifCond .lt off, 3)) (ht : ((pc + 1 : Nat) : Int) + off = (tgt : Int)) (hr : zRL a ∧ zRL b) (kt : a < b → ZW C k n ws lv tgt st) (kf : b ≤ a → ZW C k n ws lv (pc + 4) st) : ZW C k n ws lv pc (.long (zL b) :: .long (zL a) :: st) := by
  have h2 : ZW C k n ws lv (pc + 1) (.int (zI (if a < b then -1 else if a = b then 0 else 1)) :: st) := by
    refine z_iflt hC tgt hd ht (by unfold zR; split <;> (try split) <;> omega) (fun q => kt ?_) (fun q => kf ?_)
    · split at q <;> (try split at q) <;> omega
    · split at q <;> (try split at q) <;> omega
  obtain ⟨p, l, e, R, s, m, args, below, meth, c, Q, A, nL', D, cA⟩ := C
  intro H locs ls hP hD hS hl
  refine W.lcmp hC.1 hC.2.1 hd1 ?_
  rw [zcmp hr]
  exact h2 H locs ls hP hD hS hl
theorem z_lcge (hC : zOK C cc y Ts rm nL) {a b off : Int} (tgt : Nat) (hd1 : decode cc pc = .ok (.lcmp, 1)) (hd : decode cc (pc + 1) = .ok (.ifCond .ge off, 3)) (ht : ((pc + 1 : Nat) : Int) + off = (tgt : Int)) (hr : zRL a ∧ zRL b) (kt : b ≤ a → ZW C k n ws lv tgt st) (kf : a < b → ZW C k n ws lv (pc + 4) st) : ZW C k n ws lv pc (.long (zL b) :: .long (zL a) :: st) := by
  have h2 : ZW C k n ws lv (pc + 1) (.int (zI (if a < b then -1 else if a = b then 0 else 1)) :: st) := by
    refine z_ifge hC tgt hd ht (by unfold zR; split <;> (try split) <;> omega) (fun q => kt ?_) (fun q => kf ?_)
    · split at q <;> (try split at q) <;> omega
    · split at q <;> (try split at q) <;> omega
  obtain ⟨p, l, e, R, s, m, args, below, meth, c, Q, A, nL', D, cA⟩ := C
  intro H locs ls hP hD hS hl
  refine W.lcmp hC.1 hC.2.1 hd1 ?_
  rw [zcmp hr]
  exact h2 H locs ls hP hD hS hl
theorem z_lcgt (hC : zOK C cc y Ts rm nL) {a b off : Int} (tgt : Nat) (hd1 : decode cc pc = .ok (.lcmp, 1)) (hd : decode cc (pc + 1) = .ok (.ifCond .gt off, 3)) (ht : ((pc + 1 : Nat) : Int) + off = (tgt : Int)) (hr : zRL a ∧ zRL b) (kt : b < a → ZW C k n ws lv tgt st) (kf : a ≤ b → ZW C k n ws lv (pc + 4) st) : ZW C k n ws lv pc (.long (zL b) :: .long (zL a) :: st) := by
  have h2 : ZW C k n ws lv (pc + 1) (.int (zI (if a < b then -1 else if a = b then 0 else 1)) :: st) := by
    refine z_ifgt hC tgt hd ht (by unfold zR; split <;> (try split) <;> omega) (fun q => kt ?_) (fun q => kf ?_)
    · split at q <;> (try split at q) <;> omega
    · split at q <;> (try split at q) <;> omega
  obtain ⟨p, l, e, R, s, m, args, below, meth, c, Q, A, nL', D, cA⟩ := C
  intro H locs ls hP hD hS hl
  refine W.lcmp hC.1 hC.2.1 hd1 ?_
  rw [zcmp hr]
  exact h2 H locs ls hP hD hS hl
theorem z_lcle (hC : zOK C cc y Ts rm nL) {a b off : Int} (tgt : Nat) (hd1 : decode cc pc = .ok (.lcmp, 1)) (hd : decode cc (pc + 1) = .ok (.ifCond .le off, 3)) (ht : ((pc + 1 : Nat) : Int) + off = (tgt : Int)) (hr : zRL a ∧ zRL b) (kt : a ≤ b → ZW C k n ws lv tgt st) (kf : b < a → ZW C k n ws lv (pc + 4) st) : ZW C k n ws lv pc (.long (zL b) :: .long (zL a) :: st) := by
  have h2 : ZW C k n ws lv (pc + 1) (.int (zI (if a < b then -1 else if a = b then 0 else 1)) :: st) := by
    refine z_ifle hC tgt hd ht (by unfold zR; split <;> (try split) <;> omega) (fun q => kt ?_) (fun q => kf ?_)
    · split at q <;> (try split at q) <;> omega
    · split at q <;> (try split at q) <;> omega
  obtain ⟨p, l, e, R, s, m, args, below, meth, c, Q, A, nL', D, cA⟩ := C
  intro H locs ls hP hD hS hl
  refine W.lcmp hC.1 hC.2.1 hd1 ?_
  rw [zcmp hr]
  exact h2 H locs ls hP hD hS hl
end ZH
