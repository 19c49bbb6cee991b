section ZI
abbrev wO (q ci : Nat) (fs : List Value) : Nat × va_E := (q, .inr (ci, fs))
abbrev wI (q : Nat) (c : ClassId) (n : Nat) (g : Int → Int) : Nat × va_E := (q, .inl (c, n, .inl (zA g)))
abbrev wJ (q : Nat) (c : ClassId) (n : Nat) (g : Int → Int) : Nat × va_E := (q, .inl (c, n, .inr (.inl (zB g))))
variable {C : zC} {cc : ByteArray} {y : MethodName} {Ts : List Cond} {rm : Room} {nL : Nat} {k n : Nat} {ws : va_W} {lv : List (Nat × Value)} {pc : Nat} {st : List Value}
theorem z_nz {g : Int} (h : g = 0 ∨ g = 1) : narrow .boolean (.int (zI g)) = .int (zI g) := by rcases h with rfl | rfl <;> rfl
theorem z_nzv {g : Int} (h : g = 0 ∨ g = 1) : vp_nar .boolean (zI g) = zI g := by rcases h with rfl | rfl <;> rfl
theorem z_get (hC : zOK C cc y Ts rm nL) {a ci ix N : Nat} {fs : List Value} {ref Cn : String} {T : u_T} {v : Value} (hin : ∀ w ∈ u_ws Cn T N, w ∈ Ts) (q0 kf : Nat) (hd : decode cc pc = .ok (.getfield ix, 3)) (he : ws[q0]? = some (a, .inr (ci, fs))) (hc : vwCl[ci]? = some (Cn, T, N)) (hk : kf < N) (hlink : Cond.fieldLink y.cls ix ref (T kf).2.1 (T kf).2.2.1 ∈ Ts) (href : (T kf).1 = ref) (hv : fs[kf]? = some v) (kk : ZW C k n ws lv (pc + 3) (v :: st)) : ZW C k n ws lv pc (.ref a :: st) := by
  obtain ⟨p, l, e, R, s, m, args, below, meth, c, Q, A, nL', D, cA⟩ := C
  intro H locs ls hP hD hS hl
  exact va_get (D := D) (cl := vwCl) (tys := zT cA) hC.1 hC.2.1 hC.2.2.2.2.2.1 hin hC.2.2.2.2.1 hC.2.2.2.2.2.2.1 hP q0 he hc kf hk (hC.2.2.2.2.2.1 _ hlink) (fun x h => by rw [← href]; exact h) hv hd (kk H locs ls hP hD hS hl)
theorem z_put (hC : zOK C cc y Ts rm nL) {a ci ix N : Nat} {fs : List Value} {ref Cn : String} {T : u_T} {v : Value} (hin : ∀ w ∈ u_ws Cn T N, w ∈ Ts) {ty0 : Nat → FieldType} (hty : ∀ k, k < N → parseFieldDescriptor (T k).2.2.1 = some (ty0 k)) (hnm : ∀ a, a < N → ∀ b, b < N → a ≠ b → (T a).2.1 ≠ (T b).2.1) (q0 kf : Nat) (w' : va_W) (hd : decode cc pc = .ok (.putfield ix, 3)) (he : ws[q0]? = some (a, .inr (ci, fs))) (hc : vwCl[ci]? = some (Cn, T, N)) (hk : kf < N) (hlink : Cond.fieldLink y.cls ix ref (T kf).2.1 (T kf).2.2.1 ∈ Ts) (href : (T kf).1 = ref) (hfin : (T kf).2.2.2 = false) (hn : narrow (ty0 kf) v = v) (hfit : fits (ty0 kf) v = true) (hl2 : kf < fs.length) (hw : ws.set q0 (a, .inr (ci, fs.set kf v)) = w') (kk : ZW C k n w' lv (pc + 3) st) : ZW C k n ws lv pc (v :: .ref a :: st) := by
  obtain ⟨p, l, e, R, s, m, args, below, meth, c, Q, A, nL', D, cA⟩ := C
  intro H locs ls hP hD hS hl
  subst hw
  exact va_put (D := D) (cl := vwCl) (tys := zT cA) (ty := ty0 kf) hC.1 hC.2.1 hC.2.2.2.2.2.1 hin ty0 hty hnm hC.2.2.2.2.1 hC.2.2.2.2.2.2.1 hP hD hS q0 he hc kf hk (hC.2.2.2.2.2.1 _ hlink) (fun x h => by rw [← href]; exact h) hfin (hty kf hk) hn hfit hl2 hd (fun H1 locs1 hP1 hD1 hS1 => kk H1 locs1 ls hP1 hD1 hS1 hl)
theorem z_putF (hC : zOK C cc y Ts rm nL) {a ci ix N : Nat} {fs : List Value} {ref Cn : String} {T : u_T} {v : Value} (hin : ∀ w ∈ u_ws Cn T N, w ∈ Ts) {ty0 : Nat → FieldType} (hty : ∀ k, k < N → parseFieldDescriptor (T k).2.2.1 = some (ty0 k)) (hnm : ∀ a, a < N → ∀ b, b < N → a ≠ b → (T a).2.1 ≠ (T b).2.1) (q0 kf : Nat) (w' : va_W) (hd : decode cc pc = .ok (.putfield ix, 3)) (hy : y.name = "<init>") (hdecl : (T kf).1 = y.cls) (he : ws[q0]? = some (a, .inr (ci, fs))) (hc : vwCl[ci]? = some (Cn, T, N)) (hk : kf < N) (hlink : Cond.fieldLink y.cls ix ref (T kf).2.1 (T kf).2.2.1 ∈ Ts) (href : (T kf).1 = ref) (hfin : (T kf).2.2.2 = true) (hn : narrow (ty0 kf) v = v) (hfit : fits (ty0 kf) v = true) (hl2 : kf < fs.length) (hw : ws.set q0 (a, .inr (ci, fs.set kf v)) = w') (kk : ZW C k n w' lv (pc + 3) st) : ZW C k n ws lv pc (v :: .ref a :: st) := by
  obtain ⟨p, l, e, R, s, m, args, below, meth, c, Q, A, nL', D, cA⟩ := C
  intro H locs ls hP hD hS hl
  subst hw
  exact va_putF (D := D) (cl := vwCl) (tys := zT cA) (ty := ty0 kf) hC.1 hC.2.1 hC.2.2.2.2.2.1 hin ty0 hty hnm hC.2.2.2.2.1 hC.2.2.2.2.2.2.1 hP hD hS q0 he hc kf hk (hC.2.2.2.2.2.1 _ hlink) (fun x h => by rw [← href]; exact h) hfin (hC.2.2.2.2.2.2.2.2.2.trans hy) hdecl (hty kf hk) hn hfit hl2 hd (fun H1 locs1 hP1 hD1 hS1 => kk H1 locs1 ls hP1 hD1 hS1 hl)
theorem z_iald (hC : zOK C cc y Ts rm nL) {a cn : Nat} {g : Int → Int} {i : Int} (q0 : Nat) (hd : decode cc pc = .ok (.iaload, 1)) (he : ws[q0]? = some (a, .inl ((zK C).2.1, cn, .inl (zA g)))) (hb : 0 ≤ i ∧ i < (cn : Int) ∧ i < 2147483648) (kk : ZW C k n ws lv (pc + 1) (.int (zI (g i)) :: st)) : ZW C k n ws lv pc (.int (zI i) :: .ref a :: st) := by
  obtain ⟨p, l, e, R, s, m, args, below, meth, c, Q, A, nL', D, cA⟩ := C
  intro H locs ls hP hD hS hl
  exact va_iald (D := D) (cl := vwCl) (tys := zT cA) hC.1 hC.2.1 hC.2.2.2.2.2.2.1 hP q0 1 he rfl (zI_in hb.1 hb.2.1 (by omega)) hd (by rw [zA_at hb.1 (by omega)]; exact kk H locs ls hP hD hS hl)
theorem z_bald (hC : zOK C cc y Ts rm nL) {a cn : Nat} {g : Int → Int} {i : Int} (q0 : Nat) (hd : decode cc pc = .ok (.baload, 1)) (he : ws[q0]? = some (a, .inl ((zK C).1, cn, .inl (zA g)))) (hb : 0 ≤ i ∧ i < (cn : Int) ∧ i < 2147483648) (kk : ZW C k n ws lv (pc + 1) (.int (zI (g i)) :: st)) : ZW C k n ws lv pc (.int (zI i) :: .ref a :: st) := by
  obtain ⟨p, l, e, R, s, m, args, below, meth, c, Q, A, nL', D, cA⟩ := C
  intro H locs ls hP hD hS hl
  exact va_bald (D := D) (cl := vwCl) (tys := zT cA) hC.1 hC.2.1 hC.2.2.2.2.2.2.1 hP q0 0 he rfl (zI_in hb.1 hb.2.1 (by omega)) hd (by rw [zA_at hb.1 (by omega)]; exact kk H locs ls hP hD hS hl)
theorem z_zald (hC : zOK C cc y Ts rm nL) {a cn : Nat} {g : Int → Int} {i : Int} (q0 : Nat) (hd : decode cc pc = .ok (.baload, 1)) (he : ws[q0]? = some (a, .inl ((zK C).2.2.2, cn, .inl (zA g)))) (hb : 0 ≤ i ∧ i < (cn : Int) ∧ i < 2147483648) (kk : ZW C k n ws lv (pc + 1) (.int (zI (g i)) :: st)) : ZW C k n ws lv pc (.int (zI i) :: .ref a :: st) := by
  obtain ⟨p, l, e, R, s, m, args, below, meth, c, Q, A, nL', D, cA⟩ := C
  intro H locs ls hP hD hS hl
  exact va_zald (D := D) (cl := vwCl) (tys := zT cA) hC.1 hC.2.1 hC.2.2.2.2.2.2.1 hP q0 3 he rfl (zI_in hb.1 hb.2.1 (by omega)) hd (by rw [zA_at hb.1 (by omega)]; exact kk H locs ls hP hD hS hl)
theorem z_lald (hC : zOK C cc y Ts rm nL) {a cn : Nat} {g : Int → Int} {i : Int} (q0 : Nat) (hd : decode cc pc = .ok (.laload, 1)) (he : ws[q0]? = some (a, .inl ((zK C).2.2.1, cn, .inr (.inl (zB g))))) (hb : 0 ≤ i ∧ i < (cn : Int) ∧ i < 2147483648) (kk : ZW C k n ws lv (pc + 1) (.long (zL (g i)) :: st)) : ZW C k n ws lv pc (.int (zI i) :: .ref a :: st) := by
  obtain ⟨p, l, e, R, s, m, args, below, meth, c, Q, A, nL', D, cA⟩ := C
  intro H locs ls hP hD hS hl
  exact va_lald (D := D) (cl := vwCl) (tys := zT cA) hC.1 hC.2.1 hC.2.2.2.2.2.2.1 hP q0 2 he rfl (zI_in hb.1 hb.2.1 (by omega)) hd (by rw [zB_at hb.1 (by omega)]; exact kk H locs ls hP hD hS hl)
theorem z_iast (hC : zOK C cc y Ts rm nL) {a cn : Nat} {g : Int → Int} {i v : Int} (q0 : Nat) (w' : va_W) (hd : decode cc pc = .ok (.iastore, 1)) (he : ws[q0]? = some (a, .inl ((zK C).2.1, cn, .inl (zA g)))) (hb : 0 ≤ i ∧ i < (cn : Int) ∧ i < 2147483648) (hw : ws.set q0 (wI a (zK C).2.1 cn (zu g i v)) = w') (kk : ZW C k n w' lv (pc + 1) st) : ZW C k n ws lv pc (.int (zI v) :: .int (zI i) :: .ref a :: st) := by
  obtain ⟨p, l, e, R, s, m, args, below, meth, c, Q, A, nL', D, cA⟩ := C
  intro H locs ls hP hD hS hl
  subst hw
  exact va_iast (D := D) (cl := vwCl) (tys := zT cA) hC.1 hC.2.1 hC.2.2.2.2.2.2.1 hP hD hS q0 1 he rfl (zI_in hb.1 hb.2.1 (by omega)) hd (fun H1 locs1 hP1 hD1 hS1 => by
    rw [zA_up hb.1 (by omega)] at hP1 hD1
    exact kk H1 locs1 ls hP1 hD1 hS1 hl)
theorem z_bast (hC : zOK C cc y Ts rm nL) {a cn : Nat} {g : Int → Int} {i v : Int} (q0 : Nat) (w' : va_W) (hd : decode cc pc = .ok (.bastore, 1)) (he : ws[q0]? = some (a, .inl ((zK C).1, cn, .inl (zA g)))) (hb : 0 ≤ i ∧ i < (cn : Int) ∧ i < 2147483648) (hv : -128 ≤ v ∧ v < 128) (hw : ws.set q0 (wI a (zK C).1 cn (zu g i v)) = w') (kk : ZW C k n w' lv (pc + 1) st) : ZW C k n ws lv pc (.int (zI v) :: .int (zI i) :: .ref a :: st) := by
  obtain ⟨p, l, e, R, s, m, args, below, meth, c, Q, A, nL', D, cA⟩ := C
  intro H locs ls hP hD hS hl
  subst hw
  exact va_bast (D := D) (cl := vwCl) (tys := zT cA) hC.1 hC.2.1 hC.2.2.2.2.2.2.1 hP hD hS q0 0 he rfl (zI_in hb.1 hb.2.1 (by omega)) hd (fun H1 locs1 hP1 hD1 hS1 => by
    rw [zI_nb hv, zA_up hb.1 (by omega)] at hP1 hD1
    exact kk H1 locs1 ls hP1 hD1 hS1 hl)
theorem z_zast (hC : zOK C cc y Ts rm nL) {a cn : Nat} {g : Int → Int} {i v : Int} (q0 : Nat) (w' : va_W) (hd : decode cc pc = .ok (.bastore, 1)) (he : ws[q0]? = some (a, .inl ((zK C).2.2.2, cn, .inl (zA g)))) (hb : 0 ≤ i ∧ i < (cn : Int) ∧ i < 2147483648) (hv : v = 0 ∨ v = 1) (hw : ws.set q0 (wI a (zK C).2.2.2 cn (zu g i v)) = w') (kk : ZW C k n w' lv (pc + 1) st) : ZW C k n ws lv pc (.int (zI v) :: .int (zI i) :: .ref a :: st) := by
  obtain ⟨p, l, e, R, s, m, args, below, meth, c, Q, A, nL', D, cA⟩ := C
  intro H locs ls hP hD hS hl
  subst hw
  exact va_zast (D := D) (cl := vwCl) (tys := zT cA) hC.1 hC.2.1 hC.2.2.2.2.2.2.1 hP hD hS q0 3 he rfl (zI_in hb.1 hb.2.1 (by omega)) hd (fun H1 locs1 hP1 hD1 hS1 => by
    rw [z_nzv hv, zA_up hb.1 (by omega)] at hP1 hD1
    exact kk H1 locs1 ls hP1 hD1 hS1 hl)
theorem z_last (hC : zOK C cc y Ts rm nL) {a cn : Nat} {g : Int → Int} {i v : Int} (q0 : Nat) (w' : va_W) (hd : decode cc pc = .ok (.lastore, 1)) (he : ws[q0]? = some (a, .inl ((zK C).2.2.1, cn, .inr (.inl (zB g))))) (hb : 0 ≤ i ∧ i < (cn : Int) ∧ i < 2147483648) (hw : ws.set q0 (wJ a (zK C).2.2.1 cn (zu g i v)) = w') (kk : ZW C k n w' lv (pc + 1) st) : ZW C k n ws lv pc (.long (zL v) :: .int (zI i) :: .ref a :: st) := by
  obtain ⟨p, l, e, R, s, m, args, below, meth, c, Q, A, nL', D, cA⟩ := C
  intro H locs ls hP hD hS hl
  subst hw
  exact va_last (D := D) (cl := vwCl) (tys := zT cA) hC.1 hC.2.1 hC.2.2.2.2.2.2.1 hP hD hS q0 2 he rfl (zI_in hb.1 hb.2.1 (by omega)) hd (fun H1 locs1 hP1 hD1 hS1 => by
    rw [zB_up hb.1 (by omega)] at hP1 hD1
    exact kk H1 locs1 ls hP1 hD1 hS1 hl)
theorem z_alenB (hC : zOK C cc y Ts rm nL) {a cn : Nat} {g : Int → Int} (q0 : Nat) (hd : decode cc pc = .ok (.arraylength, 1)) (he : ws[q0]? = some (wI a (zK C).1 cn g)) (kk : ZW C k n ws lv (pc + 1) (.int (zI (cn : Int)) :: st)) : ZW C k n ws lv pc (.ref a :: st) := by
  obtain ⟨p, l, e, R, s, m, args, below, meth, c, Q, A, nL', D, cA⟩ := C
  intro H locs ls hP hD hS hl
  exact va_alen (D := D) (cl := vwCl) (tys := zT cA) hC.1 hC.2.1 hC.2.2.2.2.2.2.1 hP q0 0 he rfl rfl hd (kk H locs ls hP hD hS hl)
theorem z_newaB (hC : zOK C cc y Ts rm nL) {v : Int} (N : Nat) (hd : decode cc pc = .ok (.newarray .byte, 2)) (hk : Cond.arrayClass .byte ∈ Ts) (hv : v = (N : Int)) (hb : N * componentBytes .byte ≤ 536870912) (hc1 : k + 1 ≤ rm.cells) (hc2 : n + N ≤ rm.slots) (kk : ∀ q : Nat, ZW C (k + 1) (n + N) (ws ++ [wI q (zK C).1 N (fun _ => 0)]) lv (pc + 2) (.ref q :: st)) : ZW C k n ws lv pc (.int (zI v) :: st) := by
  obtain ⟨p, l, e, R, s, m, args, below, meth, c, Q, A, nL', D, cA⟩ := C
  intro H locs ls hP hD hS hl
  subst hv
  have hN : N ≤ 536870912 := Nat.le_trans (Nat.le_mul_of_pos_right N (by decide)) hb
  have hR := hC.2.2.2.2.2.2.2.2.1
  have h0 : ¬ zI (N : Int) < 0 := fun q => by
    have := (zI_lt (a := (N : Int)) (b := 0) ⟨by omega, by omega⟩).mp (by rw [zI_0]; exact q)
    omega
  refine va_newa (atype := .byte) (ty := .byte) (D := D) (cl := vwCl) (tys := zT cA) (a0 := (N, .inl (zA (fun _ => 0)))) (N' := N) hC.1 hC.2.1 (hC.2.2.2.2.2.1 _ hk) rfl hC.2.2.2.2.2.2.1 hP hD hS hC.2.2.2.2.2.2.2.1 (fun _ => rfl) h0 (by rw [zI_cl (by omega)]; exact Int.toNat_natCast N) hb (by rw [hR]; exact hc1) (by rw [hR]; exact hc2) hd (fun q cX H1 hK1 hP1 hD1 hS1 => ?_)
  have e1 := (hC.2.2.2.2.2.2.1.2 0 _ rfl).2
  have e2 := (hK1.2 4 _ rfl).2
  have e3 : cX = cA.1 := Option.some.inj (e2.symm.trans e1)
  subst e3
  exact kk q H1 locs ls hP1 hD1 hS1 hl
theorem z_alenI (hC : zOK C cc y Ts rm nL) {a cn : Nat} {g : Int → Int} (q0 : Nat) (hd : decode cc pc = .ok (.arraylength, 1)) (he : ws[q0]? = some (wI a (zK C).2.1 cn g)) (kk : ZW C k n ws lv (pc + 1) (.int (zI (cn : Int)) :: st)) : ZW C k n ws lv pc (.ref a :: st) := by
  obtain ⟨p, l, e, R, s, m, args, below, meth, c, Q, A, nL', D, cA⟩ := C
  intro H locs ls hP hD hS hl
  exact va_alen (D := D) (cl := vwCl) (tys := zT cA) hC.1 hC.2.1 hC.2.2.2.2.2.2.1 hP q0 1 he rfl rfl hd (kk H locs ls hP hD hS hl)
theorem z_newaI (hC : zOK C cc y Ts rm nL) {v : Int} (N : Nat) (hd : decode cc pc = .ok (.newarray .int, 2)) (hk : Cond.arrayClass .int ∈ Ts) (hv : v = (N : Int)) (hb : N * componentBytes .int ≤ 536870912) (hc1 : k + 1 ≤ rm.cells) (hc2 : n + N ≤ rm.slots) (kk : ∀ q : Nat, ZW C (k + 1) (n + N) (ws ++ [wI q (zK C).2.1 N (fun _ => 0)]) lv (pc + 2) (.ref q :: st)) : ZW C k n ws lv pc (.int (zI v) :: st) := by
  obtain ⟨p, l, e, R, s, m, args, below, meth, c, Q, A, nL', D, cA⟩ := C
  intro H locs ls hP hD hS hl
  subst hv
  have hN : N ≤ 536870912 := Nat.le_trans (Nat.le_mul_of_pos_right N (by decide)) hb
  have hR := hC.2.2.2.2.2.2.2.2.1
  have h0 : ¬ zI (N : Int) < 0 := fun q => by
    have := (zI_lt (a := (N : Int)) (b := 0) ⟨by omega, by omega⟩).mp (by rw [zI_0]; exact q)
    omega
  refine va_newa (atype := .int) (ty := .int) (D := D) (cl := vwCl) (tys := zT cA) (a0 := (N, .inl (zA (fun _ => 0)))) (N' := N) hC.1 hC.2.1 (hC.2.2.2.2.2.1 _ hk) rfl hC.2.2.2.2.2.2.1 hP hD hS hC.2.2.2.2.2.2.2.1 (fun _ => rfl) h0 (by rw [zI_cl (by omega)]; exact Int.toNat_natCast N) hb (by rw [hR]; exact hc1) (by rw [hR]; exact hc2) hd (fun q cX H1 hK1 hP1 hD1 hS1 => ?_)
  have e1 := (hC.2.2.2.2.2.2.1.2 1 _ rfl).2
  have e2 := (hK1.2 4 _ rfl).2
  have e3 : cX = cA.2.1 := Option.some.inj (e2.symm.trans e1)
  subst e3
  exact kk q H1 locs ls hP1 hD1 hS1 hl
theorem z_alenJ (hC : zOK C cc y Ts rm nL) {a cn : Nat} {g : Int → Int} (q0 : Nat) (hd : decode cc pc = .ok (.arraylength, 1)) (he : ws[q0]? = some (wJ a (zK C).2.2.1 cn g)) (kk : ZW C k n ws lv (pc + 1) (.int (zI (cn : Int)) :: st)) : ZW C k n ws lv pc (.ref a :: st) := by
  obtain ⟨p, l, e, R, s, m, args, below, meth, c, Q, A, nL', D, cA⟩ := C
  intro H locs ls hP hD hS hl
  exact va_alen (D := D) (cl := vwCl) (tys := zT cA) hC.1 hC.2.1 hC.2.2.2.2.2.2.1 hP q0 2 he rfl rfl hd (kk H locs ls hP hD hS hl)
theorem z_newaJ (hC : zOK C cc y Ts rm nL) {v : Int} (N : Nat) (hd : decode cc pc = .ok (.newarray .long, 2)) (hk : Cond.arrayClass .long ∈ Ts) (hv : v = (N : Int)) (hb : N * componentBytes .long ≤ 536870912) (hc1 : k + 1 ≤ rm.cells) (hc2 : n + N ≤ rm.slots) (kk : ∀ q : Nat, ZW C (k + 1) (n + N) (ws ++ [wJ q (zK C).2.2.1 N (fun _ => 0)]) lv (pc + 2) (.ref q :: st)) : ZW C k n ws lv pc (.int (zI v) :: st) := by
  obtain ⟨p, l, e, R, s, m, args, below, meth, c, Q, A, nL', D, cA⟩ := C
  intro H locs ls hP hD hS hl
  subst hv
  have hN : N ≤ 536870912 := Nat.le_trans (Nat.le_mul_of_pos_right N (by decide)) hb
  have hR := hC.2.2.2.2.2.2.2.2.1
  have h0 : ¬ zI (N : Int) < 0 := fun q => by
    have := (zI_lt (a := (N : Int)) (b := 0) ⟨by omega, by omega⟩).mp (by rw [zI_0]; exact q)
    omega
  refine va_newa (atype := .long) (ty := .long) (D := D) (cl := vwCl) (tys := zT cA) (a0 := (N, .inr (.inl (zB (fun _ => 0))))) (N' := N) hC.1 hC.2.1 (hC.2.2.2.2.2.1 _ hk) rfl hC.2.2.2.2.2.2.1 hP hD hS hC.2.2.2.2.2.2.2.1 (fun _ => rfl) h0 (by rw [zI_cl (by omega)]; exact Int.toNat_natCast N) hb (by rw [hR]; exact hc1) (by rw [hR]; exact hc2) hd (fun q cX H1 hK1 hP1 hD1 hS1 => ?_)
  have e1 := (hC.2.2.2.2.2.2.1.2 2 _ rfl).2
  have e2 := (hK1.2 4 _ rfl).2
  have e3 : cX = cA.2.2.1 := Option.some.inj (e2.symm.trans e1)
  subst e3
  exact kk q H1 locs ls hP1 hD1 hS1 hl
theorem z_alenZ (hC : zOK C cc y Ts rm nL) {a cn : Nat} {g : Int → Int} (q0 : Nat) (hd : decode cc pc = .ok (.arraylength, 1)) (he : ws[q0]? = some (wI a (zK C).2.2.2 cn g)) (kk : ZW C k n ws lv (pc + 1) (.int (zI (cn : Int)) :: st)) : ZW C k n ws lv pc (.ref a :: st) := by
  obtain ⟨p, l, e, R, s, m, args, below, meth, c, Q, A, nL', D, cA⟩ := C
  intro H locs ls hP hD hS hl
  exact va_alen (D := D) (cl := vwCl) (tys := zT cA) hC.1 hC.2.1 hC.2.2.2.2.2.2.1 hP q0 3 he rfl rfl hd (kk H locs ls hP hD hS hl)
theorem z_newaZ (hC : zOK C cc y Ts rm nL) {v : Int} (N : Nat) (hd : decode cc pc = .ok (.newarray .boolean, 2)) (hk : Cond.arrayClass .boolean ∈ Ts) (hv : v = (N : Int)) (hb : N * componentBytes .boolean ≤ 536870912) (hc1 : k + 1 ≤ rm.cells) (hc2 : n + N ≤ rm.slots) (kk : ∀ q : Nat, ZW C (k + 1) (n + N) (ws ++ [wI q (zK C).2.2.2 N (fun _ => 0)]) lv (pc + 2) (.ref q :: st)) : ZW C k n ws lv pc (.int (zI v) :: st) := by
  obtain ⟨p, l, e, R, s, m, args, below, meth, c, Q, A, nL', D, cA⟩ := C
  intro H locs ls hP hD hS hl
  subst hv
  have hN : N ≤ 536870912 := Nat.le_trans (Nat.le_mul_of_pos_right N (by decide)) hb
  have hR := hC.2.2.2.2.2.2.2.2.1
  have h0 : ¬ zI (N : Int) < 0 := fun q => by
    have := (zI_lt (a := (N : Int)) (b := 0) ⟨by omega, by omega⟩).mp (by rw [zI_0]; exact q)
    omega
  refine va_newa (atype := .boolean) (ty := .boolean) (D := D) (cl := vwCl) (tys := zT cA) (a0 := (N, .inl (zA (fun _ => 0)))) (N' := N) hC.1 hC.2.1 (hC.2.2.2.2.2.1 _ hk) rfl hC.2.2.2.2.2.2.1 hP hD hS hC.2.2.2.2.2.2.2.1 (fun _ => rfl) h0 (by rw [zI_cl (by omega)]; exact Int.toNat_natCast N) hb (by rw [hR]; exact hc1) (by rw [hR]; exact hc2) hd (fun q cX H1 hK1 hP1 hD1 hS1 => ?_)
  have e1 := (hC.2.2.2.2.2.2.1.2 3 _ rfl).2
  have e2 := (hK1.2 4 _ rfl).2
  have e3 : cX = cA.2.2.2 := Option.some.inj (e2.symm.trans e1)
  subst e3
  exact kk q H1 locs ls hP1 hD1 hS1 hl
theorem z_new (hC : zOK C cc y Ts rm nL) {ci ix N : Nat} {Cn : String} {T : u_T} {ty0 : Nat → FieldType} (hin : ∀ w ∈ u_ws Cn T N, w ∈ Ts) (hty : ∀ k, k < N → parseFieldDescriptor (T k).2.2.1 = some (ty0 k)) (fs : List Value) (hd : decode cc pc = .ok (.new ix, 3)) (hcl : Cond.classLink y.cls ix Cn ∈ Ts) (hinst : Cond.instantiable Cn N ∈ Ts) (hini : Cond.initialized Cn ∈ Ts) (hc : vwCl[ci]? = some (Cn, T, N)) (hfs : ∀ j, j < N → defaultValue (ty0 j) = vp_V fs j) (hc1 : k + 1 ≤ rm.cells) (hc2 : n + N ≤ rm.slots) (kk : ∀ q : Nat, ZW C (k + 1) (n + N) (ws ++ [wO q ci fs]) lv (pc + 3) (.ref q :: st)) : ZW C k n ws lv pc st := by
  obtain ⟨p, l, e, R, s, m, args, below, meth, c, Q, A, nL', D, cA⟩ := C
  intro H locs ls hP hD hS hl
  have hR := hC.2.2.2.2.2.2.2.2.1
  exact va_new (D := D) (cl := vwCl) (tys := zT cA) (ci := ci) (fs := fs) hC.1 hC.2.1 hC.2.2.2.2.2.1 hin ty0 hty hC.2.2.2.2.1 (hC.2.2.2.2.2.1 _ hcl) (hC.2.2.2.2.2.1 _ hinst) (hC.2.2.2.2.2.1 _ hini) hC.2.2.2.2.2.2.1 hP hD hS hC.2.2.2.2.2.2.2.1 hc hfs (by rw [hR]; exact hc1) (by rw [hR]; exact hc2) hd (fun q H1 hP1 hD1 hS1 => kk q H1 locs ls hP1 hD1 hS1 hl)
theorem z_objInit (hC : zOK C cc y Ts rm nL) {ix a : Nat} (hd : decode cc pc = .ok (.invokespecial ix, 3)) (h1 : Cond.methodLink y.cls ix objectInit ∈ Ts) (h2 : Cond.instanceMethod objectInit ∈ Ts) (h3 : Cond.code objectInit ⟨#[0xb1]⟩ 1 none ∈ Ts) (hf : 1 ≤ rm.frames) (hlo : (st.map fun v => v.category).sum + 12 ≤ rm.locals) (kk : ZW C k n ws lv (pc + 3) st) : ZW C k n ws lv pc (.ref a :: st) := by
  obtain ⟨p, l, e, R, s, m, args, below, meth, c, Q, A, nL', D, cA⟩ := C
  intro H locs ls hP hD hS hl
  have hR := hC.2.2.2.2.2.2.2.2.1
  refine W.objInit hC.1 hC.2.1 hC.2.2.2.2.1 (hC.2.2.2.2.2.1 _ h1) (hC.2.2.2.2.2.1 _ h2) (hC.2.2.2.2.2.1 _ h3) rfl (by rw [hC.2.2.1]; exact hl.1.trans hC.2.2.2.1) rfl hd (by rw [hR]; exact hf) (by rw [hR]; show 0 + _ + 12 ≤ _; omega) ?_
  exact kk H locs ls hP hD hS hl
-- ends
theorem z_iret (hC : zOK C cc y Ts rm nL) {ws0 : va_W} {mc ms : Nat} {Fin : Option Value → va_W → Prop} {v : Int} (hR : zRet C (some .int) ws0 mc ms Fin) (hd : decode cc pc = .ok (.ireturn, 1)) (h1 : k ≤ mc) (h2 : n ≤ ms) (hf : Fin (some (.int (zI v))) ws) : ZW C k n ws lv pc [.int (zI v)] := by
  obtain ⟨p, l, e, R, s, m, args, below, meth, c, Q, A, nL', D, cA⟩ := C
  intro H locs ls hP hD hS hl
  obtain ⟨r1, r2, r3, r4⟩ := hR
  subst r3
  subst r4
  refine W.widen h1 h2 ?_
  exact W.iret hC.1 hC.2.1 r1 (fun t ht hW => ⟨⟨_, ws, rfl, hf, by rw [ht]; exact hP, hD⟩, hS.F ht⟩) hS.2.2 hd
theorem z_zret (hC : zOK C cc y Ts rm nL) {ws0 : va_W} {mc ms : Nat} {Fin : Option Value → va_W → Prop} {v : Int} (hR : zRet C (some .boolean) ws0 mc ms Fin) (hd : decode cc pc = .ok (.ireturn, 1)) (hv : v = 0 ∨ v = 1) (h1 : k ≤ mc) (h2 : n ≤ ms) (hf : Fin (some (.int (zI v))) ws) : ZW C k n ws lv pc [.int (zI v)] := by
  obtain ⟨p, l, e, R, s, m, args, below, meth, c, Q, A, nL', D, cA⟩ := C
  intro H locs ls hP hD hS hl
  obtain ⟨r1, r2, r3, r4⟩ := hR
  subst r3
  subst r4
  refine W.widen h1 h2 ?_
  exact W.zret (ty := .boolean) hC.1 hC.2.1 r1 (z_nz hv) (fun t ht hW => ⟨⟨_, ws, rfl, hf, by rw [ht]; exact hP, hD⟩, hS.F ht⟩) hS.2.2 hd
theorem z_lret (hC : zOK C cc y Ts rm nL) {ws0 : va_W} {mc ms : Nat} {Fin : Option Value → va_W → Prop} {v : Int64} (hR : zRet C (some .long) ws0 mc ms Fin) (hd : decode cc pc = .ok (.lreturn, 1)) (h1 : k ≤ mc) (h2 : n ≤ ms) (hf : Fin (some (.long v)) ws) : ZW C k n ws lv pc [.long v] := by
  obtain ⟨p, l, e, R, s, m, args, below, meth, c, Q, A, nL', D, cA⟩ := C
  intro H locs ls hP hD hS hl
  obtain ⟨r1, r2, r3, r4⟩ := hR
  subst r3
  subst r4
  refine W.widen h1 h2 ?_
  exact W.lret hC.1 hC.2.1 r1 (fun t ht hW => ⟨⟨_, ws, rfl, hf, by rw [ht]; exact hP, hD⟩, hS.F ht⟩) hS.2.2 hd
theorem z_vret (hC : zOK C cc y Ts rm nL) {ws0 : va_W} {mc ms : Nat} {Fin : Option Value → va_W → Prop} (hR : zRet C none ws0 mc ms Fin) (hd : decode cc pc = .ok (.return_, 1)) (h1 : k ≤ mc) (h2 : n ≤ ms) (hf : Fin none ws) : ZW C k n ws lv pc [] := by
  obtain ⟨p, l, e, R, s, m, args, below, meth, c, Q, A, nL', D, cA⟩ := C
  intro H locs ls hP hD hS hl
  obtain ⟨r1, r2, r3, r4⟩ := hR
  subst r3
  subst r4
  refine W.widen h1 h2 ?_
  exact W.vret hC.1 hC.2.1 r1 (fun t ht hW => ⟨⟨_, ws, rfl, hf, by rw [ht]; exact hP, hD⟩, hS.F ht⟩) hS.2.2 hd
theorem z_aret (hC : zOK C cc y Ts rm nL) {ws0 : va_W} {mc ms a : Nat} {ty : FieldType} {Fin : Option Value → va_W → Prop} (hR : zRet C (some ty) ws0 mc ms Fin) (hty : ∃ z, ty = .object z) (hd : decode cc pc = .ok (.areturn, 1)) (h1 : k ≤ mc) (h2 : n ≤ ms) (hf : Fin (some (.ref a)) ws) : ZW C k n ws lv pc [.ref a] := by
  obtain ⟨p, l, e, R, s, m, args, below, meth, c, Q, A, nL', D, cA⟩ := C
  intro H locs ls hP hD hS hl
  obtain ⟨r1, r2, r3, r4⟩ := hR
  subst r3
  subst r4
  obtain ⟨z, rfl⟩ := hty
  refine W.widen h1 h2 ?_
  exact W.aret hC.1 hC.2.1 r1 (Or.inl ⟨z, rfl⟩) (Or.inr ⟨a, rfl⟩) (fun t ht hW => ⟨⟨_, ws, rfl, hf, by rw [ht]; exact hP, hD⟩, hS.F ht⟩) hS.2.2 hd
end ZI
