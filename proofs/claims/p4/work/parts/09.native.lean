section ZN
variable {C : zC} {cc : ByteArray} {y : MethodName} {Ts : List Cond} {rm : Room} {nL : Nat} {k n : Nat} {ws : va_W} {lv : List (Nat × Value)} {pc : Nat} {st : List Value}
theorem zI_min {a b : Int} (h : zR a ∧ zR b) : (if zI b < zI a then zI b else zI a) = zI (min a b) := by
  by_cases q : b < a
  · rw [if_pos ((zI_lt h.symm).mpr q), Int.min_def, if_neg (by omega)]
  · rw [if_neg (fun z => q ((zI_lt h.symm).mp z)), Int.min_def, if_pos (by omega)]
theorem zI_max {a b : Int} (h : zR a ∧ zR b) : (if zI a < zI b then zI b else zI a) = zI (max a b) := by
  by_cases q : a < b
  · rw [if_pos ((zI_lt h).mpr q), Int.max_def, if_pos (by omega)]
  · rw [if_neg (fun z => q ((zI_lt h).mp z)), Int.max_def]
    by_cases q2 : a ≤ b
    · rw [if_pos q2, show a = b by omega]
    · rw [if_neg q2]
theorem zL_min {a b : Int} (h : zRL a ∧ zRL b) : (if zL b < zL a then zL b else zL a) = zL (min a b) := by
  by_cases q : b < a
  · rw [if_pos ((zL_lt h.symm).mpr q), Int.min_def, if_neg (by omega)]
  · rw [if_neg (fun z => q ((zL_lt h.symm).mp z)), Int.min_def, if_pos (by omega)]
theorem zI_abs {a : Int} (h : -2147483647 ≤ a ∧ a < 2147483648) : (if 0 ≤ zI a then zI a else 0 - zI a) = zI (max a (-a)) := by
  have hr : zR 0 ∧ zR a := by omega
  by_cases q : 0 ≤ a
  · rw [if_pos (by rw [← zI_0]; exact (zI_le hr).mpr q), Int.max_def]
    by_cases q2 : a ≤ -a
    · rw [if_pos q2, show a = 0 by omega]; rfl
    · rw [if_neg q2]
  · rw [if_neg (by rw [← zI_0]; exact fun z => q ((zI_le hr).mp z)), Int.max_def, if_pos (by omega), ← zI_0, zI_sub]
    congr 1
    omega
def zc (f g : Int → Int) (n : Int) : Int → Int := fun j => if 0 ≤ j ∧ j < n then f j else g j
def zand (a b : Int) : Int := (zL a &&& zL b).toInt
def zor (a b : Int) : Int := (zL a ||| zL b).toInt
def zshl (a b : Int) : Int := (zL a <<< ((zI b).toInt64 &&& 63)).toInt
def zshr (a b : Int) : Int := (zL a >>> ((zI b).toInt64 &&& 63)).toInt
def zishr (a b : Int) : Int := (zI a >>> (zI b &&& 31)).toInt
def zishl (a b : Int) : Int := (zI a <<< (zI b &&& 31)).toInt
theorem z_mmin (hC : zOK C cc y Ts rm nL) {a b : Int} {ix : Nat} (hd : decode cc pc = .ok (.invokestatic ix, 3)) (w1 : Cond.methodLink y.cls ix Lib.Math.min.name ∈ Ts) (w2 : Cond.static Lib.Math.min.name ∈ Ts) (w3 : Cond.initialized "java/lang/Math" ∈ Ts) (w4 : Cond.code Lib.Math.min.name Lib.Math.min.code 2 (some .int) ∈ Ts) (hr : zR a ∧ zR b) (hf : 1 ≤ rm.frames) (hlo : (st.map fun v => v.category).sum + 13 ≤ rm.locals) (hc : k ≤ rm.cells) (hs : n ≤ rm.slots) (kk : ZW C k n ws lv (pc + 3) (.int (zI (min a b)) :: st)) : ZW C k n ws lv pc (.int (zI b) :: .int (zI a) :: st) := by
  obtain ⟨p, l, e, R, s, m, args, below, meth, c, Q, A, nL', D, cA⟩ := C
  intro H locs ls hP hD hS hl
  have hR : R = rm := hC.2.2.2.2.2.2.2.2.1
  have hml : c.maxLocals = ls.size := by rw [hC.2.2.1, hl.1]; exact hC.2.2.2.1.symm
  refine va_mmin hC.1 hC.2.1 hml hC.2.2.2.2.1 (hC.2.2.2.2.2.1 _ w1) (hC.2.2.2.2.2.1 _ w2) (hC.2.2.2.2.2.1 _ w3) (hC.2.2.2.2.2.1 _ w4) (by rw [hR]; exact hf) (by rw [hR]; exact hlo) (by rw [hR]; exact hc) (by rw [hR]; exact hs) hd ?_
  rw [zI_min hr]
  exact kk H locs ls hP hD hS hl
theorem z_mmax (hC : zOK C cc y Ts rm nL) {a b : Int} {ix : Nat} (hd : decode cc pc = .ok (.invokestatic ix, 3)) (w1 : Cond.methodLink y.cls ix Lib.Math.max.name ∈ Ts) (w2 : Cond.static Lib.Math.max.name ∈ Ts) (w3 : Cond.initialized "java/lang/Math" ∈ Ts) (w4 : Cond.code Lib.Math.max.name Lib.Math.max.code 2 (some .int) ∈ Ts) (hr : zR a ∧ zR b) (hf : 1 ≤ rm.frames) (hlo : (st.map fun v => v.category).sum + 13 ≤ rm.locals) (hc : k ≤ rm.cells) (hs : n ≤ rm.slots) (kk : ZW C k n ws lv (pc + 3) (.int (zI (max a b)) :: st)) : ZW C k n ws lv pc (.int (zI b) :: .int (zI a) :: st) := by
  obtain ⟨p, l, e, R, s, m, args, below, meth, c, Q, A, nL', D, cA⟩ := C
  intro H locs ls hP hD hS hl
  have hR : R = rm := hC.2.2.2.2.2.2.2.2.1
  have hml : c.maxLocals = ls.size := by rw [hC.2.2.1, hl.1]; exact hC.2.2.2.1.symm
  refine va_mmax hC.1 hC.2.1 hml hC.2.2.2.2.1 (hC.2.2.2.2.2.1 _ w1) (hC.2.2.2.2.2.1 _ w2) (hC.2.2.2.2.2.1 _ w3) (hC.2.2.2.2.2.1 _ w4) (by rw [hR]; exact hf) (by rw [hR]; exact hlo) (by rw [hR]; exact hc) (by rw [hR]; exact hs) hd ?_
  rw [zI_max hr]
  exact kk H locs ls hP hD hS hl
theorem z_mabs (hC : zOK C cc y Ts rm nL) {a : Int} {ix : Nat} (hd : decode cc pc = .ok (.invokestatic ix, 3)) (w1 : Cond.methodLink y.cls ix Lib.Math.abs.name ∈ Ts) (w2 : Cond.static Lib.Math.abs.name ∈ Ts) (w3 : Cond.initialized "java/lang/Math" ∈ Ts) (w4 : Cond.code Lib.Math.abs.name Lib.Math.abs.code 1 (some .int) ∈ Ts) (hr : -2147483647 ≤ a ∧ a < 2147483648) (hf : 1 ≤ rm.frames) (hlo : (st.map fun v => v.category).sum + 13 ≤ rm.locals) (hc : k ≤ rm.cells) (hs : n ≤ rm.slots) (kk : ZW C k n ws lv (pc + 3) (.int (zI (max a (-a))) :: st)) : ZW C k n ws lv pc (.int (zI a) :: st) := by
  obtain ⟨p, l, e, R, s, m, args, below, meth, c, Q, A, nL', D, cA⟩ := C
  intro H locs ls hP hD hS hl
  have hR : R = rm := hC.2.2.2.2.2.2.2.2.1
  have hml : c.maxLocals = ls.size := by rw [hC.2.2.1, hl.1]; exact hC.2.2.2.1.symm
  refine va_mabs hC.1 hC.2.1 hml hC.2.2.2.2.1 (hC.2.2.2.2.2.1 _ w1) (hC.2.2.2.2.2.1 _ w2) (hC.2.2.2.2.2.1 _ w3) (hC.2.2.2.2.2.1 _ w4) (by rw [hR]; exact hf) (by rw [hR]; exact hlo) (by rw [hR]; exact hc) (by rw [hR]; exact hs) hd ?_
  rw [zI_abs hr]
  exact kk H locs ls hP hD hS hl
theorem z_mminL (hC : zOK C cc y Ts rm nL) {a b : Int} {ix : Nat} (hd : decode cc pc = .ok (.invokestatic ix, 3)) (w1 : Cond.methodLink y.cls ix Lib.MathLoose.min_long.x ∈ Ts) (w2 : Cond.static Lib.MathLoose.min_long.x ∈ Ts) (w3 : Cond.initialized "java/lang/Math" ∈ Ts) (w4 : Cond.code Lib.MathLoose.min_long.x Lib.MathLoose.min_long.code 4 (some .long) ∈ Ts) (hr : zRL a ∧ zRL b) (hf : 1 ≤ rm.frames) (hlo : (st.map fun v => v.category).sum + 15 ≤ rm.locals) (hc : k ≤ rm.cells) (hs : n ≤ rm.slots) (kk : ZW C k n ws lv (pc + 3) (.long (zL (min a b)) :: st)) : ZW C k n ws lv pc (.long (zL b) :: .long (zL a) :: st) := by
  obtain ⟨p, l, e, R, s, m, args, below, meth, c, Q, A, nL', D, cA⟩ := C
  intro H locs ls hP hD hS hl
  have hR : R = rm := hC.2.2.2.2.2.2.2.2.1
  have hml : c.maxLocals = ls.size := by rw [hC.2.2.1, hl.1]; exact hC.2.2.2.1.symm
  refine va_mmin_long hC.1 hC.2.1 hml hC.2.2.2.2.1 (hC.2.2.2.2.2.1 _ w1) (hC.2.2.2.2.2.1 _ w2) (hC.2.2.2.2.2.1 _ w3) (hC.2.2.2.2.2.1 _ w4) (by rw [hR]; exact hf) (by rw [hR]; exact hlo) (by rw [hR]; exact hc) (by rw [hR]; exact hs) hd ?_
  rw [zL_min hr]
  exact kk H locs ls hP hD hS hl
theorem z_land (hC : zOK C cc y Ts rm nL) {a b : Int} (hd : decode cc pc = .ok (.land, 1)) (kk : ZW C k n ws lv (pc + 1) (.long (zL (zand a b)) :: st)) : ZW C k n ws lv pc (.long (zL b) :: .long (zL a) :: st) := by
  obtain ⟨p, l, e, R, s, m, args, below, meth, c, Q, A, nL', D, cA⟩ := C
  intro H locs ls hP hD hS hl
  have hR : R = rm := hC.2.2.2.2.2.2.2.2.1
  have hml : c.maxLocals = ls.size := by rw [hC.2.2.1, hl.1]; exact hC.2.2.2.1.symm
  refine lv_land hC.1 hC.2.1 hd ?_
  have h := kk H locs ls hP hD hS hl
  unfold zand at h
  rw [zL_as] at h
  exact h
theorem z_lor (hC : zOK C cc y Ts rm nL) {a b : Int} (hd : decode cc pc = .ok (.lor, 1)) (kk : ZW C k n ws lv (pc + 1) (.long (zL (zor a b)) :: st)) : ZW C k n ws lv pc (.long (zL b) :: .long (zL a) :: st) := by
  obtain ⟨p, l, e, R, s, m, args, below, meth, c, Q, A, nL', D, cA⟩ := C
  intro H locs ls hP hD hS hl
  have hR : R = rm := hC.2.2.2.2.2.2.2.2.1
  have hml : c.maxLocals = ls.size := by rw [hC.2.2.1, hl.1]; exact hC.2.2.2.1.symm
  refine lv_lor hC.1 hC.2.1 hd ?_
  have h := kk H locs ls hP hD hS hl
  unfold zor at h
  rw [zL_as] at h
  exact h
theorem z_lshl (hC : zOK C cc y Ts rm nL) {a b : Int} (hd : decode cc pc = .ok (.lshl, 1)) (kk : ZW C k n ws lv (pc + 1) (.long (zL (zshl a b)) :: st)) : ZW C k n ws lv pc (.int (zI b) :: .long (zL a) :: st) := by
  obtain ⟨p, l, e, R, s, m, args, below, meth, c, Q, A, nL', D, cA⟩ := C
  intro H locs ls hP hD hS hl
  have hR : R = rm := hC.2.2.2.2.2.2.2.2.1
  have hml : c.maxLocals = ls.size := by rw [hC.2.2.1, hl.1]; exact hC.2.2.2.1.symm
  exact lv_lshl (v := zL (zshl a b)) hC.1 hC.2.1 hd (by unfold zshl; rw [zL_as]) (kk H locs ls hP hD hS hl)
theorem z_lshr (hC : zOK C cc y Ts rm nL) {a b : Int} (hd : decode cc pc = .ok (.lshr, 1)) (kk : ZW C k n ws lv (pc + 1) (.long (zL (zshr a b)) :: st)) : ZW C k n ws lv pc (.int (zI b) :: .long (zL a) :: st) := by
  obtain ⟨p, l, e, R, s, m, args, below, meth, c, Q, A, nL', D, cA⟩ := C
  intro H locs ls hP hD hS hl
  have hR : R = rm := hC.2.2.2.2.2.2.2.2.1
  have hml : c.maxLocals = ls.size := by rw [hC.2.2.1, hl.1]; exact hC.2.2.2.1.symm
  exact lv_lshr (v := zL (zshr a b)) hC.1 hC.2.1 hd (by unfold zshr; rw [zL_as]) (kk H locs ls hP hD hS hl)
theorem zI_bv (a : Int) : (zI a).toBitVec.toNat = (a % 4294967296).toNat := by
  unfold zI
  rw [Int32.toBitVec_ofInt, BitVec.toNat_ofInt]
  rfl
theorem zI_nat (n : Nat) : nI n = zI (n : Int) := by
  unfold nI zI
  exact (Int32.ofInt_eq_ofNat ..).symm
theorem zI_and2 (a : Int) : zI a &&& zI 1 = zI (a % 2) := by
  rw [pk_and (zI a) 1 (by decide), zI_bv, zI_nat]
  congr 1
  omega
theorem zI_and64 (a : Int) : zI a &&& zI 63 = zI (a % 64) := by
  rw [pk_and (zI a) 6 (by decide), zI_bv, zI_nat]
  congr 1
  omega
theorem z_iand2 (hC : zOK C cc y Ts rm nL) {a : Int} (hd : decode cc pc = .ok (.iand, 1)) (kk : ZW C k n ws lv (pc + 1) (.int (zI (a % 2)) :: st)) : ZW C k n ws lv pc (.int (zI 1) :: .int (zI a) :: st) := by
  obtain ⟨p, l, e, R, s, m, args, below, meth, c, Q, A, nL', D, cA⟩ := C
  intro H locs ls hP hD hS hl
  have hR : R = rm := hC.2.2.2.2.2.2.2.2.1
  have hml : c.maxLocals = ls.size := by rw [hC.2.2.1, hl.1]; exact hC.2.2.2.1.symm
  have h := kk H locs ls hP hD hS hl
  rw [← show zI a &&& zI 1 = zI (a % 2) from zI_and2 a] at h
  exact lv_iand hC.1 hC.2.1 hd h
theorem z_iand64 (hC : zOK C cc y Ts rm nL) {a : Int} (hd : decode cc pc = .ok (.iand, 1)) (kk : ZW C k n ws lv (pc + 1) (.int (zI (a % 64)) :: st)) : ZW C k n ws lv pc (.int (zI 63) :: .int (zI a) :: st) := by
  obtain ⟨p, l, e, R, s, m, args, below, meth, c, Q, A, nL', D, cA⟩ := C
  intro H locs ls hP hD hS hl
  have hR : R = rm := hC.2.2.2.2.2.2.2.2.1
  have hml : c.maxLocals = ls.size := by rw [hC.2.2.1, hl.1]; exact hC.2.2.2.1.symm
  have h := kk H locs ls hP hD hS hl
  rw [← show zI a &&& zI 63 = zI (a % 64) from zI_and64 a] at h
  exact lv_iand hC.1 hC.2.1 hd h
theorem z_copy (hC : zOK C cc y Ts rm nL) {a0 a : Nat} {f g : Int → Int} {ix cn : Nat} {v : Int} (q0 q1 : Nat) (w' : va_W) (hd : decode cc pc = .ok (.invokestatic ix, 3)) (w1 : Cond.methodLink y.cls ix arraycopyName ∈ Ts) (w2 : Cond.native arraycopyName ∈ Ts) (w3 : Cond.static arraycopyName ∈ Ts) (w4 : Cond.initialized "java/lang/System" ∈ Ts) (h0 : ws[q0]? = some (wJ a0 (zK C).2.2.1 cn f)) (h1 : ws[q1]? = some (wJ a (zK C).2.2.1 cn g)) (hv : 0 ≤ v ∧ v ≤ (cn : Int) ∧ cn < 2147483648) (hf : 1 ≤ rm.frames) (hlo : (st.map fun v => v.category).sum + (nativeFrameWords "java/lang/System" "arraycopy" 5 + 11) ≤ rm.locals) (hw : ws.set q1 (wJ a (zK C).2.2.1 cn (zc f g v)) = w') (kk : ZW C k n w' lv (pc + 3) st) : ZW C k n ws lv pc (.int (zI v) :: .int (zI 0) :: .ref a :: .int (zI 0) :: .ref a0 :: st) := by
  obtain ⟨p, l, e, R, s, m, args, below, meth, c, Q, A, nL', D, cA⟩ := C
  intro H locs ls hP hD hS hl
  have hR : R = rm := hC.2.2.2.2.2.2.2.2.1
  have hml : c.maxLocals = ls.size := by rw [hC.2.2.1, hl.1]; exact hC.2.2.2.1.symm
  subst hw
  have hc : (zI v).toNatClampNeg = v.toNat := zI_cl (by omega)
  have hc0 : (zI 0).toNatClampNeg = 0 := rfl
  have hng : ¬ zI v < 0 := fun q => by
    have := (zI_lt (a := v) (b := 0) ⟨by omega, by omega⟩).mp (by rw [zI_0]; exact q)
    omega
  have hcp : va_cpy (zB f) (zB g) (zI 0).toNatClampNeg (zI 0).toNatClampNeg (zI v).toNatClampNeg = zB (zc f g v) := by
    funext j
    rw [hc, hc0]
    unfold va_cpy zB zc
    by_cases q : j < v.toNat
    · rw [if_pos (by omega), if_pos (by omega)]; congr 2; omega
    · rw [if_neg (by omega), if_neg (by omega)]
  refine va_copyl (D := D) (cl := vwCl) (tys := zT cA) (ty := .long) hC.1 hC.2.1 hml hC.2.2.2.2.1 (hC.2.2.2.2.2.1 _ w1) (hC.2.2.2.2.2.1 _ w2) (hC.2.2.2.2.2.1 _ w3) (hC.2.2.2.2.2.1 _ w4) hC.2.2.2.2.2.2.1 hP hD hS q0 q1 2 2 h0 h1 rfl rfl rfl (by decide) (by decide) hng (by rw [hc, hc0]; omega) (by rw [hc, hc0]; omega) (fun _ _ => rfl) (by rw [hR]; exact hf) (by rw [hR]; exact hlo) hd (fun H1 locs1 hP1 hD1 hS1 => ?_)
  rw [hcp] at hP1 hD1
  exact kk H1 locs1 ls hP1 hD1 hS1 hl
theorem z_tableIn (hC : zOK C cc y Ts rm nL) {a dflt lo hi off : Int} {offs : Array Int} {len : Nat} (v : Int) (hd : decode cc pc = .ok (.tableswitch dflt lo hi offs, len)) (ha : a = v) (hr : zR v) (h1 : lo ≤ v) (h2 : v ≤ hi) (ho : offs[(v - lo).toNat]? = some off) (tgt : Nat) (ht : (pc : Int) + off = (tgt : Int)) (kk : ZW C k n ws lv tgt st) : ZW C k n ws lv pc (.int (zI a) :: st) := by
  subst ha
  obtain ⟨p, l, e, R, s, m, args, below, meth, c, Q, A, nL', D, cA⟩ := C
  intro H locs ls hP hD hS hl
  have hR : R = rm := hC.2.2.2.2.2.2.2.2.1
  have hml : c.maxLocals = ls.size := by rw [hC.2.2.1, hl.1]; exact hC.2.2.2.1.symm
  exact lv_tableIn hC.1 hC.2.1 hd (by rw [zI_t hr]; omega) (by rw [zI_t hr]; omega) (by rw [zI_t hr]; exact ho) ht (kk H locs ls hP hD hS hl)
theorem z_tableOut (hC : zOK C cc y Ts rm nL) {a dflt lo hi : Int} {offs : Array Int} {len : Nat} (hd : decode cc pc = .ok (.tableswitch dflt lo hi offs, len)) (h : a < lo ∨ hi < a) (hr : zR a) (tgt : Nat) (ht : (pc : Int) + dflt = (tgt : Int)) (kk : ZW C k n ws lv tgt st) : ZW C k n ws lv pc (.int (zI a) :: st) := by
  obtain ⟨p, l, e, R, s, m, args, below, meth, c, Q, A, nL', D, cA⟩ := C
  intro H locs ls hP hD hS hl
  have hR : R = rm := hC.2.2.2.2.2.2.2.2.1
  have hml : c.maxLocals = ls.size := by rw [hC.2.2.1, hl.1]; exact hC.2.2.2.1.symm
  exact lv_tableOut hC.1 hC.2.1 hd (by rw [zI_t hr]; exact h) ht (kk H locs ls hP hD hS hl)
end ZN
