section ZABS
/-! what a number is, forgotten: it is some number in its range -/
variable {C : zC} {cc : ByteArray} {y : MethodName} {Ts : List Cond} {rm : Room} {nL : Nat} {k n : Nat} {ws : va_W} {lv : List (Nat × Value)} {pc : Nat} {st : List Value}
theorem z_absl {a : Int} (kk : ∀ v : Int, zRL v → ZW C k n ws lv pc (.long (zL v) :: st)) : ZW C k n ws lv pc (.long (zL a) :: st) := by
  obtain ⟨v, h1, h2⟩ := zL_of (zL a)
  rw [h2]
  exact kk v h1
theorem z_absi {a : Int} (kk : ∀ v : Int, zR v → ZW C k n ws lv pc (.int (zI v) :: st)) : ZW C k n ws lv pc (.int (zI a) :: st) := by
  obtain ⟨v, h1, h2⟩ := zI_of (zI a)
  rw [h2]
  exact kk v h1
theorem z_lremA (hC : zOK C cc y Ts rm nL) {a b : Int} (hd : decode cc pc = .ok (.lrem, 1)) (hg : 0 < b ∧ b < 9223372036854775808) (kk : ∀ v : Int, zRL v → ZW C k n ws lv (pc + 1) (.long (zL v) :: st)) : ZW C k n ws lv pc (.long (zL b) :: .long (zL a) :: st) := by
  obtain ⟨p, l, e, R, s, m, args, below, meth, c, Q, A, nL', D, cA⟩ := C
  intro H locs ls hP hD hS hl
  refine lv_lrem hC.1 hC.2.1 hd (zL_ne0 hg.1 (by omega)) ?_
  obtain ⟨v, h1, h2⟩ := zL_of (zL a - zL a / zL b * zL b)
  rw [h2]
  exact kk v h1 H locs ls hP hD hS hl
theorem zshr_h {a : Int} (h : 0 ≤ a ∧ a < 9223372036854775808) : zshr a 1 = a / 2 := by
  unfold zshr
  have e : (zI 1).toInt64 &&& 63 = zL 1 := by decide
  rw [e]
  show ((zL a).toBitVec.sshiftRight ((zL 1).toBitVec.smod 64).toNat).toInt = _
  rw [show ((zL 1).toBitVec.smod 64).toNat = 1 by decide, BitVec.toInt_sshiftRight]
  show ((zL a).toInt) >>> 1 = _
  rw [zL_t (by omega), Int.shiftRight_eq_div_pow]
  rfl
theorem zishr_h {a : Int} (h : 0 ≤ a ∧ a < 2147483648) : zishr a 1 = a / 2 := by
  unfold zishr
  have e : zI 1 &&& 31 = zI 1 := by decide
  rw [e]
  show ((zI a).toBitVec.sshiftRight ((zI 1).toBitVec.smod 32).toNat).toInt = _
  rw [show ((zI 1).toBitVec.smod 32).toNat = 1 by decide, BitVec.toInt_sshiftRight]
  show ((zI a).toInt) >>> 1 = _
  rw [zI_t (by omega), Int.shiftRight_eq_div_pow]
  rfl
/-- all of a row's numbers lie between two -/
def bnd (g : Int → Int) (lo hi : Int) : Prop := ∀ j, lo ≤ g j ∧ g j ≤ hi
theorem bnd_zu {g : Int → Int} {lo hi k v : Int} (h : bnd g lo hi) (hv : lo ≤ v ∧ v ≤ hi) : bnd (zu g k v) lo hi := by
  intro j
  unfold zu
  split
  · exact hv
  · exact h j
theorem bnd_0 {lo hi : Int} (h : lo ≤ 0 ∧ 0 ≤ hi) : bnd (fun _ => 0) lo hi := fun _ => h
theorem z_iorA (hC : zOK C cc y Ts rm nL) {a b : Int} (hd : decode cc pc = .ok (.ior, 1)) (kk : ∀ v : Int, zR v → ZW C k n ws lv (pc + 1) (.int (zI v) :: st)) : ZW C k n ws lv pc (.int (zI b) :: .int (zI a) :: st) := by
  obtain ⟨p, l, e, R, s, m, args, below, meth, c, Q, A, nL', D, cA⟩ := C
  intro H locs ls hP hD hS hl
  obtain ⟨v, h1, h2⟩ := zI_of (zI a ||| zI b)
  have h := kk v h1 H locs ls hP hD hS hl
  rw [← h2] at h
  exact lv_ior hC.1 hC.2.1 hd h
theorem z_ishlA (hC : zOK C cc y Ts rm nL) {a b : Int} (hd : decode cc pc = .ok (.ishl, 1)) (kk : ∀ v : Int, zR v → ZW C k n ws lv (pc + 1) (.int (zI v) :: st)) : ZW C k n ws lv pc (.int (zI b) :: .int (zI a) :: st) := by
  obtain ⟨p, l, e, R, s, m, args, below, meth, c, Q, A, nL', D, cA⟩ := C
  intro H locs ls hP hD hS hl
  obtain ⟨v, h1, h2⟩ := zI_of (zI a <<< (zI b &&& 31))
  have h := kk v h1 H locs ls hP hD hS hl
  rw [← h2] at h
  exact lv_ishl hC.1 hC.2.1 hd h
theorem z_ishrA (hC : zOK C cc y Ts rm nL) {a b : Int} (hd : decode cc pc = .ok (.ishr, 1)) (kk : ∀ v : Int, zR v → ZW C k n ws lv (pc + 1) (.int (zI v) :: st)) : ZW C k n ws lv pc (.int (zI b) :: .int (zI a) :: st) := by
  obtain ⟨p, l, e, R, s, m, args, below, meth, c, Q, A, nL', D, cA⟩ := C
  intro H locs ls hP hD hS hl
  obtain ⟨v, h1, h2⟩ := zI_of (zI a >>> (zI b &&& 31))
  have h := kk v h1 H locs ls hP hD hS hl
  rw [← h2] at h
  exact lv_ishr hC.1 hC.2.1 hd h
theorem z_ishr (hC : zOK C cc y Ts rm nL) {a b : Int} (hd : decode cc pc = .ok (.ishr, 1)) (kk : ZW C k n ws lv (pc + 1) (.int (zI (zishr a b)) :: st)) : ZW C k n ws lv pc (.int (zI b) :: .int (zI a) :: st) := by
  obtain ⟨p, l, e, R, s, m, args, below, meth, c, Q, A, nL', D, cA⟩ := C
  intro H locs ls hP hD hS hl
  have h := kk H locs ls hP hD hS hl
  unfold zishr at h
  rw [zI_as] at h
  exact lv_ishr hC.1 hC.2.1 hd h
theorem z_ldcw (hC : zOK C cc y Ts rm nL) {ix : Nat} {w : Int32} {v : Int} (hk : Cond.constant y.cls ix w ∈ Ts) (hw : w = zI v) (hd : decode cc pc = .ok (.ldc_w ix, 3)) (kk : ZW C k n ws lv (pc + 3) (.int (zI v) :: st)) : ZW C k n ws lv pc st := by
  obtain ⟨p, l, e, R, s, m, args, below, meth, c, Q, A, nL', D, cA⟩ := C
  intro H locs ls hP hD hS hl
  subst hw
  exact lv_ldcw hC.1 hC.2.1 hC.2.2.2.2.1 (hC.2.2.2.2.2.1 _ hk) hd (kk H locs ls hP hD hS hl)
end ZABS
