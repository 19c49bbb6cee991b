section ZX2
def cutB (v : Int) : Int := (v + 128) % 256 - 128
def cutS (v : Int) : Int := (v + 32768) % 65536 - 32768
theorem zI_i2bw (a : Int) : (zI a).toInt8.toInt32 = zI (cutB a) := by
  apply Int32.toInt_inj.1
  rw [Int8.toInt_toInt32, Int32.toInt_toInt8, zI_t (a := cutB a) (by unfold zR cutB; omega)]
  unfold zI
  rw [Int32.toInt_ofInt, Int.bmod_bmod_of_dvd (by decide), Int.bmod_def]
  unfold cutB
  split <;> omega
theorem zI_i2sw (a : Int) : (zI a).toInt16.toInt32 = zI (cutS a) := by
  apply Int32.toInt_inj.1
  rw [Int16.toInt_toInt32, Int32.toInt_toInt16, zI_t (a := cutS a) (by unfold zR cutS; omega)]
  unfold zI
  rw [Int32.toInt_ofInt, Int.bmod_bmod_of_dvd (by decide), Int.bmod_def]
  unfold cutS
  split <;> omega
theorem cutB_r (v : Int) : -128 ≤ cutB v ∧ cutB v < 128 := by unfold cutB; omega
theorem cutS_r (v : Int) : -32768 ≤ cutS v ∧ cutS v < 32768 := by unfold cutS; omega
/-- the machine's rest: the sign of what is divided -/
def trem (a b : Int) : Int := if 0 ≤ a then a % b else -((-a) % b)
theorem zI_tdiv {a b : Int} (h1 : 0 < b) (h : zR a ∧ zR b) (ha : a < 0) : zI a / zI b = zI (-((-a) / b)) := by
  apply Int32.toInt_inj.1
  have hq : 0 ≤ (-a) / b := Int.ediv_nonneg (by omega) (by omega)
  have hq2 : (-a) / b ≤ -a := Int.ediv_le_self b (by omega)
  have hr := h.1
  have e : a.tdiv b = -((-a) / b) := by
    have e1 : a = -(-a) := by omega
    rw [e1, Int.neg_tdiv, Int.tdiv_eq_ediv_of_nonneg (by omega)]
    simp
  rw [Int32.toInt_div, zI_t h.1, zI_t h.2, zI_t (by unfold zR; omega), e, Int.bmod_eq_of_le (by omega) (by omega)]
theorem zI_trem {a b : Int} (h1 : 0 < b) (h : zR a ∧ zR b) : zI a - zI a / zI b * zI b = zI (trem a b) := by
  unfold trem
  split
  · exact zI_rem (by assumption) h1 h
  · rename_i ha
    rw [zI_tdiv h1 h (by omega), zI_mul, zI_sub]
    congr 1
    have := Int.mul_ediv_add_emod (-a) b
    rw [Int.mul_comm] at this
    rw [Int.neg_mul]
    omega
theorem trem_r {a b : Int} (h1 : 0 < b) : -b < trem a b ∧ trem a b < b ∧ (0 ≤ a → 0 ≤ trem a b) ∧ (a < 0 → trem a b ≤ 0) := by
  unfold trem
  have h2 := Int.emod_nonneg a (show b ≠ 0 by omega)
  have h3 := Int.emod_lt_of_pos a h1
  have h4 := Int.emod_nonneg (-a) (show b ≠ 0 by omega)
  have h5 := Int.emod_lt_of_pos (-a) h1
  split <;> omega
/-- over the divisor again: the rest of the mathematics -/
theorem trem_mod {a b : Int} (h1 : 0 < b) : (trem a b < 0 → trem a b + b = a % b) ∧ (0 ≤ trem a b → trem a b = a % b) := by
  have h2 := Int.emod_nonneg a (show b ≠ 0 by omega)
  have h3 := Int.emod_lt_of_pos a h1
  have h4 := Int.emod_nonneg (-a) (show b ≠ 0 by omega)
  have h5 := Int.emod_lt_of_pos (-a) h1
  unfold trem
  by_cases ha : 0 ≤ a
  · rw [if_pos ha]
    exact ⟨fun h => by omega, fun _ => rfl⟩
  · rw [if_neg ha]
    have hm := Int.mul_ediv_add_emod (-a) b
    generalize hq : (-a) % b = q at *
    have e : a = (-q) + b * (-((-a) / b)) := by rw [Int.mul_neg]; omega
    have e3 : a % b = (-q) % b := by
      have e4 : ((-q) + b * (-((-a) / b))) % b = (-q) % b := Int.add_mul_emod_self_left ..
      rw [← e] at e4
      exact e4
    refine ⟨fun h => ?_, fun h => ?_⟩
    · have t : (-q + b) % b = (-q) % b := Int.add_emod_right _ _
      rw [e3, ← t, Int.emod_eq_of_lt (by omega) (by omega)]
    · rw [e3, show q = 0 by omega]
      simp
def zxor (a b : Int) : Int := (zI a ^^^ zI b).toInt
theorem zxor_neg {a b : Int} (ha : zR a) (hb : 0 ≤ b ∧ b < 2147483648) : zxor a b < 0 ↔ a < 0 := by
  have e1 : (zI a ^^^ zI b).toInt = ((zI a).toBitVec ^^^ (zI b).toBitVec).toInt := by rw [← Int32.toBitVec_xor]; rfl
  have h1 : (zI a).toBitVec.toInt = a := zI_t ha
  have h2 : (zI b).toBitVec.toInt = b := zI_t (by unfold zR; omega)
  have m1 := BitVec.msb_eq_toInt (x := (zI a).toBitVec)
  have m2 := BitVec.msb_eq_toInt (x := (zI b).toBitVec)
  have m3 := BitVec.msb_eq_toInt (x := (zI a).toBitVec ^^^ (zI b).toBitVec)
  rw [h1] at m1
  rw [h2] at m2
  rw [BitVec.msb_xor, m1, m2] at m3
  unfold zxor
  rw [e1]
  have h3 : decide (b < 0) = false := by simp; omega
  rw [h3] at m3
  simp only [Bool.xor_false, decide_eq_decide] at m3
  exact m3.symm
theorem zxor_r (a b : Int) : zR (zxor a b) := by
  unfold zxor zR
  have h1 := Int32.le_toInt (zI a ^^^ zI b)
  have h2 := Int32.toInt_lt (zI a ^^^ zI b)
  omega
theorem zMetF_of {l : Launch} {D : va_G} {cA : ClassId × ClassId × ClassId × ClassId} {y : MethodName} {wds wds' : List Cond} {rm : Room} {mc ms : Nat} {av : List Value} {ws : va_W} {Fin : Option Value → va_W → Prop} {cc : ByteArray} {nL : Nat} {ret : Option FieldType}
    (hy : plainFor y = true) (hw : wds = Cond.code y cc nL ret :: wds') (hlen : (lg_sl av).length ≤ nL)
    (body : ∀ C : zC, zl C = l → zD C = D → zK C = cA → zOK C cc y wds rm nL → zRet C ret ws mc ms Fin → ZW C 0 0 ws (lv_args 0 av) 0 []) : zMet l D cA y wds rm mc ms av ws Fin := by
  intro sz
  refine va_MetF (cc := cc) (maxL := nL) (ret := ret) hy hw ?_
  intro p e s m args below meth c s₁ B hml hv
  obtain ⟨rfl, hsz, hP, hK, hD0⟩ := hv
  subst hsz
  have h := body (p, l, e, (headSpec wds rm).room, s, m, av.toArray, below, meth, c, MQ below (zQ Fin D ws s.heap.size) av.toArray s mc ms (va_A ws s.heap.size), va_A ws s.heap.size, nL, D, cA) rfl rfl rfl
    ⟨B.exec, B.bytes, hml, rfl, findClass_of_methodNamed B.named, atoms_spec (ws := wds) B.pre, hK, fun q h => Or.inr h, rfl, (name_of_methodNamed B.named B.method).1⟩ ⟨B.returns, B.notSynchronized, rfl, rfl⟩
  rw [lg_entry_eq]
  exact h s.heap [] _ hP hD0.self va_S.rf (lv_entry av hlen)
/-- a piece of a row over another place of it -/
def zmv (g : Int → Int) (sp dp n : Int) : Int → Int := fun j => if dp ≤ j ∧ j < dp + n then g (sp + (j - dp)) else g j
variable {C : zC} {cc : ByteArray} {y : MethodName} {Ts : List Cond} {rm : Room} {nL : Nat} {k n : Nat} {ws : va_W} {lv : List (Nat × Value)} {pc : Nat} {st : List Value}
theorem z_i2bw (hC : zOK C cc y Ts rm nL) {a : Int} (hd : decode cc pc = .ok (.i2b, 1)) (kk : ZW C k n ws lv (pc + 1) (.int (zI (cutB a)) :: st)) : ZW C k n ws lv pc (.int (zI a) :: st) := by
  obtain ⟨p, l, e, R, s, m, args, below, meth, c, Q, A, nL', D, cA⟩ := C
  intro H locs ls hP hD hS hl
  exact lv_i2b hC.1 hC.2.1 hd (zI_i2bw a) (kk H locs ls hP hD hS hl)
theorem z_i2sw (hC : zOK C cc y Ts rm nL) {a : Int} (hd : decode cc pc = .ok (.i2s, 1)) (kk : ZW C k n ws lv (pc + 1) (.int (zI (cutS a)) :: st)) : ZW C k n ws lv pc (.int (zI a) :: st) := by
  obtain ⟨p, l, e, R, s, m, args, below, meth, c, Q, A, nL', D, cA⟩ := C
  intro H locs ls hP hD hS hl
  exact lv_i2s hC.1 hC.2.1 hd (zI_i2sw a) (kk H locs ls hP hD hS hl)
theorem z_iremT (hC : zOK C cc y Ts rm nL) {a b : Int} (hd : decode cc pc = .ok (.irem, 1)) (hg : zR a ∧ 0 < b ∧ b < 2147483648) (kk : ZW C k n ws lv (pc + 1) (.int (zI (trem a b)) :: st)) : ZW C k n ws lv pc (.int (zI b) :: .int (zI a) :: st) := by
  obtain ⟨p, l, e, R, s, m, args, below, meth, c, Q, A, nL', D, cA⟩ := C
  intro H locs ls hP hD hS hl
  exact lv_irem hC.1 hC.2.1 hd (zI_ne0 hg.2.1 (by unfold zR; omega)) (by rw [zI_trem hg.2.1 ⟨hg.1, by unfold zR; omega⟩]; exact kk H locs ls hP hD hS hl)
theorem z_ixor (hC : zOK C cc y Ts rm nL) {a b : Int} (hd : decode cc pc = .ok (.ixor, 1)) (kk : ZW C k n ws lv (pc + 1) (.int (zI (zxor a b)) :: st)) : ZW C k n ws lv pc (.int (zI b) :: .int (zI a) :: st) := by
  obtain ⟨p, l, e, R, s, m, args, below, meth, c, Q, A, nL', D, cA⟩ := C
  intro H locs ls hP hD hS hl
  refine lv_ixor hC.1 hC.2.1 hd ?_
  have h := kk H locs ls hP hD hS hl
  unfold zxor at h
  rw [zI_as] at h
  exact h
theorem z_lneg (hC : zOK C cc y Ts rm nL) {a : Int} (hd : decode cc pc = .ok (.lneg, 1)) (kk : ZW C k n ws lv (pc + 1) (.long (zL (-a)) :: st)) : ZW C k n ws lv pc (.long (zL a) :: st) := by
  obtain ⟨p, l, e, R, s, m, args, below, meth, c, Q, A, nL', D, cA⟩ := C
  intro H locs ls hP hD hS hl
  exact lv_lneg hC.1 hC.2.1 hd (by rw [zL_neg]; exact kk H locs ls hP hD hS hl)
theorem z_laddw (hC : zOK C cc y Ts rm nL) {a b : Int} (r : Int) (hd : decode cc pc = .ok (.ladd, 1)) (hr : zL (a + b) = zL r) (kk : ZW C k n ws lv (pc + 1) (.long (zL r) :: st)) : ZW C k n ws lv pc (.long (zL b) :: .long (zL a) :: st) := by
  obtain ⟨p, l, e, R, s, m, args, below, meth, c, Q, A, nL', D, cA⟩ := C
  intro H locs ls hP hD hS hl
  exact lv_ladd hC.1 hC.2.1 hd (by rw [zL_add, hr]; exact kk H locs ls hP hD hS hl)
theorem z_topl {a b : Int} (h : a = b) (kk : ZW C k n ws lv pc (.long (zL b) :: st)) : ZW C k n ws lv pc (.long (zL a) :: st) := by subst h; exact kk
theorem z_topi {a b : Int} (h : a = b) (kk : ZW C k n ws lv pc (.int (zI b) :: st)) : ZW C k n ws lv pc (.int (zI a) :: st) := by subst h; exact kk
theorem z_copyi (hC : zOK C cc y Ts rm nL) {a : Nat} {g : Int → Int} {ix cn : Nat} {sp dp v : Int} (q1 : Nat) (w' : va_W) (hd : decode cc pc = .ok (.invokestatic ix, 3)) (w1 : Cond.methodLink y.cls ix arraycopyName ∈ Ts) (w2 : Cond.native arraycopyName ∈ Ts) (w3 : Cond.static arraycopyName ∈ Ts) (w4 : Cond.initialized "java/lang/System" ∈ Ts) (h1 : ws[q1]? = some (wI a (zK C).2.1 cn g)) (hv : 0 ≤ v ∧ 0 ≤ sp ∧ 0 ≤ dp ∧ sp + v ≤ (cn : Int) ∧ dp + v ≤ (cn : Int) ∧ cn < 2147483648) (hf : 1 ≤ rm.frames) (hlo : (st.map fun v => v.category).sum + (nativeFrameWords "java/lang/System" "arraycopy" 5 + 11) ≤ rm.locals) (hw : ws.set q1 (wI a (zK C).2.1 cn (zmv g sp dp v)) = w') (kk : ZW C k n w' lv (pc + 3) st) : ZW C k n ws lv pc (.int (zI v) :: .int (zI dp) :: .ref a :: .int (zI sp) :: .ref a :: st) := by
  obtain ⟨p, l, e, R, s, m, args, below, meth, c, Q, A, nL', D, cA⟩ := C
  intro H locs ls hP hD hS hl
  have hR : R = rm := hC.2.2.2.2.2.2.2.2.1
  have hml : c.maxLocals = ls.size := by rw [hC.2.2.1, hl.1]; exact hC.2.2.2.1.symm
  subst hw
  have hc : (zI v).toNatClampNeg = v.toNat := zI_cl (by unfold zR; omega)
  have hc0 : (zI sp).toNatClampNeg = sp.toNat := zI_cl (by unfold zR; omega)
  have hc1 : (zI dp).toNatClampNeg = dp.toNat := zI_cl (by unfold zR; omega)
  have hng : ∀ x : Int, 0 ≤ x ∧ x < 2147483648 → ¬ zI x < 0 := fun x hx q => by
    have := (zI_lt (a := x) (b := 0) ⟨by unfold zR; omega, by unfold zR; omega⟩).mp (by rw [zI_0]; exact q)
    omega
  have hcp : va_cpy (zA g) (zA g) (zI sp).toNatClampNeg (zI dp).toNatClampNeg (zI v).toNatClampNeg = zA (zmv g sp dp v) := by
    funext j
    rw [hc, hc0, hc1]
    unfold va_cpy zA zmv
    by_cases q : dp.toNat ≤ j ∧ j < dp.toNat + v.toNat
    · rw [if_pos q, if_pos (by omega)]; congr 2; omega
    · rw [if_neg q, if_neg (by omega)]
  refine va_copyi (D := D) (cl := vwCl) (tys := zT cA) (ty := .int) hC.1 hC.2.1 hml hC.2.2.2.2.1 (hC.2.2.2.2.2.1 _ w1) (hC.2.2.2.2.2.1 _ w2) (hC.2.2.2.2.2.1 _ w3) (hC.2.2.2.2.2.1 _ w4) hC.2.2.2.2.2.2.1 hP hD hS q1 q1 1 1 h1 h1 rfl rfl rfl (hng sp (by omega)) (hng dp (by omega)) (hng v (by omega)) (by rw [hc, hc0]; omega) (by rw [hc, hc1]; omega) (fun _ _ => rfl) (by rw [hR]; exact hf) (by rw [hR]; exact hlo) hd (fun H1 locs1 hP1 hD1 hS1 => ?_)
  rw [hcp] at hP1 hD1
  exact kk H1 locs1 ls hP1 hD1 hS1 hl
end ZX2
