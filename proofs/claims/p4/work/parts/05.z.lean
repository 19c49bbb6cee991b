section ZE
/-! ints and longs by their numbers; arrays by functions of their places -/
def zI (z : Int) : Int32 := Int32.ofInt z
def zL (z : Int) : Int64 := Int64.ofInt z
def zA (g : Int → Int) : Nat → Int32 := fun j => zI (g (j : Int))
def zB (g : Int → Int) : Nat → Int64 := fun j => zL (g (j : Int))
def zu (g : Int → Int) (k v : Int) : Int → Int := fun j => if j = k then v else g j
abbrev zR (a : Int) : Prop := -2147483648 ≤ a ∧ a < 2147483648
abbrev zRL (a : Int) : Prop := -9223372036854775808 ≤ a ∧ a < 9223372036854775808
theorem zI_t {a : Int} (h : zR a) : (zI a).toInt = a := by
  unfold zI
  rw [Int32.toInt_ofInt]
  exact Int.bmod_eq_of_le (m := 4294967296) (by have := h.1; omega) (by have := h.2; omega)
theorem zL_t {a : Int} (h : zRL a) : (zL a).toInt = a := by
  unfold zL
  rw [Int64.toInt_ofInt]
  exact Int.bmod_eq_of_le (m := 18446744073709551616) (by have := h.1; omega) (by have := h.2; omega)
theorem zI_as (x : Int32) : zI x.toInt = x := Int32.ofInt_toInt x
theorem zL_as (x : Int64) : zL x.toInt = x := Int64.ofInt_toInt x
theorem zI_of (x : Int32) : ∃ z, zR z ∧ x = zI z := ⟨x.toInt, ⟨by have := Int32.le_toInt x; omega, by have := Int32.toInt_lt x; omega⟩, (zI_as x).symm⟩
theorem zL_of (x : Int64) : ∃ z, zRL z ∧ x = zL z := ⟨x.toInt, ⟨by have := Int64.le_toInt x; omega, by have := Int64.toInt_lt x; omega⟩, (zL_as x).symm⟩
theorem zI_add (a b : Int) : zI a + zI b = zI (a + b) := (Int32.ofInt_add ..).symm
theorem zI_sub (a b : Int) : zI a - zI b = zI (a - b) := (Int32.ofInt_sub ..).symm
theorem zI_mul (a b : Int) : zI a * zI b = zI (a * b) := (Int32.ofInt_mul ..).symm
theorem zI_neg (a : Int) : - zI a = zI (-a) := (Int32.ofInt_neg ..).symm
theorem zL_add (a b : Int) : zL a + zL b = zL (a + b) := (Int64.ofInt_add ..).symm
theorem zL_sub (a b : Int) : zL a - zL b = zL (a - b) := (Int64.ofInt_sub ..).symm
theorem zL_mul (a b : Int) : zL a * zL b = zL (a * b) := (Int64.ofInt_mul ..).symm
theorem zL_neg (a : Int) : - zL a = zL (-a) := (Int64.ofInt_neg ..).symm
theorem zI_le {a b : Int} (h : zR a ∧ zR b) : zI a ≤ zI b ↔ a ≤ b := by rw [Int32.le_iff_toInt_le, zI_t h.1, zI_t h.2]
theorem zI_lt {a b : Int} (h : zR a ∧ zR b) : zI a < zI b ↔ a < b := by rw [Int32.lt_iff_toInt_lt, zI_t h.1, zI_t h.2]
theorem zI_eq {a b : Int} (h : zR a ∧ zR b) : zI a = zI b ↔ a = b := by rw [← Int32.toInt_inj, zI_t h.1, zI_t h.2]
theorem zL_le {a b : Int} (h : zRL a ∧ zRL b) : zL a ≤ zL b ↔ a ≤ b := by rw [Int64.le_iff_toInt_le, zL_t h.1, zL_t h.2]
theorem zL_lt {a b : Int} (h : zRL a ∧ zRL b) : zL a < zL b ↔ a < b := by rw [Int64.lt_iff_toInt_lt, zL_t h.1, zL_t h.2]
theorem zL_eq {a b : Int} (h : zRL a ∧ zRL b) : zL a = zL b ↔ a = b := by rw [← Int64.toInt_inj, zL_t h.1, zL_t h.2]
theorem zI_0 : zI 0 = 0 := rfl
theorem zL_0 : zL 0 = 0 := rfl
theorem zI_cl {a : Int} (h : zR a) : (zI a).toNatClampNeg = a.toNat := by
  show (zI a).toInt.toNat = a.toNat
  rw [zI_t h]
theorem zI_in {a : Int} {n : Nat} (h0 : 0 ≤ a) (h1 : a < n) (hn : zR a) : vp_in (zI a) n := by
  intro h
  rcases h with h | h
  · have := (zI_lt (a := a) (b := 0) ⟨hn, by omega⟩).mp (by rw [zI_0]; exact h)
    omega
  · rw [zI_cl hn] at h
    omega
theorem zA_at {g : Int → Int} {a : Int} (h0 : 0 ≤ a) (h : zR a) : zA g (zI a).toNatClampNeg = zI (g a) := by
  rw [zI_cl h]
  show zI (g ((a.toNat : Nat) : Int)) = _
  rw [Int.toNat_of_nonneg h0]
theorem zB_at {g : Int → Int} {a : Int} (h0 : 0 ≤ a) (h : zR a) : zB g (zI a).toNatClampNeg = zL (g a) := by
  rw [zI_cl h]
  show zL (g ((a.toNat : Nat) : Int)) = _
  rw [Int.toNat_of_nonneg h0]
theorem zA_up {g : Int → Int} {a v : Int} (h0 : 0 ≤ a) (h : zR a) : upd (zA g) (zI a).toNatClampNeg (zI v) = zA (zu g a v) := by
  funext j
  rw [zI_cl h]
  unfold upd zA zu
  by_cases e : j = a.toNat
  · rw [if_pos e, if_pos (by omega)]
  · rw [if_neg e, if_neg (by omega)]
theorem zB_up {g : Int → Int} {a v : Int} (h0 : 0 ≤ a) (h : zR a) : vp_updL (zB g) (zI a).toNatClampNeg (zL v) = zB (zu g a v) := by
  funext j
  rw [zI_cl h]
  unfold vp_updL zB zu
  by_cases e : j = a.toNat
  · rw [if_pos e, if_pos (by omega)]
  · rw [if_neg e, if_neg (by omega)]
theorem zI_i2l {a : Int} (h : zR a) : (zI a).toInt64 = zL a := by
  apply Int64.toInt_inj.1
  rw [Int32.toInt_toInt64, zI_t h, zL_t (by unfold zRL; unfold zR at h; omega)]
theorem zL_l2i (a : Int) : (zL a).toInt32 = zI a := by
  apply Int32.toInt_inj.1
  unfold zL zI
  rw [Int64.toInt_toInt32, Int64.toInt_ofInt, Int32.toInt_ofInt, Int.bmod_bmod_of_dvd (by decide)]
theorem zI_i2b {a : Int} (h : -128 ≤ a ∧ a < 128) : (zI a).toInt8.toInt32 = zI a := by
  apply Int32.toInt_inj.1
  rw [Int8.toInt_toInt32, Int32.toInt_toInt8, zI_t (by unfold zR; omega), Int.bmod_eq_of_le (by omega) (by omega)]
theorem zI_nb {a : Int} (h : -128 ≤ a ∧ a < 128) : vp_nar .byte (zI a) = zI a := by rw [vp_nar_byte, zI_i2b h]
theorem zI_div {a b : Int} (h0 : 0 ≤ a) (h1 : 0 < b) (h : zR a ∧ zR b) : zI a / zI b = zI (a / b) := by
  apply Int32.toInt_inj.1
  have hq : 0 ≤ a / b := Int.ediv_nonneg h0 (by omega)
  have hq2 : a / b ≤ a := Int.ediv_le_self b h0
  have hr := h.1
  rw [Int32.toInt_div, zI_t h.1, zI_t h.2, zI_t (by omega), Int.tdiv_eq_ediv_of_nonneg h0, Int.bmod_eq_of_le (by omega) (by omega)]
theorem zI_rem {a b : Int} (h0 : 0 ≤ a) (h1 : 0 < b) (h : zR a ∧ zR b) : zI a - zI a / zI b * zI b = zI (a % b) := by
  rw [zI_div h0 h1 h, zI_mul, zI_sub]
  congr 1
  have := Int.mul_ediv_add_emod a b
  rw [Int.mul_comm] at this
  omega
theorem zL_div {a b : Int} (h0 : 0 ≤ a) (h1 : 0 < b) (h : zRL a ∧ zRL b) : zL a / zL b = zL (a / b) := by
  apply Int64.toInt_inj.1
  have hq : 0 ≤ a / b := Int.ediv_nonneg h0 (by omega)
  have hq2 : a / b ≤ a := Int.ediv_le_self b h0
  have hr := h.1
  rw [Int64.toInt_div, zL_t h.1, zL_t h.2, zL_t (by omega), Int.tdiv_eq_ediv_of_nonneg h0, Int.bmod_eq_of_le (by omega) (by omega)]
theorem zL_rem {a b : Int} (h0 : 0 ≤ a) (h1 : 0 < b) (h : zRL a ∧ zRL b) : zL a - zL a / zL b * zL b = zL (a % b) := by
  rw [zL_div h0 h1 h, zL_mul, zL_sub]
  congr 1
  have := Int.mul_ediv_add_emod a b
  rw [Int.mul_comm] at this
  omega
end ZE
