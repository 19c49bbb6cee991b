noncomputable def bI (P : Prop) : Int := @ite Int P (Classical.propDecidable P) 1 0
theorem bI_y {P : Prop} (h : P) : bI P = 1 := by unfold bI; rw [if_pos h]
theorem bI_n {P : Prop} (h : ¬ P) : bI P = 0 := by unfold bI; rw [if_neg h]
theorem bI_01 (P : Prop) : (bI P = 0 ∨ bI P = 1) := by unfold bI; split <;> omega
theorem bI_1 {P : Prop} (h : bI P = 1) : P := by
  unfold bI at h
  split at h
  · assumption
  · omega
theorem bI_0 {P : Prop} (h : bI P = 0) : ¬ P := by
  intro p
  rw [bI_y p] at h
  omega
theorem bI_c {P Q : Prop} (h : P ↔ Q) : bI P = bI Q := by rw [propext h]
theorem zu01 {g : Int → Int} {n k v : Int} (h : ∀ j, 0 ≤ j → j < n → g j = 0 ∨ g j = 1) (hv : v = 0 ∨ v = 1) : ∀ j, 0 ≤ j → j < n → zu g k v j = 0 ∨ zu g k v j = 1 := by
  intro j h0 h1
  unfold zu
  split
  · exact hv
  · exact h j h0 h1
/-- whether a place is of the kind, 1 or 0 -/
def inK (kind top round x y : Int) : Int := if kind = 1 then (if 0 ≤ y then 1 else 0) else if kind = 2 then (if 0 ≤ y ∧ y ≤ top then 1 else 0) else if kind = 3 then (if 0 ≤ x ∧ 0 ≤ y then 1 else 0) else if kind = 4 then (if 0 ≤ x ∧ x < round then 1 else 0) else 1
/-- a square is open, by the cells' marks -/
def opn (pas : Int → Int) (x y : Int) : Prop := -30 ≤ x ∧ x ≤ 30 ∧ -30 ≤ y ∧ y ≤ 30 ∧ pas ((y + 33) * 67 + x + 33) = 1
/-- what the marks are, made anew -/
def rpas (kind top round : Int) (bar pas : Int → Int) (j : Int) : Int := if 3 ≤ j % 67 ∧ j % 67 ≤ 63 ∧ 3 ≤ j / 67 ∧ j / 67 ≤ 63 then (if inK kind top round (j % 67 - 33) (j / 67 - 33) = 1 ∧ bar j = 0 then 1 else 0) else pas j
/-- the marks of a plane's cells -/
def pasF (kind top round : Int) (bar : Int → Int) (j : Int) : Int := if 3 ≤ j % 67 ∧ j % 67 ≤ 63 ∧ 3 ≤ j / 67 ∧ j / 67 ≤ 63 then (if inK kind top round (j % 67 - 33) (j / 67 - 33) = 1 ∧ bar j = 0 then 1 else 0) else 0
theorem pasF_01 (kind top round : Int) (bar : Int → Int) (j : Int) : pasF kind top round bar j = 0 ∨ pasF kind top round bar j = 1 := by
  unfold pasF
  (repeat' split) <;> omega
theorem pasF_h {kind top round : Int} {bar pas : Int → Int} (h : ∀ j, 0 ≤ j → j < 4489 → pas j = pasF kind top round bar j) : ∀ j, 0 ≤ j → j < 4489 → pas j = 0 ∨ pas j = 1 := fun j h0 h1 => by rw [h j h0 h1]; exact pasF_01 ..
theorem pasF_1 {kind top round : Int} {bar : Int → Int} {j : Int} (h : pasF kind top round bar j = 1) : 3 ≤ j % 67 ∧ j % 67 ≤ 63 ∧ 3 ≤ j / 67 ∧ j / 67 ≤ 63 ∧ inK kind top round (j % 67 - 33) (j / 67 - 33) = 1 ∧ bar j = 0 := by
  unfold pasF at h
  split at h
  · split at h
    · rename_i a b; exact ⟨a.1, a.2.1, a.2.2.1, a.2.2.2, b.1, b.2⟩
    · omega
  · omega
theorem rpas_F {kind top round k2 t2 r2 : Int} {bar pas : Int → Int} {j : Int} (h : pas j = pasF k2 t2 r2 bar j) : rpas kind top round bar pas j = pasF kind top round bar j := by
  unfold rpas
  unfold pasF at h ⊢
  split
  · rfl
  · rename_i q; rw [if_neg q] at h; exact h
theorem rpas_step {kind top round x y rv : Int} {bar pas g : Int → Int} (vg : ∀ j, 0 ≤ j → j < 4489 → g j = if j / 67 - 33 < y ∨ (j / 67 - 33 = y ∧ j % 67 - 33 < x) then rpas kind top round bar pas j else pas j) (hrv : rv = if inK kind top round x y = 1 ∧ bar ((y + 33) * 67 + x + 33) = 0 then 1 else 0) (hx : -30 ≤ x ∧ x ≤ 30 ∧ -30 ≤ y ∧ y ≤ 30) :
    ∀ j, 0 ≤ j → j < 4489 → zu g ((y + 33) * 67 + x + 33) rv j = if j / 67 - 33 < y ∨ (j / 67 - 33 = y ∧ j % 67 - 33 < x + 1) then rpas kind top round bar pas j else pas j := by
  intro j h0 h1
  unfold zu
  by_cases q : j = (y + 33) * 67 + x + 33
  · rw [if_pos q, if_pos (by omega)]
    unfold rpas
    rw [if_pos (by omega), hrv, show j % 67 - 33 = x by omega, show j / 67 - 33 = y by omega, ← q]
  · rw [if_neg q, vg j h0 h1]
    by_cases q2 : j / 67 - 33 < y ∨ (j / 67 - 33 = y ∧ j % 67 - 33 < x)
    · rw [if_pos q2, if_pos (by omega)]
    · rw [if_neg q2, if_neg (by omega)]
/-- one square barred or freed -/
theorem sb_step {kind top round x y on rv : Int} {bar pas : Int → Int} (hpf : ∀ j, 0 ≤ j → j < 4489 → pas j = pasF kind top round bar j) (hx : -30 ≤ x ∧ x ≤ 30 ∧ -30 ≤ y ∧ y ≤ 30) (hrv : rv = if inK kind top round x y = 1 ∧ zu bar ((y + 33) * 67 + x + 33) on ((y + 33) * 67 + x + 33) = 0 then 1 else 0) :
    ∀ j, 0 ≤ j → j < 4489 → zu pas ((y + 33) * 67 + x + 33) rv j = pasF kind top round (zu bar ((y + 33) * 67 + x + 33) on) j := by
  intro j h0 h1
  by_cases q : j = (y + 33) * 67 + x + 33
  · show (if j = _ then _ else _) = _
    have e : pasF kind top round (zu bar ((y + 33) * 67 + x + 33) on) ((y + 33) * 67 + x + 33) = if inK kind top round x y = 1 ∧ zu bar ((y + 33) * 67 + x + 33) on ((y + 33) * 67 + x + 33) = 0 then 1 else 0 := by
      unfold pasF
      rw [if_pos (by omega), show ((y + 33) * 67 + x + 33) % 67 - 33 = x by omega, show ((y + 33) * 67 + x + 33) / 67 - 33 = y by omega]
    rw [if_pos q, hrv, q, e]
  · show (if j = _ then _ else _) = _
    rw [if_neg q, hpf j h0 h1]
    unfold pasF zu
    rw [if_neg q]
theorem sb_same {bar : Int → Int} {k on : Int} (h : bar k = on) : bar = zu bar k on := by
  funext j
  unfold zu
  split
  · rename_i e; rw [e, h]
  · rfl
/-- each step up has its like down -/
def hasS (sc : Int) (dx dy : Int → Int) (x y : Int) : Prop := ∃ k, 0 ≤ k ∧ k < sc ∧ dx k = x ∧ dy k = y
def fallS (sc : Int) (dy : Int → Int) : Prop := ∃ k, 0 ≤ k ∧ k < sc ∧ dy k < -1
def mir1 (sc : Int) (dx dy : Int → Int) (k : Int) : Prop := (dy k = 1 ∨ dy k = -1) ∧ hasS sc dx dy (dx k) (-dy k)
def mirS (sc : Int) (dx dy : Int → Int) : Prop := ∀ k, 0 ≤ k → k < sc → mir1 sc dx dy k
set_option maxHeartbeats 4000000 in
set_option maxRecDepth 100000 in
theorem c_X4_cellA (l : Launch) (D : va_G) (K : ClassId × ClassId × ClassId × ClassId) (p p_dx p_dy p_weights p_leaps p_barred p_passable : Nat) (p_stepCount p_kind p_top p_round p_barredCount p_ax p_ay p_bx p_by : Int) : zMet l D K yX4_cellA wsX4_cellA ({ frames := 1, cells := 0, slots := 0, locals := 21 }) 0 0 [.ref p] [wO p 4 [.ref p_dx, .ref p_dy, .ref p_weights, .ref p_leaps, .int (zI (p_stepCount)), .int (zI (p_kind)), .int (zI (p_top)), .int (zI (p_round)), .int (zI (p_barredCount)), .int (zI (p_ax)), .int (zI (p_ay)), .int (zI (p_bx)), .int (zI (p_by)), .ref p_barred, .ref p_passable]] (fun vr_ wr_ => vr_ = some (.int (zI ((p_ay + 33) * 67 + p_ax + 33))) ∧ wr_ = [wO p 4 [.ref p_dx, .ref p_dy, .ref p_weights, .ref p_leaps, .int (zI (p_stepCount)), .int (zI (p_kind)), .int (zI (p_top)), .int (zI (p_round)), .int (zI (p_barredCount)), .int (zI (p_ax)), .int (zI (p_ay)), .int (zI (p_bx)), .int (zI (p_by)), .ref p_barred, .ref p_passable]] ∧ (True)) := by
  refine zMet_of (cc := cX4_cellA) (nL := 1) (ret := (some .int)) (by decide) rfl (Nat.le_of_ble_eq_true rfl) ?_
  rintro C rfl rfl rfl hC hR
  have hinX4 : ∀ w ∈ u_ws RX4 TX4 15, w ∈ wsX4_cellA := by decide +kernel
  show ZW C 0 0 [wO p 4 [.ref p_dx, .ref p_dy, .ref p_weights, .ref p_leaps, .int (zI (p_stepCount)), .int (zI (p_kind)), .int (zI (p_top)), .int (zI (p_round)), .int (zI (p_barredCount)), .int (zI (p_ax)), .int (zI (p_ay)), .int (zI (p_bx)), .int (zI (p_by)), .ref p_barred, .ref p_passable]] [(0, .ref p)] 0 []
  refine z_aload_n hC 0 dX4_cellA_0 rfl rfl ?_
  refine z_get hC (T := TX4) (N := 15) hinX4 0 9 dX4_cellA_1 rfl rfl (by decide) (List.mem_of_getElem? (i := 1) rfl) rfl rfl ?_
  refine z_aload_n hC 0 dX4_cellA_4 rfl rfl ?_
  refine z_get hC (T := TX4) (N := 15) hinX4 0 10 dX4_cellA_5 rfl rfl (by decide) (List.mem_of_getElem? (i := 2) rfl) rfl rfl ?_
  refine z_callS hC [.int (zI (p_ax)), .int (zI (p_ay))] 2 dX4_cellA_8 (c_X4_cellOf (zl C) (zD C) (zK C) p_ax p_ay ) gX4_cellA_X4_cellOf rfl rfl rfl ⟨by decide, by decide, by decide +kernel⟩ ⟨(Nat.le_of_ble_eq_true rfl), (Nat.le_of_ble_eq_true rfl)⟩ rfl [] [0] [wO p 4 [.ref p_dx, .ref p_dy, .ref p_weights, .ref p_leaps, .int (zI (p_stepCount)), .int (zI (p_kind)), .int (zI (p_top)), .int (zI (p_round)), .int (zI (p_barredCount)), .int (zI (p_ax)), .int (zI (p_ay)), .int (zI (p_bx)), .int (zI (p_by)), .ref p_barred, .ref p_passable]] [] rfl rfl rfl rfl rfl (by decide) (Nat.le_of_ble_eq_true rfl) ⟨(Nat.le_of_ble_eq_true rfl), (Nat.le_of_ble_eq_true rfl)⟩ ?_
  rintro v_ w_ ⟨rfl, rfl, h_8_1⟩
  show ZW C 0 0 [wO p 4 [.ref p_dx, .ref p_dy, .ref p_weights, .ref p_leaps, .int (zI (p_stepCount)), .int (zI (p_kind)), .int (zI (p_top)), .int (zI (p_round)), .int (zI (p_barredCount)), .int (zI (p_ax)), .int (zI (p_ay)), .int (zI (p_bx)), .int (zI (p_by)), .ref p_barred, .ref p_passable]] [(0, .ref p)] 11 [.int (zI ((p_ay + 33) * 67 + p_ax + 33))]
  exact z_iret hC hR dX4_cellA_11 (Nat.le_of_ble_eq_true rfl) (Nat.le_of_ble_eq_true rfl) ⟨(by first | rfl | (congr 3; omega)), rfl, by trivial⟩

set_option maxHeartbeats 4000000 in
set_option maxRecDepth 100000 in
theorem c_X4_cellB (l : Launch) (D : va_G) (K : ClassId × ClassId × ClassId × ClassId) (p p_dx p_dy p_weights p_leaps p_barred p_passable : Nat) (p_stepCount p_kind p_top p_round p_barredCount p_ax p_ay p_bx p_by : Int) : zMet l D K yX4_cellB wsX4_cellB ({ frames := 1, cells := 0, slots := 0, locals := 21 }) 0 0 [.ref p] [wO p 4 [.ref p_dx, .ref p_dy, .ref p_weights, .ref p_leaps, .int (zI (p_stepCount)), .int (zI (p_kind)), .int (zI (p_top)), .int (zI (p_round)), .int (zI (p_barredCount)), .int (zI (p_ax)), .int (zI (p_ay)), .int (zI (p_bx)), .int (zI (p_by)), .ref p_barred, .ref p_passable]] (fun vr_ wr_ => vr_ = some (.int (zI ((p_by + 33) * 67 + p_bx + 33))) ∧ wr_ = [wO p 4 [.ref p_dx, .ref p_dy, .ref p_weights, .ref p_leaps, .int (zI (p_stepCount)), .int (zI (p_kind)), .int (zI (p_top)), .int (zI (p_round)), .int (zI (p_barredCount)), .int (zI (p_ax)), .int (zI (p_ay)), .int (zI (p_bx)), .int (zI (p_by)), .ref p_barred, .ref p_passable]] ∧ (True)) := by
  refine zMet_of (cc := cX4_cellB) (nL := 1) (ret := (some .int)) (by decide) rfl (Nat.le_of_ble_eq_true rfl) ?_
  rintro C rfl rfl rfl hC hR
  have hinX4 : ∀ w ∈ u_ws RX4 TX4 15, w ∈ wsX4_cellB := by decide +kernel
  show ZW C 0 0 [wO p 4 [.ref p_dx, .ref p_dy, .ref p_weights, .ref p_leaps, .int (zI (p_stepCount)), .int (zI (p_kind)), .int (zI (p_top)), .int (zI (p_round)), .int (zI (p_barredCount)), .int (zI (p_ax)), .int (zI (p_ay)), .int (zI (p_bx)), .int (zI (p_by)), .ref p_barred, .ref p_passable]] [(0, .ref p)] 0 []
  refine z_aload_n hC 0 dX4_cellB_0 rfl rfl ?_
  refine z_get hC (T := TX4) (N := 15) hinX4 0 11 dX4_cellB_1 rfl rfl (by decide) (List.mem_of_getElem? (i := 1) rfl) rfl rfl ?_
  refine z_aload_n hC 0 dX4_cellB_4 rfl rfl ?_
  refine z_get hC (T := TX4) (N := 15) hinX4 0 12 dX4_cellB_5 rfl rfl (by decide) (List.mem_of_getElem? (i := 2) rfl) rfl rfl ?_
  refine z_callS hC [.int (zI (p_bx)), .int (zI (p_by))] 2 dX4_cellB_8 (c_X4_cellOf (zl C) (zD C) (zK C) p_bx p_by ) gX4_cellB_X4_cellOf rfl rfl rfl ⟨by decide, by decide, by decide +kernel⟩ ⟨(Nat.le_of_ble_eq_true rfl), (Nat.le_of_ble_eq_true rfl)⟩ rfl [] [0] [wO p 4 [.ref p_dx, .ref p_dy, .ref p_weights, .ref p_leaps, .int (zI (p_stepCount)), .int (zI (p_kind)), .int (zI (p_top)), .int (zI (p_round)), .int (zI (p_barredCount)), .int (zI (p_ax)), .int (zI (p_ay)), .int (zI (p_bx)), .int (zI (p_by)), .ref p_barred, .ref p_passable]] [] rfl rfl rfl rfl rfl (by decide) (Nat.le_of_ble_eq_true rfl) ⟨(Nat.le_of_ble_eq_true rfl), (Nat.le_of_ble_eq_true rfl)⟩ ?_
  rintro v_ w_ ⟨rfl, rfl, h_8_1⟩
  show ZW C 0 0 [wO p 4 [.ref p_dx, .ref p_dy, .ref p_weights, .ref p_leaps, .int (zI (p_stepCount)), .int (zI (p_kind)), .int (zI (p_top)), .int (zI (p_round)), .int (zI (p_barredCount)), .int (zI (p_ax)), .int (zI (p_ay)), .int (zI (p_bx)), .int (zI (p_by)), .ref p_barred, .ref p_passable]] [(0, .ref p)] 11 [.int (zI ((p_by + 33) * 67 + p_bx + 33))]
  exact z_iret hC hR dX4_cellB_11 (Nat.le_of_ble_eq_true rfl) (Nat.le_of_ble_eq_true rfl) ⟨(by first | rfl | (congr 3; omega)), rfl, by trivial⟩

set_option maxHeartbeats 4000000 in
set_option maxRecDepth 100000 in
theorem c_X4_hasStep (l : Launch) (D : va_G) (K : ClassId × ClassId × ClassId × ClassId) (p p_dx p_dy p_weights p_leaps p_barred p_passable : Nat) (k p_stepCount p_kind p_top p_round p_barredCount p_ax p_ay p_bx p_by : Int) (hk : zR k) (hp_stepCount : zR p_stepCount) : zMet l D K yX4_hasStep wsX4_hasStep ({ frames := 0, cells := 0, slots := 0, locals := 0 }) 0 0 [.ref p, .int (zI (k))] [wO p 4 [.ref p_dx, .ref p_dy, .ref p_weights, .ref p_leaps, .int (zI (p_stepCount)), .int (zI (p_kind)), .int (zI (p_top)), .int (zI (p_round)), .int (zI (p_barredCount)), .int (zI (p_ax)), .int (zI (p_ay)), .int (zI (p_bx)), .int (zI (p_by)), .ref p_barred, .ref p_passable]] (fun vr_ wr_ => ∃ (r : Int), vr_ = some (.int (zI (r))) ∧ wr_ = [wO p 4 [.ref p_dx, .ref p_dy, .ref p_weights, .ref p_leaps, .int (zI (p_stepCount)), .int (zI (p_kind)), .int (zI (p_top)), .int (zI (p_round)), .int (zI (p_barredCount)), .int (zI (p_ax)), .int (zI (p_ay)), .int (zI (p_bx)), .int (zI (p_by)), .ref p_barred, .ref p_passable]] ∧ ((0 ≤ k ∧ k < p_stepCount ∧ k < 8 ∧ r = 1) ∨ (¬ (0 ≤ k ∧ k < p_stepCount ∧ k < 8) ∧ r = 0))) := by
  refine zMet_of (cc := cX4_hasStep) (nL := 2) (ret := (some .boolean)) (by decide) rfl (Nat.le_of_ble_eq_true rfl) ?_
  rintro C rfl rfl rfl hC hR
  have hinX4 : ∀ w ∈ u_ws RX4 TX4 15, w ∈ wsX4_hasStep := by decide +kernel
  show ZW C 0 0 [wO p 4 [.ref p_dx, .ref p_dy, .ref p_weights, .ref p_leaps, .int (zI (p_stepCount)), .int (zI (p_kind)), .int (zI (p_top)), .int (zI (p_round)), .int (zI (p_barredCount)), .int (zI (p_ax)), .int (zI (p_ay)), .int (zI (p_bx)), .int (zI (p_by)), .ref p_barred, .ref p_passable]] [(0, .ref p), (1, .int (zI (k)))] 0 []
  refine z_iload_n hC 1 dX4_hasStep_0 rfl rfl ?_
  refine z_iflt hC 22 dX4_hasStep_1 (by decide) (by omega) (fun c_1 => ?_) (fun c_1 => ?_)
  · skip
    refine z_iconst hC dX4_hasStep_22 ?_
    exact z_zret hC hR dX4_hasStep_23 (by omega) (Nat.le_of_ble_eq_true rfl) (Nat.le_of_ble_eq_true rfl) ⟨0, rfl, rfl, by omega⟩
  · skip
    refine z_iload_n hC 1 dX4_hasStep_4 rfl rfl ?_
    refine z_aload_n hC 0 dX4_hasStep_5 rfl rfl ?_
    refine z_get hC (T := TX4) (N := 15) hinX4 0 4 dX4_hasStep_6 rfl rfl (by decide) (List.mem_of_getElem? (i := 1) rfl) rfl rfl ?_
    refine z_icge hC 22 dX4_hasStep_9 (by decide) (by omega) (fun c_2 => ?_) (fun c_2 => ?_)
    · skip
      refine z_iconst hC dX4_hasStep_22 ?_
      exact z_zret hC hR dX4_hasStep_23 (by omega) (Nat.le_of_ble_eq_true rfl) (Nat.le_of_ble_eq_true rfl) ⟨0, rfl, rfl, by omega⟩
    · skip
      refine z_iload_n hC 1 dX4_hasStep_12 rfl rfl ?_
      refine z_bipush hC dX4_hasStep_13 (by decide) ?_
      refine z_icge hC 22 dX4_hasStep_15 (by decide) (by omega) (fun c_3 => ?_) (fun c_3 => ?_)
      · skip
        refine z_iconst hC dX4_hasStep_22 ?_
        exact z_zret hC hR dX4_hasStep_23 (by omega) (Nat.le_of_ble_eq_true rfl) (Nat.le_of_ble_eq_true rfl) ⟨0, rfl, rfl, by omega⟩
      · skip
        refine z_iconst hC dX4_hasStep_18 ?_
        refine z_goto hC 23 dX4_hasStep_19 (by decide) ?_
        exact z_zret hC hR dX4_hasStep_23 (by omega) (Nat.le_of_ble_eq_true rfl) (Nat.le_of_ble_eq_true rfl) ⟨1, rfl, rfl, by omega⟩

set_option maxHeartbeats 4000000 in
set_option maxRecDepth 100000 in
theorem c_X4_inKind (l : Launch) (D : va_G) (K : ClassId × ClassId × ClassId × ClassId) (p p_dx p_dy p_weights p_leaps p_barred p_passable : Nat) (x y p_stepCount p_kind p_top p_round p_barredCount p_ax p_ay p_bx p_by : Int) (hx : zR x) (hy : zR y) (hp_kind : zR p_kind) (hp_top : zR p_top) (hp_round : zR p_round) : zMet l D K yX4_inKind wsX4_inKind ({ frames := 0, cells := 0, slots := 0, locals := 0 }) 0 0 [.ref p, .int (zI (x)), .int (zI (y))] [wO p 4 [.ref p_dx, .ref p_dy, .ref p_weights, .ref p_leaps, .int (zI (p_stepCount)), .int (zI (p_kind)), .int (zI (p_top)), .int (zI (p_round)), .int (zI (p_barredCount)), .int (zI (p_ax)), .int (zI (p_ay)), .int (zI (p_bx)), .int (zI (p_by)), .ref p_barred, .ref p_passable]] (fun vr_ wr_ => ∃ (r : Int), vr_ = some (.int (zI (r))) ∧ wr_ = [wO p 4 [.ref p_dx, .ref p_dy, .ref p_weights, .ref p_leaps, .int (zI (p_stepCount)), .int (zI (p_kind)), .int (zI (p_top)), .int (zI (p_round)), .int (zI (p_barredCount)), .int (zI (p_ax)), .int (zI (p_ay)), .int (zI (p_bx)), .int (zI (p_by)), .ref p_barred, .ref p_passable]] ∧ (r = inK p_kind p_top p_round x y ∧ (r = 0 ∨ r = 1))) := by
  refine zMet_of (cc := cX4_inKind) (nL := 3) (ret := (some .boolean)) (by decide) rfl (Nat.le_of_ble_eq_true rfl) ?_
  rintro C rfl rfl rfl hC hR
  have hinX4 : ∀ w ∈ u_ws RX4 TX4 15, w ∈ wsX4_inKind := by decide +kernel
  show ZW C 0 0 [wO p 4 [.ref p_dx, .ref p_dy, .ref p_weights, .ref p_leaps, .int (zI (p_stepCount)), .int (zI (p_kind)), .int (zI (p_top)), .int (zI (p_round)), .int (zI (p_barredCount)), .int (zI (p_ax)), .int (zI (p_ay)), .int (zI (p_bx)), .int (zI (p_by)), .ref p_barred, .ref p_passable]] [(0, .ref p), (1, .int (zI (x))), (2, .int (zI (y)))] 0 []
  refine z_aload_n hC 0 dX4_inKind_0 rfl rfl ?_
  refine z_get hC (T := TX4) (N := 15) hinX4 0 5 dX4_inKind_1 rfl rfl (by decide) (List.mem_of_getElem? (i := 1) rfl) rfl rfl ?_
  rcases (show (p_kind < 1 ∨ 4 < p_kind) ∨ p_kind = 1 ∨ p_kind = 2 ∨ p_kind = 3 ∨ p_kind = 4 by omega) with sw_1 | sw_1 | sw_1 | sw_1 | sw_1
  · refine z_tableOut hC dX4_inKind_4 sw_1 (by omega) 96 (by decide) ?_
    refine z_iconst hC dX4_inKind_96 ?_
    exact z_zret hC hR dX4_inKind_97 (by omega) (Nat.le_of_ble_eq_true rfl) (Nat.le_of_ble_eq_true rfl) ⟨1, rfl, rfl, by unfold inK; refine ⟨?_, by omega⟩; (repeat' split) <;> omega⟩
  · refine z_tableIn hC 1 dX4_inKind_4 sw_1 (by decide) (by decide) (by decide) rfl 36 (by decide) ?_
    refine z_iload_n hC 2 dX4_inKind_36 rfl rfl ?_
    refine z_iflt hC 44 dX4_inKind_37 (by decide) (by omega) (fun c_2 => ?_) (fun c_2 => ?_)
    · skip
      refine z_iconst hC dX4_inKind_44 ?_
      exact z_zret hC hR dX4_inKind_45 (by omega) (Nat.le_of_ble_eq_true rfl) (Nat.le_of_ble_eq_true rfl) ⟨0, rfl, rfl, by unfold inK; refine ⟨?_, by omega⟩; (repeat' split) <;> omega⟩
    · skip
      refine z_iconst hC dX4_inKind_40 ?_
      refine z_goto hC 45 dX4_inKind_41 (by decide) ?_
      exact z_zret hC hR dX4_inKind_45 (by omega) (Nat.le_of_ble_eq_true rfl) (Nat.le_of_ble_eq_true rfl) ⟨1, rfl, rfl, by unfold inK; refine ⟨?_, by omega⟩; (repeat' split) <;> omega⟩
  · refine z_tableIn hC 2 dX4_inKind_4 sw_1 (by decide) (by decide) (by decide) rfl 46 (by decide) ?_
    refine z_iload_n hC 2 dX4_inKind_46 rfl rfl ?_
    refine z_iflt hC 62 dX4_inKind_47 (by decide) (by omega) (fun c_3 => ?_) (fun c_3 => ?_)
    · skip
      refine z_iconst hC dX4_inKind_62 ?_
      exact z_zret hC hR dX4_inKind_63 (by omega) (Nat.le_of_ble_eq_true rfl) (Nat.le_of_ble_eq_true rfl) ⟨0, rfl, rfl, by unfold inK; refine ⟨?_, by omega⟩; (repeat' split) <;> omega⟩
    · skip
      refine z_iload_n hC 2 dX4_inKind_50 rfl rfl ?_
      refine z_aload_n hC 0 dX4_inKind_51 rfl rfl ?_
      refine z_get hC (T := TX4) (N := 15) hinX4 0 6 dX4_inKind_52 rfl rfl (by decide) (List.mem_of_getElem? (i := 2) rfl) rfl rfl ?_
      refine z_icgt hC 62 dX4_inKind_55 (by decide) (by omega) (fun c_4 => ?_) (fun c_4 => ?_)
      · skip
        refine z_iconst hC dX4_inKind_62 ?_
        exact z_zret hC hR dX4_inKind_63 (by omega) (Nat.le_of_ble_eq_true rfl) (Nat.le_of_ble_eq_true rfl) ⟨0, rfl, rfl, by unfold inK; refine ⟨?_, by omega⟩; (repeat' split) <;> omega⟩
      · skip
        refine z_iconst hC dX4_inKind_58 ?_
        refine z_goto hC 63 dX4_inKind_59 (by decide) ?_
        exact z_zret hC hR dX4_inKind_63 (by omega) (Nat.le_of_ble_eq_true rfl) (Nat.le_of_ble_eq_true rfl) ⟨1, rfl, rfl, by unfold inK; refine ⟨?_, by omega⟩; (repeat' split) <;> omega⟩
  · refine z_tableIn hC 3 dX4_inKind_4 sw_1 (by decide) (by decide) (by decide) rfl 64 (by decide) ?_
    refine z_iload_n hC 1 dX4_inKind_64 rfl rfl ?_
    refine z_iflt hC 76 dX4_inKind_65 (by decide) (by omega) (fun c_5 => ?_) (fun c_5 => ?_)
    · skip
      refine z_iconst hC dX4_inKind_76 ?_
      exact z_zret hC hR dX4_inKind_77 (by omega) (Nat.le_of_ble_eq_true rfl) (Nat.le_of_ble_eq_true rfl) ⟨0, rfl, rfl, by unfold inK; refine ⟨?_, by omega⟩; (repeat' split) <;> omega⟩
    · skip
      refine z_iload_n hC 2 dX4_inKind_68 rfl rfl ?_
      refine z_iflt hC 76 dX4_inKind_69 (by decide) (by omega) (fun c_6 => ?_) (fun c_6 => ?_)
      · skip
        refine z_iconst hC dX4_inKind_76 ?_
        exact z_zret hC hR dX4_inKind_77 (by omega) (Nat.le_of_ble_eq_true rfl) (Nat.le_of_ble_eq_true rfl) ⟨0, rfl, rfl, by unfold inK; refine ⟨?_, by omega⟩; (repeat' split) <;> omega⟩
      · skip
        refine z_iconst hC dX4_inKind_72 ?_
        refine z_goto hC 77 dX4_inKind_73 (by decide) ?_
        exact z_zret hC hR dX4_inKind_77 (by omega) (Nat.le_of_ble_eq_true rfl) (Nat.le_of_ble_eq_true rfl) ⟨1, rfl, rfl, by unfold inK; refine ⟨?_, by omega⟩; (repeat' split) <;> omega⟩
  · refine z_tableIn hC 4 dX4_inKind_4 sw_1 (by decide) (by decide) (by decide) rfl 78 (by decide) ?_
    refine z_iload_n hC 1 dX4_inKind_78 rfl rfl ?_
    refine z_iflt hC 94 dX4_inKind_79 (by decide) (by omega) (fun c_7 => ?_) (fun c_7 => ?_)
    · skip
      refine z_iconst hC dX4_inKind_94 ?_
      exact z_zret hC hR dX4_inKind_95 (by omega) (Nat.le_of_ble_eq_true rfl) (Nat.le_of_ble_eq_true rfl) ⟨0, rfl, rfl, by unfold inK; refine ⟨?_, by omega⟩; (repeat' split) <;> omega⟩
    · skip
      refine z_iload_n hC 1 dX4_inKind_82 rfl rfl ?_
      refine z_aload_n hC 0 dX4_inKind_83 rfl rfl ?_
      refine z_get hC (T := TX4) (N := 15) hinX4 0 7 dX4_inKind_84 rfl rfl (by decide) (List.mem_of_getElem? (i := 3) rfl) rfl rfl ?_
      refine z_icge hC 94 dX4_inKind_87 (by decide) (by omega) (fun c_8 => ?_) (fun c_8 => ?_)
      · skip
        refine z_iconst hC dX4_inKind_94 ?_
        exact z_zret hC hR dX4_inKind_95 (by omega) (Nat.le_of_ble_eq_true rfl) (Nat.le_of_ble_eq_true rfl) ⟨0, rfl, rfl, by unfold inK; refine ⟨?_, by omega⟩; (repeat' split) <;> omega⟩
      · skip
        refine z_iconst hC dX4_inKind_90 ?_
        refine z_goto hC 95 dX4_inKind_91 (by decide) ?_
        exact z_zret hC hR dX4_inKind_95 (by omega) (Nat.le_of_ble_eq_true rfl) (Nat.le_of_ble_eq_true rfl) ⟨1, rfl, rfl, by unfold inK; refine ⟨?_, by omega⟩; (repeat' split) <;> omega⟩

set_option maxHeartbeats 4000000 in
set_option maxRecDepth 100000 in
theorem c_X4_isPassable (l : Launch) (D : va_G) (K : ClassId × ClassId × ClassId × ClassId) (p p_dx p_dy p_weights p_leaps p_barred p_passable : Nat) (c p_stepCount p_kind p_top p_round p_barredCount p_ax p_ay p_bx p_by : Int) (pas : Int → Int) (hc : zR c) (hpas : ∀ j, 0 ≤ j → j < 4489 → pas j = 0 ∨ pas j = 1) : zMet l D K yX4_isPassable wsX4_isPassable ({ frames := 0, cells := 0, slots := 0, locals := 0 }) 0 0 [.ref p, .int (zI (c))] [wO p 4 [.ref p_dx, .ref p_dy, .ref p_weights, .ref p_leaps, .int (zI (p_stepCount)), .int (zI (p_kind)), .int (zI (p_top)), .int (zI (p_round)), .int (zI (p_barredCount)), .int (zI (p_ax)), .int (zI (p_ay)), .int (zI (p_bx)), .int (zI (p_by)), .ref p_barred, .ref p_passable], wI p_passable K.1 4489 pas] (fun vr_ wr_ => ∃ (r : Int), vr_ = some (.int (zI (r))) ∧ wr_ = [wO p 4 [.ref p_dx, .ref p_dy, .ref p_weights, .ref p_leaps, .int (zI (p_stepCount)), .int (zI (p_kind)), .int (zI (p_top)), .int (zI (p_round)), .int (zI (p_barredCount)), .int (zI (p_ax)), .int (zI (p_ay)), .int (zI (p_bx)), .int (zI (p_by)), .ref p_barred, .ref p_passable], wI p_passable K.1 4489 pas] ∧ ((0 ≤ c ∧ c < 4489 ∧ pas c = 1 ∧ r = 1) ∨ (¬ (0 ≤ c ∧ c < 4489 ∧ pas c = 1) ∧ r = 0))) := by
  refine zMet_of (cc := cX4_isPassable) (nL := 2) (ret := (some .boolean)) (by decide) rfl (Nat.le_of_ble_eq_true rfl) ?_
  rintro C rfl rfl rfl hC hR
  have hinX4 : ∀ w ∈ u_ws RX4 TX4 15, w ∈ wsX4_isPassable := by decide +kernel
  show ZW C 0 0 [wO p 4 [.ref p_dx, .ref p_dy, .ref p_weights, .ref p_leaps, .int (zI (p_stepCount)), .int (zI (p_kind)), .int (zI (p_top)), .int (zI (p_round)), .int (zI (p_barredCount)), .int (zI (p_ax)), .int (zI (p_ay)), .int (zI (p_bx)), .int (zI (p_by)), .ref p_barred, .ref p_passable], wI p_passable (zK C).1 4489 pas] [(0, .ref p), (1, .int (zI (c)))] 0 []
  refine z_iload_n hC 1 dX4_isPassable_0 rfl rfl ?_
  refine z_iflt hC 24 dX4_isPassable_1 (by decide) (by omega) (fun c_1 => ?_) (fun c_1 => ?_)
  · skip
    refine z_iconst hC dX4_isPassable_24 ?_
    exact z_zret hC hR dX4_isPassable_25 (by omega) (Nat.le_of_ble_eq_true rfl) (Nat.le_of_ble_eq_true rfl) ⟨0, rfl, rfl, by omega⟩
  · skip
    refine z_iload_n hC 1 dX4_isPassable_4 rfl rfl ?_
    refine z_sipush hC dX4_isPassable_5 (by decide) ?_
    refine z_icge hC 24 dX4_isPassable_8 (by decide) (by omega) (fun c_2 => ?_) (fun c_2 => ?_)
    · skip
      refine z_iconst hC dX4_isPassable_24 ?_
      exact z_zret hC hR dX4_isPassable_25 (by omega) (Nat.le_of_ble_eq_true rfl) (Nat.le_of_ble_eq_true rfl) ⟨0, rfl, rfl, by omega⟩
    · skip
      refine z_aload_n hC 0 dX4_isPassable_11 rfl rfl ?_
      refine z_get hC (T := TX4) (N := 15) hinX4 0 14 dX4_isPassable_12 rfl rfl (by decide) (List.mem_of_getElem? (i := 1) rfl) rfl rfl ?_
      refine z_iload_n hC 1 dX4_isPassable_15 rfl rfl ?_
      refine z_bald hC 1 dX4_isPassable_16 rfl (by omega) ?_
      have l_3 := hpas c (by omega) (by omega)
      refine z_ifeq hC 24 dX4_isPassable_17 (by decide) (by omega) (fun c_4 => ?_) (fun c_4 => ?_)
      · skip
        refine z_iconst hC dX4_isPassable_24 ?_
        exact z_zret hC hR dX4_isPassable_25 (by omega) (Nat.le_of_ble_eq_true rfl) (Nat.le_of_ble_eq_true rfl) ⟨0, rfl, rfl, by omega⟩
      · skip
        refine z_iconst hC dX4_isPassable_20 ?_
        refine z_goto hC 25 dX4_isPassable_21 (by decide) ?_
        exact z_zret hC hR dX4_isPassable_25 (by omega) (Nat.le_of_ble_eq_true rfl) (Nat.le_of_ble_eq_true rfl) ⟨1, rfl, rfl, by omega⟩

set_option maxHeartbeats 4000000 in
set_option maxRecDepth 100000 in
theorem c_X4_isBarred (l : Launch) (D : va_G) (K : ClassId × ClassId × ClassId × ClassId) (p p_dx p_dy p_weights p_leaps p_barred p_passable : Nat) (x y p_stepCount p_kind p_top p_round p_barredCount p_ax p_ay p_bx p_by : Int) (bar : Int → Int) (hx : zR x) (hy : zR y) (hbar : ∀ j, 0 ≤ j → j < 4489 → bar j = 0 ∨ bar j = 1) : zMet l D K yX4_isBarred wsX4_isBarred ({ frames := 1, cells := 0, slots := 0, locals := 21 }) 0 0 [.ref p, .int (zI (x)), .int (zI (y))] [wO p 4 [.ref p_dx, .ref p_dy, .ref p_weights, .ref p_leaps, .int (zI (p_stepCount)), .int (zI (p_kind)), .int (zI (p_top)), .int (zI (p_round)), .int (zI (p_barredCount)), .int (zI (p_ax)), .int (zI (p_ay)), .int (zI (p_bx)), .int (zI (p_by)), .ref p_barred, .ref p_passable], wI p_barred K.1 4489 bar] (fun vr_ wr_ => ∃ (r : Int), vr_ = some (.int (zI (r))) ∧ wr_ = [wO p 4 [.ref p_dx, .ref p_dy, .ref p_weights, .ref p_leaps, .int (zI (p_stepCount)), .int (zI (p_kind)), .int (zI (p_top)), .int (zI (p_round)), .int (zI (p_barredCount)), .int (zI (p_ax)), .int (zI (p_ay)), .int (zI (p_bx)), .int (zI (p_by)), .ref p_barred, .ref p_passable], wI p_barred K.1 4489 bar] ∧ ((-30 ≤ x ∧ x ≤ 30 ∧ -30 ≤ y ∧ y ≤ 30 ∧ bar ((y + 33) * 67 + x + 33) = 1 ∧ r = 1) ∨ (¬ (-30 ≤ x ∧ x ≤ 30 ∧ -30 ≤ y ∧ y ≤ 30 ∧ bar ((y + 33) * 67 + x + 33) = 1) ∧ r = 0))) := by
  refine zMet_of (cc := cX4_isBarred) (nL := 3) (ret := (some .boolean)) (by decide) rfl (Nat.le_of_ble_eq_true rfl) ?_
  rintro C rfl rfl rfl hC hR
  have hinX4 : ∀ w ∈ u_ws RX4 TX4 15, w ∈ wsX4_isBarred := by decide +kernel
  show ZW C 0 0 [wO p 4 [.ref p_dx, .ref p_dy, .ref p_weights, .ref p_leaps, .int (zI (p_stepCount)), .int (zI (p_kind)), .int (zI (p_top)), .int (zI (p_round)), .int (zI (p_barredCount)), .int (zI (p_ax)), .int (zI (p_ay)), .int (zI (p_bx)), .int (zI (p_by)), .ref p_barred, .ref p_passable], wI p_barred (zK C).1 4489 bar] [(0, .ref p), (1, .int (zI (x))), (2, .int (zI (y)))] 0 []
  refine z_iload_n hC 1 dX4_isBarred_0 rfl rfl ?_
  refine z_iload_n hC 2 dX4_isBarred_1 rfl rfl ?_
  refine z_callS hC [.int (zI (x)), .int (zI (y))] 2 dX4_isBarred_2 (c_X4_isSquare (zl C) (zD C) (zK C) x y (by first | assumption | omega) (by first | assumption | omega)) gX4_isBarred_X4_isSquare rfl rfl rfl ⟨by decide, by decide, by decide +kernel⟩ ⟨(Nat.le_of_ble_eq_true rfl), (Nat.le_of_ble_eq_true rfl)⟩ rfl [] [0, 1] [wO p 4 [.ref p_dx, .ref p_dy, .ref p_weights, .ref p_leaps, .int (zI (p_stepCount)), .int (zI (p_kind)), .int (zI (p_top)), .int (zI (p_round)), .int (zI (p_barredCount)), .int (zI (p_ax)), .int (zI (p_ay)), .int (zI (p_bx)), .int (zI (p_by)), .ref p_barred, .ref p_passable], wI p_barred (zK C).1 4489 bar] [] rfl rfl rfl rfl rfl (by decide) (Nat.le_of_ble_eq_true rfl) ⟨(Nat.le_of_ble_eq_true rfl), (Nat.le_of_ble_eq_true rfl)⟩ ?_
  rintro v_ w_ ⟨r_1, rfl, rfl, h_2_2⟩
  show ZW C 0 0 [wO p 4 [.ref p_dx, .ref p_dy, .ref p_weights, .ref p_leaps, .int (zI (p_stepCount)), .int (zI (p_kind)), .int (zI (p_top)), .int (zI (p_round)), .int (zI (p_barredCount)), .int (zI (p_ax)), .int (zI (p_ay)), .int (zI (p_bx)), .int (zI (p_by)), .ref p_barred, .ref p_passable], wI p_barred (zK C).1 4489 bar] [(0, .ref p), (1, .int (zI (x))), (2, .int (zI (y)))] 5 [.int (zI (r_1))]
  refine z_ifeq hC 25 dX4_isBarred_5 (by decide) (by omega) (fun c_3 => ?_) (fun c_3 => ?_)
  · skip
    refine z_iconst hC dX4_isBarred_25 ?_
    exact z_zret hC hR dX4_isBarred_26 (by omega) (Nat.le_of_ble_eq_true rfl) (Nat.le_of_ble_eq_true rfl) ⟨0, rfl, rfl, by omega⟩
  · skip
    refine z_aload_n hC 0 dX4_isBarred_8 rfl rfl ?_
    refine z_get hC (T := TX4) (N := 15) hinX4 0 13 dX4_isBarred_9 rfl rfl (by decide) (List.mem_of_getElem? (i := 1) rfl) rfl rfl ?_
    refine z_iload_n hC 1 dX4_isBarred_12 rfl rfl ?_
    refine z_iload_n hC 2 dX4_isBarred_13 rfl rfl ?_
    refine z_callS hC [.int (zI (x)), .int (zI (y))] 2 dX4_isBarred_14 (c_X4_cellOf (zl C) (zD C) (zK C) x y ) gX4_isBarred_X4_cellOf rfl rfl rfl ⟨by decide, by decide, by decide +kernel⟩ ⟨(Nat.le_of_ble_eq_true rfl), (Nat.le_of_ble_eq_true rfl)⟩ rfl [] [0, 1] [wO p 4 [.ref p_dx, .ref p_dy, .ref p_weights, .ref p_leaps, .int (zI (p_stepCount)), .int (zI (p_kind)), .int (zI (p_top)), .int (zI (p_round)), .int (zI (p_barredCount)), .int (zI (p_ax)), .int (zI (p_ay)), .int (zI (p_bx)), .int (zI (p_by)), .ref p_barred, .ref p_passable], wI p_barred (zK C).1 4489 bar] [.ref p_barred] rfl rfl rfl rfl rfl (by decide) (Nat.le_of_ble_eq_true rfl) ⟨(Nat.le_of_ble_eq_true rfl), (Nat.le_of_ble_eq_true rfl)⟩ ?_
    rintro v_ w_ ⟨rfl, rfl, h_14_4⟩
    show ZW C 0 0 [wO p 4 [.ref p_dx, .ref p_dy, .ref p_weights, .ref p_leaps, .int (zI (p_stepCount)), .int (zI (p_kind)), .int (zI (p_top)), .int (zI (p_round)), .int (zI (p_barredCount)), .int (zI (p_ax)), .int (zI (p_ay)), .int (zI (p_bx)), .int (zI (p_by)), .ref p_barred, .ref p_passable], wI p_barred (zK C).1 4489 bar] [(0, .ref p), (1, .int (zI (x))), (2, .int (zI (y)))] 17 [.int (zI ((y + 33) * 67 + x + 33)), .ref p_barred]
    refine z_bald hC 1 dX4_isBarred_17 rfl (by omega) ?_
    have l_5 := hbar ((y + 33) * 67 + x + 33) (by omega) (by omega)
    refine z_ifeq hC 25 dX4_isBarred_18 (by decide) (by omega) (fun c_6 => ?_) (fun c_6 => ?_)
    · skip
      refine z_iconst hC dX4_isBarred_25 ?_
      exact z_zret hC hR dX4_isBarred_26 (by omega) (Nat.le_of_ble_eq_true rfl) (Nat.le_of_ble_eq_true rfl) ⟨0, rfl, rfl, by omega⟩
    · skip
      refine z_iconst hC dX4_isBarred_21 ?_
      refine z_goto hC 26 dX4_isBarred_22 (by decide) ?_
      exact z_zret hC hR dX4_isBarred_26 (by omega) (Nat.le_of_ble_eq_true rfl) (Nat.le_of_ble_eq_true rfl) ⟨1, rfl, rfl, by omega⟩

set_option maxHeartbeats 4000000 in
set_option maxRecDepth 100000 in
theorem c_X4_isOpen (l : Launch) (D : va_G) (K : ClassId × ClassId × ClassId × ClassId) (p p_dx p_dy p_weights p_leaps p_barred p_passable : Nat) (x y p_stepCount p_kind p_top p_round p_barredCount p_ax p_ay p_bx p_by : Int) (pas : Int → Int) (hx : zR x) (hy : zR y) (hpas : ∀ j, 0 ≤ j → j < 4489 → pas j = 0 ∨ pas j = 1) : zMet l D K yX4_isOpen wsX4_isOpen ({ frames := 1, cells := 0, slots := 0, locals := 21 }) 0 0 [.ref p, .int (zI (x)), .int (zI (y))] [wO p 4 [.ref p_dx, .ref p_dy, .ref p_weights, .ref p_leaps, .int (zI (p_stepCount)), .int (zI (p_kind)), .int (zI (p_top)), .int (zI (p_round)), .int (zI (p_barredCount)), .int (zI (p_ax)), .int (zI (p_ay)), .int (zI (p_bx)), .int (zI (p_by)), .ref p_barred, .ref p_passable], wI p_passable K.1 4489 pas] (fun vr_ wr_ => ∃ (r : Int), vr_ = some (.int (zI (r))) ∧ wr_ = [wO p 4 [.ref p_dx, .ref p_dy, .ref p_weights, .ref p_leaps, .int (zI (p_stepCount)), .int (zI (p_kind)), .int (zI (p_top)), .int (zI (p_round)), .int (zI (p_barredCount)), .int (zI (p_ax)), .int (zI (p_ay)), .int (zI (p_bx)), .int (zI (p_by)), .ref p_barred, .ref p_passable], wI p_passable K.1 4489 pas] ∧ ((-30 ≤ x ∧ x ≤ 30 ∧ -30 ≤ y ∧ y ≤ 30 ∧ pas ((y + 33) * 67 + x + 33) = 1 ∧ r = 1) ∨ (¬ (-30 ≤ x ∧ x ≤ 30 ∧ -30 ≤ y ∧ y ≤ 30 ∧ pas ((y + 33) * 67 + x + 33) = 1) ∧ r = 0))) := by
  refine zMet_of (cc := cX4_isOpen) (nL := 3) (ret := (some .boolean)) (by decide) rfl (Nat.le_of_ble_eq_true rfl) ?_
  rintro C rfl rfl rfl hC hR
  have hinX4 : ∀ w ∈ u_ws RX4 TX4 15, w ∈ wsX4_isOpen := by decide +kernel
  show ZW C 0 0 [wO p 4 [.ref p_dx, .ref p_dy, .ref p_weights, .ref p_leaps, .int (zI (p_stepCount)), .int (zI (p_kind)), .int (zI (p_top)), .int (zI (p_round)), .int (zI (p_barredCount)), .int (zI (p_ax)), .int (zI (p_ay)), .int (zI (p_bx)), .int (zI (p_by)), .ref p_barred, .ref p_passable], wI p_passable (zK C).1 4489 pas] [(0, .ref p), (1, .int (zI (x))), (2, .int (zI (y)))] 0 []
  refine z_iload_n hC 1 dX4_isOpen_0 rfl rfl ?_
  refine z_iload_n hC 2 dX4_isOpen_1 rfl rfl ?_
  refine z_callS hC [.int (zI (x)), .int (zI (y))] 2 dX4_isOpen_2 (c_X4_isSquare (zl C) (zD C) (zK C) x y (by first | assumption | omega) (by first | assumption | omega)) gX4_isOpen_X4_isSquare rfl rfl rfl ⟨by decide, by decide, by decide +kernel⟩ ⟨(Nat.le_of_ble_eq_true rfl), (Nat.le_of_ble_eq_true rfl)⟩ rfl [] [0, 1] [wO p 4 [.ref p_dx, .ref p_dy, .ref p_weights, .ref p_leaps, .int (zI (p_stepCount)), .int (zI (p_kind)), .int (zI (p_top)), .int (zI (p_round)), .int (zI (p_barredCount)), .int (zI (p_ax)), .int (zI (p_ay)), .int (zI (p_bx)), .int (zI (p_by)), .ref p_barred, .ref p_passable], wI p_passable (zK C).1 4489 pas] [] rfl rfl rfl rfl rfl (by decide) (Nat.le_of_ble_eq_true rfl) ⟨(Nat.le_of_ble_eq_true rfl), (Nat.le_of_ble_eq_true rfl)⟩ ?_
  rintro v_ w_ ⟨r_1, rfl, rfl, h_2_2⟩
  show ZW C 0 0 [wO p 4 [.ref p_dx, .ref p_dy, .ref p_weights, .ref p_leaps, .int (zI (p_stepCount)), .int (zI (p_kind)), .int (zI (p_top)), .int (zI (p_round)), .int (zI (p_barredCount)), .int (zI (p_ax)), .int (zI (p_ay)), .int (zI (p_bx)), .int (zI (p_by)), .ref p_barred, .ref p_passable], wI p_passable (zK C).1 4489 pas] [(0, .ref p), (1, .int (zI (x))), (2, .int (zI (y)))] 5 [.int (zI (r_1))]
  refine z_ifeq hC 25 dX4_isOpen_5 (by decide) (by omega) (fun c_3 => ?_) (fun c_3 => ?_)
  · skip
    refine z_iconst hC dX4_isOpen_25 ?_
    exact z_zret hC hR dX4_isOpen_26 (by omega) (Nat.le_of_ble_eq_true rfl) (Nat.le_of_ble_eq_true rfl) ⟨0, rfl, rfl, by omega⟩
  · skip
    refine z_aload_n hC 0 dX4_isOpen_8 rfl rfl ?_
    refine z_get hC (T := TX4) (N := 15) hinX4 0 14 dX4_isOpen_9 rfl rfl (by decide) (List.mem_of_getElem? (i := 1) rfl) rfl rfl ?_
    refine z_iload_n hC 1 dX4_isOpen_12 rfl rfl ?_
    refine z_iload_n hC 2 dX4_isOpen_13 rfl rfl ?_
    refine z_callS hC [.int (zI (x)), .int (zI (y))] 2 dX4_isOpen_14 (c_X4_cellOf (zl C) (zD C) (zK C) x y ) gX4_isOpen_X4_cellOf rfl rfl rfl ⟨by decide, by decide, by decide +kernel⟩ ⟨(Nat.le_of_ble_eq_true rfl), (Nat.le_of_ble_eq_true rfl)⟩ rfl [] [0, 1] [wO p 4 [.ref p_dx, .ref p_dy, .ref p_weights, .ref p_leaps, .int (zI (p_stepCount)), .int (zI (p_kind)), .int (zI (p_top)), .int (zI (p_round)), .int (zI (p_barredCount)), .int (zI (p_ax)), .int (zI (p_ay)), .int (zI (p_bx)), .int (zI (p_by)), .ref p_barred, .ref p_passable], wI p_passable (zK C).1 4489 pas] [.ref p_passable] rfl rfl rfl rfl rfl (by decide) (Nat.le_of_ble_eq_true rfl) ⟨(Nat.le_of_ble_eq_true rfl), (Nat.le_of_ble_eq_true rfl)⟩ ?_
    rintro v_ w_ ⟨rfl, rfl, h_14_4⟩
    show ZW C 0 0 [wO p 4 [.ref p_dx, .ref p_dy, .ref p_weights, .ref p_leaps, .int (zI (p_stepCount)), .int (zI (p_kind)), .int (zI (p_top)), .int (zI (p_round)), .int (zI (p_barredCount)), .int (zI (p_ax)), .int (zI (p_ay)), .int (zI (p_bx)), .int (zI (p_by)), .ref p_barred, .ref p_passable], wI p_passable (zK C).1 4489 pas] [(0, .ref p), (1, .int (zI (x))), (2, .int (zI (y)))] 17 [.int (zI ((y + 33) * 67 + x + 33)), .ref p_passable]
    refine z_bald hC 1 dX4_isOpen_17 rfl (by omega) ?_
    have l_5 := hpas ((y + 33) * 67 + x + 33) (by omega) (by omega)
    refine z_ifeq hC 25 dX4_isOpen_18 (by decide) (by omega) (fun c_6 => ?_) (fun c_6 => ?_)
    · skip
      refine z_iconst hC dX4_isOpen_25 ?_
      exact z_zret hC hR dX4_isOpen_26 (by omega) (Nat.le_of_ble_eq_true rfl) (Nat.le_of_ble_eq_true rfl) ⟨0, rfl, rfl, by omega⟩
    · skip
      refine z_iconst hC dX4_isOpen_21 ?_
      refine z_goto hC 26 dX4_isOpen_22 (by decide) ?_
      exact z_zret hC hR dX4_isOpen_26 (by omega) (Nat.le_of_ble_eq_true rfl) (Nat.le_of_ble_eq_true rfl) ⟨1, rfl, rfl, by omega⟩

set_option maxHeartbeats 4000000 in
set_option maxRecDepth 100000 in
theorem c_X4_endsOpen (l : Launch) (D : va_G) (K : ClassId × ClassId × ClassId × ClassId) (p p_dx p_dy p_weights p_leaps p_barred p_passable : Nat) (p_stepCount p_kind p_top p_round p_barredCount p_ax p_ay p_bx p_by : Int) (pas : Int → Int) (hp_ax : zR p_ax) (hp_ay : zR p_ay) (hp_bx : zR p_bx) (hp_by : zR p_by) (hpas : ∀ j, 0 ≤ j → j < 4489 → pas j = 0 ∨ pas j = 1) : zMet l D K yX4_endsOpen wsX4_endsOpen ({ frames := 2, cells := 0, slots := 0, locals := 43 }) 0 0 [.ref p] [wO p 4 [.ref p_dx, .ref p_dy, .ref p_weights, .ref p_leaps, .int (zI (p_stepCount)), .int (zI (p_kind)), .int (zI (p_top)), .int (zI (p_round)), .int (zI (p_barredCount)), .int (zI (p_ax)), .int (zI (p_ay)), .int (zI (p_bx)), .int (zI (p_by)), .ref p_barred, .ref p_passable], wI p_passable K.1 4489 pas] (fun vr_ wr_ => ∃ (r : Int), vr_ = some (.int (zI (r))) ∧ wr_ = [wO p 4 [.ref p_dx, .ref p_dy, .ref p_weights, .ref p_leaps, .int (zI (p_stepCount)), .int (zI (p_kind)), .int (zI (p_top)), .int (zI (p_round)), .int (zI (p_barredCount)), .int (zI (p_ax)), .int (zI (p_ay)), .int (zI (p_bx)), .int (zI (p_by)), .ref p_barred, .ref p_passable], wI p_passable K.1 4489 pas] ∧ ((opn pas p_ax p_ay ∧ opn pas p_bx p_by ∧ r = 1) ∨ (¬ (opn pas p_ax p_ay ∧ opn pas p_bx p_by) ∧ r = 0))) := by
  refine zMet_of (cc := cX4_endsOpen) (nL := 1) (ret := (some .boolean)) (by decide) rfl (Nat.le_of_ble_eq_true rfl) ?_
  rintro C rfl rfl rfl hC hR
  have hinX4 : ∀ w ∈ u_ws RX4 TX4 15, w ∈ wsX4_endsOpen := by decide +kernel
  show ZW C 0 0 [wO p 4 [.ref p_dx, .ref p_dy, .ref p_weights, .ref p_leaps, .int (zI (p_stepCount)), .int (zI (p_kind)), .int (zI (p_top)), .int (zI (p_round)), .int (zI (p_barredCount)), .int (zI (p_ax)), .int (zI (p_ay)), .int (zI (p_bx)), .int (zI (p_by)), .ref p_barred, .ref p_passable], wI p_passable (zK C).1 4489 pas] [(0, .ref p)] 0 []
  refine z_aload_n hC 0 dX4_endsOpen_0 rfl rfl ?_
  refine z_aload_n hC 0 dX4_endsOpen_1 rfl rfl ?_
  refine z_get hC (T := TX4) (N := 15) hinX4 0 9 dX4_endsOpen_2 rfl rfl (by decide) (List.mem_of_getElem? (i := 1) rfl) rfl rfl ?_
  refine z_aload_n hC 0 dX4_endsOpen_5 rfl rfl ?_
  refine z_get hC (T := TX4) (N := 15) hinX4 0 10 dX4_endsOpen_6 rfl rfl (by decide) (List.mem_of_getElem? (i := 2) rfl) rfl rfl ?_
  refine z_callV hC [.int (zI (p_ax)), .int (zI (p_ay))] 2 0 dX4_endsOpen_9 (c_X4_isOpen (zl C) (zD C) (zK C) p p_dx p_dy p_weights p_leaps p_barred p_passable p_ax p_ay p_stepCount p_kind p_top p_round p_barredCount p_ax p_ay p_bx p_by pas (by first | assumption | omega) (by first | assumption | omega) (by first | assumption | omega)) gX4_endsOpen_X4_isOpen rfl rfl rfl ⟨by decide, by decide, by decide +kernel⟩ ⟨(Nat.le_of_ble_eq_true rfl), (Nat.le_of_ble_eq_true rfl)⟩ rfl rfl rfl rfl [0, 1] [] [] [] rfl rfl rfl rfl rfl (by decide) (Nat.le_of_ble_eq_true rfl) ⟨(Nat.le_of_ble_eq_true rfl), (Nat.le_of_ble_eq_true rfl)⟩ ?_
  rintro v_ w_ ⟨r_1, rfl, rfl, h_9_2⟩
  show ZW C 0 0 [wO p 4 [.ref p_dx, .ref p_dy, .ref p_weights, .ref p_leaps, .int (zI (p_stepCount)), .int (zI (p_kind)), .int (zI (p_top)), .int (zI (p_round)), .int (zI (p_barredCount)), .int (zI (p_ax)), .int (zI (p_ay)), .int (zI (p_bx)), .int (zI (p_by)), .ref p_barred, .ref p_passable], wI p_passable (zK C).1 4489 pas] [(0, .ref p)] 12 [.int (zI (r_1))]
  refine z_ifeq hC 34 dX4_endsOpen_12 (by decide) (by omega) (fun c_3 => ?_) (fun c_3 => ?_)
  · skip
    refine z_iconst hC dX4_endsOpen_34 ?_
    exact z_zret hC hR dX4_endsOpen_35 (by omega) (Nat.le_of_ble_eq_true rfl) (Nat.le_of_ble_eq_true rfl) ⟨0, rfl, rfl, by unfold opn; omega⟩
  · skip
    refine z_aload_n hC 0 dX4_endsOpen_15 rfl rfl ?_
    refine z_aload_n hC 0 dX4_endsOpen_16 rfl rfl ?_
    refine z_get hC (T := TX4) (N := 15) hinX4 0 11 dX4_endsOpen_17 rfl rfl (by decide) (List.mem_of_getElem? (i := 3) rfl) rfl rfl ?_
    refine z_aload_n hC 0 dX4_endsOpen_20 rfl rfl ?_
    refine z_get hC (T := TX4) (N := 15) hinX4 0 12 dX4_endsOpen_21 rfl rfl (by decide) (List.mem_of_getElem? (i := 4) rfl) rfl rfl ?_
    refine z_callV hC [.int (zI (p_bx)), .int (zI (p_by))] 2 0 dX4_endsOpen_24 (c_X4_isOpen (zl C) (zD C) (zK C) p p_dx p_dy p_weights p_leaps p_barred p_passable p_bx p_by p_stepCount p_kind p_top p_round p_barredCount p_ax p_ay p_bx p_by pas (by first | assumption | omega) (by first | assumption | omega) (by first | assumption | omega)) gX4_endsOpen_X4_isOpen rfl rfl rfl ⟨by decide, by decide, by decide +kernel⟩ ⟨(Nat.le_of_ble_eq_true rfl), (Nat.le_of_ble_eq_true rfl)⟩ rfl rfl rfl rfl [0, 1] [] [] [] rfl rfl rfl rfl rfl (by decide) (Nat.le_of_ble_eq_true rfl) ⟨(Nat.le_of_ble_eq_true rfl), (Nat.le_of_ble_eq_true rfl)⟩ ?_
    rintro v_ w_ ⟨r_4, rfl, rfl, h_24_5⟩
    show ZW C 0 0 [wO p 4 [.ref p_dx, .ref p_dy, .ref p_weights, .ref p_leaps, .int (zI (p_stepCount)), .int (zI (p_kind)), .int (zI (p_top)), .int (zI (p_round)), .int (zI (p_barredCount)), .int (zI (p_ax)), .int (zI (p_ay)), .int (zI (p_bx)), .int (zI (p_by)), .ref p_barred, .ref p_passable], wI p_passable (zK C).1 4489 pas] [(0, .ref p)] 27 [.int (zI (r_4))]
    refine z_ifeq hC 34 dX4_endsOpen_27 (by decide) (by omega) (fun c_6 => ?_) (fun c_6 => ?_)
    · skip
      refine z_iconst hC dX4_endsOpen_34 ?_
      exact z_zret hC hR dX4_endsOpen_35 (by omega) (Nat.le_of_ble_eq_true rfl) (Nat.le_of_ble_eq_true rfl) ⟨0, rfl, rfl, by unfold opn; omega⟩
    · skip
      refine z_iconst hC dX4_endsOpen_30 ?_
      refine z_goto hC 35 dX4_endsOpen_31 (by decide) ?_
      exact z_zret hC hR dX4_endsOpen_35 (by omega) (Nat.le_of_ble_eq_true rfl) (Nat.le_of_ble_eq_true rfl) ⟨1, rfl, rfl, by unfold opn; omega⟩

set_option maxHeartbeats 4000000 in
set_option maxRecDepth 100000 in
theorem c_X4_endsBetweenLines (l : Launch) (D : va_G) (K : ClassId × ClassId × ClassId × ClassId) (p p_dx p_dy p_weights p_leaps p_barred p_passable : Nat) (p_stepCount p_kind p_top p_round p_barredCount p_ax p_ay p_bx p_by : Int) (hp_ay : zR p_ay) (hp_by : zR p_by) (hp_top : zR p_top) : zMet l D K yX4_endsBetweenLines wsX4_endsBetweenLines ({ frames := 0, cells := 0, slots := 0, locals := 0 }) 0 0 [.ref p] [wO p 4 [.ref p_dx, .ref p_dy, .ref p_weights, .ref p_leaps, .int (zI (p_stepCount)), .int (zI (p_kind)), .int (zI (p_top)), .int (zI (p_round)), .int (zI (p_barredCount)), .int (zI (p_ax)), .int (zI (p_ay)), .int (zI (p_bx)), .int (zI (p_by)), .ref p_barred, .ref p_passable]] (fun vr_ wr_ => ∃ (r : Int), vr_ = some (.int (zI (r))) ∧ wr_ = [wO p 4 [.ref p_dx, .ref p_dy, .ref p_weights, .ref p_leaps, .int (zI (p_stepCount)), .int (zI (p_kind)), .int (zI (p_top)), .int (zI (p_round)), .int (zI (p_barredCount)), .int (zI (p_ax)), .int (zI (p_ay)), .int (zI (p_bx)), .int (zI (p_by)), .ref p_barred, .ref p_passable]] ∧ ((0 ≤ p_ay ∧ p_ay ≤ p_top ∧ 0 ≤ p_by ∧ p_by ≤ p_top ∧ r = 1) ∨ (¬ (0 ≤ p_ay ∧ p_ay ≤ p_top ∧ 0 ≤ p_by ∧ p_by ≤ p_top) ∧ r = 0))) := by
  refine zMet_of (cc := cX4_endsBetweenLines) (nL := 1) (ret := (some .boolean)) (by decide) rfl (Nat.le_of_ble_eq_true rfl) ?_
  rintro C rfl rfl rfl hC hR
  have hinX4 : ∀ w ∈ u_ws RX4 TX4 15, w ∈ wsX4_endsBetweenLines := by decide +kernel
  show ZW C 0 0 [wO p 4 [.ref p_dx, .ref p_dy, .ref p_weights, .ref p_leaps, .int (zI (p_stepCount)), .int (zI (p_kind)), .int (zI (p_top)), .int (zI (p_round)), .int (zI (p_barredCount)), .int (zI (p_ax)), .int (zI (p_ay)), .int (zI (p_bx)), .int (zI (p_by)), .ref p_barred, .ref p_passable]] [(0, .ref p)] 0 []
  refine z_aload_n hC 0 dX4_endsBetweenLines_0 rfl rfl ?_
  refine z_get hC (T := TX4) (N := 15) hinX4 0 10 dX4_endsBetweenLines_1 rfl rfl (by decide) (List.mem_of_getElem? (i := 1) rfl) rfl rfl ?_
  refine z_iflt hC 40 dX4_endsBetweenLines_4 (by decide) (by omega) (fun c_1 => ?_) (fun c_1 => ?_)
  · skip
    refine z_iconst hC dX4_endsBetweenLines_40 ?_
    exact z_zret hC hR dX4_endsBetweenLines_41 (by omega) (Nat.le_of_ble_eq_true rfl) (Nat.le_of_ble_eq_true rfl) ⟨0, rfl, rfl, by omega⟩
  · skip
    refine z_aload_n hC 0 dX4_endsBetweenLines_7 rfl rfl ?_
    refine z_get hC (T := TX4) (N := 15) hinX4 0 10 dX4_endsBetweenLines_8 rfl rfl (by decide) (List.mem_of_getElem? (i := 1) rfl) rfl rfl ?_
    refine z_aload_n hC 0 dX4_endsBetweenLines_11 rfl rfl ?_
    refine z_get hC (T := TX4) (N := 15) hinX4 0 6 dX4_endsBetweenLines_12 rfl rfl (by decide) (List.mem_of_getElem? (i := 2) rfl) rfl rfl ?_
    refine z_icgt hC 40 dX4_endsBetweenLines_15 (by decide) (by omega) (fun c_2 => ?_) (fun c_2 => ?_)
    · skip
      refine z_iconst hC dX4_endsBetweenLines_40 ?_
      exact z_zret hC hR dX4_endsBetweenLines_41 (by omega) (Nat.le_of_ble_eq_true rfl) (Nat.le_of_ble_eq_true rfl) ⟨0, rfl, rfl, by omega⟩
    · skip
      refine z_aload_n hC 0 dX4_endsBetweenLines_18 rfl rfl ?_
      refine z_get hC (T := TX4) (N := 15) hinX4 0 12 dX4_endsBetweenLines_19 rfl rfl (by decide) (List.mem_of_getElem? (i := 3) rfl) rfl rfl ?_
      refine z_iflt hC 40 dX4_endsBetweenLines_22 (by decide) (by omega) (fun c_3 => ?_) (fun c_3 => ?_)
      · skip
        refine z_iconst hC dX4_endsBetweenLines_40 ?_
        exact z_zret hC hR dX4_endsBetweenLines_41 (by omega) (Nat.le_of_ble_eq_true rfl) (Nat.le_of_ble_eq_true rfl) ⟨0, rfl, rfl, by omega⟩
      · skip
        refine z_aload_n hC 0 dX4_endsBetweenLines_25 rfl rfl ?_
        refine z_get hC (T := TX4) (N := 15) hinX4 0 12 dX4_endsBetweenLines_26 rfl rfl (by decide) (List.mem_of_getElem? (i := 3) rfl) rfl rfl ?_
        refine z_aload_n hC 0 dX4_endsBetweenLines_29 rfl rfl ?_
        refine z_get hC (T := TX4) (N := 15) hinX4 0 6 dX4_endsBetweenLines_30 rfl rfl (by decide) (List.mem_of_getElem? (i := 2) rfl) rfl rfl ?_
        refine z_icgt hC 40 dX4_endsBetweenLines_33 (by decide) (by omega) (fun c_4 => ?_) (fun c_4 => ?_)
        · skip
          refine z_iconst hC dX4_endsBetweenLines_40 ?_
          exact z_zret hC hR dX4_endsBetweenLines_41 (by omega) (Nat.le_of_ble_eq_true rfl) (Nat.le_of_ble_eq_true rfl) ⟨0, rfl, rfl, by omega⟩
        · skip
          refine z_iconst hC dX4_endsBetweenLines_36 ?_
          refine z_goto hC 41 dX4_endsBetweenLines_37 (by decide) ?_
          exact z_zret hC hR dX4_endsBetweenLines_41 (by omega) (Nat.le_of_ble_eq_true rfl) (Nat.le_of_ble_eq_true rfl) ⟨1, rfl, rfl, by omega⟩

set_option maxHeartbeats 4000000 in
set_option maxRecDepth 100000 in
theorem c_X4_renewSquare (l : Launch) (D : va_G) (K : ClassId × ClassId × ClassId × ClassId) (p p_dx p_dy p_weights p_leaps p_barred p_passable : Nat) (x y p_stepCount p_kind p_top p_round p_barredCount p_ax p_ay p_bx p_by : Int) (bar pas : Int → Int) (hx : -30 ≤ x ∧ x ≤ 30 ∧ -30 ≤ y ∧ y ≤ 30) (hp_kind : zR p_kind) (hp_top : zR p_top) (hp_round : zR p_round) (hbar : ∀ j, 0 ≤ j → j < 4489 → bar j = 0 ∨ bar j = 1) : zMet l D K yX4_renewSquare wsX4_renewSquare ({ frames := 1, cells := 0, slots := 0, locals := 22 }) 0 0 [.ref p, .int (zI (x)), .int (zI (y))] [wO p 4 [.ref p_dx, .ref p_dy, .ref p_weights, .ref p_leaps, .int (zI (p_stepCount)), .int (zI (p_kind)), .int (zI (p_top)), .int (zI (p_round)), .int (zI (p_barredCount)), .int (zI (p_ax)), .int (zI (p_ay)), .int (zI (p_bx)), .int (zI (p_by)), .ref p_barred, .ref p_passable], wI p_barred K.1 4489 bar, wI p_passable K.1 4489 pas] (fun vr_ wr_ => ∃ (rv : Int), vr_ = none ∧ wr_ = [wO p 4 [.ref p_dx, .ref p_dy, .ref p_weights, .ref p_leaps, .int (zI (p_stepCount)), .int (zI (p_kind)), .int (zI (p_top)), .int (zI (p_round)), .int (zI (p_barredCount)), .int (zI (p_ax)), .int (zI (p_ay)), .int (zI (p_bx)), .int (zI (p_by)), .ref p_barred, .ref p_passable], wI p_barred K.1 4489 bar, wI p_passable K.1 4489 (zu pas ((y + 33) * 67 + x + 33) rv)] ∧ (rv = (if inK p_kind p_top p_round x y = 1 ∧ bar ((y + 33) * 67 + x + 33) = 0 then 1 else 0))) := by
  refine zMet_of (cc := cX4_renewSquare) (nL := 4) (ret := none) (by decide) rfl (Nat.le_of_ble_eq_true rfl) ?_
  rintro C rfl rfl rfl hC hR
  have hinX4 : ∀ w ∈ u_ws RX4 TX4 15, w ∈ wsX4_renewSquare := by decide +kernel
  show ZW C 0 0 [wO p 4 [.ref p_dx, .ref p_dy, .ref p_weights, .ref p_leaps, .int (zI (p_stepCount)), .int (zI (p_kind)), .int (zI (p_top)), .int (zI (p_round)), .int (zI (p_barredCount)), .int (zI (p_ax)), .int (zI (p_ay)), .int (zI (p_bx)), .int (zI (p_by)), .ref p_barred, .ref p_passable], wI p_barred (zK C).1 4489 bar, wI p_passable (zK C).1 4489 pas] [(0, .ref p), (1, .int (zI (x))), (2, .int (zI (y)))] 0 []
  refine z_iload_n hC 1 dX4_renewSquare_0 rfl rfl ?_
  refine z_iload_n hC 2 dX4_renewSquare_1 rfl rfl ?_
  refine z_callS hC [.int (zI (x)), .int (zI (y))] 2 dX4_renewSquare_2 (c_X4_cellOf (zl C) (zD C) (zK C) x y ) gX4_renewSquare_X4_cellOf rfl rfl rfl ⟨by decide, by decide, by decide +kernel⟩ ⟨(Nat.le_of_ble_eq_true rfl), (Nat.le_of_ble_eq_true rfl)⟩ rfl [] [0, 1, 2] [wO p 4 [.ref p_dx, .ref p_dy, .ref p_weights, .ref p_leaps, .int (zI (p_stepCount)), .int (zI (p_kind)), .int (zI (p_top)), .int (zI (p_round)), .int (zI (p_barredCount)), .int (zI (p_ax)), .int (zI (p_ay)), .int (zI (p_bx)), .int (zI (p_by)), .ref p_barred, .ref p_passable], wI p_barred (zK C).1 4489 bar, wI p_passable (zK C).1 4489 pas] [] rfl rfl rfl rfl rfl (by decide) (Nat.le_of_ble_eq_true rfl) ⟨(Nat.le_of_ble_eq_true rfl), (Nat.le_of_ble_eq_true rfl)⟩ ?_
  rintro v_ w_ ⟨rfl, rfl, h_2_1⟩
  show ZW C 0 0 [wO p 4 [.ref p_dx, .ref p_dy, .ref p_weights, .ref p_leaps, .int (zI (p_stepCount)), .int (zI (p_kind)), .int (zI (p_top)), .int (zI (p_round)), .int (zI (p_barredCount)), .int (zI (p_ax)), .int (zI (p_ay)), .int (zI (p_bx)), .int (zI (p_by)), .ref p_barred, .ref p_passable], wI p_barred (zK C).1 4489 bar, wI p_passable (zK C).1 4489 pas] [(0, .ref p), (1, .int (zI (x))), (2, .int (zI (y)))] 5 [.int (zI ((y + 33) * 67 + x + 33))]
  refine z_istore_n hC [(3, .int (zI ((y + 33) * 67 + x + 33))), (0, .ref p), (1, .int (zI (x))), (2, .int (zI (y)))] dX4_renewSquare_5 rfl (by decide) rfl ?_
  refine z_aload_n hC 1 dX4_renewSquare_6 rfl rfl ?_
  refine z_get hC (T := TX4) (N := 15) hinX4 0 14 dX4_renewSquare_7 rfl rfl (by decide) (List.mem_of_getElem? (i := 1) rfl) rfl rfl ?_
  refine z_iload_n hC 0 dX4_renewSquare_10 rfl rfl ?_
  refine z_aload_n hC 1 dX4_renewSquare_11 rfl rfl ?_
  refine z_iload_n hC 2 dX4_renewSquare_12 rfl rfl ?_
  refine z_iload_n hC 3 dX4_renewSquare_13 rfl rfl ?_
  refine z_callV hC [.int (zI (x)), .int (zI (y))] 2 0 dX4_renewSquare_14 (c_X4_inKind (zl C) (zD C) (zK C) p p_dx p_dy p_weights p_leaps p_barred p_passable x y p_stepCount p_kind p_top p_round p_barredCount p_ax p_ay p_bx p_by (by first | assumption | omega) (by first | assumption | omega) (by first | assumption | omega) (by first | assumption | omega) (by first | assumption | omega)) gX4_renewSquare_X4_inKind rfl rfl rfl ⟨by decide, by decide, by decide +kernel⟩ ⟨(Nat.le_of_ble_eq_true rfl), (Nat.le_of_ble_eq_true rfl)⟩ rfl rfl rfl rfl [0] [1, 2] [wI p_barred (zK C).1 4489 bar, wI p_passable (zK C).1 4489 pas] [.int (zI ((y + 33) * 67 + x + 33)), .ref p_passable] rfl rfl rfl rfl rfl (by decide) (Nat.le_of_ble_eq_true rfl) ⟨(Nat.le_of_ble_eq_true rfl), (Nat.le_of_ble_eq_true rfl)⟩ ?_
  rintro v_ w_ ⟨r_2, rfl, rfl, h_14_3⟩
  show ZW C 0 0 [wI p_barred (zK C).1 4489 bar, wI p_passable (zK C).1 4489 pas, wO p 4 [.ref p_dx, .ref p_dy, .ref p_weights, .ref p_leaps, .int (zI (p_stepCount)), .int (zI (p_kind)), .int (zI (p_top)), .int (zI (p_round)), .int (zI (p_barredCount)), .int (zI (p_ax)), .int (zI (p_ay)), .int (zI (p_bx)), .int (zI (p_by)), .ref p_barred, .ref p_passable]] [(3, .int (zI ((y + 33) * 67 + x + 33))), (0, .ref p), (1, .int (zI (x))), (2, .int (zI (y)))] 17 [.int (zI (r_2)), .int (zI ((y + 33) * 67 + x + 33)), .ref p_passable]
  refine z_ifeq hC 33 dX4_renewSquare_17 (by decide) (by omega) (fun c_4 => ?_) (fun c_4 => ?_)
  · skip
    refine z_iconst hC dX4_renewSquare_33 ?_
    refine z_i2b hC dX4_renewSquare_34 (by omega) ?_
    refine z_bast hC 1 [wI p_barred (zK C).1 4489 bar, wI p_passable (zK C).1 4489 (zu pas ((y + 33) * 67 + x + 33) 0), wO p 4 [.ref p_dx, .ref p_dy, .ref p_weights, .ref p_leaps, .int (zI (p_stepCount)), .int (zI (p_kind)), .int (zI (p_top)), .int (zI (p_round)), .int (zI (p_barredCount)), .int (zI (p_ax)), .int (zI (p_ay)), .int (zI (p_bx)), .int (zI (p_by)), .ref p_barred, .ref p_passable]] dX4_renewSquare_35 rfl (by omega) (by omega) rfl ?_
    refine z_ws (ws' := [wO p 4 [.ref p_dx, .ref p_dy, .ref p_weights, .ref p_leaps, .int (zI (p_stepCount)), .int (zI (p_kind)), .int (zI (p_top)), .int (zI (p_round)), .int (zI (p_barredCount)), .int (zI (p_ax)), .int (zI (p_ay)), .int (zI (p_bx)), .int (zI (p_by)), .ref p_barred, .ref p_passable], wI p_barred (zK C).1 4489 bar, wI p_passable (zK C).1 4489 (zu pas ((y + 33) * 67 + x + 33) 0)]) [2, 0, 1] rfl rfl ?_
    exact z_vret hC hR dX4_renewSquare_36 (Nat.le_of_ble_eq_true rfl) (Nat.le_of_ble_eq_true rfl) ⟨0, rfl, rfl, by split <;> omega⟩
  · skip
    refine z_aload_n hC 1 dX4_renewSquare_20 rfl rfl ?_
    refine z_get hC (T := TX4) (N := 15) hinX4 2 13 dX4_renewSquare_21 rfl rfl (by decide) (List.mem_of_getElem? (i := 2) rfl) rfl rfl ?_
    refine z_iload_n hC 0 dX4_renewSquare_24 rfl rfl ?_
    refine z_bald hC 0 dX4_renewSquare_25 rfl (by omega) ?_
    have l_5 := hbar ((y + 33) * 67 + x + 33) (by omega) (by omega)
    refine z_ifne hC 33 dX4_renewSquare_26 (by decide) (by omega) (fun c_6 => ?_) (fun c_6 => ?_)
    · skip
      refine z_iconst hC dX4_renewSquare_33 ?_
      refine z_i2b hC dX4_renewSquare_34 (by omega) ?_
      refine z_bast hC 1 [wI p_barred (zK C).1 4489 bar, wI p_passable (zK C).1 4489 (zu pas ((y + 33) * 67 + x + 33) 0), wO p 4 [.ref p_dx, .ref p_dy, .ref p_weights, .ref p_leaps, .int (zI (p_stepCount)), .int (zI (p_kind)), .int (zI (p_top)), .int (zI (p_round)), .int (zI (p_barredCount)), .int (zI (p_ax)), .int (zI (p_ay)), .int (zI (p_bx)), .int (zI (p_by)), .ref p_barred, .ref p_passable]] dX4_renewSquare_35 rfl (by omega) (by omega) rfl ?_
      refine z_ws (ws' := [wO p 4 [.ref p_dx, .ref p_dy, .ref p_weights, .ref p_leaps, .int (zI (p_stepCount)), .int (zI (p_kind)), .int (zI (p_top)), .int (zI (p_round)), .int (zI (p_barredCount)), .int (zI (p_ax)), .int (zI (p_ay)), .int (zI (p_bx)), .int (zI (p_by)), .ref p_barred, .ref p_passable], wI p_barred (zK C).1 4489 bar, wI p_passable (zK C).1 4489 (zu pas ((y + 33) * 67 + x + 33) 0)]) [2, 0, 1] rfl rfl ?_
      exact z_vret hC hR dX4_renewSquare_36 (Nat.le_of_ble_eq_true rfl) (Nat.le_of_ble_eq_true rfl) ⟨0, rfl, rfl, by split <;> omega⟩
    · skip
      refine z_iconst hC dX4_renewSquare_29 ?_
      refine z_goto hC 34 dX4_renewSquare_30 (by decide) ?_
      refine z_i2b hC dX4_renewSquare_34 (by omega) ?_
      refine z_bast hC 1 [wI p_barred (zK C).1 4489 bar, wI p_passable (zK C).1 4489 (zu pas ((y + 33) * 67 + x + 33) 1), wO p 4 [.ref p_dx, .ref p_dy, .ref p_weights, .ref p_leaps, .int (zI (p_stepCount)), .int (zI (p_kind)), .int (zI (p_top)), .int (zI (p_round)), .int (zI (p_barredCount)), .int (zI (p_ax)), .int (zI (p_ay)), .int (zI (p_bx)), .int (zI (p_by)), .ref p_barred, .ref p_passable]] dX4_renewSquare_35 rfl (by omega) (by omega) rfl ?_
      refine z_ws (ws' := [wO p 4 [.ref p_dx, .ref p_dy, .ref p_weights, .ref p_leaps, .int (zI (p_stepCount)), .int (zI (p_kind)), .int (zI (p_top)), .int (zI (p_round)), .int (zI (p_barredCount)), .int (zI (p_ax)), .int (zI (p_ay)), .int (zI (p_bx)), .int (zI (p_by)), .ref p_barred, .ref p_passable], wI p_barred (zK C).1 4489 bar, wI p_passable (zK C).1 4489 (zu pas ((y + 33) * 67 + x + 33) 1)]) [2, 0, 1] rfl rfl ?_
      exact z_vret hC hR dX4_renewSquare_36 (Nat.le_of_ble_eq_true rfl) (Nat.le_of_ble_eq_true rfl) ⟨1, rfl, rfl, by split <;> omega⟩

set_option maxHeartbeats 4000000 in
set_option maxRecDepth 100000 in
theorem c_X4_renew (l : Launch) (D : va_G) (K : ClassId × ClassId × ClassId × ClassId) (p p_dx p_dy p_weights p_leaps p_barred p_passable : Nat) (p_stepCount p_kind p_top p_round p_barredCount p_ax p_ay p_bx p_by : Int) (bar pas : Int → Int) (hp_kind : zR p_kind) (hp_top : zR p_top) (hp_round : zR p_round) (hbar : ∀ j, 0 ≤ j → j < 4489 → bar j = 0 ∨ bar j = 1) : zMet l D K yX4_renew wsX4_renew ({ frames := 2, cells := 0, slots := 0, locals := 45 }) 0 0 [.ref p] [wO p 4 [.ref p_dx, .ref p_dy, .ref p_weights, .ref p_leaps, .int (zI (p_stepCount)), .int (zI (p_kind)), .int (zI (p_top)), .int (zI (p_round)), .int (zI (p_barredCount)), .int (zI (p_ax)), .int (zI (p_ay)), .int (zI (p_bx)), .int (zI (p_by)), .ref p_barred, .ref p_passable], wI p_barred K.1 4489 bar, wI p_passable K.1 4489 pas] (fun vr_ wr_ => ∃ (pas2 : Int → Int), vr_ = none ∧ wr_ = [wO p 4 [.ref p_dx, .ref p_dy, .ref p_weights, .ref p_leaps, .int (zI (p_stepCount)), .int (zI (p_kind)), .int (zI (p_top)), .int (zI (p_round)), .int (zI (p_barredCount)), .int (zI (p_ax)), .int (zI (p_ay)), .int (zI (p_bx)), .int (zI (p_by)), .ref p_barred, .ref p_passable], wI p_barred K.1 4489 bar, wI p_passable K.1 4489 pas2] ∧ (∀ j, 0 ≤ j → j < 4489 → pas2 j = rpas p_kind p_top p_round bar pas j)) := by
  refine zMet_of (cc := cX4_renew) (nL := 3) (ret := none) (by decide) rfl (Nat.le_of_ble_eq_true rfl) ?_
  rintro C rfl rfl rfl hC hR
  show ZW C 0 0 [wO p 4 [.ref p_dx, .ref p_dy, .ref p_weights, .ref p_leaps, .int (zI (p_stepCount)), .int (zI (p_kind)), .int (zI (p_top)), .int (zI (p_round)), .int (zI (p_barredCount)), .int (zI (p_ax)), .int (zI (p_ay)), .int (zI (p_bx)), .int (zI (p_by)), .ref p_barred, .ref p_passable], wI p_barred (zK C).1 4489 bar, wI p_passable (zK C).1 4489 pas] [(0, .ref p)] 0 []
  refine z_bipush hC dX4_renew_0 (by decide) ?_
  refine z_istore_n hC [(1, .int (zI ((-30)))), (0, .ref p)] dX4_renew_2 rfl (by decide) rfl ?_
  refine z_lv (lv' := [(0, .ref p), (1, .int (zI ((-30))))]) [1, 0] rfl ?_
  have lp3_1 : ∀ (f3 : Nat) (y : Int) (g : Int → Int), (-30 ≤ y ∧ y ≤ 31) → (∀ j, 0 ≤ j → j < 4489 → g j = if j / 67 - 33 < y then rpas p_kind p_top p_round bar pas j else pas j) → (31 - y).toNat < f3 → ZW C 0 0 [wO p 4 [.ref p_dx, .ref p_dy, .ref p_weights, .ref p_leaps, .int (zI (p_stepCount)), .int (zI (p_kind)), .int (zI (p_top)), .int (zI (p_round)), .int (zI (p_barredCount)), .int (zI (p_ax)), .int (zI (p_ay)), .int (zI (p_bx)), .int (zI (p_by)), .ref p_barred, .ref p_passable], wI p_barred (zK C).1 4489 bar, wI p_passable (zK C).1 4489 g] [(0, .ref p), (1, .int (zI (y)))] 3 [] := by
    intro f3
    induction f3 with
    | zero => intro _ _ _ _ hf; exact absurd hf (Nat.not_lt_zero _)
    | succ f3 ih3_2 =>
      intro y g vy vg hf_3
      refine z_iload_n hC 1 dX4_renew_3 rfl rfl ?_
      refine z_bipush hC dX4_renew_4 (by decide) ?_
      refine z_icgt hC 36 dX4_renew_6 (by decide) (by omega) (fun c_4 => ?_) (fun c_4 => ?_)
      · skip
        exact z_vret hC hR dX4_renew_36 (Nat.le_of_ble_eq_true rfl) (Nat.le_of_ble_eq_true rfl) ⟨g, rfl, rfl, by intro j h0 h1; rw [vg j h0 h1]; split; rfl; (unfold rpas; rw [if_neg (by omega)])⟩
      · skip
        refine z_bipush hC dX4_renew_9 (by decide) ?_
        refine z_istore_n hC [(2, .int (zI ((-30)))), (0, .ref p), (1, .int (zI (y)))] dX4_renew_11 rfl (by decide) rfl ?_
        refine z_lv (lv' := [(0, .ref p), (1, .int (zI (y))), (2, .int (zI ((-30))))]) [1, 2, 0] rfl ?_
        have lp12_5 : ∀ (f7 : Nat) (x : Int) (g2 : Int → Int), (-30 ≤ x ∧ x ≤ 31) → (∀ j, 0 ≤ j → j < 4489 → g2 j = if j / 67 - 33 < y ∨ (j / 67 - 33 = y ∧ j % 67 - 33 < x) then rpas p_kind p_top p_round bar pas j else pas j) → (31 - x).toNat < f7 → ZW C 0 0 [wO p 4 [.ref p_dx, .ref p_dy, .ref p_weights, .ref p_leaps, .int (zI (p_stepCount)), .int (zI (p_kind)), .int (zI (p_top)), .int (zI (p_round)), .int (zI (p_barredCount)), .int (zI (p_ax)), .int (zI (p_ay)), .int (zI (p_bx)), .int (zI (p_by)), .ref p_barred, .ref p_passable], wI p_barred (zK C).1 4489 bar, wI p_passable (zK C).1 4489 g2] [(0, .ref p), (1, .int (zI (y))), (2, .int (zI (x)))] 12 [] := by
          intro f7
          induction f7 with
          | zero => intro _ _ _ _ hf; exact absurd hf (Nat.not_lt_zero _)
          | succ f7 ih12_6 =>
            intro x g2 vx vg2 hf_12
            refine z_iload_n hC 2 dX4_renew_12 rfl rfl ?_
            refine z_bipush hC dX4_renew_13 (by decide) ?_
            refine z_icgt hC 30 dX4_renew_15 (by decide) (by omega) (fun c_8 => ?_) (fun c_8 => ?_)
            · skip
              refine z_iinc (a := y) (v := 1) (r := y + 1) hC 1 [(1, .int (zI (y + 1))), (0, .ref p), (2, .int (zI (x)))] dX4_renew_30 rfl rfl (by decide) rfl ?_
              refine z_goto hC 3 dX4_renew_33 (by decide) ?_
              refine z_lv (lv' := [(0, .ref p), (1, .int (zI (y + 1)))]) [1, 0] rfl ?_
              exact ih3_2 (y + 1) g2 (by omega) (by intro j h0 h1; rw [vg2 j h0 h1]; by_cases q : j / 67 - 33 < y ∨ (j / 67 - 33 = y ∧ j % 67 - 33 < x); (rw [if_pos q, if_pos (by omega)]); (rw [if_neg q]; split; (unfold rpas; rw [if_neg (by omega)]); rfl)) (by omega)
            · skip
              refine z_aload_n hC 0 dX4_renew_18 rfl rfl ?_
              refine z_iload_n hC 2 dX4_renew_19 rfl rfl ?_
              refine z_iload_n hC 1 dX4_renew_20 rfl rfl ?_
              refine z_callV hC [.int (zI (x)), .int (zI (y))] 2 0 dX4_renew_21 (c_X4_renewSquare (zl C) (zD C) (zK C) p p_dx p_dy p_weights p_leaps p_barred p_passable x y p_stepCount p_kind p_top p_round p_barredCount p_ax p_ay p_bx p_by bar g2 (by first | assumption | omega) (by first | assumption | omega) (by first | assumption | omega) (by first | assumption | omega) (by first | assumption | omega)) gX4_renew_X4_renewSquare rfl rfl rfl ⟨by decide, by decide, by decide +kernel⟩ ⟨(Nat.le_of_ble_eq_true rfl), (Nat.le_of_ble_eq_true rfl)⟩ rfl rfl rfl rfl [0, 1, 2] [] [] [] rfl rfl rfl rfl rfl (by decide) (Nat.le_of_ble_eq_true rfl) ⟨(Nat.le_of_ble_eq_true rfl), (Nat.le_of_ble_eq_true rfl)⟩ ?_
              rintro v_ w_ ⟨rv_9, rfl, rfl, hrv⟩
              show ZW C 0 0 [wO p 4 [.ref p_dx, .ref p_dy, .ref p_weights, .ref p_leaps, .int (zI (p_stepCount)), .int (zI (p_kind)), .int (zI (p_top)), .int (zI (p_round)), .int (zI (p_barredCount)), .int (zI (p_ax)), .int (zI (p_ay)), .int (zI (p_bx)), .int (zI (p_by)), .ref p_barred, .ref p_passable], wI p_barred (zK C).1 4489 bar, wI p_passable (zK C).1 4489 (zu g2 ((y + 33) * 67 + x + 33) rv_9)] [(0, .ref p), (1, .int (zI (y))), (2, .int (zI (x)))] 24 []
              refine z_iinc (a := x) (v := 1) (r := x + 1) hC 2 [(2, .int (zI (x + 1))), (0, .ref p), (1, .int (zI (y)))] dX4_renew_24 rfl rfl (by decide) rfl ?_
              refine z_goto hC 12 dX4_renew_27 (by decide) ?_
              refine z_lv (lv' := [(0, .ref p), (1, .int (zI (y))), (2, .int (zI (x + 1)))]) [1, 2, 0] rfl ?_
              exact ih12_6 (x + 1) (zu g2 ((y + 33) * 67 + x + 33) rv_9) (by omega) (by exact rpas_step vg2 hrv (by omega)) (by omega)
        exact lp12_5 _ ((-30)) g (by omega) (by intro j h0 h1; rw [vg j h0 h1]; by_cases q : j / 67 - 33 < y; (rw [if_pos q, if_pos (by omega)]); (rw [if_neg q]; split; (unfold rpas; rw [if_neg (by omega)]); rfl)) (Nat.lt_succ_self _)
  exact lp3_1 _ ((-30)) pas (by omega) (by intro j h0 h1; split; (unfold rpas; rw [if_neg (by omega)]); rfl) (Nat.lt_succ_self _)

set_option maxHeartbeats 4000000 in
set_option maxRecDepth 100000 in
theorem c_X4_setKind (l : Launch) (D : va_G) (K : ClassId × ClassId × ClassId × ClassId) (p p_dx p_dy p_weights p_leaps p_barred p_passable : Nat) (nk size p_stepCount p_kind p_top p_round p_barredCount p_ax p_ay p_bx p_by : Int) (bar pas : Int → Int) (hnk : zR nk) (hsize : zR size) (hp_top : zR p_top) (hp_round : zR p_round) (hbar : ∀ j, 0 ≤ j → j < 4489 → bar j = 0 ∨ bar j = 1) (hpf : ∀ j, 0 ≤ j → j < 4489 → pas j = pasF p_kind p_top p_round bar j) : zMet l D K yX4_setKind wsX4_setKind ({ frames := 3, cells := 0, slots := 0, locals := 67 }) 0 0 [.ref p, .int (zI (nk)), .int (zI (size))] [wO p 4 [.ref p_dx, .ref p_dy, .ref p_weights, .ref p_leaps, .int (zI (p_stepCount)), .int (zI (p_kind)), .int (zI (p_top)), .int (zI (p_round)), .int (zI (p_barredCount)), .int (zI (p_ax)), .int (zI (p_ay)), .int (zI (p_bx)), .int (zI (p_by)), .ref p_barred, .ref p_passable], wI p_barred K.1 4489 bar, wI p_passable K.1 4489 pas] (fun vr_ wr_ => ∃ (pas2 : Int → Int) (t2 : Int) (r2 : Int), vr_ = none ∧ wr_ = [wO p 4 [.ref p_dx, .ref p_dy, .ref p_weights, .ref p_leaps, .int (zI (p_stepCount)), .int (zI (nk)), .int (zI (t2)), .int (zI (r2)), .int (zI (p_barredCount)), .int (zI (p_ax)), .int (zI (p_ay)), .int (zI (p_bx)), .int (zI (p_by)), .ref p_barred, .ref p_passable], wI p_barred K.1 4489 bar, wI p_passable K.1 4489 pas2] ∧ ((∀ j, 0 ≤ j → j < 4489 → pas2 j = pasF nk t2 r2 bar j) ∧ ((nk = 2 ∧ t2 = size ∧ r2 = p_round) ∨ (nk = 4 ∧ t2 = p_top ∧ r2 = size) ∨ (nk ≠ 2 ∧ nk ≠ 4 ∧ t2 = p_top ∧ r2 = p_round)))) := by
  refine zMet_of (cc := cX4_setKind) (nL := 3) (ret := none) (by decide) rfl (Nat.le_of_ble_eq_true rfl) ?_
  rintro C rfl rfl rfl hC hR
  have hinX4 : ∀ w ∈ u_ws RX4 TX4 15, w ∈ wsX4_setKind := by decide +kernel
  show ZW C 0 0 [wO p 4 [.ref p_dx, .ref p_dy, .ref p_weights, .ref p_leaps, .int (zI (p_stepCount)), .int (zI (p_kind)), .int (zI (p_top)), .int (zI (p_round)), .int (zI (p_barredCount)), .int (zI (p_ax)), .int (zI (p_ay)), .int (zI (p_bx)), .int (zI (p_by)), .ref p_barred, .ref p_passable], wI p_barred (zK C).1 4489 bar, wI p_passable (zK C).1 4489 pas] [(0, .ref p), (1, .int (zI (nk))), (2, .int (zI (size)))] 0 []
  refine z_aload_n hC 0 dX4_setKind_0 rfl rfl ?_
  refine z_iload_n hC 1 dX4_setKind_1 rfl rfl ?_
  refine z_put hC (T := TX4) (N := 15) hinX4 tyX4_ok nmX4 0 5 [wO p 4 [.ref p_dx, .ref p_dy, .ref p_weights, .ref p_leaps, .int (zI (p_stepCount)), .int (zI (nk)), .int (zI (p_top)), .int (zI (p_round)), .int (zI (p_barredCount)), .int (zI (p_ax)), .int (zI (p_ay)), .int (zI (p_bx)), .int (zI (p_by)), .ref p_barred, .ref p_passable], wI p_barred (zK C).1 4489 bar, wI p_passable (zK C).1 4489 pas] dX4_setKind_2 rfl rfl (by decide) (List.mem_of_getElem? (i := 1) rfl) rfl rfl rfl rfl (Nat.le_of_ble_eq_true rfl) rfl ?_
  refine z_aload_n hC 0 dX4_setKind_5 rfl rfl ?_
  refine z_get hC (T := TX4) (N := 15) hinX4 0 5 dX4_setKind_6 rfl rfl (by decide) (List.mem_of_getElem? (i := 1) rfl) rfl rfl ?_
  refine z_iconst hC dX4_setKind_9 ?_
  refine z_icne hC 21 dX4_setKind_10 (by decide) (by omega) (fun c_1 => ?_) (fun c_1 => ?_)
  · skip
    refine z_aload_n hC 0 dX4_setKind_21 rfl rfl ?_
    refine z_get hC (T := TX4) (N := 15) hinX4 0 5 dX4_setKind_22 rfl rfl (by decide) (List.mem_of_getElem? (i := 1) rfl) rfl rfl ?_
    refine z_iconst hC dX4_setKind_25 ?_
    refine z_icne hC 34 dX4_setKind_26 (by decide) (by omega) (fun c_2 => ?_) (fun c_2 => ?_)
    · skip
      refine z_aload_n hC 0 dX4_setKind_34 rfl rfl ?_
      refine z_callV hC [] 0 0 dX4_setKind_35 (c_X4_renew (zl C) (zD C) (zK C) p p_dx p_dy p_weights p_leaps p_barred p_passable p_stepCount nk p_top p_round p_barredCount p_ax p_ay p_bx p_by bar pas (by first | assumption | omega | exact pasF_h hpf) (by first | assumption | omega | exact pasF_h hpf) (by first | assumption | omega | exact pasF_h hpf) (by first | assumption | omega | exact pasF_h hpf)) gX4_setKind_X4_renew rfl rfl rfl ⟨by decide, by decide, by decide +kernel⟩ ⟨(Nat.le_of_ble_eq_true rfl), (Nat.le_of_ble_eq_true rfl)⟩ rfl rfl rfl rfl [0, 1, 2] [] [] [] rfl rfl rfl rfl rfl (by decide) (Nat.le_of_ble_eq_true rfl) ⟨(Nat.le_of_ble_eq_true rfl), (Nat.le_of_ble_eq_true rfl)⟩ ?_
      rintro v_ w_ ⟨pas2_3, rfl, rfl, hr⟩
      show ZW C 0 0 [wO p 4 [.ref p_dx, .ref p_dy, .ref p_weights, .ref p_leaps, .int (zI (p_stepCount)), .int (zI (nk)), .int (zI (p_top)), .int (zI (p_round)), .int (zI (p_barredCount)), .int (zI (p_ax)), .int (zI (p_ay)), .int (zI (p_bx)), .int (zI (p_by)), .ref p_barred, .ref p_passable], wI p_barred (zK C).1 4489 bar, wI p_passable (zK C).1 4489 pas2_3] [(0, .ref p), (1, .int (zI (nk))), (2, .int (zI (size)))] 38 []
      exact z_vret hC hR dX4_setKind_38 (Nat.le_of_ble_eq_true rfl) (Nat.le_of_ble_eq_true rfl) ⟨pas2_3, p_top, p_round, rfl, rfl, by exact ⟨fun j h0 h1 => (hr j h0 h1).trans (rpas_F (hpf j h0 h1)), by omega⟩⟩
    · skip
      refine z_aload_n hC 0 dX4_setKind_29 rfl rfl ?_
      refine z_iload_n hC 2 dX4_setKind_30 rfl rfl ?_
      refine z_put hC (T := TX4) (N := 15) hinX4 tyX4_ok nmX4 0 7 [wO p 4 [.ref p_dx, .ref p_dy, .ref p_weights, .ref p_leaps, .int (zI (p_stepCount)), .int (zI (nk)), .int (zI (p_top)), .int (zI (size)), .int (zI (p_barredCount)), .int (zI (p_ax)), .int (zI (p_ay)), .int (zI (p_bx)), .int (zI (p_by)), .ref p_barred, .ref p_passable], wI p_barred (zK C).1 4489 bar, wI p_passable (zK C).1 4489 pas] dX4_setKind_31 rfl rfl (by decide) (List.mem_of_getElem? (i := 3) rfl) rfl rfl rfl rfl (Nat.le_of_ble_eq_true rfl) rfl ?_
      refine z_aload_n hC 0 dX4_setKind_34 rfl rfl ?_
      refine z_callV hC [] 0 0 dX4_setKind_35 (c_X4_renew (zl C) (zD C) (zK C) p p_dx p_dy p_weights p_leaps p_barred p_passable p_stepCount nk p_top size p_barredCount p_ax p_ay p_bx p_by bar pas (by first | assumption | omega | exact pasF_h hpf) (by first | assumption | omega | exact pasF_h hpf) (by first | assumption | omega | exact pasF_h hpf) (by first | assumption | omega | exact pasF_h hpf)) gX4_setKind_X4_renew rfl rfl rfl ⟨by decide, by decide, by decide +kernel⟩ ⟨(Nat.le_of_ble_eq_true rfl), (Nat.le_of_ble_eq_true rfl)⟩ rfl rfl rfl rfl [0, 1, 2] [] [] [] rfl rfl rfl rfl rfl (by decide) (Nat.le_of_ble_eq_true rfl) ⟨(Nat.le_of_ble_eq_true rfl), (Nat.le_of_ble_eq_true rfl)⟩ ?_
      rintro v_ w_ ⟨pas2_4, rfl, rfl, hr⟩
      show ZW C 0 0 [wO p 4 [.ref p_dx, .ref p_dy, .ref p_weights, .ref p_leaps, .int (zI (p_stepCount)), .int (zI (nk)), .int (zI (p_top)), .int (zI (size)), .int (zI (p_barredCount)), .int (zI (p_ax)), .int (zI (p_ay)), .int (zI (p_bx)), .int (zI (p_by)), .ref p_barred, .ref p_passable], wI p_barred (zK C).1 4489 bar, wI p_passable (zK C).1 4489 pas2_4] [(0, .ref p), (1, .int (zI (nk))), (2, .int (zI (size)))] 38 []
      exact z_vret hC hR dX4_setKind_38 (Nat.le_of_ble_eq_true rfl) (Nat.le_of_ble_eq_true rfl) ⟨pas2_4, p_top, size, rfl, rfl, by exact ⟨fun j h0 h1 => (hr j h0 h1).trans (rpas_F (hpf j h0 h1)), by omega⟩⟩
  · skip
    refine z_aload_n hC 0 dX4_setKind_13 rfl rfl ?_
    refine z_iload_n hC 2 dX4_setKind_14 rfl rfl ?_
    refine z_put hC (T := TX4) (N := 15) hinX4 tyX4_ok nmX4 0 6 [wO p 4 [.ref p_dx, .ref p_dy, .ref p_weights, .ref p_leaps, .int (zI (p_stepCount)), .int (zI (nk)), .int (zI (size)), .int (zI (p_round)), .int (zI (p_barredCount)), .int (zI (p_ax)), .int (zI (p_ay)), .int (zI (p_bx)), .int (zI (p_by)), .ref p_barred, .ref p_passable], wI p_barred (zK C).1 4489 bar, wI p_passable (zK C).1 4489 pas] dX4_setKind_15 rfl rfl (by decide) (List.mem_of_getElem? (i := 2) rfl) rfl rfl rfl rfl (Nat.le_of_ble_eq_true rfl) rfl ?_
    refine z_goto hC 34 dX4_setKind_18 (by decide) ?_
    refine z_aload_n hC 0 dX4_setKind_34 rfl rfl ?_
    refine z_callV hC [] 0 0 dX4_setKind_35 (c_X4_renew (zl C) (zD C) (zK C) p p_dx p_dy p_weights p_leaps p_barred p_passable p_stepCount nk size p_round p_barredCount p_ax p_ay p_bx p_by bar pas (by first | assumption | omega | exact pasF_h hpf) (by first | assumption | omega | exact pasF_h hpf) (by first | assumption | omega | exact pasF_h hpf) (by first | assumption | omega | exact pasF_h hpf)) gX4_setKind_X4_renew rfl rfl rfl ⟨by decide, by decide, by decide +kernel⟩ ⟨(Nat.le_of_ble_eq_true rfl), (Nat.le_of_ble_eq_true rfl)⟩ rfl rfl rfl rfl [0, 1, 2] [] [] [] rfl rfl rfl rfl rfl (by decide) (Nat.le_of_ble_eq_true rfl) ⟨(Nat.le_of_ble_eq_true rfl), (Nat.le_of_ble_eq_true rfl)⟩ ?_
    rintro v_ w_ ⟨pas2_5, rfl, rfl, hr⟩
    show ZW C 0 0 [wO p 4 [.ref p_dx, .ref p_dy, .ref p_weights, .ref p_leaps, .int (zI (p_stepCount)), .int (zI (nk)), .int (zI (size)), .int (zI (p_round)), .int (zI (p_barredCount)), .int (zI (p_ax)), .int (zI (p_ay)), .int (zI (p_bx)), .int (zI (p_by)), .ref p_barred, .ref p_passable], wI p_barred (zK C).1 4489 bar, wI p_passable (zK C).1 4489 pas2_5] [(0, .ref p), (1, .int (zI (nk))), (2, .int (zI (size)))] 38 []
    exact z_vret hC hR dX4_setKind_38 (Nat.le_of_ble_eq_true rfl) (Nat.le_of_ble_eq_true rfl) ⟨pas2_5, size, p_round, rfl, rfl, by exact ⟨fun j h0 h1 => (hr j h0 h1).trans (rpas_F (hpf j h0 h1)), by omega⟩⟩

set_option maxHeartbeats 4000000 in
set_option maxRecDepth 100000 in
theorem c_X4_setBarred (l : Launch) (D : va_G) (K : ClassId × ClassId × ClassId × ClassId) (p p_dx p_dy p_weights p_leaps p_barred p_passable : Nat) (x y on p_stepCount p_kind p_top p_round p_barredCount p_ax p_ay p_bx p_by : Int) (bar pas : Int → Int) (hx : zR x) (hy : zR y) (hon : on = 0 ∨ on = 1) (hp_kind : zR p_kind) (hp_top : zR p_top) (hp_round : zR p_round) (hbar : ∀ j, 0 ≤ j → j < 4489 → bar j = 0 ∨ bar j = 1) (hpf : ∀ j, 0 ≤ j → j < 4489 → pas j = pasF p_kind p_top p_round bar j) : zMet l D K yX4_setBarred wsX4_setBarred ({ frames := 2, cells := 0, slots := 0, locals := 45 }) 0 0 [.ref p, .int (zI (x)), .int (zI (y)), .int (zI (on))] [wO p 4 [.ref p_dx, .ref p_dy, .ref p_weights, .ref p_leaps, .int (zI (p_stepCount)), .int (zI (p_kind)), .int (zI (p_top)), .int (zI (p_round)), .int (zI (p_barredCount)), .int (zI (p_ax)), .int (zI (p_ay)), .int (zI (p_bx)), .int (zI (p_by)), .ref p_barred, .ref p_passable], wI p_barred K.1 4489 bar, wI p_passable K.1 4489 pas] (fun vr_ wr_ => ∃ (pas2 : Int → Int) (bar2 : Int → Int) (bc2 : Int), vr_ = none ∧ wr_ = [wO p 4 [.ref p_dx, .ref p_dy, .ref p_weights, .ref p_leaps, .int (zI (p_stepCount)), .int (zI (p_kind)), .int (zI (p_top)), .int (zI (p_round)), .int (zI (bc2)), .int (zI (p_ax)), .int (zI (p_ay)), .int (zI (p_bx)), .int (zI (p_by)), .ref p_barred, .ref p_passable], wI p_barred K.1 4489 bar2, wI p_passable K.1 4489 pas2] ∧ ((∀ j, 0 ≤ j → j < 4489 → pas2 j = pasF p_kind p_top p_round bar2 j) ∧ ((-30 ≤ x ∧ x ≤ 30 ∧ -30 ≤ y ∧ y ≤ 30) → bar2 = zu bar ((y + 33) * 67 + x + 33) on ∧ bc2 = p_barredCount + on - bar ((y + 33) * 67 + x + 33)) ∧ (¬ (-30 ≤ x ∧ x ≤ 30 ∧ -30 ≤ y ∧ y ≤ 30) → bar2 = bar ∧ bc2 = p_barredCount))) := by
  refine zMet_of (cc := cX4_setBarred) (nL := 4) (ret := none) (by decide) rfl (Nat.le_of_ble_eq_true rfl) ?_
  rintro C rfl rfl rfl hC hR
  have hinX4 : ∀ w ∈ u_ws RX4 TX4 15, w ∈ wsX4_setBarred := by decide +kernel
  show ZW C 0 0 [wO p 4 [.ref p_dx, .ref p_dy, .ref p_weights, .ref p_leaps, .int (zI (p_stepCount)), .int (zI (p_kind)), .int (zI (p_top)), .int (zI (p_round)), .int (zI (p_barredCount)), .int (zI (p_ax)), .int (zI (p_ay)), .int (zI (p_bx)), .int (zI (p_by)), .ref p_barred, .ref p_passable], wI p_barred (zK C).1 4489 bar, wI p_passable (zK C).1 4489 pas] [(0, .ref p), (1, .int (zI (x))), (2, .int (zI (y))), (3, .int (zI (on)))] 0 []
  refine z_iload_n hC 1 dX4_setBarred_0 rfl rfl ?_
  refine z_iload_n hC 2 dX4_setBarred_1 rfl rfl ?_
  refine z_callS hC [.int (zI (x)), .int (zI (y))] 2 dX4_setBarred_2 (c_X4_isSquare (zl C) (zD C) (zK C) x y (by first | assumption | omega | exact pasF_h hpf) (by first | assumption | omega | exact pasF_h hpf)) gX4_setBarred_X4_isSquare rfl rfl rfl ⟨by decide, by decide, by decide +kernel⟩ ⟨(Nat.le_of_ble_eq_true rfl), (Nat.le_of_ble_eq_true rfl)⟩ rfl [] [0, 1, 2] [wO p 4 [.ref p_dx, .ref p_dy, .ref p_weights, .ref p_leaps, .int (zI (p_stepCount)), .int (zI (p_kind)), .int (zI (p_top)), .int (zI (p_round)), .int (zI (p_barredCount)), .int (zI (p_ax)), .int (zI (p_ay)), .int (zI (p_bx)), .int (zI (p_by)), .ref p_barred, .ref p_passable], wI p_barred (zK C).1 4489 bar, wI p_passable (zK C).1 4489 pas] [] rfl rfl rfl rfl rfl (by decide) (Nat.le_of_ble_eq_true rfl) ⟨(Nat.le_of_ble_eq_true rfl), (Nat.le_of_ble_eq_true rfl)⟩ ?_
  rintro v_ w_ ⟨r_1, rfl, rfl, h_2_2⟩
  show ZW C 0 0 [wO p 4 [.ref p_dx, .ref p_dy, .ref p_weights, .ref p_leaps, .int (zI (p_stepCount)), .int (zI (p_kind)), .int (zI (p_top)), .int (zI (p_round)), .int (zI (p_barredCount)), .int (zI (p_ax)), .int (zI (p_ay)), .int (zI (p_bx)), .int (zI (p_by)), .ref p_barred, .ref p_passable], wI p_barred (zK C).1 4489 bar, wI p_passable (zK C).1 4489 pas] [(0, .ref p), (1, .int (zI (x))), (2, .int (zI (y))), (3, .int (zI (on)))] 5 [.int (zI (r_1))]
  refine z_ifeq hC 18 dX4_setBarred_5 (by decide) (by omega) (fun c_3 => ?_) (fun c_3 => ?_)
  · skip
    exact z_vret hC hR dX4_setBarred_18 (Nat.le_of_ble_eq_true rfl) (Nat.le_of_ble_eq_true rfl) ⟨pas, bar, p_barredCount, rfl, rfl, by first | exact ⟨hpf, fun _ => ⟨sb_same (by omega), by omega⟩, fun _ => ⟨rfl, rfl⟩⟩ | exact ⟨hpf, fun hs => by exfalso; omega, fun _ => ⟨rfl, rfl⟩⟩ | (have hb1 := hbar ((y + 33) * 67 + x + 33) (by omega) (by omega); first | exact ⟨hpf, fun _ => ⟨sb_same (by omega), by omega⟩, fun _ => ⟨rfl, rfl⟩⟩ | (have e : on = 0 := (by omega); subst e; exact ⟨sb_step hpf (by omega) hrv, fun _ => ⟨rfl, by omega⟩, fun hn => by exfalso; exact hn (by omega)⟩) | (have e : on = 1 := (by omega); subst e; exact ⟨sb_step hpf (by omega) hrv, fun _ => ⟨rfl, by omega⟩, fun hn => by exfalso; exact hn (by omega)⟩)) | omega⟩
  · skip
    refine z_aload_n hC 0 dX4_setBarred_8 rfl rfl ?_
    refine z_iload_n hC 1 dX4_setBarred_9 rfl rfl ?_
    refine z_iload_n hC 2 dX4_setBarred_10 rfl rfl ?_
    refine z_callV hC [.int (zI (x)), .int (zI (y))] 2 0 dX4_setBarred_11 (c_X4_isBarred (zl C) (zD C) (zK C) p p_dx p_dy p_weights p_leaps p_barred p_passable x y p_stepCount p_kind p_top p_round p_barredCount p_ax p_ay p_bx p_by bar (by first | assumption | omega | exact pasF_h hpf) (by first | assumption | omega | exact pasF_h hpf) (by first | assumption | omega | exact pasF_h hpf)) gX4_setBarred_X4_isBarred rfl rfl rfl ⟨by decide, by decide, by decide +kernel⟩ ⟨(Nat.le_of_ble_eq_true rfl), (Nat.le_of_ble_eq_true rfl)⟩ rfl rfl rfl rfl [0, 1] [2] [wI p_passable (zK C).1 4489 pas] [] rfl rfl rfl rfl rfl (by decide) (Nat.le_of_ble_eq_true rfl) ⟨(Nat.le_of_ble_eq_true rfl), (Nat.le_of_ble_eq_true rfl)⟩ ?_
    rintro v_ w_ ⟨r_4, rfl, rfl, h_11_5⟩
    show ZW C 0 0 [wI p_passable (zK C).1 4489 pas, wO p 4 [.ref p_dx, .ref p_dy, .ref p_weights, .ref p_leaps, .int (zI (p_stepCount)), .int (zI (p_kind)), .int (zI (p_top)), .int (zI (p_round)), .int (zI (p_barredCount)), .int (zI (p_ax)), .int (zI (p_ay)), .int (zI (p_bx)), .int (zI (p_by)), .ref p_barred, .ref p_passable], wI p_barred (zK C).1 4489 bar] [(0, .ref p), (1, .int (zI (x))), (2, .int (zI (y))), (3, .int (zI (on)))] 14 [.int (zI (r_4))]
    refine z_iload_n hC 3 dX4_setBarred_14 rfl rfl ?_
    refine z_icne hC 19 dX4_setBarred_15 (by decide) (by omega) (fun c_6 => ?_) (fun c_6 => ?_)
    · skip
      refine z_aload_n hC 0 dX4_setBarred_19 rfl rfl ?_
      refine z_get hC (T := TX4) (N := 15) hinX4 1 13 dX4_setBarred_20 rfl rfl (by decide) (List.mem_of_getElem? (i := 1) rfl) rfl rfl ?_
      refine z_iload_n hC 1 dX4_setBarred_23 rfl rfl ?_
      refine z_iload_n hC 2 dX4_setBarred_24 rfl rfl ?_
      refine z_callS hC [.int (zI (x)), .int (zI (y))] 2 dX4_setBarred_25 (c_X4_cellOf (zl C) (zD C) (zK C) x y ) gX4_setBarred_X4_cellOf rfl rfl rfl ⟨by decide, by decide, by decide +kernel⟩ ⟨(Nat.le_of_ble_eq_true rfl), (Nat.le_of_ble_eq_true rfl)⟩ rfl [] [0, 1, 2] [wI p_passable (zK C).1 4489 pas, wO p 4 [.ref p_dx, .ref p_dy, .ref p_weights, .ref p_leaps, .int (zI (p_stepCount)), .int (zI (p_kind)), .int (zI (p_top)), .int (zI (p_round)), .int (zI (p_barredCount)), .int (zI (p_ax)), .int (zI (p_ay)), .int (zI (p_bx)), .int (zI (p_by)), .ref p_barred, .ref p_passable], wI p_barred (zK C).1 4489 bar] [.ref p_barred] rfl rfl rfl rfl rfl (by decide) (Nat.le_of_ble_eq_true rfl) ⟨(Nat.le_of_ble_eq_true rfl), (Nat.le_of_ble_eq_true rfl)⟩ ?_
      rintro v_ w_ ⟨rfl, rfl, h_25_7⟩
      show ZW C 0 0 [wI p_passable (zK C).1 4489 pas, wO p 4 [.ref p_dx, .ref p_dy, .ref p_weights, .ref p_leaps, .int (zI (p_stepCount)), .int (zI (p_kind)), .int (zI (p_top)), .int (zI (p_round)), .int (zI (p_barredCount)), .int (zI (p_ax)), .int (zI (p_ay)), .int (zI (p_bx)), .int (zI (p_by)), .ref p_barred, .ref p_passable], wI p_barred (zK C).1 4489 bar] [(0, .ref p), (1, .int (zI (x))), (2, .int (zI (y))), (3, .int (zI (on)))] 28 [.int (zI ((y + 33) * 67 + x + 33)), .ref p_barred]
      refine z_iload_n hC 3 dX4_setBarred_28 rfl rfl ?_
      refine z_ifeq hC 36 dX4_setBarred_29 (by decide) (by omega) (fun c_8 => ?_) (fun c_8 => ?_)
      · skip
        refine z_iconst hC dX4_setBarred_36 ?_
        refine z_i2b hC dX4_setBarred_37 (by omega) ?_
        refine z_bast hC 2 [wI p_passable (zK C).1 4489 pas, wO p 4 [.ref p_dx, .ref p_dy, .ref p_weights, .ref p_leaps, .int (zI (p_stepCount)), .int (zI (p_kind)), .int (zI (p_top)), .int (zI (p_round)), .int (zI (p_barredCount)), .int (zI (p_ax)), .int (zI (p_ay)), .int (zI (p_bx)), .int (zI (p_by)), .ref p_barred, .ref p_passable], wI p_barred (zK C).1 4489 (zu bar ((y + 33) * 67 + x + 33) 0)] dX4_setBarred_38 rfl (by omega) (by omega) rfl ?_
        refine z_aload_n hC 0 dX4_setBarred_39 rfl rfl ?_
        refine z_dup hC dX4_setBarred_40 rfl ?_
        refine z_get hC (T := TX4) (N := 15) hinX4 1 8 dX4_setBarred_41 rfl rfl (by decide) (List.mem_of_getElem? (i := 2) rfl) rfl rfl ?_
        refine z_iload_n hC 3 dX4_setBarred_44 rfl rfl ?_
        refine z_ifeq hC 52 dX4_setBarred_45 (by decide) (by omega) (fun c_9 => ?_) (fun c_9 => by exfalso; omega)
        refine z_iconst hC dX4_setBarred_52 ?_
        refine z_iadd hC (p_barredCount - 1) dX4_setBarred_53 (by omega) ?_
        refine z_put hC (T := TX4) (N := 15) hinX4 tyX4_ok nmX4 1 8 [wI p_passable (zK C).1 4489 pas, wO p 4 [.ref p_dx, .ref p_dy, .ref p_weights, .ref p_leaps, .int (zI (p_stepCount)), .int (zI (p_kind)), .int (zI (p_top)), .int (zI (p_round)), .int (zI (p_barredCount - 1)), .int (zI (p_ax)), .int (zI (p_ay)), .int (zI (p_bx)), .int (zI (p_by)), .ref p_barred, .ref p_passable], wI p_barred (zK C).1 4489 (zu bar ((y + 33) * 67 + x + 33) 0)] dX4_setBarred_54 rfl rfl (by decide) (List.mem_of_getElem? (i := 2) rfl) rfl rfl rfl rfl (Nat.le_of_ble_eq_true rfl) rfl ?_
        refine z_aload_n hC 0 dX4_setBarred_57 rfl rfl ?_
        refine z_iload_n hC 1 dX4_setBarred_58 rfl rfl ?_
        refine z_iload_n hC 2 dX4_setBarred_59 rfl rfl ?_
        refine z_callV hC [.int (zI (x)), .int (zI (y))] 2 0 dX4_setBarred_60 (c_X4_renewSquare (zl C) (zD C) (zK C) p p_dx p_dy p_weights p_leaps p_barred p_passable x y p_stepCount p_kind p_top p_round (p_barredCount - 1) p_ax p_ay p_bx p_by (zu bar ((y + 33) * 67 + x + 33) 0) pas (by first | assumption | omega | exact pasF_h hpf) (by first | assumption | omega | exact pasF_h hpf) (by first | assumption | omega | exact pasF_h hpf) (by first | assumption | omega | exact pasF_h hpf) (by exact zu01 hbar (by omega))) gX4_setBarred_X4_renewSquare rfl rfl rfl ⟨by decide, by decide, by decide +kernel⟩ ⟨(Nat.le_of_ble_eq_true rfl), (Nat.le_of_ble_eq_true rfl)⟩ rfl rfl rfl rfl [1, 2, 0] [] [] [] rfl rfl rfl rfl rfl (by decide) (Nat.le_of_ble_eq_true rfl) ⟨(Nat.le_of_ble_eq_true rfl), (Nat.le_of_ble_eq_true rfl)⟩ ?_
        rintro v_ w_ ⟨rv_10, rfl, rfl, hrv⟩
        show ZW C 0 0 [wO p 4 [.ref p_dx, .ref p_dy, .ref p_weights, .ref p_leaps, .int (zI (p_stepCount)), .int (zI (p_kind)), .int (zI (p_top)), .int (zI (p_round)), .int (zI (p_barredCount - 1)), .int (zI (p_ax)), .int (zI (p_ay)), .int (zI (p_bx)), .int (zI (p_by)), .ref p_barred, .ref p_passable], wI p_barred (zK C).1 4489 (zu bar ((y + 33) * 67 + x + 33) 0), wI p_passable (zK C).1 4489 (zu pas ((y + 33) * 67 + x + 33) rv_10)] [(0, .ref p), (1, .int (zI (x))), (2, .int (zI (y))), (3, .int (zI (on)))] 63 []
        exact z_vret hC hR dX4_setBarred_63 (Nat.le_of_ble_eq_true rfl) (Nat.le_of_ble_eq_true rfl) ⟨zu pas ((y + 33) * 67 + x + 33) rv_10, zu bar ((y + 33) * 67 + x + 33) 0, p_barredCount - 1, rfl, rfl, by first | exact ⟨hpf, fun _ => ⟨sb_same (by omega), by omega⟩, fun _ => ⟨rfl, rfl⟩⟩ | exact ⟨hpf, fun hs => by exfalso; omega, fun _ => ⟨rfl, rfl⟩⟩ | (have hb1 := hbar ((y + 33) * 67 + x + 33) (by omega) (by omega); first | exact ⟨hpf, fun _ => ⟨sb_same (by omega), by omega⟩, fun _ => ⟨rfl, rfl⟩⟩ | (have e : on = 0 := (by omega); subst e; exact ⟨sb_step hpf (by omega) hrv, fun _ => ⟨rfl, by omega⟩, fun hn => by exfalso; exact hn (by omega)⟩) | (have e : on = 1 := (by omega); subst e; exact ⟨sb_step hpf (by omega) hrv, fun _ => ⟨rfl, by omega⟩, fun hn => by exfalso; exact hn (by omega)⟩)) | omega⟩
      · skip
        refine z_iconst hC dX4_setBarred_32 ?_
        refine z_goto hC 37 dX4_setBarred_33 (by decide) ?_
        refine z_i2b hC dX4_setBarred_37 (by omega) ?_
        refine z_bast hC 2 [wI p_passable (zK C).1 4489 pas, wO p 4 [.ref p_dx, .ref p_dy, .ref p_weights, .ref p_leaps, .int (zI (p_stepCount)), .int (zI (p_kind)), .int (zI (p_top)), .int (zI (p_round)), .int (zI (p_barredCount)), .int (zI (p_ax)), .int (zI (p_ay)), .int (zI (p_bx)), .int (zI (p_by)), .ref p_barred, .ref p_passable], wI p_barred (zK C).1 4489 (zu bar ((y + 33) * 67 + x + 33) 1)] dX4_setBarred_38 rfl (by omega) (by omega) rfl ?_
        refine z_aload_n hC 0 dX4_setBarred_39 rfl rfl ?_
        refine z_dup hC dX4_setBarred_40 rfl ?_
        refine z_get hC (T := TX4) (N := 15) hinX4 1 8 dX4_setBarred_41 rfl rfl (by decide) (List.mem_of_getElem? (i := 2) rfl) rfl rfl ?_
        refine z_iload_n hC 3 dX4_setBarred_44 rfl rfl ?_
        refine z_ifeq hC 52 dX4_setBarred_45 (by decide) (by omega) (fun c_11 => by exfalso; omega) (fun c_11 => ?_)
        refine z_iconst hC dX4_setBarred_48 ?_
        refine z_goto hC 53 dX4_setBarred_49 (by decide) ?_
        refine z_iadd hC (p_barredCount + 1) dX4_setBarred_53 rfl ?_
        refine z_put hC (T := TX4) (N := 15) hinX4 tyX4_ok nmX4 1 8 [wI p_passable (zK C).1 4489 pas, wO p 4 [.ref p_dx, .ref p_dy, .ref p_weights, .ref p_leaps, .int (zI (p_stepCount)), .int (zI (p_kind)), .int (zI (p_top)), .int (zI (p_round)), .int (zI (p_barredCount + 1)), .int (zI (p_ax)), .int (zI (p_ay)), .int (zI (p_bx)), .int (zI (p_by)), .ref p_barred, .ref p_passable], wI p_barred (zK C).1 4489 (zu bar ((y + 33) * 67 + x + 33) 1)] dX4_setBarred_54 rfl rfl (by decide) (List.mem_of_getElem? (i := 2) rfl) rfl rfl rfl rfl (Nat.le_of_ble_eq_true rfl) rfl ?_
        refine z_aload_n hC 0 dX4_setBarred_57 rfl rfl ?_
        refine z_iload_n hC 1 dX4_setBarred_58 rfl rfl ?_
        refine z_iload_n hC 2 dX4_setBarred_59 rfl rfl ?_
        refine z_callV hC [.int (zI (x)), .int (zI (y))] 2 0 dX4_setBarred_60 (c_X4_renewSquare (zl C) (zD C) (zK C) p p_dx p_dy p_weights p_leaps p_barred p_passable x y p_stepCount p_kind p_top p_round (p_barredCount + 1) p_ax p_ay p_bx p_by (zu bar ((y + 33) * 67 + x + 33) 1) pas (by first | assumption | omega | exact pasF_h hpf) (by first | assumption | omega | exact pasF_h hpf) (by first | assumption | omega | exact pasF_h hpf) (by first | assumption | omega | exact pasF_h hpf) (by exact zu01 hbar (by omega))) gX4_setBarred_X4_renewSquare rfl rfl rfl ⟨by decide, by decide, by decide +kernel⟩ ⟨(Nat.le_of_ble_eq_true rfl), (Nat.le_of_ble_eq_true rfl)⟩ rfl rfl rfl rfl [1, 2, 0] [] [] [] rfl rfl rfl rfl rfl (by decide) (Nat.le_of_ble_eq_true rfl) ⟨(Nat.le_of_ble_eq_true rfl), (Nat.le_of_ble_eq_true rfl)⟩ ?_
        rintro v_ w_ ⟨rv_12, rfl, rfl, hrv⟩
        show ZW C 0 0 [wO p 4 [.ref p_dx, .ref p_dy, .ref p_weights, .ref p_leaps, .int (zI (p_stepCount)), .int (zI (p_kind)), .int (zI (p_top)), .int (zI (p_round)), .int (zI (p_barredCount + 1)), .int (zI (p_ax)), .int (zI (p_ay)), .int (zI (p_bx)), .int (zI (p_by)), .ref p_barred, .ref p_passable], wI p_barred (zK C).1 4489 (zu bar ((y + 33) * 67 + x + 33) 1), wI p_passable (zK C).1 4489 (zu pas ((y + 33) * 67 + x + 33) rv_12)] [(0, .ref p), (1, .int (zI (x))), (2, .int (zI (y))), (3, .int (zI (on)))] 63 []
        exact z_vret hC hR dX4_setBarred_63 (Nat.le_of_ble_eq_true rfl) (Nat.le_of_ble_eq_true rfl) ⟨zu pas ((y + 33) * 67 + x + 33) rv_12, zu bar ((y + 33) * 67 + x + 33) 1, p_barredCount + 1, rfl, rfl, by first | exact ⟨hpf, fun _ => ⟨sb_same (by omega), by omega⟩, fun _ => ⟨rfl, rfl⟩⟩ | exact ⟨hpf, fun hs => by exfalso; omega, fun _ => ⟨rfl, rfl⟩⟩ | (have hb1 := hbar ((y + 33) * 67 + x + 33) (by omega) (by omega); first | exact ⟨hpf, fun _ => ⟨sb_same (by omega), by omega⟩, fun _ => ⟨rfl, rfl⟩⟩ | (have e : on = 0 := (by omega); subst e; exact ⟨sb_step hpf (by omega) hrv, fun _ => ⟨rfl, by omega⟩, fun hn => by exfalso; exact hn (by omega)⟩) | (have e : on = 1 := (by omega); subst e; exact ⟨sb_step hpf (by omega) hrv, fun _ => ⟨rfl, by omega⟩, fun hn => by exfalso; exact hn (by omega)⟩)) | omega⟩
    · skip
      refine z_ws (ws' := [wO p 4 [.ref p_dx, .ref p_dy, .ref p_weights, .ref p_leaps, .int (zI (p_stepCount)), .int (zI (p_kind)), .int (zI (p_top)), .int (zI (p_round)), .int (zI (p_barredCount)), .int (zI (p_ax)), .int (zI (p_ay)), .int (zI (p_bx)), .int (zI (p_by)), .ref p_barred, .ref p_passable], wI p_barred (zK C).1 4489 bar, wI p_passable (zK C).1 4489 pas]) [1, 2, 0] rfl rfl ?_
      exact z_vret hC hR dX4_setBarred_18 (Nat.le_of_ble_eq_true rfl) (Nat.le_of_ble_eq_true rfl) ⟨pas, bar, p_barredCount, rfl, rfl, by first | exact ⟨hpf, fun _ => ⟨sb_same (by omega), by omega⟩, fun _ => ⟨rfl, rfl⟩⟩ | exact ⟨hpf, fun hs => by exfalso; omega, fun _ => ⟨rfl, rfl⟩⟩ | (have hb1 := hbar ((y + 33) * 67 + x + 33) (by omega) (by omega); first | exact ⟨hpf, fun _ => ⟨sb_same (by omega), by omega⟩, fun _ => ⟨rfl, rfl⟩⟩ | (have e : on = 0 := (by omega); subst e; exact ⟨sb_step hpf (by omega) hrv, fun _ => ⟨rfl, by omega⟩, fun hn => by exfalso; exact hn (by omega)⟩) | (have e : on = 1 := (by omega); subst e; exact ⟨sb_step hpf (by omega) hrv, fun _ => ⟨rfl, by omega⟩, fun hn => by exfalso; exact hn (by omega)⟩)) | omega⟩

set_option maxHeartbeats 4000000 in
set_option maxRecDepth 100000 in
theorem c_X4_setStep (l : Launch) (D : va_G) (K : ClassId × ClassId × ClassId × ClassId) (p p_dx p_dy p_weights p_leaps p_barred p_passable : Nat) (k x y p_stepCount p_kind p_top p_round p_barredCount p_ax p_ay p_bx p_by : Int) (dx dy lp we : Int → Int) (hk : 0 ≤ k ∧ k < 8) : zMet l D K yX4_setStep wsX4_setStep ({ frames := 0, cells := 0, slots := 0, locals := 0 }) 0 0 [.ref p, .int (zI (k)), .int (zI (x)), .int (zI (y))] [wO p 4 [.ref p_dx, .ref p_dy, .ref p_weights, .ref p_leaps, .int (zI (p_stepCount)), .int (zI (p_kind)), .int (zI (p_top)), .int (zI (p_round)), .int (zI (p_barredCount)), .int (zI (p_ax)), .int (zI (p_ay)), .int (zI (p_bx)), .int (zI (p_by)), .ref p_barred, .ref p_passable], wI p_dx K.2.1 8 dx, wI p_dy K.2.1 8 dy, wI p_leaps K.2.1 8 lp, wI p_weights K.2.1 8 we] (fun vr_ wr_ => vr_ = none ∧ wr_ = [wO p 4 [.ref p_dx, .ref p_dy, .ref p_weights, .ref p_leaps, .int (zI (p_stepCount)), .int (zI (p_kind)), .int (zI (p_top)), .int (zI (p_round)), .int (zI (p_barredCount)), .int (zI (p_ax)), .int (zI (p_ay)), .int (zI (p_bx)), .int (zI (p_by)), .ref p_barred, .ref p_passable], wI p_dx K.2.1 8 (zu dx k x), wI p_dy K.2.1 8 (zu dy k y), wI p_leaps K.2.1 8 (zu lp k (y * 67 + x)), wI p_weights K.2.1 8 (zu we k 1)] ∧ (True)) := by
  refine zMet_of (cc := cX4_setStep) (nL := 4) (ret := none) (by decide) rfl (Nat.le_of_ble_eq_true rfl) ?_
  rintro C rfl rfl rfl hC hR
  have hinX4 : ∀ w ∈ u_ws RX4 TX4 15, w ∈ wsX4_setStep := by decide +kernel
  show ZW C 0 0 [wO p 4 [.ref p_dx, .ref p_dy, .ref p_weights, .ref p_leaps, .int (zI (p_stepCount)), .int (zI (p_kind)), .int (zI (p_top)), .int (zI (p_round)), .int (zI (p_barredCount)), .int (zI (p_ax)), .int (zI (p_ay)), .int (zI (p_bx)), .int (zI (p_by)), .ref p_barred, .ref p_passable], wI p_dx (zK C).2.1 8 dx, wI p_dy (zK C).2.1 8 dy, wI p_leaps (zK C).2.1 8 lp, wI p_weights (zK C).2.1 8 we] [(0, .ref p), (1, .int (zI (k))), (2, .int (zI (x))), (3, .int (zI (y)))] 0 []
  refine z_iload_n hC 1 dX4_setStep_0 rfl rfl ?_
  refine z_iflt hC 43 dX4_setStep_1 (by decide) (by omega) (fun c_1 => by exfalso; omega) (fun c_1 => ?_)
  refine z_iload_n hC 1 dX4_setStep_4 rfl rfl ?_
  refine z_bipush hC dX4_setStep_5 (by decide) ?_
  refine z_icge hC 43 dX4_setStep_7 (by decide) (by omega) (fun c_2 => by exfalso; omega) (fun c_2 => ?_)
  refine z_aload_n hC 0 dX4_setStep_10 rfl rfl ?_
  refine z_get hC (T := TX4) (N := 15) hinX4 0 0 dX4_setStep_11 rfl rfl (by decide) (List.mem_of_getElem? (i := 1) rfl) rfl rfl ?_
  refine z_iload_n hC 1 dX4_setStep_14 rfl rfl ?_
  refine z_iload_n hC 2 dX4_setStep_15 rfl rfl ?_
  refine z_iast hC 1 [wO p 4 [.ref p_dx, .ref p_dy, .ref p_weights, .ref p_leaps, .int (zI (p_stepCount)), .int (zI (p_kind)), .int (zI (p_top)), .int (zI (p_round)), .int (zI (p_barredCount)), .int (zI (p_ax)), .int (zI (p_ay)), .int (zI (p_bx)), .int (zI (p_by)), .ref p_barred, .ref p_passable], wI p_dx (zK C).2.1 8 (zu dx k x), wI p_dy (zK C).2.1 8 dy, wI p_leaps (zK C).2.1 8 lp, wI p_weights (zK C).2.1 8 we] dX4_setStep_16 rfl (by omega) rfl ?_
  refine z_aload_n hC 0 dX4_setStep_17 rfl rfl ?_
  refine z_get hC (T := TX4) (N := 15) hinX4 0 1 dX4_setStep_18 rfl rfl (by decide) (List.mem_of_getElem? (i := 2) rfl) rfl rfl ?_
  refine z_iload_n hC 1 dX4_setStep_21 rfl rfl ?_
  refine z_iload_n hC 3 dX4_setStep_22 rfl rfl ?_
  refine z_iast hC 2 [wO p 4 [.ref p_dx, .ref p_dy, .ref p_weights, .ref p_leaps, .int (zI (p_stepCount)), .int (zI (p_kind)), .int (zI (p_top)), .int (zI (p_round)), .int (zI (p_barredCount)), .int (zI (p_ax)), .int (zI (p_ay)), .int (zI (p_bx)), .int (zI (p_by)), .ref p_barred, .ref p_passable], wI p_dx (zK C).2.1 8 (zu dx k x), wI p_dy (zK C).2.1 8 (zu dy k y), wI p_leaps (zK C).2.1 8 lp, wI p_weights (zK C).2.1 8 we] dX4_setStep_23 rfl (by omega) rfl ?_
  refine z_aload_n hC 0 dX4_setStep_24 rfl rfl ?_
  refine z_get hC (T := TX4) (N := 15) hinX4 0 3 dX4_setStep_25 rfl rfl (by decide) (List.mem_of_getElem? (i := 3) rfl) rfl rfl ?_
  refine z_iload_n hC 1 dX4_setStep_28 rfl rfl ?_
  refine z_iload_n hC 3 dX4_setStep_29 rfl rfl ?_
  refine z_bipush hC dX4_setStep_30 (by decide) ?_
  refine z_imul hC (y * 67) dX4_setStep_32 rfl ?_
  refine z_iload_n hC 2 dX4_setStep_33 rfl rfl ?_
  refine z_iadd hC ((y * 67) + x) dX4_setStep_34 rfl ?_
  refine z_iast hC 3 [wO p 4 [.ref p_dx, .ref p_dy, .ref p_weights, .ref p_leaps, .int (zI (p_stepCount)), .int (zI (p_kind)), .int (zI (p_top)), .int (zI (p_round)), .int (zI (p_barredCount)), .int (zI (p_ax)), .int (zI (p_ay)), .int (zI (p_bx)), .int (zI (p_by)), .ref p_barred, .ref p_passable], wI p_dx (zK C).2.1 8 (zu dx k x), wI p_dy (zK C).2.1 8 (zu dy k y), wI p_leaps (zK C).2.1 8 (zu lp k ((y * 67) + x)), wI p_weights (zK C).2.1 8 we] dX4_setStep_35 rfl (by omega) rfl ?_
  refine z_aload_n hC 0 dX4_setStep_36 rfl rfl ?_
  refine z_get hC (T := TX4) (N := 15) hinX4 0 2 dX4_setStep_37 rfl rfl (by decide) (List.mem_of_getElem? (i := 4) rfl) rfl rfl ?_
  refine z_iload_n hC 1 dX4_setStep_40 rfl rfl ?_
  refine z_iconst hC dX4_setStep_41 ?_
  refine z_iast hC 4 [wO p 4 [.ref p_dx, .ref p_dy, .ref p_weights, .ref p_leaps, .int (zI (p_stepCount)), .int (zI (p_kind)), .int (zI (p_top)), .int (zI (p_round)), .int (zI (p_barredCount)), .int (zI (p_ax)), .int (zI (p_ay)), .int (zI (p_bx)), .int (zI (p_by)), .ref p_barred, .ref p_passable], wI p_dx (zK C).2.1 8 (zu dx k x), wI p_dy (zK C).2.1 8 (zu dy k y), wI p_leaps (zK C).2.1 8 (zu lp k ((y * 67) + x)), wI p_weights (zK C).2.1 8 (zu we k 1)] dX4_setStep_42 rfl (by omega) rfl ?_
  exact z_vret hC hR dX4_setStep_43 (Nat.le_of_ble_eq_true rfl) (Nat.le_of_ble_eq_true rfl) ⟨rfl, rfl, by trivial⟩

set_option maxHeartbeats 4000000 in
set_option maxRecDepth 100000 in
theorem c_X4_setStepCount (l : Launch) (D : va_G) (K : ClassId × ClassId × ClassId × ClassId) (p p_dx p_dy p_weights p_leaps p_barred p_passable : Nat) (many p_stepCount p_kind p_top p_round p_barredCount p_ax p_ay p_bx p_by : Int) (hm : 1 ≤ many ∧ many ≤ 8) : zMet l D K yX4_setStepCount wsX4_setStepCount ({ frames := 1, cells := 0, slots := 0, locals := 14 }) 0 0 [.ref p, .int (zI (many))] [wO p 4 [.ref p_dx, .ref p_dy, .ref p_weights, .ref p_leaps, .int (zI (p_stepCount)), .int (zI (p_kind)), .int (zI (p_top)), .int (zI (p_round)), .int (zI (p_barredCount)), .int (zI (p_ax)), .int (zI (p_ay)), .int (zI (p_bx)), .int (zI (p_by)), .ref p_barred, .ref p_passable]] (fun vr_ wr_ => ∃ (s2 : Int), vr_ = none ∧ wr_ = [wO p 4 [.ref p_dx, .ref p_dy, .ref p_weights, .ref p_leaps, .int (zI (s2)), .int (zI (p_kind)), .int (zI (p_top)), .int (zI (p_round)), .int (zI (p_barredCount)), .int (zI (p_ax)), .int (zI (p_ay)), .int (zI (p_bx)), .int (zI (p_by)), .ref p_barred, .ref p_passable]] ∧ (s2 = many)) := by
  refine zMet_of (cc := cX4_setStepCount) (nL := 2) (ret := none) (by decide) rfl (Nat.le_of_ble_eq_true rfl) ?_
  rintro C rfl rfl rfl hC hR
  have hinX4 : ∀ w ∈ u_ws RX4 TX4 15, w ∈ wsX4_setStepCount := by decide +kernel
  show ZW C 0 0 [wO p 4 [.ref p_dx, .ref p_dy, .ref p_weights, .ref p_leaps, .int (zI (p_stepCount)), .int (zI (p_kind)), .int (zI (p_top)), .int (zI (p_round)), .int (zI (p_barredCount)), .int (zI (p_ax)), .int (zI (p_ay)), .int (zI (p_bx)), .int (zI (p_by)), .ref p_barred, .ref p_passable]] [(0, .ref p), (1, .int (zI (many)))] 0 []
  refine z_aload_n hC 0 dX4_setStepCount_0 rfl rfl ?_
  refine z_iload_n hC 1 dX4_setStepCount_1 rfl rfl ?_
  refine z_bipush hC dX4_setStepCount_2 (by decide) ?_
  refine z_mmin hC dX4_setStepCount_4 (List.mem_of_getElem? (i := 1) rfl) (List.mem_of_getElem? (i := 2) rfl) (List.mem_of_getElem? (i := 3) rfl) (List.mem_of_getElem? (i := 4) rfl) (by omega) (Nat.le_of_ble_eq_true rfl) (Nat.le_of_ble_eq_true rfl) (Nat.le_of_ble_eq_true rfl) (Nat.le_of_ble_eq_true rfl) ?_
  refine z_put hC (T := TX4) (N := 15) hinX4 tyX4_ok nmX4 0 4 [wO p 4 [.ref p_dx, .ref p_dy, .ref p_weights, .ref p_leaps, .int (zI (min many 8)), .int (zI (p_kind)), .int (zI (p_top)), .int (zI (p_round)), .int (zI (p_barredCount)), .int (zI (p_ax)), .int (zI (p_ay)), .int (zI (p_bx)), .int (zI (p_by)), .ref p_barred, .ref p_passable]] dX4_setStepCount_7 rfl rfl (by decide) (List.mem_of_getElem? (i := 5) rfl) rfl rfl rfl rfl (Nat.le_of_ble_eq_true rfl) rfl ?_
  exact z_vret hC hR dX4_setStepCount_10 (Nat.le_of_ble_eq_true rfl) (Nat.le_of_ble_eq_true rfl) ⟨min many 8, rfl, rfl, by omega⟩

set_option maxHeartbeats 4000000 in
set_option maxRecDepth 100000 in
theorem c_X4_tallestStep (l : Launch) (D : va_G) (K : ClassId × ClassId × ClassId × ClassId) (p p_dx p_dy p_weights p_leaps p_barred p_passable : Nat) (p_stepCount p_kind p_top p_round p_barredCount p_ax p_ay p_bx p_by : Int) (dy : Int → Int) (hsc : 1 ≤ p_stepCount ∧ p_stepCount ≤ 8) (hdy : ∀ j, 0 ≤ j → j < 8 → -3 ≤ dy j ∧ dy j ≤ 3) : zMet l D K yX4_tallestStep wsX4_tallestStep ({ frames := 1, cells := 0, slots := 0, locals := 14 }) 0 0 [.ref p] [wO p 4 [.ref p_dx, .ref p_dy, .ref p_weights, .ref p_leaps, .int (zI (p_stepCount)), .int (zI (p_kind)), .int (zI (p_top)), .int (zI (p_round)), .int (zI (p_barredCount)), .int (zI (p_ax)), .int (zI (p_ay)), .int (zI (p_bx)), .int (zI (p_by)), .ref p_barred, .ref p_passable], wI p_dy K.2.1 8 dy] (fun vr_ wr_ => ∃ (r : Int), vr_ = some (.int (zI (r))) ∧ wr_ = [wO p 4 [.ref p_dx, .ref p_dy, .ref p_weights, .ref p_leaps, .int (zI (p_stepCount)), .int (zI (p_kind)), .int (zI (p_top)), .int (zI (p_round)), .int (zI (p_barredCount)), .int (zI (p_ax)), .int (zI (p_ay)), .int (zI (p_bx)), .int (zI (p_by)), .ref p_barred, .ref p_passable], wI p_dy K.2.1 8 dy] ∧ (0 ≤ r ∧ r ≤ 3 ∧ (∀ k, 0 ≤ k → k < p_stepCount → -r ≤ dy k ∧ dy k ≤ r))) := by
  refine zMet_of (cc := cX4_tallestStep) (nL := 3) (ret := (some .int)) (by decide) rfl (Nat.le_of_ble_eq_true rfl) ?_
  rintro C rfl rfl rfl hC hR
  have hinX4 : ∀ w ∈ u_ws RX4 TX4 15, w ∈ wsX4_tallestStep := by decide +kernel
  show ZW C 0 0 [wO p 4 [.ref p_dx, .ref p_dy, .ref p_weights, .ref p_leaps, .int (zI (p_stepCount)), .int (zI (p_kind)), .int (zI (p_top)), .int (zI (p_round)), .int (zI (p_barredCount)), .int (zI (p_ax)), .int (zI (p_ay)), .int (zI (p_bx)), .int (zI (p_by)), .ref p_barred, .ref p_passable], wI p_dy (zK C).2.1 8 dy] [(0, .ref p)] 0 []
  refine z_iconst hC dX4_tallestStep_0 ?_
  refine z_istore_n hC [(1, .int (zI (0))), (0, .ref p)] dX4_tallestStep_1 rfl (by decide) rfl ?_
  refine z_iconst hC dX4_tallestStep_2 ?_
  refine z_istore_n hC [(2, .int (zI (0))), (1, .int (zI (0))), (0, .ref p)] dX4_tallestStep_3 rfl (by decide) rfl ?_
  refine z_lv (lv' := [(0, .ref p), (1, .int (zI (0))), (2, .int (zI (0)))]) [2, 1, 0] rfl ?_
  have lp4_1 : ∀ (f3 : Nat) (t : Int) (k : Int), (0 ≤ k ∧ k ≤ p_stepCount) → (0 ≤ t ∧ t ≤ 3) → (∀ j, 0 ≤ j → j < k → -t ≤ dy j ∧ dy j ≤ t) → (p_stepCount - k).toNat < f3 → ZW C 0 0 [wO p 4 [.ref p_dx, .ref p_dy, .ref p_weights, .ref p_leaps, .int (zI (p_stepCount)), .int (zI (p_kind)), .int (zI (p_top)), .int (zI (p_round)), .int (zI (p_barredCount)), .int (zI (p_ax)), .int (zI (p_ay)), .int (zI (p_bx)), .int (zI (p_by)), .ref p_barred, .ref p_passable], wI p_dy (zK C).2.1 8 dy] [(0, .ref p), (1, .int (zI (t))), (2, .int (zI (k)))] 4 [] := by
    intro f3
    induction f3 with
    | zero => intro _ _ _ _ _ hf; exact absurd hf (Nat.not_lt_zero _)
    | succ f3 ih4_2 =>
      intro t k vk vt va hf_4
      refine z_iload_n hC 2 dX4_tallestStep_4 rfl rfl ?_
      refine z_aload_n hC 0 dX4_tallestStep_5 rfl rfl ?_
      refine z_get hC (T := TX4) (N := 15) hinX4 0 4 dX4_tallestStep_6 rfl rfl (by decide) (List.mem_of_getElem? (i := 1) rfl) rfl rfl ?_
      refine z_icge hC 38 dX4_tallestStep_9 (by decide) (by omega) (fun c_4 => ?_) (fun c_4 => ?_)
      · skip
        refine z_iload_n hC 1 dX4_tallestStep_38 rfl rfl ?_
        exact z_iret hC hR dX4_tallestStep_39 (Nat.le_of_ble_eq_true rfl) (Nat.le_of_ble_eq_true rfl) ⟨t, rfl, rfl, by exact ⟨vt.1, vt.2, fun j h0 h1 => va j h0 (by omega)⟩⟩
      · skip
        refine z_iload_n hC 2 dX4_tallestStep_12 rfl rfl ?_
        refine z_bipush hC dX4_tallestStep_13 (by decide) ?_
        refine z_icge hC 38 dX4_tallestStep_15 (by decide) (by omega) (fun c_5 => by exfalso; omega) (fun c_5 => ?_)
        refine z_iload_n hC 1 dX4_tallestStep_18 rfl rfl ?_
        refine z_aload_n hC 0 dX4_tallestStep_19 rfl rfl ?_
        refine z_get hC (T := TX4) (N := 15) hinX4 0 1 dX4_tallestStep_20 rfl rfl (by decide) (List.mem_of_getElem? (i := 2) rfl) rfl rfl ?_
        refine z_iload_n hC 2 dX4_tallestStep_23 rfl rfl ?_
        refine z_iald hC 1 dX4_tallestStep_24 rfl (by omega) ?_
        have l_6 := hdy k (by omega) (by omega)
        refine z_mabs hC dX4_tallestStep_25 (List.mem_of_getElem? (i := 3) rfl) (List.mem_of_getElem? (i := 4) rfl) (List.mem_of_getElem? (i := 5) rfl) (List.mem_of_getElem? (i := 6) rfl) (by omega) (Nat.le_of_ble_eq_true rfl) (Nat.le_of_ble_eq_true rfl) (Nat.le_of_ble_eq_true rfl) (Nat.le_of_ble_eq_true rfl) ?_
        refine z_mmax hC dX4_tallestStep_28 (List.mem_of_getElem? (i := 7) rfl) (List.mem_of_getElem? (i := 8) rfl) (List.mem_of_getElem? (i := 5) rfl) (List.mem_of_getElem? (i := 9) rfl) (by omega) (Nat.le_of_ble_eq_true rfl) (Nat.le_of_ble_eq_true rfl) (Nat.le_of_ble_eq_true rfl) (Nat.le_of_ble_eq_true rfl) ?_
        refine z_istore_n hC [(1, .int (zI (max t (max (dy k) (-(dy k)))))), (0, .ref p), (2, .int (zI (k)))] dX4_tallestStep_31 rfl (by decide) rfl ?_
        refine z_iinc (a := k) (v := 1) (r := k + 1) hC 2 [(2, .int (zI (k + 1))), (1, .int (zI (max t (max (dy k) (-(dy k)))))), (0, .ref p)] dX4_tallestStep_32 rfl rfl (by decide) rfl ?_
        refine z_goto hC 4 dX4_tallestStep_35 (by decide) ?_
        refine z_lv (lv' := [(0, .ref p), (1, .int (zI (max t (max (dy k) (-(dy k)))))), (2, .int (zI (k + 1)))]) [2, 1, 0] rfl ?_
        exact ih4_2 (max t (max (dy k) (-(dy k)))) (k + 1) (by omega) (by omega) (by intro j h0 h1; by_cases e : j = k; (rw [e]; omega); (have := va j h0 (by omega); omega)) (by omega)
  exact lp4_1 _ 0 0 (by omega) (by omega) (by intro j h0 h1; omega) (Nat.lt_succ_self _)

set_option maxHeartbeats 4000000 in
set_option maxRecDepth 100000 in
theorem c_X4_stepsFallDeep (l : Launch) (D : va_G) (K : ClassId × ClassId × ClassId × ClassId) (p p_dx p_dy p_weights p_leaps p_barred p_passable : Nat) (p_stepCount p_kind p_top p_round p_barredCount p_ax p_ay p_bx p_by : Int) (dy : Int → Int) (hsc : 1 ≤ p_stepCount ∧ p_stepCount ≤ 8) (hdy : ∀ j, 0 ≤ j → j < 8 → -3 ≤ dy j ∧ dy j ≤ 3) : zMet l D K yX4_stepsFallDeep wsX4_stepsFallDeep ({ frames := 0, cells := 0, slots := 0, locals := 0 }) 0 0 [.ref p] [wO p 4 [.ref p_dx, .ref p_dy, .ref p_weights, .ref p_leaps, .int (zI (p_stepCount)), .int (zI (p_kind)), .int (zI (p_top)), .int (zI (p_round)), .int (zI (p_barredCount)), .int (zI (p_ax)), .int (zI (p_ay)), .int (zI (p_bx)), .int (zI (p_by)), .ref p_barred, .ref p_passable], wI p_dy K.2.1 8 dy] (fun vr_ wr_ => ∃ (r : Int), vr_ = some (.int (zI (r))) ∧ wr_ = [wO p 4 [.ref p_dx, .ref p_dy, .ref p_weights, .ref p_leaps, .int (zI (p_stepCount)), .int (zI (p_kind)), .int (zI (p_top)), .int (zI (p_round)), .int (zI (p_barredCount)), .int (zI (p_ax)), .int (zI (p_ay)), .int (zI (p_bx)), .int (zI (p_by)), .ref p_barred, .ref p_passable], wI p_dy K.2.1 8 dy] ∧ ((r = 0 ∨ r = 1) ∧ r = bI (fallS p_stepCount dy))) := by
  refine zMet_of (cc := cX4_stepsFallDeep) (nL := 2) (ret := (some .boolean)) (by decide) rfl (Nat.le_of_ble_eq_true rfl) ?_
  rintro C rfl rfl rfl hC hR
  have hinX4 : ∀ w ∈ u_ws RX4 TX4 15, w ∈ wsX4_stepsFallDeep := by decide +kernel
  show ZW C 0 0 [wO p 4 [.ref p_dx, .ref p_dy, .ref p_weights, .ref p_leaps, .int (zI (p_stepCount)), .int (zI (p_kind)), .int (zI (p_top)), .int (zI (p_round)), .int (zI (p_barredCount)), .int (zI (p_ax)), .int (zI (p_ay)), .int (zI (p_bx)), .int (zI (p_by)), .ref p_barred, .ref p_passable], wI p_dy (zK C).2.1 8 dy] [(0, .ref p)] 0 []
  refine z_iconst hC dX4_stepsFallDeep_0 ?_
  refine z_istore_n hC [(1, .int (zI (0))), (0, .ref p)] dX4_stepsFallDeep_1 rfl (by decide) rfl ?_
  refine z_lv (lv' := [(0, .ref p), (1, .int (zI (0)))]) [1, 0] rfl ?_
  have lp2_1 : ∀ (f3 : Nat) (k : Int), (0 ≤ k ∧ k ≤ p_stepCount) → (∀ j, 0 ≤ j → j < k → -1 ≤ dy j) → (p_stepCount - k).toNat < f3 → ZW C 0 0 [wO p 4 [.ref p_dx, .ref p_dy, .ref p_weights, .ref p_leaps, .int (zI (p_stepCount)), .int (zI (p_kind)), .int (zI (p_top)), .int (zI (p_round)), .int (zI (p_barredCount)), .int (zI (p_ax)), .int (zI (p_ay)), .int (zI (p_bx)), .int (zI (p_by)), .ref p_barred, .ref p_passable], wI p_dy (zK C).2.1 8 dy] [(0, .ref p), (1, .int (zI (k)))] 2 [] := by
    intro f3
    induction f3 with
    | zero => intro _ _ _ hf; exact absurd hf (Nat.not_lt_zero _)
    | succ f3 ih2_2 =>
      intro k vk va hf_2
      refine z_iload_n hC 1 dX4_stepsFallDeep_2 rfl rfl ?_
      refine z_aload_n hC 0 dX4_stepsFallDeep_3 rfl rfl ?_
      refine z_get hC (T := TX4) (N := 15) hinX4 0 4 dX4_stepsFallDeep_4 rfl rfl (by decide) (List.mem_of_getElem? (i := 1) rfl) rfl rfl ?_
      refine z_icge hC 34 dX4_stepsFallDeep_7 (by decide) (by omega) (fun c_4 => ?_) (fun c_4 => ?_)
      · skip
        refine z_iconst hC dX4_stepsFallDeep_34 ?_
        exact z_zret hC hR dX4_stepsFallDeep_35 (by omega) (Nat.le_of_ble_eq_true rfl) (Nat.le_of_ble_eq_true rfl) ⟨0, rfl, rfl, by first | exact ⟨by omega, (bI_n (fun ⟨j, h0, h1, h2⟩ => by have := va j h0 (by omega); omega)).symm⟩ | exact ⟨by omega, (bI_y ⟨k, by omega, by omega, by omega⟩).symm⟩ | omega⟩
      · skip
        refine z_iload_n hC 1 dX4_stepsFallDeep_10 rfl rfl ?_
        refine z_bipush hC dX4_stepsFallDeep_11 (by decide) ?_
        refine z_icge hC 34 dX4_stepsFallDeep_13 (by decide) (by omega) (fun c_5 => by exfalso; omega) (fun c_5 => ?_)
        refine z_aload_n hC 0 dX4_stepsFallDeep_16 rfl rfl ?_
        refine z_get hC (T := TX4) (N := 15) hinX4 0 1 dX4_stepsFallDeep_17 rfl rfl (by decide) (List.mem_of_getElem? (i := 2) rfl) rfl rfl ?_
        refine z_iload_n hC 1 dX4_stepsFallDeep_20 rfl rfl ?_
        refine z_iald hC 1 dX4_stepsFallDeep_21 rfl (by omega) ?_
        have l_6 := hdy k (by omega) (by omega)
        refine z_iconst hC dX4_stepsFallDeep_22 ?_
        refine z_icge hC 28 dX4_stepsFallDeep_23 (by decide) (by omega) (fun c_7 => ?_) (fun c_7 => ?_)
        · skip
          refine z_iinc (a := k) (v := 1) (r := k + 1) hC 1 [(1, .int (zI (k + 1))), (0, .ref p)] dX4_stepsFallDeep_28 rfl rfl (by decide) rfl ?_
          refine z_goto hC 2 dX4_stepsFallDeep_31 (by decide) ?_
          refine z_lv (lv' := [(0, .ref p), (1, .int (zI (k + 1)))]) [1, 0] rfl ?_
          exact ih2_2 (k + 1) (by omega) (by intro j h0 h1; by_cases e : j = k; (rw [e]; omega); exact va j h0 (by omega)) (by omega)
        · skip
          refine z_iconst hC dX4_stepsFallDeep_26 ?_
          exact z_zret hC hR dX4_stepsFallDeep_27 (by omega) (Nat.le_of_ble_eq_true rfl) (Nat.le_of_ble_eq_true rfl) ⟨1, rfl, rfl, by first | exact ⟨by omega, (bI_n (fun ⟨j, h0, h1, h2⟩ => by have := va j h0 (by omega); omega)).symm⟩ | exact ⟨by omega, (bI_y ⟨k, by omega, by omega, by omega⟩).symm⟩ | omega⟩
  exact lp2_1 _ 0 (by omega) (by intro j h0 h1; omega) (Nat.lt_succ_self _)

set_option maxHeartbeats 4000000 in
set_option maxRecDepth 100000 in
theorem c_X4_hasStepOf (l : Launch) (D : va_G) (K : ClassId × ClassId × ClassId × ClassId) (p p_dx p_dy p_weights p_leaps p_barred p_passable : Nat) (x y p_stepCount p_kind p_top p_round p_barredCount p_ax p_ay p_bx p_by : Int) (dx dy : Int → Int) (hsc : 1 ≤ p_stepCount ∧ p_stepCount ≤ 8) (hdx : ∀ j, 0 ≤ j → j < 8 → -3 ≤ dx j ∧ dx j ≤ 3) (hdy : ∀ j, 0 ≤ j → j < 8 → -3 ≤ dy j ∧ dy j ≤ 3) (hx : zR x) (hy : zR y) : zMet l D K yX4_hasStepOf wsX4_hasStepOf ({ frames := 0, cells := 0, slots := 0, locals := 0 }) 0 0 [.ref p, .int (zI (x)), .int (zI (y))] [wO p 4 [.ref p_dx, .ref p_dy, .ref p_weights, .ref p_leaps, .int (zI (p_stepCount)), .int (zI (p_kind)), .int (zI (p_top)), .int (zI (p_round)), .int (zI (p_barredCount)), .int (zI (p_ax)), .int (zI (p_ay)), .int (zI (p_bx)), .int (zI (p_by)), .ref p_barred, .ref p_passable], wI p_dx K.2.1 8 dx, wI p_dy K.2.1 8 dy] (fun vr_ wr_ => ∃ (r : Int), vr_ = some (.int (zI (r))) ∧ wr_ = [wO p 4 [.ref p_dx, .ref p_dy, .ref p_weights, .ref p_leaps, .int (zI (p_stepCount)), .int (zI (p_kind)), .int (zI (p_top)), .int (zI (p_round)), .int (zI (p_barredCount)), .int (zI (p_ax)), .int (zI (p_ay)), .int (zI (p_bx)), .int (zI (p_by)), .ref p_barred, .ref p_passable], wI p_dx K.2.1 8 dx, wI p_dy K.2.1 8 dy] ∧ ((r = 0 ∨ r = 1) ∧ r = bI (hasS p_stepCount dx dy x y))) := by
  refine zMet_of (cc := cX4_hasStepOf) (nL := 4) (ret := (some .boolean)) (by decide) rfl (Nat.le_of_ble_eq_true rfl) ?_
  rintro C rfl rfl rfl hC hR
  have hinX4 : ∀ w ∈ u_ws RX4 TX4 15, w ∈ wsX4_hasStepOf := by decide +kernel
  show ZW C 0 0 [wO p 4 [.ref p_dx, .ref p_dy, .ref p_weights, .ref p_leaps, .int (zI (p_stepCount)), .int (zI (p_kind)), .int (zI (p_top)), .int (zI (p_round)), .int (zI (p_barredCount)), .int (zI (p_ax)), .int (zI (p_ay)), .int (zI (p_bx)), .int (zI (p_by)), .ref p_barred, .ref p_passable], wI p_dx (zK C).2.1 8 dx, wI p_dy (zK C).2.1 8 dy] [(0, .ref p), (1, .int (zI (x))), (2, .int (zI (y)))] 0 []
  refine z_iconst hC dX4_hasStepOf_0 ?_
  refine z_istore_n hC [(3, .int (zI (0))), (0, .ref p), (1, .int (zI (x))), (2, .int (zI (y)))] dX4_hasStepOf_1 rfl (by decide) rfl ?_
  refine z_lv (lv' := [(0, .ref p), (1, .int (zI (x))), (2, .int (zI (y))), (3, .int (zI (0)))]) [1, 2, 3, 0] rfl ?_
  have lp2_1 : ∀ (f3 : Nat) (k : Int), (0 ≤ k ∧ k ≤ p_stepCount) → (∀ j, 0 ≤ j → j < k → ¬ (dx j = x ∧ dy j = y)) → (p_stepCount - k).toNat < f3 → ZW C 0 0 [wO p 4 [.ref p_dx, .ref p_dy, .ref p_weights, .ref p_leaps, .int (zI (p_stepCount)), .int (zI (p_kind)), .int (zI (p_top)), .int (zI (p_round)), .int (zI (p_barredCount)), .int (zI (p_ax)), .int (zI (p_ay)), .int (zI (p_bx)), .int (zI (p_by)), .ref p_barred, .ref p_passable], wI p_dx (zK C).2.1 8 dx, wI p_dy (zK C).2.1 8 dy] [(0, .ref p), (1, .int (zI (x))), (2, .int (zI (y))), (3, .int (zI (k)))] 2 [] := by
    intro f3
    induction f3 with
    | zero => intro _ _ _ hf; exact absurd hf (Nat.not_lt_zero _)
    | succ f3 ih2_2 =>
      intro k vk va hf_2
      refine z_iload_n hC 3 dX4_hasStepOf_2 rfl rfl ?_
      refine z_aload_n hC 0 dX4_hasStepOf_3 rfl rfl ?_
      refine z_get hC (T := TX4) (N := 15) hinX4 0 4 dX4_hasStepOf_4 rfl rfl (by decide) (List.mem_of_getElem? (i := 1) rfl) rfl rfl ?_
      refine z_icge hC 44 dX4_hasStepOf_7 (by decide) (by omega) (fun c_4 => ?_) (fun c_4 => ?_)
      · skip
        refine z_iconst hC dX4_hasStepOf_44 ?_
        exact z_zret hC hR dX4_hasStepOf_45 (by omega) (Nat.le_of_ble_eq_true rfl) (Nat.le_of_ble_eq_true rfl) ⟨0, rfl, rfl, by first | exact ⟨by omega, (bI_n (fun ⟨j, h0, h1, h2⟩ => va j h0 (by omega) h2)).symm⟩ | exact ⟨by omega, (bI_y ⟨k, by omega, by omega, by omega, by omega⟩).symm⟩ | omega⟩
      · skip
        refine z_iload_n hC 3 dX4_hasStepOf_10 rfl rfl ?_
        refine z_bipush hC dX4_hasStepOf_11 (by decide) ?_
        refine z_icge hC 44 dX4_hasStepOf_13 (by decide) (by omega) (fun c_5 => by exfalso; omega) (fun c_5 => ?_)
        refine z_aload_n hC 0 dX4_hasStepOf_16 rfl rfl ?_
        refine z_get hC (T := TX4) (N := 15) hinX4 0 0 dX4_hasStepOf_17 rfl rfl (by decide) (List.mem_of_getElem? (i := 2) rfl) rfl rfl ?_
        refine z_iload_n hC 3 dX4_hasStepOf_20 rfl rfl ?_
        refine z_iald hC 1 dX4_hasStepOf_21 rfl (by omega) ?_
        have l_6 := hdx k (by omega) (by omega)
        refine z_iload_n hC 1 dX4_hasStepOf_22 rfl rfl ?_
        refine z_icne hC 38 dX4_hasStepOf_23 (by decide) (by omega) (fun c_7 => ?_) (fun c_7 => ?_)
        · skip
          refine z_iinc (a := k) (v := 1) (r := k + 1) hC 3 [(3, .int (zI (k + 1))), (0, .ref p), (1, .int (zI (x))), (2, .int (zI (y)))] dX4_hasStepOf_38 rfl rfl (by decide) rfl ?_
          refine z_goto hC 2 dX4_hasStepOf_41 (by decide) ?_
          refine z_lv (lv' := [(0, .ref p), (1, .int (zI (x))), (2, .int (zI (y))), (3, .int (zI (k + 1)))]) [1, 2, 3, 0] rfl ?_
          exact ih2_2 (k + 1) (by omega) (by intro j h0 h1; by_cases e : j = k; (rw [e]; omega); exact va j h0 (by omega)) (by omega)
        · skip
          refine z_aload_n hC 0 dX4_hasStepOf_26 rfl rfl ?_
          refine z_get hC (T := TX4) (N := 15) hinX4 0 1 dX4_hasStepOf_27 rfl rfl (by decide) (List.mem_of_getElem? (i := 3) rfl) rfl rfl ?_
          refine z_iload_n hC 3 dX4_hasStepOf_30 rfl rfl ?_
          refine z_iald hC 2 dX4_hasStepOf_31 rfl (by omega) ?_
          have l_8 := hdy k (by omega) (by omega)
          refine z_iload_n hC 2 dX4_hasStepOf_32 rfl rfl ?_
          refine z_icne hC 38 dX4_hasStepOf_33 (by decide) (by omega) (fun c_9 => ?_) (fun c_9 => ?_)
          · skip
            refine z_iinc (a := k) (v := 1) (r := k + 1) hC 3 [(3, .int (zI (k + 1))), (0, .ref p), (1, .int (zI (x))), (2, .int (zI (y)))] dX4_hasStepOf_38 rfl rfl (by decide) rfl ?_
            refine z_goto hC 2 dX4_hasStepOf_41 (by decide) ?_
            refine z_lv (lv' := [(0, .ref p), (1, .int (zI (x))), (2, .int (zI (y))), (3, .int (zI (k + 1)))]) [1, 2, 3, 0] rfl ?_
            exact ih2_2 (k + 1) (by omega) (by intro j h0 h1; by_cases e : j = k; (rw [e]; omega); exact va j h0 (by omega)) (by omega)
          · skip
            refine z_iconst hC dX4_hasStepOf_36 ?_
            exact z_zret hC hR dX4_hasStepOf_37 (by omega) (Nat.le_of_ble_eq_true rfl) (Nat.le_of_ble_eq_true rfl) ⟨1, rfl, rfl, by first | exact ⟨by omega, (bI_n (fun ⟨j, h0, h1, h2⟩ => va j h0 (by omega) h2)).symm⟩ | exact ⟨by omega, (bI_y ⟨k, by omega, by omega, by omega, by omega⟩).symm⟩ | omega⟩
  exact lp2_1 _ 0 (by omega) (by intro j h0 h1; omega) (Nat.lt_succ_self _)

set_option maxHeartbeats 4000000 in
set_option maxRecDepth 100000 in
theorem c_X4_stepsMirrored (l : Launch) (D : va_G) (K : ClassId × ClassId × ClassId × ClassId) (p p_dx p_dy p_weights p_leaps p_barred p_passable : Nat) (p_stepCount p_kind p_top p_round p_barredCount p_ax p_ay p_bx p_by : Int) (dx dy : Int → Int) (hsc : 1 ≤ p_stepCount ∧ p_stepCount ≤ 8) (hdx : ∀ j, 0 ≤ j → j < 8 → -3 ≤ dx j ∧ dx j ≤ 3) (hdy : ∀ j, 0 ≤ j → j < 8 → -3 ≤ dy j ∧ dy j ≤ 3) : zMet l D K yX4_stepsMirrored wsX4_stepsMirrored ({ frames := 1, cells := 0, slots := 0, locals := 23 }) 0 0 [.ref p] [wO p 4 [.ref p_dx, .ref p_dy, .ref p_weights, .ref p_leaps, .int (zI (p_stepCount)), .int (zI (p_kind)), .int (zI (p_top)), .int (zI (p_round)), .int (zI (p_barredCount)), .int (zI (p_ax)), .int (zI (p_ay)), .int (zI (p_bx)), .int (zI (p_by)), .ref p_barred, .ref p_passable], wI p_dx K.2.1 8 dx, wI p_dy K.2.1 8 dy] (fun vr_ wr_ => ∃ (r : Int), vr_ = some (.int (zI (r))) ∧ wr_ = [wO p 4 [.ref p_dx, .ref p_dy, .ref p_weights, .ref p_leaps, .int (zI (p_stepCount)), .int (zI (p_kind)), .int (zI (p_top)), .int (zI (p_round)), .int (zI (p_barredCount)), .int (zI (p_ax)), .int (zI (p_ay)), .int (zI (p_bx)), .int (zI (p_by)), .ref p_barred, .ref p_passable], wI p_dx K.2.1 8 dx, wI p_dy K.2.1 8 dy] ∧ ((r = 0 ∨ r = 1) ∧ r = bI (mirS p_stepCount dx dy))) := by
  refine zMet_of (cc := cX4_stepsMirrored) (nL := 2) (ret := (some .boolean)) (by decide) rfl (Nat.le_of_ble_eq_true rfl) ?_
  rintro C rfl rfl rfl hC hR
  have hinX4 : ∀ w ∈ u_ws RX4 TX4 15, w ∈ wsX4_stepsMirrored := by decide +kernel
  show ZW C 0 0 [wO p 4 [.ref p_dx, .ref p_dy, .ref p_weights, .ref p_leaps, .int (zI (p_stepCount)), .int (zI (p_kind)), .int (zI (p_top)), .int (zI (p_round)), .int (zI (p_barredCount)), .int (zI (p_ax)), .int (zI (p_ay)), .int (zI (p_bx)), .int (zI (p_by)), .ref p_barred, .ref p_passable], wI p_dx (zK C).2.1 8 dx, wI p_dy (zK C).2.1 8 dy] [(0, .ref p)] 0 []
  refine z_iconst hC dX4_stepsMirrored_0 ?_
  refine z_istore_n hC [(1, .int (zI (0))), (0, .ref p)] dX4_stepsMirrored_1 rfl (by decide) rfl ?_
  refine z_lv (lv' := [(0, .ref p), (1, .int (zI (0)))]) [1, 0] rfl ?_
  have lp2_1 : ∀ (f3 : Nat) (k : Int), (0 ≤ k ∧ k ≤ p_stepCount) → (∀ j, 0 ≤ j → j < k → mir1 p_stepCount dx dy j) → (p_stepCount - k).toNat < f3 → ZW C 0 0 [wO p 4 [.ref p_dx, .ref p_dy, .ref p_weights, .ref p_leaps, .int (zI (p_stepCount)), .int (zI (p_kind)), .int (zI (p_top)), .int (zI (p_round)), .int (zI (p_barredCount)), .int (zI (p_ax)), .int (zI (p_ay)), .int (zI (p_bx)), .int (zI (p_by)), .ref p_barred, .ref p_passable], wI p_dx (zK C).2.1 8 dx, wI p_dy (zK C).2.1 8 dy] [(0, .ref p), (1, .int (zI (k)))] 2 [] := by
    intro f3
    induction f3 with
    | zero => intro _ _ _ hf; exact absurd hf (Nat.not_lt_zero _)
    | succ f3 ih2_2 =>
      intro k vk va hf_2
      refine z_iload_n hC 1 dX4_stepsMirrored_2 rfl rfl ?_
      refine z_aload_n hC 0 dX4_stepsMirrored_3 rfl rfl ?_
      refine z_get hC (T := TX4) (N := 15) hinX4 0 4 dX4_stepsMirrored_4 rfl rfl (by decide) (List.mem_of_getElem? (i := 1) rfl) rfl rfl ?_
      refine z_icge hC 64 dX4_stepsMirrored_7 (by decide) (by omega) (fun c_4 => ?_) (fun c_4 => ?_)
      · skip
        refine z_iconst hC dX4_stepsMirrored_64 ?_
        exact z_zret hC hR dX4_stepsMirrored_65 (by omega) (Nat.le_of_ble_eq_true rfl) (Nat.le_of_ble_eq_true rfl) ⟨1, rfl, rfl, by first | exact ⟨by omega, (bI_y (fun j h0 h1 => va j h0 (by omega))).symm⟩ | exact ⟨by omega, (bI_n (fun hs => by have h1 := (hs k (by omega) (by omega)).1; omega)).symm⟩ | exact ⟨by omega, (bI_n (fun hs => by have h1 := bI_y (hs k (by omega) (by omega)).2; omega)).symm⟩ | omega⟩
      · skip
        refine z_iload_n hC 1 dX4_stepsMirrored_10 rfl rfl ?_
        refine z_bipush hC dX4_stepsMirrored_11 (by decide) ?_
        refine z_icge hC 64 dX4_stepsMirrored_13 (by decide) (by omega) (fun c_5 => by exfalso; omega) (fun c_5 => ?_)
        refine z_aload_n hC 0 dX4_stepsMirrored_16 rfl rfl ?_
        refine z_get hC (T := TX4) (N := 15) hinX4 0 1 dX4_stepsMirrored_17 rfl rfl (by decide) (List.mem_of_getElem? (i := 2) rfl) rfl rfl ?_
        refine z_iload_n hC 1 dX4_stepsMirrored_20 rfl rfl ?_
        refine z_iald hC 2 dX4_stepsMirrored_21 rfl (by omega) ?_
        have l_6 := hdy k (by omega) (by omega)
        refine z_iconst hC dX4_stepsMirrored_22 ?_
        refine z_iceq hC 36 dX4_stepsMirrored_23 (by decide) (by omega) (fun c_7 => ?_) (fun c_7 => ?_)
        · skip
          refine z_aload_n hC 0 dX4_stepsMirrored_36 rfl rfl ?_
          refine z_aload_n hC 0 dX4_stepsMirrored_37 rfl rfl ?_
          refine z_get hC (T := TX4) (N := 15) hinX4 0 0 dX4_stepsMirrored_38 rfl rfl (by decide) (List.mem_of_getElem? (i := 3) rfl) rfl rfl ?_
          refine z_iload_n hC 1 dX4_stepsMirrored_41 rfl rfl ?_
          refine z_iald hC 1 dX4_stepsMirrored_42 rfl (by omega) ?_
          have l_8 := hdx k (by omega) (by omega)
          refine z_aload_n hC 0 dX4_stepsMirrored_43 rfl rfl ?_
          refine z_get hC (T := TX4) (N := 15) hinX4 0 1 dX4_stepsMirrored_44 rfl rfl (by decide) (List.mem_of_getElem? (i := 2) rfl) rfl rfl ?_
          refine z_iload_n hC 1 dX4_stepsMirrored_47 rfl rfl ?_
          refine z_iald hC 2 dX4_stepsMirrored_48 rfl (by omega) ?_
          have l_9 := hdy k (by omega) (by omega)
          refine z_ineg hC (-(dy k)) dX4_stepsMirrored_49 rfl ?_
          refine z_callV hC [.int (zI (dx k)), .int (zI (-(dy k)))] 2 0 dX4_stepsMirrored_50 (c_X4_hasStepOf (zl C) (zD C) (zK C) p p_dx p_dy p_weights p_leaps p_barred p_passable (dx k) (-(dy k)) p_stepCount p_kind p_top p_round p_barredCount p_ax p_ay p_bx p_by dx dy (by first | assumption | omega) (by first | assumption | omega) (by first | assumption | omega) (by first | assumption | omega) (by first | assumption | omega)) gX4_stepsMirrored_X4_hasStepOf rfl rfl rfl ⟨by decide, by decide, by decide +kernel⟩ ⟨(Nat.le_of_ble_eq_true rfl), (Nat.le_of_ble_eq_true rfl)⟩ rfl rfl rfl rfl [0, 1, 2] [] [] [] rfl rfl rfl rfl rfl (by decide) (Nat.le_of_ble_eq_true rfl) ⟨(Nat.le_of_ble_eq_true rfl), (Nat.le_of_ble_eq_true rfl)⟩ ?_
          rintro v_ w_ ⟨r_10, rfl, rfl, hm⟩
          show ZW C 0 0 [wO p 4 [.ref p_dx, .ref p_dy, .ref p_weights, .ref p_leaps, .int (zI (p_stepCount)), .int (zI (p_kind)), .int (zI (p_top)), .int (zI (p_round)), .int (zI (p_barredCount)), .int (zI (p_ax)), .int (zI (p_ay)), .int (zI (p_bx)), .int (zI (p_by)), .ref p_barred, .ref p_passable], wI p_dx (zK C).2.1 8 dx, wI p_dy (zK C).2.1 8 dy] [(0, .ref p), (1, .int (zI (k)))] 53 [.int (zI (r_10))]
          refine z_ifne hC 58 dX4_stepsMirrored_53 (by decide) (by omega) (fun c_11 => ?_) (fun c_11 => ?_)
          · skip
            refine z_iinc (a := k) (v := 1) (r := k + 1) hC 1 [(1, .int (zI (k + 1))), (0, .ref p)] dX4_stepsMirrored_58 rfl rfl (by decide) rfl ?_
            refine z_goto hC 2 dX4_stepsMirrored_61 (by decide) ?_
            refine z_lv (lv' := [(0, .ref p), (1, .int (zI (k + 1)))]) [1, 0] rfl ?_
            exact ih2_2 (k + 1) (by omega) (by intro j h0 h1; by_cases e : j = k; (rw [e]; exact ⟨by omega, bI_1 (by omega)⟩); exact va j h0 (by omega)) (by omega)
          · skip
            refine z_iconst hC dX4_stepsMirrored_56 ?_
            exact z_zret hC hR dX4_stepsMirrored_57 (by omega) (Nat.le_of_ble_eq_true rfl) (Nat.le_of_ble_eq_true rfl) ⟨0, rfl, rfl, by first | exact ⟨by omega, (bI_y (fun j h0 h1 => va j h0 (by omega))).symm⟩ | exact ⟨by omega, (bI_n (fun hs => by have h1 := (hs k (by omega) (by omega)).1; omega)).symm⟩ | exact ⟨by omega, (bI_n (fun hs => by have h1 := bI_y (hs k (by omega) (by omega)).2; omega)).symm⟩ | omega⟩
        · skip
          refine z_aload_n hC 0 dX4_stepsMirrored_26 rfl rfl ?_
          refine z_get hC (T := TX4) (N := 15) hinX4 0 1 dX4_stepsMirrored_27 rfl rfl (by decide) (List.mem_of_getElem? (i := 2) rfl) rfl rfl ?_
          refine z_iload_n hC 1 dX4_stepsMirrored_30 rfl rfl ?_
          refine z_iald hC 2 dX4_stepsMirrored_31 rfl (by omega) ?_
          have l_12 := hdy k (by omega) (by omega)
          refine z_iconst hC dX4_stepsMirrored_32 ?_
          refine z_icne hC 56 dX4_stepsMirrored_33 (by decide) (by omega) (fun c_13 => ?_) (fun c_13 => ?_)
          · skip
            refine z_iconst hC dX4_stepsMirrored_56 ?_
            exact z_zret hC hR dX4_stepsMirrored_57 (by omega) (Nat.le_of_ble_eq_true rfl) (Nat.le_of_ble_eq_true rfl) ⟨0, rfl, rfl, by first | exact ⟨by omega, (bI_y (fun j h0 h1 => va j h0 (by omega))).symm⟩ | exact ⟨by omega, (bI_n (fun hs => by have h1 := (hs k (by omega) (by omega)).1; omega)).symm⟩ | exact ⟨by omega, (bI_n (fun hs => by have h1 := bI_y (hs k (by omega) (by omega)).2; omega)).symm⟩ | omega⟩
          · skip
            refine z_aload_n hC 0 dX4_stepsMirrored_36 rfl rfl ?_
            refine z_aload_n hC 0 dX4_stepsMirrored_37 rfl rfl ?_
            refine z_get hC (T := TX4) (N := 15) hinX4 0 0 dX4_stepsMirrored_38 rfl rfl (by decide) (List.mem_of_getElem? (i := 3) rfl) rfl rfl ?_
            refine z_iload_n hC 1 dX4_stepsMirrored_41 rfl rfl ?_
            refine z_iald hC 1 dX4_stepsMirrored_42 rfl (by omega) ?_
            have l_14 := hdx k (by omega) (by omega)
            refine z_aload_n hC 0 dX4_stepsMirrored_43 rfl rfl ?_
            refine z_get hC (T := TX4) (N := 15) hinX4 0 1 dX4_stepsMirrored_44 rfl rfl (by decide) (List.mem_of_getElem? (i := 2) rfl) rfl rfl ?_
            refine z_iload_n hC 1 dX4_stepsMirrored_47 rfl rfl ?_
            refine z_iald hC 2 dX4_stepsMirrored_48 rfl (by omega) ?_
            have l_15 := hdy k (by omega) (by omega)
            refine z_ineg hC (-(dy k)) dX4_stepsMirrored_49 rfl ?_
            refine z_callV hC [.int (zI (dx k)), .int (zI (-(dy k)))] 2 0 dX4_stepsMirrored_50 (c_X4_hasStepOf (zl C) (zD C) (zK C) p p_dx p_dy p_weights p_leaps p_barred p_passable (dx k) (-(dy k)) p_stepCount p_kind p_top p_round p_barredCount p_ax p_ay p_bx p_by dx dy (by first | assumption | omega) (by first | assumption | omega) (by first | assumption | omega) (by first | assumption | omega) (by first | assumption | omega)) gX4_stepsMirrored_X4_hasStepOf rfl rfl rfl ⟨by decide, by decide, by decide +kernel⟩ ⟨(Nat.le_of_ble_eq_true rfl), (Nat.le_of_ble_eq_true rfl)⟩ rfl rfl rfl rfl [0, 1, 2] [] [] [] rfl rfl rfl rfl rfl (by decide) (Nat.le_of_ble_eq_true rfl) ⟨(Nat.le_of_ble_eq_true rfl), (Nat.le_of_ble_eq_true rfl)⟩ ?_
            rintro v_ w_ ⟨r_16, rfl, rfl, hm⟩
            show ZW C 0 0 [wO p 4 [.ref p_dx, .ref p_dy, .ref p_weights, .ref p_leaps, .int (zI (p_stepCount)), .int (zI (p_kind)), .int (zI (p_top)), .int (zI (p_round)), .int (zI (p_barredCount)), .int (zI (p_ax)), .int (zI (p_ay)), .int (zI (p_bx)), .int (zI (p_by)), .ref p_barred, .ref p_passable], wI p_dx (zK C).2.1 8 dx, wI p_dy (zK C).2.1 8 dy] [(0, .ref p), (1, .int (zI (k)))] 53 [.int (zI (r_16))]
            refine z_ifne hC 58 dX4_stepsMirrored_53 (by decide) (by omega) (fun c_17 => ?_) (fun c_17 => ?_)
            · skip
              refine z_iinc (a := k) (v := 1) (r := k + 1) hC 1 [(1, .int (zI (k + 1))), (0, .ref p)] dX4_stepsMirrored_58 rfl rfl (by decide) rfl ?_
              refine z_goto hC 2 dX4_stepsMirrored_61 (by decide) ?_
              refine z_lv (lv' := [(0, .ref p), (1, .int (zI (k + 1)))]) [1, 0] rfl ?_
              exact ih2_2 (k + 1) (by omega) (by intro j h0 h1; by_cases e : j = k; (rw [e]; exact ⟨by omega, bI_1 (by omega)⟩); exact va j h0 (by omega)) (by omega)
            · skip
              refine z_iconst hC dX4_stepsMirrored_56 ?_
              exact z_zret hC hR dX4_stepsMirrored_57 (by omega) (Nat.le_of_ble_eq_true rfl) (Nat.le_of_ble_eq_true rfl) ⟨0, rfl, rfl, by first | exact ⟨by omega, (bI_y (fun j h0 h1 => va j h0 (by omega))).symm⟩ | exact ⟨by omega, (bI_n (fun hs => by have h1 := (hs k (by omega) (by omega)).1; omega)).symm⟩ | exact ⟨by omega, (bI_n (fun hs => by have h1 := bI_y (hs k (by omega) (by omega)).2; omega)).symm⟩ | omega⟩
  exact lp2_1 _ 0 (by omega) (by intro j h0 h1; omega) (Nat.lt_succ_self _)
