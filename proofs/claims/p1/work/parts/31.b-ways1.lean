theorem sdy_c (k : Int) : (k = 1 ∧ sdy k = 1) ∨ (k = 3 ∧ sdy k = -1) ∨ (k ≠ 1 ∧ k ≠ 3 ∧ sdy k = 0) := by
  unfold sdy
  (repeat' split) <;> omega
theorem sdx_c (k : Int) : (k = 0 ∧ sdx k = 1) ∨ (k = 2 ∧ sdx k = -1) ∨ (k ≠ 0 ∧ k ≠ 2 ∧ sdx k = 0) := by
  unfold sdx
  (repeat' split) <;> omega
theorem slp_c (k : Int) : (k = 0 ∧ slp k = 1) ∨ (k = 1 ∧ slp k = 67) ∨ (k = 2 ∧ slp k = -1) ∨ (k = 3 ∧ slp k = -67) ∨ (¬ (0 ≤ k ∧ k < 4) ∧ slp k = 0) := by
  unfold slp
  (repeat' split) <;> omega
theorem sumA_fin {f : Int → Int} {sm k : Int} (h0 : 0 ≤ k) (h1 : k ≤ 4) (hs : sm = sumZ f k.toNat) (hn : ∀ k : Int, 0 ≤ k → k < 4 → 0 ≤ f k) (h : 4 ≤ k ∨ 4611686018427387904 ≤ sm) : min sm 4611686018427387904 = min (sumZ f 4) 4611686018427387904 := by
  have e := sumZ_le (f := f) (m := k.toNat) (n := 4) (by omega) hn
  by_cases q : k = 4
  · subst q
    rw [hs]
    rfl
  · omega
/-- what a layer's cell gets from the layer ahead -/
def spr (g : Int → Int) (src y far j : Int) : Int := if y - far ≤ j / 67 - 33 ∧ j / 67 - 33 ≤ y + far ∧ oP j = 1 then min (sumZ (fun k => g (src + j + slp k)) 4) 4611686018427387904 else 0
theorem spr_step {g q pas : Int → Int} {n src tgt y far i v : Int} (hs : 0 ≤ src ∧ src + 4489 ≤ n ∧ 0 ≤ tgt ∧ tgt + 4489 ≤ n ∧ (src + 4489 ≤ tgt ∨ tgt + 4489 ≤ src)) (hi : 0 ≤ i ∧ i ≤ 4489) (vq : ∀ j, 0 ≤ j → j < i → q (tgt + j) = spr g src y far j) (vo : ∀ j, j < tgt ∨ tgt + i ≤ j → q j = g j) (hp : ∀ j, 0 ≤ j → j < 4489 → pas j = oP j)
    (h : (v = min (sumZ (fun k => q (src + i + slp k)) 4) 4611686018427387904 ∧ (i < 4489 ∧ (max (y - far) (-30) + 33) * 67 + -33 + 33 ≤ i ∧ i < (min (y + far) 30 + 1 + 33) * 67 + -33 + 33 ∧ pas i = 1)) ∨ (v = 0 ∧ (i < 4489 ∧ ¬ ((max (y - far) (-30) + 33) * 67 + -33 + 33 ≤ i ∧ i < (min (y + far) 30 + 1 + 33) * 67 + -33 + 33 ∧ pas i = 1)))) :
    ∀ j, 0 ≤ j → j < i + 1 → zu q (tgt + i) v (tgt + j) = spr g src y far j := by
  intro j h0 h1
  unfold zu
  by_cases e : j = i
  · subst e
    rw [if_pos rfl]
    have e2 := hp j h0 (by omega)
    unfold spr
    rcases h with ⟨hv, h2, h3, h4, h5⟩ | ⟨hv, h2, h3⟩
    · have e3 := oP_1 (e2 ▸ h5)
      rw [if_pos ⟨by omega, by omega, by omega⟩, hv]
      congr 1
      refine sumZ_cong (fun k k0 k1 => vo _ ?_)
      have := slp_c k
      omega
    · rw [if_neg (fun h6 => h3 ?_), hv]
      have e3 := oP_1 h6.2.2
      exact ⟨by omega, by omega, by omega⟩
  · rw [if_neg (by omega)]
    exact vq j h0 (by omega)
set_option maxHeartbeats 4000000 in
set_option maxRecDepth 100000 in
theorem c_X4_tallestStep (l : Launch) (D : va_G) (K : ClassId × ClassId × ClassId × ClassId) (p p_dx p_dy p_weights p_leaps p_barred p_passable : Nat) (p_kind p_top p_round p_barredCount p_ax p_ay p_bx p_by : Int) (dy : Int → Int) (hdyc : ∀ k, 0 ≤ k → k < 8 → dy k = sdy k) : zMet l D K yX4_tallestStep wsX4_tallestStep ({ frames := 1, cells := 0, slots := 0, locals := 14 }) 0 0 [.ref p] [wO p 4 [.ref p_dx, .ref p_dy, .ref p_weights, .ref p_leaps, .int (zI (4)), .int (zI (p_kind)), .int (zI (p_top)), .int (zI (p_round)), .int (zI (p_barredCount)), .int (zI (p_ax)), .int (zI (p_ay)), .int (zI (p_bx)), .int (zI (p_by)), .ref p_barred, .ref p_passable], wI p_dy K.2.1 8 dy] (fun vr_ wr_ => ∃ (r : Int), vr_ = some (.int (zI (r))) ∧ wr_ = [wO p 4 [.ref p_dx, .ref p_dy, .ref p_weights, .ref p_leaps, .int (zI (4)), .int (zI (p_kind)), .int (zI (p_top)), .int (zI (p_round)), .int (zI (p_barredCount)), .int (zI (p_ax)), .int (zI (p_ay)), .int (zI (p_bx)), .int (zI (p_by)), .ref p_barred, .ref p_passable], wI p_dy K.2.1 8 dy] ∧ (r = 1)) := by
  refine zMet_of (cc := cX4_tallestStep) (nL := 3) (ret := (some .int)) (by decide) rfl (Nat.le_of_ble_eq_true rfl) ?_
  rintro C rfl rfl rfl hC hR
  have hinX4 : ∀ w ∈ u_ws RX4 TX4 15, w ∈ wsX4_tallestStep := by decide +kernel
  show ZW C 0 0 [wO p 4 [.ref p_dx, .ref p_dy, .ref p_weights, .ref p_leaps, .int (zI (4)), .int (zI (p_kind)), .int (zI (p_top)), .int (zI (p_round)), .int (zI (p_barredCount)), .int (zI (p_ax)), .int (zI (p_ay)), .int (zI (p_bx)), .int (zI (p_by)), .ref p_barred, .ref p_passable], wI p_dy (zK C).2.1 8 dy] [(0, .ref p)] 0 []
  refine z_iconst hC dX4_tallestStep_0 ?_
  refine z_istore_n hC [(1, .int (zI (0))), (0, .ref p)] dX4_tallestStep_1 rfl (by decide) rfl ?_
  refine z_iconst hC dX4_tallestStep_2 ?_
  refine z_istore_n hC [(2, .int (zI (0))), (1, .int (zI (0))), (0, .ref p)] dX4_tallestStep_3 rfl (by decide) rfl ?_
  refine z_lv (lv' := [(0, .ref p), (1, .int (zI (0))), (2, .int (zI (0)))]) [2, 1, 0] rfl ?_
  have lp4_1 : ∀ (f3 : Nat) (t : Int) (k : Int), (0 ≤ k ∧ k ≤ 4) → ((k ≤ 1 ∧ t = 0) ∨ (2 ≤ k ∧ t = 1)) → (4 - k).toNat < f3 → ZW C 0 0 [wO p 4 [.ref p_dx, .ref p_dy, .ref p_weights, .ref p_leaps, .int (zI (4)), .int (zI (p_kind)), .int (zI (p_top)), .int (zI (p_round)), .int (zI (p_barredCount)), .int (zI (p_ax)), .int (zI (p_ay)), .int (zI (p_bx)), .int (zI (p_by)), .ref p_barred, .ref p_passable], wI p_dy (zK C).2.1 8 dy] [(0, .ref p), (1, .int (zI (t))), (2, .int (zI (k)))] 4 [] := by
    intro f3
    induction f3 with
    | zero => intro _ _ _ _ hf; exact absurd hf (Nat.not_lt_zero _)
    | succ f3 ih4_2 =>
      intro t k vk vt hf_4
      refine z_iload_n hC 2 dX4_tallestStep_4 rfl rfl ?_
      refine z_aload_n hC 0 dX4_tallestStep_5 rfl rfl ?_
      refine z_get hC (T := TX4) (N := 15) hinX4 0 4 dX4_tallestStep_6 rfl rfl (by decide) (List.mem_of_getElem? (i := 1) rfl) rfl rfl ?_
      refine z_icge hC 38 dX4_tallestStep_9 (by decide) (by omega) (fun c_4 => ?_) (fun c_4 => ?_)
      · skip
        refine z_iload_n hC 1 dX4_tallestStep_38 rfl rfl ?_
        exact z_iret hC hR dX4_tallestStep_39 (Nat.le_of_ble_eq_true rfl) (Nat.le_of_ble_eq_true rfl) ⟨t, rfl, rfl, by omega⟩
      · skip
        refine z_iload_n hC 2 dX4_tallestStep_12 rfl rfl ?_
        refine z_bipush hC dX4_tallestStep_13 (by decide) ?_
        refine z_icge hC 38 dX4_tallestStep_15 (by decide) (by omega) (fun c_5 => by exfalso; omega) (fun c_5 => ?_)
        refine z_iload_n hC 1 dX4_tallestStep_18 rfl rfl ?_
        refine z_aload_n hC 0 dX4_tallestStep_19 rfl rfl ?_
        refine z_get hC (T := TX4) (N := 15) hinX4 0 1 dX4_tallestStep_20 rfl rfl (by decide) (List.mem_of_getElem? (i := 2) rfl) rfl rfl ?_
        refine z_iload_n hC 2 dX4_tallestStep_23 rfl rfl ?_
        refine z_iald hC 1 dX4_tallestStep_24 rfl (by omega) ?_
        have l_6 := hdyc k (by omega) (by omega)
        have l_7 := sdy_c k
        refine z_mabs hC dX4_tallestStep_25 (List.mem_of_getElem? (i := 3) rfl) (List.mem_of_getElem? (i := 4) rfl) (List.mem_of_getElem? (i := 5) rfl) (List.mem_of_getElem? (i := 6) rfl) (by omega) (Nat.le_of_ble_eq_true rfl) (Nat.le_of_ble_eq_true rfl) (Nat.le_of_ble_eq_true rfl) (Nat.le_of_ble_eq_true rfl) ?_
        refine z_mmax hC dX4_tallestStep_28 (List.mem_of_getElem? (i := 7) rfl) (List.mem_of_getElem? (i := 8) rfl) (List.mem_of_getElem? (i := 5) rfl) (List.mem_of_getElem? (i := 9) rfl) (by omega) (Nat.le_of_ble_eq_true rfl) (Nat.le_of_ble_eq_true rfl) (Nat.le_of_ble_eq_true rfl) (Nat.le_of_ble_eq_true rfl) ?_
        refine z_istore_n hC [(1, .int (zI (max t (max (dy k) (-(dy k)))))), (0, .ref p), (2, .int (zI (k)))] dX4_tallestStep_31 rfl (by decide) rfl ?_
        refine z_iinc (a := k) (v := 1) (r := k + 1) hC 2 [(2, .int (zI (k + 1))), (1, .int (zI (max t (max (dy k) (-(dy k)))))), (0, .ref p)] dX4_tallestStep_32 rfl rfl (by decide) rfl ?_
        refine z_goto hC 4 dX4_tallestStep_35 (by decide) ?_
        refine z_lv (lv' := [(0, .ref p), (1, .int (zI (max t (max (dy k) (-(dy k)))))), (2, .int (zI (k + 1)))]) [2, 1, 0] rfl ?_
        exact ih4_2 (max t (max (dy k) (-(dy k)))) (k + 1) (by omega) (by omega) (by omega)
  exact lp4_1 _ 0 0 (by omega) (by omega) (Nat.lt_succ_self _)

set_option maxHeartbeats 4000000 in
set_option maxRecDepth 100000 in
theorem c_X6_init (l : Launch) (D : va_G) (K : ClassId × ClassId × ClassId × ClassId) (w p : Nat) : zMet l D K yX6_init wsX6_init ({ frames := 1, cells := 2, slots := 282807, locals := 12 }) 2 282807 [.ref w, .ref p] [wO w 6 [.null, .null, .null, .int (zI (0))]] (fun vr_ wr_ => ∃ (wl : Nat) (wsp : Nat), vr_ = none ∧ wr_ = [wO w 6 [.ref p, .ref wl, .ref wsp, .int (zI (0))], wJ wl K.2.2.1 273829 (fun _ => 0), wJ wsp K.2.2.1 8978 (fun _ => 0)] ∧ (True)) := by
  refine zMet_of (cc := cX6_init) (nL := 2) (ret := none) (by decide) rfl (Nat.le_of_ble_eq_true rfl) ?_
  rintro C rfl rfl rfl hC hR
  have hinX6 : ∀ w ∈ u_ws RX6 TX6 4, w ∈ wsX6_init := by decide +kernel
  show ZW C 0 0 [wO w 6 [.null, .null, .null, .int (zI (0))]] [(0, .ref w), (1, .ref p)] 0 []
  refine z_aload_n hC 0 dX6_init_0 rfl rfl ?_
  refine z_objInit hC dX6_init_1 (List.mem_of_getElem? (i := 1) rfl) (List.mem_of_getElem? (i := 2) rfl) (List.mem_of_getElem? (i := 3) rfl) (Nat.le_of_ble_eq_true rfl) (Nat.le_of_ble_eq_true rfl) ?_
  refine z_aload_n hC 0 dX6_init_4 rfl rfl ?_
  refine z_ldc (v := 273829) hC (List.mem_of_getElem? (i := 4) rfl) rfl dX6_init_5 ?_
  refine z_newaJ hC 273829 dX6_init_7 (List.mem_of_getElem? (i := 5) rfl) rfl (Nat.le_of_ble_eq_true rfl) (Nat.le_of_ble_eq_true rfl) (Nat.le_of_ble_eq_true rfl) (fun q_1 => ?_)
  show ZW C 1 273829 [wO w 6 [.null, .null, .null, .int (zI (0))], wJ q_1 (zK C).2.2.1 273829 (fun _ => 0)] [(0, .ref w), (1, .ref p)] 9 [.ref q_1, .ref w]
  refine z_putF hC (T := TX6) (N := 4) hinX6 tyX6_ok nmX6 0 1 [wO w 6 [.null, .ref q_1, .null, .int (zI (0))], wJ q_1 (zK C).2.2.1 273829 (fun _ => 0)] dX6_init_9 rfl rfl rfl rfl (by decide) (List.mem_of_getElem? (i := 6) rfl) rfl rfl rfl rfl (Nat.le_of_ble_eq_true rfl) rfl ?_
  refine z_aload_n hC 0 dX6_init_12 rfl rfl ?_
  refine z_sipush hC dX6_init_13 (by decide) ?_
  refine z_newaJ hC 8978 dX6_init_16 (List.mem_of_getElem? (i := 5) rfl) rfl (Nat.le_of_ble_eq_true rfl) (Nat.le_of_ble_eq_true rfl) (Nat.le_of_ble_eq_true rfl) (fun q_2 => ?_)
  show ZW C 2 282807 [wO w 6 [.null, .ref q_1, .null, .int (zI (0))], wJ q_1 (zK C).2.2.1 273829 (fun _ => 0), wJ q_2 (zK C).2.2.1 8978 (fun _ => 0)] [(0, .ref w), (1, .ref p)] 18 [.ref q_2, .ref w]
  refine z_putF hC (T := TX6) (N := 4) hinX6 tyX6_ok nmX6 0 2 [wO w 6 [.null, .ref q_1, .ref q_2, .int (zI (0))], wJ q_1 (zK C).2.2.1 273829 (fun _ => 0), wJ q_2 (zK C).2.2.1 8978 (fun _ => 0)] dX6_init_18 rfl rfl rfl rfl (by decide) (List.mem_of_getElem? (i := 7) rfl) rfl rfl rfl rfl (Nat.le_of_ble_eq_true rfl) rfl ?_
  refine z_aload_n hC 0 dX6_init_21 rfl rfl ?_
  refine z_aload_n hC 1 dX6_init_22 rfl rfl ?_
  refine z_putF hC (T := TX6) (N := 4) hinX6 tyX6_ok nmX6 0 0 [wO w 6 [.ref p, .ref q_1, .ref q_2, .int (zI (0))], wJ q_1 (zK C).2.2.1 273829 (fun _ => 0), wJ q_2 (zK C).2.2.1 8978 (fun _ => 0)] dX6_init_23 rfl rfl rfl rfl (by decide) (List.mem_of_getElem? (i := 8) rfl) rfl rfl rfl rfl (Nat.le_of_ble_eq_true rfl) rfl ?_
  exact z_vret hC hR dX6_init_26 (Nat.le_of_ble_eq_true rfl) (Nat.le_of_ble_eq_true rfl) ⟨q_1, q_2, rfl, rfl, by trivial⟩

set_option maxHeartbeats 4000000 in
set_option maxRecDepth 100000 in
theorem c_X6_closeRing (l : Launch) (D : va_G) (K : ClassId × ClassId × ClassId × ClassId) (w a p w_layers w_spreading p_dx p_dy p_weights p_leaps p_barred p_passable : Nat) (base w_ready p_stepCount p_top p_round p_barredCount p_ax p_ay p_bx p_by : Int) : zMet l D K yX6_closeRing wsX6_closeRing ({ frames := 0, cells := 0, slots := 0, locals := 0 }) 0 0 [.ref w, .ref a, .int (zI (base))] [wO w 6 [.ref p, .ref w_layers, .ref w_spreading, .int (zI (w_ready))], wO p 4 [.ref p_dx, .ref p_dy, .ref p_weights, .ref p_leaps, .int (zI (p_stepCount)), .int (zI (0)), .int (zI (p_top)), .int (zI (p_round)), .int (zI (p_barredCount)), .int (zI (p_ax)), .int (zI (p_ay)), .int (zI (p_bx)), .int (zI (p_by)), .ref p_barred, .ref p_passable]] (fun vr_ wr_ => vr_ = none ∧ wr_ = [wO w 6 [.ref p, .ref w_layers, .ref w_spreading, .int (zI (w_ready))], wO p 4 [.ref p_dx, .ref p_dy, .ref p_weights, .ref p_leaps, .int (zI (p_stepCount)), .int (zI (0)), .int (zI (p_top)), .int (zI (p_round)), .int (zI (p_barredCount)), .int (zI (p_ax)), .int (zI (p_ay)), .int (zI (p_bx)), .int (zI (p_by)), .ref p_barred, .ref p_passable]] ∧ (True)) := by
  refine zMet_of (cc := cX6_closeRing) (nL := 6) (ret := none) (by decide) rfl (Nat.le_of_ble_eq_true rfl) ?_
  rintro C rfl rfl rfl hC hR
  have hinX4 : ∀ w ∈ u_ws RX4 TX4 15, w ∈ wsX6_closeRing := by decide +kernel
  have hinX6 : ∀ w ∈ u_ws RX6 TX6 4, w ∈ wsX6_closeRing := by decide +kernel
  show ZW C 0 0 [wO w 6 [.ref p, .ref w_layers, .ref w_spreading, .int (zI (w_ready))], wO p 4 [.ref p_dx, .ref p_dy, .ref p_weights, .ref p_leaps, .int (zI (p_stepCount)), .int (zI (0)), .int (zI (p_top)), .int (zI (p_round)), .int (zI (p_barredCount)), .int (zI (p_ax)), .int (zI (p_ay)), .int (zI (p_bx)), .int (zI (p_by)), .ref p_barred, .ref p_passable]] [(0, .ref w), (1, .ref a), (2, .int (zI (base)))] 0 []
  refine z_aload_n hC 0 dX6_closeRing_0 rfl rfl ?_
  refine z_get hC (T := TX6) (N := 4) hinX6 0 0 dX6_closeRing_1 rfl rfl (by decide) (List.mem_of_getElem? (i := 1) rfl) rfl rfl ?_
  refine z_get hC (T := TX4) (N := 15) hinX4 1 5 dX6_closeRing_4 rfl rfl (by decide) (List.mem_of_getElem? (i := 2) rfl) rfl rfl ?_
  refine z_iconst hC dX6_closeRing_7 ?_
  refine z_icne hC 22 dX6_closeRing_8 (by decide) (by omega) (fun c_1 => ?_) (fun c_1 => by exfalso; omega)
  exact z_vret hC hR dX6_closeRing_22 (Nat.le_of_ble_eq_true rfl) (Nat.le_of_ble_eq_true rfl) ⟨rfl, rfl, by trivial⟩

set_option maxHeartbeats 4000000 in
set_option maxRecDepth 100000 in
theorem c_X6_onward (l : Launch) (D : va_G) (K : ClassId × ClassId × ClassId × ClassId) (w p a w_spreading : Nat) (left cell w_ready : Int) (g : Int → Int) (hleft : zR left) (hcell : zR cell) (hrd : 0 ≤ w_ready ∧ w_ready ≤ 61) : zMet l D K yX6_onward wsX6_onward ({ frames := 0, cells := 0, slots := 0, locals := 0 }) 0 0 [.ref w, .int (zI (left)), .int (zI (cell))] [wO w 6 [.ref p, .ref a, .ref w_spreading, .int (zI (w_ready))], wJ a K.2.2.1 273829 g] (fun vr_ wr_ => ∃ (r : Int), vr_ = some (.long (zL (r))) ∧ wr_ = [wO w 6 [.ref p, .ref a, .ref w_spreading, .int (zI (w_ready))], wJ a K.2.2.1 273829 g] ∧ ((0 ≤ left ∧ left < w_ready ∧ 0 ≤ cell ∧ cell < 4489 ∧ r = g (left * 4489 + cell)) ∨ (¬ (0 ≤ left ∧ left < w_ready ∧ 0 ≤ cell ∧ cell < 4489) ∧ r = 0))) := by
  refine zMet_of (cc := cX6_onward) (nL := 3) (ret := (some .long)) (by decide) rfl (Nat.le_of_ble_eq_true rfl) ?_
  rintro C rfl rfl rfl hC hR
  have hinX6 : ∀ w ∈ u_ws RX6 TX6 4, w ∈ wsX6_onward := by decide +kernel
  show ZW C 0 0 [wO w 6 [.ref p, .ref a, .ref w_spreading, .int (zI (w_ready))], wJ a (zK C).2.2.1 273829 g] [(0, .ref w), (1, .int (zI (left))), (2, .int (zI (cell)))] 0 []
  refine z_iload_n hC 1 dX6_onward_0 rfl rfl ?_
  refine z_iflt hC 29 dX6_onward_1 (by decide) (by omega) (fun c_1 => ?_) (fun c_1 => ?_)
  · skip
    refine z_lconst (v := 0) hC dX6_onward_29 rfl ?_
    exact z_lret hC hR dX6_onward_30 (Nat.le_of_ble_eq_true rfl) (Nat.le_of_ble_eq_true rfl) ⟨0, rfl, rfl, by omega⟩
  · skip
    refine z_iload_n hC 1 dX6_onward_4 rfl rfl ?_
    refine z_aload_n hC 0 dX6_onward_5 rfl rfl ?_
    refine z_get hC (T := TX6) (N := 4) hinX6 0 3 dX6_onward_6 rfl rfl (by decide) (List.mem_of_getElem? (i := 1) rfl) rfl rfl ?_
    refine z_icge hC 29 dX6_onward_9 (by decide) (by omega) (fun c_2 => ?_) (fun c_2 => ?_)
    · skip
      refine z_lconst (v := 0) hC dX6_onward_29 rfl ?_
      exact z_lret hC hR dX6_onward_30 (Nat.le_of_ble_eq_true rfl) (Nat.le_of_ble_eq_true rfl) ⟨0, rfl, rfl, by omega⟩
    · skip
      refine z_iload_n hC 1 dX6_onward_12 rfl rfl ?_
      refine z_bipush hC dX6_onward_13 (by decide) ?_
      refine z_icgt hC 29 dX6_onward_15 (by decide) (by omega) (fun c_3 => by exfalso; omega) (fun c_3 => ?_)
      refine z_iload_n hC 2 dX6_onward_18 rfl rfl ?_
      refine z_iflt hC 29 dX6_onward_19 (by decide) (by omega) (fun c_4 => ?_) (fun c_4 => ?_)
      · skip
        refine z_lconst (v := 0) hC dX6_onward_29 rfl ?_
        exact z_lret hC hR dX6_onward_30 (Nat.le_of_ble_eq_true rfl) (Nat.le_of_ble_eq_true rfl) ⟨0, rfl, rfl, by omega⟩
      · skip
        refine z_iload_n hC 2 dX6_onward_22 rfl rfl ?_
        refine z_sipush hC dX6_onward_23 (by decide) ?_
        refine z_iclt hC 31 dX6_onward_26 (by decide) (by omega) (fun c_5 => ?_) (fun c_5 => ?_)
        · skip
          refine z_aload_n hC 0 dX6_onward_31 rfl rfl ?_
          refine z_get hC (T := TX6) (N := 4) hinX6 0 1 dX6_onward_32 rfl rfl (by decide) (List.mem_of_getElem? (i := 2) rfl) rfl rfl ?_
          refine z_iload_n hC 1 dX6_onward_35 rfl rfl ?_
          refine z_sipush hC dX6_onward_36 (by decide) ?_
          refine z_imul hC (left * 4489) dX6_onward_39 rfl ?_
          refine z_iload_n hC 2 dX6_onward_40 rfl rfl ?_
          refine z_iadd hC ((left * 4489) + cell) dX6_onward_41 rfl ?_
          refine z_lald hC 1 dX6_onward_42 rfl (by omega) ?_
          exact z_lret hC hR dX6_onward_43 (Nat.le_of_ble_eq_true rfl) (Nat.le_of_ble_eq_true rfl) ⟨g ((left * 4489) + cell), rfl, rfl, by omega⟩
        · skip
          refine z_lconst (v := 0) hC dX6_onward_29 rfl ?_
          exact z_lret hC hR dX6_onward_30 (Nat.le_of_ble_eq_true rfl) (Nat.le_of_ble_eq_true rfl) ⟨0, rfl, rfl, by omega⟩

set_option maxHeartbeats 4000000 in
set_option maxRecDepth 100000 in
theorem c_X6_sumAheadL (l : Launch) (D : va_G) (K : ClassId × ClassId × ClassId × ClassId) (w a p w_layers w_spreading p_dx p_dy p_weights p_leaps p_barred p_passable : Nat) (here w_ready p_kind p_top p_round p_barredCount p_ax p_ay p_bx p_by : Int) (lp g : Int → Int) (hlp : ∀ k, 0 ≤ k → k < 8 → lp k = slp k) (hh : 67 ≤ here ∧ here + 67 < 273829) (hg : ∀ j, 0 ≤ j → j < 273829 → 0 ≤ g j ∧ g j ≤ 4611686018427387904) : zMet l D K yX6_sumAhead wsX6_sumAhead ({ frames := 1, cells := 0, slots := 0, locals := 15 }) 0 0 [.ref w, .ref a, .int (zI (here))] [wO w 6 [.ref p, .ref w_layers, .ref w_spreading, .int (zI (w_ready))], wO p 4 [.ref p_dx, .ref p_dy, .ref p_weights, .ref p_leaps, .int (zI (4)), .int (zI (p_kind)), .int (zI (p_top)), .int (zI (p_round)), .int (zI (p_barredCount)), .int (zI (p_ax)), .int (zI (p_ay)), .int (zI (p_bx)), .int (zI (p_by)), .ref p_barred, .ref p_passable], wI p_leaps K.2.1 8 lp, wJ a K.2.2.1 273829 g] (fun vr_ wr_ => ∃ (r : Int), vr_ = some (.long (zL (r))) ∧ wr_ = [wO w 6 [.ref p, .ref w_layers, .ref w_spreading, .int (zI (w_ready))], wO p 4 [.ref p_dx, .ref p_dy, .ref p_weights, .ref p_leaps, .int (zI (4)), .int (zI (p_kind)), .int (zI (p_top)), .int (zI (p_round)), .int (zI (p_barredCount)), .int (zI (p_ax)), .int (zI (p_ay)), .int (zI (p_bx)), .int (zI (p_by)), .ref p_barred, .ref p_passable], wI p_leaps K.2.1 8 lp, wJ a K.2.2.1 273829 g] ∧ (r = min (sumZ (fun k => g (here + slp k)) 4) 4611686018427387904)) := by
  refine zMet_of (cc := cX6_sumAhead) (nL := 6) (ret := (some .long)) (by decide) rfl (Nat.le_of_ble_eq_true rfl) ?_
  rintro C rfl rfl rfl hC hR
  have hinX4 : ∀ w ∈ u_ws RX4 TX4 15, w ∈ wsX6_sumAhead := by decide +kernel
  have hinX6 : ∀ w ∈ u_ws RX6 TX6 4, w ∈ wsX6_sumAhead := by decide +kernel
  show ZW C 0 0 [wO w 6 [.ref p, .ref w_layers, .ref w_spreading, .int (zI (w_ready))], wO p 4 [.ref p_dx, .ref p_dy, .ref p_weights, .ref p_leaps, .int (zI (4)), .int (zI (p_kind)), .int (zI (p_top)), .int (zI (p_round)), .int (zI (p_barredCount)), .int (zI (p_ax)), .int (zI (p_ay)), .int (zI (p_bx)), .int (zI (p_by)), .ref p_barred, .ref p_passable], wI p_leaps (zK C).2.1 8 lp, wJ a (zK C).2.2.1 273829 g] [(0, .ref w), (1, .ref a), (2, .int (zI (here)))] 0 []
  refine z_lconst (v := 0) hC dX6_sumAhead_0 rfl ?_
  refine z_lstore_n hC [(3, .long (zL (0))), (0, .ref w), (1, .ref a), (2, .int (zI (here)))] dX6_sumAhead_1 rfl (by decide) rfl ?_
  refine z_iconst hC dX6_sumAhead_2 ?_
  refine z_istore hC [(5, .int (zI (0))), (3, .long (zL (0))), (0, .ref w), (1, .ref a), (2, .int (zI (here)))] dX6_sumAhead_3 (by decide) rfl ?_
  refine z_lv (lv' := [(0, .ref w), (1, .ref a), (2, .int (zI (here))), (3, .long (zL (0))), (5, .int (zI (0)))]) [2, 3, 4, 1, 0] rfl ?_
  have lp5_1 : ∀ (f3 : Nat) (sm : Int) (k : Int), (0 ≤ k ∧ k ≤ 4) → (0 ≤ sm ∧ sm < 9223372036854775808) → (sm = sumZ (fun k => g (here + slp k)) k.toNat) → (4 - k).toNat < f3 → ZW C 0 0 [wO w 6 [.ref p, .ref w_layers, .ref w_spreading, .int (zI (w_ready))], wO p 4 [.ref p_dx, .ref p_dy, .ref p_weights, .ref p_leaps, .int (zI (4)), .int (zI (p_kind)), .int (zI (p_top)), .int (zI (p_round)), .int (zI (p_barredCount)), .int (zI (p_ax)), .int (zI (p_ay)), .int (zI (p_bx)), .int (zI (p_by)), .ref p_barred, .ref p_passable], wI p_leaps (zK C).2.1 8 lp, wJ a (zK C).2.2.1 273829 g] [(0, .ref w), (1, .ref a), (2, .int (zI (here))), (3, .long (zL (sm))), (5, .int (zI (k)))] 5 [] := by
    intro f3
    induction f3 with
    | zero => intro _ _ _ _ _ hf; exact absurd hf (Nat.not_lt_zero _)
    | succ f3 ih5_2 =>
      intro sm k vk vs vs2 hf_5
      refine z_iload hC 4 dX6_sumAhead_5 rfl ?_
      refine z_aload_n hC 0 dX6_sumAhead_7 rfl rfl ?_
      refine z_get hC (T := TX6) (N := 4) hinX6 0 0 dX6_sumAhead_8 rfl rfl (by decide) (List.mem_of_getElem? (i := 1) rfl) rfl rfl ?_
      refine z_get hC (T := TX4) (N := 15) hinX4 1 4 dX6_sumAhead_11 rfl rfl (by decide) (List.mem_of_getElem? (i := 2) rfl) rfl rfl ?_
      refine z_icge hC 48 dX6_sumAhead_14 (by decide) (by omega) (fun c_4 => ?_) (fun c_4 => ?_)
      · skip
        refine z_lload_n hC 3 dX6_sumAhead_48 rfl rfl ?_
        refine z_ldc2 (v := 4611686018427387904) hC (List.mem_of_getElem? (i := 3) rfl) rfl dX6_sumAhead_49 ?_
        refine z_mminL hC dX6_sumAhead_52 (List.mem_of_getElem? (i := 5) rfl) (List.mem_of_getElem? (i := 6) rfl) (List.mem_of_getElem? (i := 7) rfl) (List.mem_of_getElem? (i := 8) rfl) (by omega) (Nat.le_of_ble_eq_true rfl) (Nat.le_of_ble_eq_true rfl) (Nat.le_of_ble_eq_true rfl) (Nat.le_of_ble_eq_true rfl) ?_
        exact z_lret hC hR dX6_sumAhead_55 (Nat.le_of_ble_eq_true rfl) (Nat.le_of_ble_eq_true rfl) ⟨min sm 4611686018427387904, rfl, rfl, by exact sumA_fin vk.1 vk.2 vs2 (fun k h0 h1 => (hg _ (by have := slp_c k; omega) (by have := slp_c k; omega)).1) (by omega)⟩
      · skip
        refine z_lload_n hC 3 dX6_sumAhead_17 rfl rfl ?_
        refine z_ldc2 (v := 4611686018427387904) hC (List.mem_of_getElem? (i := 3) rfl) rfl dX6_sumAhead_18 ?_
        refine z_lcge hC 48 dX6_sumAhead_21 dX6_sumAhead_22 (by decide) (by omega) (fun c_5 => ?_) (fun c_5 => ?_)
        · skip
          refine z_lload_n hC 3 dX6_sumAhead_48 rfl rfl ?_
          refine z_ldc2 (v := 4611686018427387904) hC (List.mem_of_getElem? (i := 3) rfl) rfl dX6_sumAhead_49 ?_
          refine z_mminL hC dX6_sumAhead_52 (List.mem_of_getElem? (i := 5) rfl) (List.mem_of_getElem? (i := 6) rfl) (List.mem_of_getElem? (i := 7) rfl) (List.mem_of_getElem? (i := 8) rfl) (by omega) (Nat.le_of_ble_eq_true rfl) (Nat.le_of_ble_eq_true rfl) (Nat.le_of_ble_eq_true rfl) (Nat.le_of_ble_eq_true rfl) ?_
          exact z_lret hC hR dX6_sumAhead_55 (Nat.le_of_ble_eq_true rfl) (Nat.le_of_ble_eq_true rfl) ⟨min sm 4611686018427387904, rfl, rfl, by exact sumA_fin vk.1 vk.2 vs2 (fun k h0 h1 => (hg _ (by have := slp_c k; omega) (by have := slp_c k; omega)).1) (by omega)⟩
        · skip
          refine z_lload_n hC 3 dX6_sumAhead_25 rfl rfl ?_
          refine z_aload_n hC 1 dX6_sumAhead_26 rfl rfl ?_
          refine z_iload_n hC 2 dX6_sumAhead_27 rfl rfl ?_
          refine z_aload_n hC 0 dX6_sumAhead_28 rfl rfl ?_
          refine z_get hC (T := TX6) (N := 4) hinX6 0 0 dX6_sumAhead_29 rfl rfl (by decide) (List.mem_of_getElem? (i := 1) rfl) rfl rfl ?_
          refine z_get hC (T := TX4) (N := 15) hinX4 1 3 dX6_sumAhead_32 rfl rfl (by decide) (List.mem_of_getElem? (i := 4) rfl) rfl rfl ?_
          refine z_iload hC 4 dX6_sumAhead_35 rfl ?_
          refine z_iald hC 2 dX6_sumAhead_37 rfl (by omega) ?_
          have l_6 := hlp k (by omega) (by omega)
          have l_7 := slp_c k
          refine z_iadd hC (here + (lp k)) dX6_sumAhead_38 rfl ?_
          refine z_lald hC 3 dX6_sumAhead_39 rfl (by omega) ?_
          have l_8 := hg (here + (lp k)) (by omega) (by omega)
          refine z_ladd hC (sm + (g (here + (lp k)))) dX6_sumAhead_40 rfl ?_
          refine z_lstore_n hC [(3, .long (zL (sm + (g (here + (lp k)))))), (0, .ref w), (1, .ref a), (2, .int (zI (here))), (5, .int (zI (k)))] dX6_sumAhead_41 rfl (by decide) rfl ?_
          refine z_iinc (a := k) (v := 1) (r := k + 1) hC 4 [(5, .int (zI (k + 1))), (3, .long (zL (sm + (g (here + (lp k)))))), (0, .ref w), (1, .ref a), (2, .int (zI (here)))] dX6_sumAhead_42 rfl rfl (by decide) rfl ?_
          refine z_goto hC 5 dX6_sumAhead_45 (by decide) ?_
          refine z_lv (lv' := [(0, .ref w), (1, .ref a), (2, .int (zI (here))), (3, .long (zL (sm + (g (here + (lp k)))))), (5, .int (zI (k + 1)))]) [2, 3, 4, 1, 0] rfl ?_
          exact ih5_2 (sm + (g (here + (lp k)))) (k + 1) (by omega) (by omega) (by rw [sumZ_s (by omega), ← vs2, hlp k (by omega) (by omega)]) (by omega)
  exact lp5_1 _ 0 0 (by omega) (by omega) (by rfl) (Nat.lt_succ_self _)

set_option maxHeartbeats 4000000 in
set_option maxRecDepth 100000 in
theorem c_X6_beginL (l : Launch) (D : va_G) (K : ClassId × ClassId × ClassId × ClassId) (w a p w_layers w_spreading p_dx p_dy p_weights p_leaps p_barred p_passable : Nat) (fs en w_ready p_stepCount p_top p_round p_barredCount p_ax p_ay p_bx p_by : Int) (pas g : Int → Int) (hfs : zR fs) (hen : zR en) (hp : ∀ j, 0 ≤ j → j < 4489 → pas j = oP j) : zMet l D K yX6_begin wsX6_begin ({ frames := 1, cells := 0, slots := 0, locals := 25 }) 0 0 [.ref w, .ref a, .int (zI (fs)), .int (zI (en))] [wO w 6 [.ref p, .ref w_layers, .ref w_spreading, .int (zI (w_ready))], wO p 4 [.ref p_dx, .ref p_dy, .ref p_weights, .ref p_leaps, .int (zI (p_stepCount)), .int (zI (0)), .int (zI (p_top)), .int (zI (p_round)), .int (zI (p_barredCount)), .int (zI (p_ax)), .int (zI (p_ay)), .int (zI (p_bx)), .int (zI (p_by)), .ref p_barred, .ref p_passable], wI p_passable K.1 4489 pas, wJ a K.2.2.1 273829 g] (fun vr_ wr_ => ∃ (g2 : Int → Int), vr_ = none ∧ wr_ = [wO w 6 [.ref p, .ref w_layers, .ref w_spreading, .int (zI (w_ready))], wO p 4 [.ref p_dx, .ref p_dy, .ref p_weights, .ref p_leaps, .int (zI (p_stepCount)), .int (zI (0)), .int (zI (p_top)), .int (zI (p_round)), .int (zI (p_barredCount)), .int (zI (p_ax)), .int (zI (p_ay)), .int (zI (p_bx)), .int (zI (p_by)), .ref p_barred, .ref p_passable], wI p_passable K.1 4489 pas, wJ a K.2.2.1 273829 g2] ∧ ((∀ j, 0 ≤ j → j < 4489 → g2 j = if fs ≤ j ∧ j < en ∧ oP j = 1 then 1 else 0) ∧ (∀ j, 4489 ≤ j → g2 j = g j))) := by
  refine zMet_of (cc := cX6_begin) (nL := 5) (ret := none) (by decide) rfl (Nat.le_of_ble_eq_true rfl) ?_
  rintro C rfl rfl rfl hC hR
  have hinX6 : ∀ w ∈ u_ws RX6 TX6 4, w ∈ wsX6_begin := by decide +kernel
  show ZW C 0 0 [wO w 6 [.ref p, .ref w_layers, .ref w_spreading, .int (zI (w_ready))], wO p 4 [.ref p_dx, .ref p_dy, .ref p_weights, .ref p_leaps, .int (zI (p_stepCount)), .int (zI (0)), .int (zI (p_top)), .int (zI (p_round)), .int (zI (p_barredCount)), .int (zI (p_ax)), .int (zI (p_ay)), .int (zI (p_bx)), .int (zI (p_by)), .ref p_barred, .ref p_passable], wI p_passable (zK C).1 4489 pas, wJ a (zK C).2.2.1 273829 g] [(0, .ref w), (1, .ref a), (2, .int (zI (fs))), (3, .int (zI (en)))] 0 []
  refine z_iconst hC dX6_begin_0 ?_
  refine z_istore hC [(4, .int (zI (0))), (0, .ref w), (1, .ref a), (2, .int (zI (fs))), (3, .int (zI (en)))] dX6_begin_1 (by decide) rfl ?_
  refine z_lv (lv' := [(0, .ref w), (1, .ref a), (2, .int (zI (fs))), (3, .int (zI (en))), (4, .int (zI (0)))]) [1, 2, 3, 4, 0] rfl ?_
  have lp3_1 : ∀ (f3 : Nat) (i : Int) (q : Int → Int), (0 ≤ i ∧ i ≤ 4489) → (∀ j, 0 ≤ j → j < i → q j = if fs ≤ j ∧ j < en ∧ oP j = 1 then 1 else 0) → (∀ j, i ≤ j → q j = g j) → (4489 - i).toNat < f3 → ZW C 0 0 [wO w 6 [.ref p, .ref w_layers, .ref w_spreading, .int (zI (w_ready))], wO p 4 [.ref p_dx, .ref p_dy, .ref p_weights, .ref p_leaps, .int (zI (p_stepCount)), .int (zI (0)), .int (zI (p_top)), .int (zI (p_round)), .int (zI (p_barredCount)), .int (zI (p_ax)), .int (zI (p_ay)), .int (zI (p_bx)), .int (zI (p_by)), .ref p_barred, .ref p_passable], wI p_passable (zK C).1 4489 pas, wJ a (zK C).2.2.1 273829 q] [(0, .ref w), (1, .ref a), (2, .int (zI (fs))), (3, .int (zI (en))), (4, .int (zI (i)))] 3 [] := by
    intro f3
    induction f3 with
    | zero => intro _ _ _ _ _ hf; exact absurd hf (Nat.not_lt_zero _)
    | succ f3 ih3_2 =>
      intro i q vi vq vo hf_3
      refine z_iload hC 4 dX6_begin_3 rfl ?_
      refine z_sipush hC dX6_begin_5 (by decide) ?_
      refine z_icge hC 50 dX6_begin_8 (by decide) (by omega) (fun c_4 => ?_) (fun c_4 => ?_)
      · skip
        refine z_aload_n hC 0 dX6_begin_50 rfl rfl ?_
        refine z_aload_n hC 1 dX6_begin_51 rfl rfl ?_
        refine z_iconst hC dX6_begin_52 ?_
        refine z_callV hC [.ref a, .int (zI (0))] 2 0 dX6_begin_53 (c_X6_closeRing (zl C) (zD C) (zK C) w a p w_layers w_spreading p_dx p_dy p_weights p_leaps p_barred p_passable 0 w_ready p_stepCount p_top p_round p_barredCount p_ax p_ay p_bx p_by ) gX6_begin_X6_closeRing rfl rfl rfl ⟨by decide, by decide, by decide +kernel⟩ ⟨(Nat.le_of_ble_eq_true rfl), (Nat.le_of_ble_eq_true rfl)⟩ rfl rfl rfl rfl [0, 1] [2, 3] [wI p_passable (zK C).1 4489 pas, wJ a (zK C).2.2.1 273829 q] [] rfl rfl rfl rfl rfl (by decide) (Nat.le_of_ble_eq_true rfl) ⟨(Nat.le_of_ble_eq_true rfl), (Nat.le_of_ble_eq_true rfl)⟩ ?_
        rintro v_ w_ ⟨rfl, rfl, h_53_5⟩
        show ZW C 0 0 [wI p_passable (zK C).1 4489 pas, wJ a (zK C).2.2.1 273829 q, wO w 6 [.ref p, .ref w_layers, .ref w_spreading, .int (zI (w_ready))], wO p 4 [.ref p_dx, .ref p_dy, .ref p_weights, .ref p_leaps, .int (zI (p_stepCount)), .int (zI (0)), .int (zI (p_top)), .int (zI (p_round)), .int (zI (p_barredCount)), .int (zI (p_ax)), .int (zI (p_ay)), .int (zI (p_bx)), .int (zI (p_by)), .ref p_barred, .ref p_passable]] [(0, .ref w), (1, .ref a), (2, .int (zI (fs))), (3, .int (zI (en))), (4, .int (zI (i)))] 56 []
        refine z_ws (ws' := [wO w 6 [.ref p, .ref w_layers, .ref w_spreading, .int (zI (w_ready))], wO p 4 [.ref p_dx, .ref p_dy, .ref p_weights, .ref p_leaps, .int (zI (p_stepCount)), .int (zI (0)), .int (zI (p_top)), .int (zI (p_round)), .int (zI (p_barredCount)), .int (zI (p_ax)), .int (zI (p_ay)), .int (zI (p_bx)), .int (zI (p_by)), .ref p_barred, .ref p_passable], wI p_passable (zK C).1 4489 pas, wJ a (zK C).2.2.1 273829 q]) [2, 3, 0, 1] rfl rfl ?_
        exact z_vret hC hR dX6_begin_56 (Nat.le_of_ble_eq_true rfl) (Nat.le_of_ble_eq_true rfl) ⟨q, rfl, rfl, by exact ⟨fun j h0 h1 => vq j h0 (by omega), fun j h0 => vo j (by omega)⟩⟩
      · skip
        refine z_aload_n hC 1 dX6_begin_11 rfl rfl ?_
        refine z_iload hC 4 dX6_begin_12 rfl ?_
        refine z_iload hC 4 dX6_begin_14 rfl ?_
        refine z_iload_n hC 2 dX6_begin_16 rfl rfl ?_
        refine z_iclt hC 42 dX6_begin_17 (by decide) (by omega) (fun c_6 => ?_) (fun c_6 => ?_)
        · skip
          refine z_lconst (v := 0) hC dX6_begin_42 rfl ?_
          refine z_last hC 3 [wO w 6 [.ref p, .ref w_layers, .ref w_spreading, .int (zI (w_ready))], wO p 4 [.ref p_dx, .ref p_dy, .ref p_weights, .ref p_leaps, .int (zI (p_stepCount)), .int (zI (0)), .int (zI (p_top)), .int (zI (p_round)), .int (zI (p_barredCount)), .int (zI (p_ax)), .int (zI (p_ay)), .int (zI (p_bx)), .int (zI (p_by)), .ref p_barred, .ref p_passable], wI p_passable (zK C).1 4489 pas, wJ a (zK C).2.2.1 273829 (zu q i 0)] dX6_begin_43 rfl (by omega) rfl ?_
          refine z_iinc (a := i) (v := 1) (r := i + 1) hC 4 [(4, .int (zI (i + 1))), (0, .ref w), (1, .ref a), (2, .int (zI (fs))), (3, .int (zI (en)))] dX6_begin_44 rfl rfl (by decide) rfl ?_
          refine z_goto hC 3 dX6_begin_47 (by decide) ?_
          refine z_lv (lv' := [(0, .ref w), (1, .ref a), (2, .int (zI (fs))), (3, .int (zI (en))), (4, .int (zI (i + 1)))]) [1, 2, 3, 4, 0] rfl ?_
          exact ih3_2 (i + 1) (zu q i 0) (by omega) (by intro j h0 h1; unfold zu; by_cases e : j = i; (rw [if_pos e, e]; have e2 := hp i (by omega) (by omega); split <;> omega); (rw [if_neg e]; exact vq j h0 (by omega))) (by intro j h0; unfold zu; rw [if_neg (by omega)]; exact vo j (by omega)) (by omega)
        · skip
          refine z_iload hC 4 dX6_begin_20 rfl ?_
          refine z_iload_n hC 3 dX6_begin_22 rfl rfl ?_
          refine z_icge hC 42 dX6_begin_23 (by decide) (by omega) (fun c_7 => ?_) (fun c_7 => ?_)
          · skip
            refine z_lconst (v := 0) hC dX6_begin_42 rfl ?_
            refine z_last hC 3 [wO w 6 [.ref p, .ref w_layers, .ref w_spreading, .int (zI (w_ready))], wO p 4 [.ref p_dx, .ref p_dy, .ref p_weights, .ref p_leaps, .int (zI (p_stepCount)), .int (zI (0)), .int (zI (p_top)), .int (zI (p_round)), .int (zI (p_barredCount)), .int (zI (p_ax)), .int (zI (p_ay)), .int (zI (p_bx)), .int (zI (p_by)), .ref p_barred, .ref p_passable], wI p_passable (zK C).1 4489 pas, wJ a (zK C).2.2.1 273829 (zu q i 0)] dX6_begin_43 rfl (by omega) rfl ?_
            refine z_iinc (a := i) (v := 1) (r := i + 1) hC 4 [(4, .int (zI (i + 1))), (0, .ref w), (1, .ref a), (2, .int (zI (fs))), (3, .int (zI (en)))] dX6_begin_44 rfl rfl (by decide) rfl ?_
            refine z_goto hC 3 dX6_begin_47 (by decide) ?_
            refine z_lv (lv' := [(0, .ref w), (1, .ref a), (2, .int (zI (fs))), (3, .int (zI (en))), (4, .int (zI (i + 1)))]) [1, 2, 3, 4, 0] rfl ?_
            exact ih3_2 (i + 1) (zu q i 0) (by omega) (by intro j h0 h1; unfold zu; by_cases e : j = i; (rw [if_pos e, e]; have e2 := hp i (by omega) (by omega); split <;> omega); (rw [if_neg e]; exact vq j h0 (by omega))) (by intro j h0; unfold zu; rw [if_neg (by omega)]; exact vo j (by omega)) (by omega)
          · skip
            refine z_aload_n hC 0 dX6_begin_26 rfl rfl ?_
            refine z_get hC (T := TX6) (N := 4) hinX6 0 0 dX6_begin_27 rfl rfl (by decide) (List.mem_of_getElem? (i := 1) rfl) rfl rfl ?_
            refine z_iload hC 4 dX6_begin_30 rfl ?_
            refine z_callV hC [.int (zI (i))] 1 0 dX6_begin_32 (c_X4_isPassable (zl C) (zD C) (zK C) p p_dx p_dy p_weights p_leaps p_barred p_passable i p_stepCount 0 p_top p_round p_barredCount p_ax p_ay p_bx p_by pas (by first | assumption | omega) (by intro j h0 h1; rw [hp j h0 h1]; exact oP_01 j)) gX6_begin_X4_isPassable rfl rfl rfl ⟨by decide, by decide, by decide +kernel⟩ ⟨(Nat.le_of_ble_eq_true rfl), (Nat.le_of_ble_eq_true rfl)⟩ rfl rfl rfl rfl [1, 2] [0, 3] [wO w 6 [.ref p, .ref w_layers, .ref w_spreading, .int (zI (w_ready))], wJ a (zK C).2.2.1 273829 q] [.int (zI (i)), .ref a] rfl rfl rfl rfl rfl (by decide) (Nat.le_of_ble_eq_true rfl) ⟨(Nat.le_of_ble_eq_true rfl), (Nat.le_of_ble_eq_true rfl)⟩ ?_
            rintro v_ w_ ⟨r_8, rfl, rfl, h_32_9⟩
            show ZW C 0 0 [wO w 6 [.ref p, .ref w_layers, .ref w_spreading, .int (zI (w_ready))], wJ a (zK C).2.2.1 273829 q, wO p 4 [.ref p_dx, .ref p_dy, .ref p_weights, .ref p_leaps, .int (zI (p_stepCount)), .int (zI (0)), .int (zI (p_top)), .int (zI (p_round)), .int (zI (p_barredCount)), .int (zI (p_ax)), .int (zI (p_ay)), .int (zI (p_bx)), .int (zI (p_by)), .ref p_barred, .ref p_passable], wI p_passable (zK C).1 4489 pas] [(0, .ref w), (1, .ref a), (2, .int (zI (fs))), (3, .int (zI (en))), (4, .int (zI (i)))] 35 [.int (zI (r_8)), .int (zI (i)), .ref a]
            refine z_ifeq hC 42 dX6_begin_35 (by decide) (by omega) (fun c_10 => ?_) (fun c_10 => ?_)
            · skip
              refine z_lconst (v := 0) hC dX6_begin_42 rfl ?_
              refine z_last hC 1 [wO w 6 [.ref p, .ref w_layers, .ref w_spreading, .int (zI (w_ready))], wJ a (zK C).2.2.1 273829 (zu q i 0), wO p 4 [.ref p_dx, .ref p_dy, .ref p_weights, .ref p_leaps, .int (zI (p_stepCount)), .int (zI (0)), .int (zI (p_top)), .int (zI (p_round)), .int (zI (p_barredCount)), .int (zI (p_ax)), .int (zI (p_ay)), .int (zI (p_bx)), .int (zI (p_by)), .ref p_barred, .ref p_passable], wI p_passable (zK C).1 4489 pas] dX6_begin_43 rfl (by omega) rfl ?_
              refine z_iinc (a := i) (v := 1) (r := i + 1) hC 4 [(4, .int (zI (i + 1))), (0, .ref w), (1, .ref a), (2, .int (zI (fs))), (3, .int (zI (en)))] dX6_begin_44 rfl rfl (by decide) rfl ?_
              refine z_goto hC 3 dX6_begin_47 (by decide) ?_
              refine z_lv (lv' := [(0, .ref w), (1, .ref a), (2, .int (zI (fs))), (3, .int (zI (en))), (4, .int (zI (i + 1)))]) [1, 2, 3, 4, 0] rfl ?_
              refine z_ws (ws' := [wO w 6 [.ref p, .ref w_layers, .ref w_spreading, .int (zI (w_ready))], wO p 4 [.ref p_dx, .ref p_dy, .ref p_weights, .ref p_leaps, .int (zI (p_stepCount)), .int (zI (0)), .int (zI (p_top)), .int (zI (p_round)), .int (zI (p_barredCount)), .int (zI (p_ax)), .int (zI (p_ay)), .int (zI (p_bx)), .int (zI (p_by)), .ref p_barred, .ref p_passable], wI p_passable (zK C).1 4489 pas, wJ a (zK C).2.2.1 273829 (zu q i 0)]) [0, 2, 3, 1] rfl rfl ?_
              exact ih3_2 (i + 1) (zu q i 0) (by omega) (by intro j h0 h1; unfold zu; by_cases e : j = i; (rw [if_pos e, e]; have e2 := hp i (by omega) (by omega); split <;> omega); (rw [if_neg e]; exact vq j h0 (by omega))) (by intro j h0; unfold zu; rw [if_neg (by omega)]; exact vo j (by omega)) (by omega)
            · skip
              refine z_lconst (v := 1) hC dX6_begin_38 rfl ?_
              refine z_goto hC 43 dX6_begin_39 (by decide) ?_
              refine z_last hC 1 [wO w 6 [.ref p, .ref w_layers, .ref w_spreading, .int (zI (w_ready))], wJ a (zK C).2.2.1 273829 (zu q i 1), wO p 4 [.ref p_dx, .ref p_dy, .ref p_weights, .ref p_leaps, .int (zI (p_stepCount)), .int (zI (0)), .int (zI (p_top)), .int (zI (p_round)), .int (zI (p_barredCount)), .int (zI (p_ax)), .int (zI (p_ay)), .int (zI (p_bx)), .int (zI (p_by)), .ref p_barred, .ref p_passable], wI p_passable (zK C).1 4489 pas] dX6_begin_43 rfl (by omega) rfl ?_
              refine z_iinc (a := i) (v := 1) (r := i + 1) hC 4 [(4, .int (zI (i + 1))), (0, .ref w), (1, .ref a), (2, .int (zI (fs))), (3, .int (zI (en)))] dX6_begin_44 rfl rfl (by decide) rfl ?_
              refine z_goto hC 3 dX6_begin_47 (by decide) ?_
              refine z_lv (lv' := [(0, .ref w), (1, .ref a), (2, .int (zI (fs))), (3, .int (zI (en))), (4, .int (zI (i + 1)))]) [1, 2, 3, 4, 0] rfl ?_
              refine z_ws (ws' := [wO w 6 [.ref p, .ref w_layers, .ref w_spreading, .int (zI (w_ready))], wO p 4 [.ref p_dx, .ref p_dy, .ref p_weights, .ref p_leaps, .int (zI (p_stepCount)), .int (zI (0)), .int (zI (p_top)), .int (zI (p_round)), .int (zI (p_barredCount)), .int (zI (p_ax)), .int (zI (p_ay)), .int (zI (p_bx)), .int (zI (p_by)), .ref p_barred, .ref p_passable], wI p_passable (zK C).1 4489 pas, wJ a (zK C).2.2.1 273829 (zu q i 1)]) [0, 2, 3, 1] rfl rfl ?_
              exact ih3_2 (i + 1) (zu q i 1) (by omega) (by intro j h0 h1; unfold zu; by_cases e : j = i; (rw [if_pos e, e]; have e2 := hp i (by omega) (by omega); split <;> omega); (rw [if_neg e]; exact vq j h0 (by omega))) (by intro j h0; unfold zu; rw [if_neg (by omega)]; exact vo j (by omega)) (by omega)
  exact lp3_1 _ 0 g (by omega) (by intro j h0 h1; omega) (by intro j _; rfl) (Nat.lt_succ_self _)

set_option maxHeartbeats 4000000 in
set_option maxRecDepth 100000 in
theorem c_X6_spreadL (l : Launch) (D : va_G) (K : ClassId × ClassId × ClassId × ClassId) (w a p w_layers w_spreading p_dx p_dy p_weights p_leaps p_barred p_passable : Nat) (src tgt y far w_ready p_top p_round p_barredCount p_ax p_ay p_bx p_by : Int) (lp pas g : Int → Int) (hp : ∀ j, 0 ≤ j → j < 4489 → pas j = oP j) (hlp : ∀ k, 0 ≤ k → k < 8 → lp k = slp k) (hg : ∀ j, 0 ≤ j → j < 273829 → 0 ≤ g j ∧ g j ≤ 4611686018427387904) (hs : 0 ≤ src ∧ src + 4489 ≤ 273829 ∧ 0 ≤ tgt ∧ tgt + 4489 ≤ 273829 ∧ (src + 4489 ≤ tgt ∨ tgt + 4489 ≤ src)) (hy : -30 ≤ y ∧ y ≤ 30 ∧ 0 ≤ far ∧ far ≤ 100) : zMet l D K yX6_spread wsX6_spread ({ frames := 2, cells := 0, slots := 0, locals := 40 }) 0 0 [.ref w, .ref a, .int (zI (src)), .int (zI (tgt)), .int (zI (y)), .int (zI (far))] [wO w 6 [.ref p, .ref w_layers, .ref w_spreading, .int (zI (w_ready))], wO p 4 [.ref p_dx, .ref p_dy, .ref p_weights, .ref p_leaps, .int (zI (4)), .int (zI (0)), .int (zI (p_top)), .int (zI (p_round)), .int (zI (p_barredCount)), .int (zI (p_ax)), .int (zI (p_ay)), .int (zI (p_bx)), .int (zI (p_by)), .ref p_barred, .ref p_passable], wI p_leaps K.2.1 8 lp, wI p_passable K.1 4489 pas, wJ a K.2.2.1 273829 g] (fun vr_ wr_ => ∃ (g2 : Int → Int), vr_ = none ∧ wr_ = [wO w 6 [.ref p, .ref w_layers, .ref w_spreading, .int (zI (w_ready))], wO p 4 [.ref p_dx, .ref p_dy, .ref p_weights, .ref p_leaps, .int (zI (4)), .int (zI (0)), .int (zI (p_top)), .int (zI (p_round)), .int (zI (p_barredCount)), .int (zI (p_ax)), .int (zI (p_ay)), .int (zI (p_bx)), .int (zI (p_by)), .ref p_barred, .ref p_passable], wI p_leaps K.2.1 8 lp, wI p_passable K.1 4489 pas, wJ a K.2.2.1 273829 g2] ∧ ((∀ j, 0 ≤ j → j < 4489 → g2 (tgt + j) = spr g src y far j) ∧ (∀ j, j < tgt ∨ tgt + 4489 ≤ j → g2 j = g j) ∧ (∀ j, 0 ≤ j → j < 273829 → 0 ≤ g2 j ∧ g2 j ≤ 4611686018427387904))) := by
  refine zMet_of (cc := cX6_spread) (nL := 10) (ret := none) (by decide) rfl (Nat.le_of_ble_eq_true rfl) ?_
  rintro C rfl rfl rfl hC hR
  have hinX6 : ∀ w ∈ u_ws RX6 TX6 4, w ∈ wsX6_spread := by decide +kernel
  show ZW C 0 0 [wO w 6 [.ref p, .ref w_layers, .ref w_spreading, .int (zI (w_ready))], wO p 4 [.ref p_dx, .ref p_dy, .ref p_weights, .ref p_leaps, .int (zI (4)), .int (zI (0)), .int (zI (p_top)), .int (zI (p_round)), .int (zI (p_barredCount)), .int (zI (p_ax)), .int (zI (p_ay)), .int (zI (p_bx)), .int (zI (p_by)), .ref p_barred, .ref p_passable], wI p_leaps (zK C).2.1 8 lp, wI p_passable (zK C).1 4489 pas, wJ a (zK C).2.2.1 273829 g] [(0, .ref w), (1, .ref a), (2, .int (zI (src))), (3, .int (zI (tgt))), (4, .int (zI (y))), (5, .int (zI (far)))] 0 []
  refine z_bipush hC dX6_spread_0 (by decide) ?_
  refine z_iload hC 4 dX6_spread_2 rfl ?_
  refine z_iload hC 5 dX6_spread_4 rfl ?_
  refine z_isub hC (y - far) dX6_spread_6 rfl ?_
  refine z_bipush hC dX6_spread_7 (by decide) ?_
  refine z_mmax hC dX6_spread_9 (List.mem_of_getElem? (i := 1) rfl) (List.mem_of_getElem? (i := 2) rfl) (List.mem_of_getElem? (i := 3) rfl) (List.mem_of_getElem? (i := 4) rfl) (by omega) (Nat.le_of_ble_eq_true rfl) (Nat.le_of_ble_eq_true rfl) (Nat.le_of_ble_eq_true rfl) (Nat.le_of_ble_eq_true rfl) ?_
  refine z_callS hC [.int (zI ((-33))), .int (zI (max (y - far) ((-30))))] 2 dX6_spread_12 (c_X4_cellOf (zl C) (zD C) (zK C) ((-33)) (max (y - far) ((-30))) ) gX6_spread_X4_cellOf rfl rfl rfl ⟨by decide, by decide, by decide +kernel⟩ ⟨(Nat.le_of_ble_eq_true rfl), (Nat.le_of_ble_eq_true rfl)⟩ rfl [] [0, 1, 2, 3, 4] [wO w 6 [.ref p, .ref w_layers, .ref w_spreading, .int (zI (w_ready))], wO p 4 [.ref p_dx, .ref p_dy, .ref p_weights, .ref p_leaps, .int (zI (4)), .int (zI (0)), .int (zI (p_top)), .int (zI (p_round)), .int (zI (p_barredCount)), .int (zI (p_ax)), .int (zI (p_ay)), .int (zI (p_bx)), .int (zI (p_by)), .ref p_barred, .ref p_passable], wI p_leaps (zK C).2.1 8 lp, wI p_passable (zK C).1 4489 pas, wJ a (zK C).2.2.1 273829 g] [] rfl rfl rfl rfl rfl (by decide) (Nat.le_of_ble_eq_true rfl) ⟨(Nat.le_of_ble_eq_true rfl), (Nat.le_of_ble_eq_true rfl)⟩ ?_
  rintro v_ w_ ⟨rfl, rfl, h_12_1⟩
  show ZW C 0 0 [wO w 6 [.ref p, .ref w_layers, .ref w_spreading, .int (zI (w_ready))], wO p 4 [.ref p_dx, .ref p_dy, .ref p_weights, .ref p_leaps, .int (zI (4)), .int (zI (0)), .int (zI (p_top)), .int (zI (p_round)), .int (zI (p_barredCount)), .int (zI (p_ax)), .int (zI (p_ay)), .int (zI (p_bx)), .int (zI (p_by)), .ref p_barred, .ref p_passable], wI p_leaps (zK C).2.1 8 lp, wI p_passable (zK C).1 4489 pas, wJ a (zK C).2.2.1 273829 g] [(0, .ref w), (1, .ref a), (2, .int (zI (src))), (3, .int (zI (tgt))), (4, .int (zI (y))), (5, .int (zI (far)))] 15 [.int (zI (((max (y - far) ((-30))) + 33) * 67 + ((-33)) + 33))]
  refine z_istore hC [(6, .int (zI (((max (y - far) ((-30))) + 33) * 67 + ((-33)) + 33))), (0, .ref w), (1, .ref a), (2, .int (zI (src))), (3, .int (zI (tgt))), (4, .int (zI (y))), (5, .int (zI (far)))] dX6_spread_15 (by decide) rfl ?_
  refine z_bipush hC dX6_spread_17 (by decide) ?_
  refine z_iload hC 5 dX6_spread_19 rfl ?_
  refine z_iload hC 6 dX6_spread_21 rfl ?_
  refine z_iadd hC (y + far) dX6_spread_23 rfl ?_
  refine z_bipush hC dX6_spread_24 (by decide) ?_
  refine z_mmin hC dX6_spread_26 (List.mem_of_getElem? (i := 5) rfl) (List.mem_of_getElem? (i := 6) rfl) (List.mem_of_getElem? (i := 3) rfl) (List.mem_of_getElem? (i := 7) rfl) (by omega) (Nat.le_of_ble_eq_true rfl) (Nat.le_of_ble_eq_true rfl) (Nat.le_of_ble_eq_true rfl) (Nat.le_of_ble_eq_true rfl) ?_
  refine z_iconst hC dX6_spread_29 ?_
  refine z_iadd hC ((min (y + far) 30) + 1) dX6_spread_30 rfl ?_
  refine z_callS hC [.int (zI ((-33))), .int (zI ((min (y + far) 30) + 1))] 2 dX6_spread_31 (c_X4_cellOf (zl C) (zD C) (zK C) ((-33)) ((min (y + far) 30) + 1) ) gX6_spread_X4_cellOf rfl rfl rfl ⟨by decide, by decide, by decide +kernel⟩ ⟨(Nat.le_of_ble_eq_true rfl), (Nat.le_of_ble_eq_true rfl)⟩ rfl [] [0, 1, 2, 3, 4] [wO w 6 [.ref p, .ref w_layers, .ref w_spreading, .int (zI (w_ready))], wO p 4 [.ref p_dx, .ref p_dy, .ref p_weights, .ref p_leaps, .int (zI (4)), .int (zI (0)), .int (zI (p_top)), .int (zI (p_round)), .int (zI (p_barredCount)), .int (zI (p_ax)), .int (zI (p_ay)), .int (zI (p_bx)), .int (zI (p_by)), .ref p_barred, .ref p_passable], wI p_leaps (zK C).2.1 8 lp, wI p_passable (zK C).1 4489 pas, wJ a (zK C).2.2.1 273829 g] [] rfl rfl rfl rfl rfl (by decide) (Nat.le_of_ble_eq_true rfl) ⟨(Nat.le_of_ble_eq_true rfl), (Nat.le_of_ble_eq_true rfl)⟩ ?_
  rintro v_ w_ ⟨rfl, rfl, h_31_2⟩
  show ZW C 0 0 [wO w 6 [.ref p, .ref w_layers, .ref w_spreading, .int (zI (w_ready))], wO p 4 [.ref p_dx, .ref p_dy, .ref p_weights, .ref p_leaps, .int (zI (4)), .int (zI (0)), .int (zI (p_top)), .int (zI (p_round)), .int (zI (p_barredCount)), .int (zI (p_ax)), .int (zI (p_ay)), .int (zI (p_bx)), .int (zI (p_by)), .ref p_barred, .ref p_passable], wI p_leaps (zK C).2.1 8 lp, wI p_passable (zK C).1 4489 pas, wJ a (zK C).2.2.1 273829 g] [(6, .int (zI (((max (y - far) ((-30))) + 33) * 67 + ((-33)) + 33))), (0, .ref w), (1, .ref a), (2, .int (zI (src))), (3, .int (zI (tgt))), (4, .int (zI (y))), (5, .int (zI (far)))] 34 [.int (zI ((((min (y + far) 30) + 1) + 33) * 67 + ((-33)) + 33))]
  refine z_istore hC [(7, .int (zI ((((min (y + far) 30) + 1) + 33) * 67 + ((-33)) + 33))), (6, .int (zI (((max (y - far) ((-30))) + 33) * 67 + ((-33)) + 33))), (0, .ref w), (1, .ref a), (2, .int (zI (src))), (3, .int (zI (tgt))), (4, .int (zI (y))), (5, .int (zI (far)))] dX6_spread_34 (by decide) rfl ?_
  refine z_iconst hC dX6_spread_36 ?_
  refine z_istore hC [(8, .int (zI (0))), (7, .int (zI ((((min (y + far) 30) + 1) + 33) * 67 + ((-33)) + 33))), (6, .int (zI (((max (y - far) ((-30))) + 33) * 67 + ((-33)) + 33))), (0, .ref w), (1, .ref a), (2, .int (zI (src))), (3, .int (zI (tgt))), (4, .int (zI (y))), (5, .int (zI (far)))] dX6_spread_37 (by decide) rfl ?_
  refine z_lv (lv' := [(0, .ref w), (1, .ref a), (2, .int (zI (src))), (3, .int (zI (tgt))), (4, .int (zI (y))), (5, .int (zI (far))), (6, .int (zI (((max (y - far) ((-30))) + 33) * 67 + ((-33)) + 33))), (7, .int (zI ((((min (y + far) 30) + 1) + 33) * 67 + ((-33)) + 33))), (8, .int (zI (0)))]) [3, 4, 5, 6, 7, 8, 2, 1, 0] rfl ?_
  have lp39_3 : ∀ (f5 : Nat) (i : Int) (q : Int → Int), (0 ≤ i ∧ i ≤ 4489) → (∀ j, 0 ≤ j → j < i → q (tgt + j) = spr g src y far j) → (∀ j, j < tgt ∨ tgt + i ≤ j → q j = g j) → (∀ j, 0 ≤ j → j < 273829 → 0 ≤ q j ∧ q j ≤ 4611686018427387904) → (4489 - i).toNat < f5 → ZW C 0 0 [wO w 6 [.ref p, .ref w_layers, .ref w_spreading, .int (zI (w_ready))], wO p 4 [.ref p_dx, .ref p_dy, .ref p_weights, .ref p_leaps, .int (zI (4)), .int (zI (0)), .int (zI (p_top)), .int (zI (p_round)), .int (zI (p_barredCount)), .int (zI (p_ax)), .int (zI (p_ay)), .int (zI (p_bx)), .int (zI (p_by)), .ref p_barred, .ref p_passable], wI p_leaps (zK C).2.1 8 lp, wI p_passable (zK C).1 4489 pas, wJ a (zK C).2.2.1 273829 q] [(0, .ref w), (1, .ref a), (2, .int (zI (src))), (3, .int (zI (tgt))), (4, .int (zI (y))), (5, .int (zI (far))), (6, .int (zI (((max (y - far) ((-30))) + 33) * 67 + ((-33)) + 33))), (7, .int (zI ((((min (y + far) 30) + 1) + 33) * 67 + ((-33)) + 33))), (8, .int (zI (i)))] 39 [] := by
    intro f5
    induction f5 with
    | zero => intro _ _ _ _ _ _ hf; exact absurd hf (Nat.not_lt_zero _)
    | succ f5 ih39_4 =>
      intro i q vi vq vo vr hf_39
      refine z_iload hC 8 dX6_spread_39 rfl ?_
      refine z_sipush hC dX6_spread_41 (by decide) ?_
      refine z_icge hC 110 dX6_spread_44 (by decide) (by omega) (fun c_6 => ?_) (fun c_6 => ?_)
      · skip
        refine z_aload_n hC 0 dX6_spread_110 rfl rfl ?_
        refine z_aload_n hC 1 dX6_spread_111 rfl rfl ?_
        refine z_iload_n hC 3 dX6_spread_112 rfl rfl ?_
        refine z_callV hC [.ref a, .int (zI (tgt))] 2 0 dX6_spread_113 (c_X6_closeRing (zl C) (zD C) (zK C) w a p w_layers w_spreading p_dx p_dy p_weights p_leaps p_barred p_passable tgt w_ready 4 p_top p_round p_barredCount p_ax p_ay p_bx p_by ) gX6_spread_X6_closeRing rfl rfl rfl ⟨by decide, by decide, by decide +kernel⟩ ⟨(Nat.le_of_ble_eq_true rfl), (Nat.le_of_ble_eq_true rfl)⟩ rfl rfl rfl rfl [0, 1] [2, 3, 4] [wI p_leaps (zK C).2.1 8 lp, wI p_passable (zK C).1 4489 pas, wJ a (zK C).2.2.1 273829 q] [] rfl rfl rfl rfl rfl (by decide) (Nat.le_of_ble_eq_true rfl) ⟨(Nat.le_of_ble_eq_true rfl), (Nat.le_of_ble_eq_true rfl)⟩ ?_
        rintro v_ w_ ⟨rfl, rfl, h_113_7⟩
        show ZW C 0 0 [wI p_leaps (zK C).2.1 8 lp, wI p_passable (zK C).1 4489 pas, wJ a (zK C).2.2.1 273829 q, wO w 6 [.ref p, .ref w_layers, .ref w_spreading, .int (zI (w_ready))], wO p 4 [.ref p_dx, .ref p_dy, .ref p_weights, .ref p_leaps, .int (zI (4)), .int (zI (0)), .int (zI (p_top)), .int (zI (p_round)), .int (zI (p_barredCount)), .int (zI (p_ax)), .int (zI (p_ay)), .int (zI (p_bx)), .int (zI (p_by)), .ref p_barred, .ref p_passable]] [(0, .ref w), (1, .ref a), (2, .int (zI (src))), (3, .int (zI (tgt))), (4, .int (zI (y))), (5, .int (zI (far))), (6, .int (zI (((max (y - far) ((-30))) + 33) * 67 + ((-33)) + 33))), (7, .int (zI ((((min (y + far) 30) + 1) + 33) * 67 + ((-33)) + 33))), (8, .int (zI (i)))] 116 []
        refine z_ws (ws' := [wO w 6 [.ref p, .ref w_layers, .ref w_spreading, .int (zI (w_ready))], wO p 4 [.ref p_dx, .ref p_dy, .ref p_weights, .ref p_leaps, .int (zI (4)), .int (zI (0)), .int (zI (p_top)), .int (zI (p_round)), .int (zI (p_barredCount)), .int (zI (p_ax)), .int (zI (p_ay)), .int (zI (p_bx)), .int (zI (p_by)), .ref p_barred, .ref p_passable], wI p_leaps (zK C).2.1 8 lp, wI p_passable (zK C).1 4489 pas, wJ a (zK C).2.2.1 273829 q]) [3, 4, 0, 1, 2] rfl rfl ?_
        exact z_vret hC hR dX6_spread_116 (Nat.le_of_ble_eq_true rfl) (Nat.le_of_ble_eq_true rfl) ⟨q, rfl, rfl, by exact ⟨fun j h0 h1 => vq j h0 (by omega), fun j h0 => vo j (by omega), vr⟩⟩
      · skip
        refine z_iload hC 8 dX6_spread_47 rfl ?_
        refine z_iload hC 6 dX6_spread_49 rfl ?_
        refine z_iclt hC 77 dX6_spread_51 (by decide) (by omega) (fun c_8 => ?_) (fun c_8 => ?_)
        · skip
          refine z_iconst hC dX6_spread_77 ?_
          refine z_istore hC [(9, .int (zI (0))), (0, .ref w), (1, .ref a), (2, .int (zI (src))), (3, .int (zI (tgt))), (4, .int (zI (y))), (5, .int (zI (far))), (6, .int (zI (((max (y - far) ((-30))) + 33) * 67 + ((-33)) + 33))), (7, .int (zI ((((min (y + far) 30) + 1) + 33) * 67 + ((-33)) + 33))), (8, .int (zI (i)))] dX6_spread_78 (by decide) rfl ?_
          refine z_aload_n hC 2 dX6_spread_80 rfl rfl ?_
          refine z_iload_n hC 4 dX6_spread_81 rfl rfl ?_
          refine z_iload hC 9 dX6_spread_82 rfl ?_
          refine z_iadd hC (tgt + i) dX6_spread_84 rfl ?_
          refine z_iload hC 0 dX6_spread_85 rfl ?_
          refine z_ifeq hC 102 dX6_spread_87 (by decide) (by omega) (fun c_9 => ?_) (fun c_9 => by exfalso; omega)
          refine z_lconst (v := 0) hC dX6_spread_102 rfl ?_
          refine z_last hC 4 [wO w 6 [.ref p, .ref w_layers, .ref w_spreading, .int (zI (w_ready))], wO p 4 [.ref p_dx, .ref p_dy, .ref p_weights, .ref p_leaps, .int (zI (4)), .int (zI (0)), .int (zI (p_top)), .int (zI (p_round)), .int (zI (p_barredCount)), .int (zI (p_ax)), .int (zI (p_ay)), .int (zI (p_bx)), .int (zI (p_by)), .ref p_barred, .ref p_passable], wI p_leaps (zK C).2.1 8 lp, wI p_passable (zK C).1 4489 pas, wJ a (zK C).2.2.1 273829 (zu q (tgt + i) 0)] dX6_spread_103 rfl (by omega) rfl ?_
          refine z_iinc (a := i) (v := 1) (r := i + 1) hC 9 [(8, .int (zI (i + 1))), (9, .int (zI (0))), (0, .ref w), (1, .ref a), (2, .int (zI (src))), (3, .int (zI (tgt))), (4, .int (zI (y))), (5, .int (zI (far))), (6, .int (zI (((max (y - far) ((-30))) + 33) * 67 + ((-33)) + 33))), (7, .int (zI ((((min (y + far) 30) + 1) + 33) * 67 + ((-33)) + 33)))] dX6_spread_104 rfl rfl (by decide) rfl ?_
          refine z_goto hC 39 dX6_spread_107 (by decide) ?_
          refine z_lv (lv' := [(0, .ref w), (1, .ref a), (2, .int (zI (src))), (3, .int (zI (tgt))), (4, .int (zI (y))), (5, .int (zI (far))), (6, .int (zI (((max (y - far) ((-30))) + 33) * 67 + ((-33)) + 33))), (7, .int (zI ((((min (y + far) 30) + 1) + 33) * 67 + ((-33)) + 33))), (8, .int (zI (i + 1)))]) [2, 3, 4, 5, 6, 7, 8, 9, 0] rfl ?_
          exact ih39_4 (i + 1) (zu q (tgt + i) 0) (by omega) (by exact spr_step hs vi vq vo hp (by first | (right; exact ⟨rfl, by omega⟩) | (left; exact ⟨hsum, by omega⟩))) (by intro j h0; unfold zu; rw [if_neg (by omega)]; exact vo j (by omega)) (by intro j h0 h1; unfold zu; split; (first | omega | (rw [hsum]; have := sumZ_nn (f := fun k => q (src + i + slp k)) (n := 4) (fun k h0 h1 => (vr _ (by have := slp_c k; have e2 := hp i (by omega) (by omega); have e3 := oP_1 (j := i) (by omega); omega) (by have := slp_c k; have e2 := hp i (by omega) (by omega); have e3 := oP_1 (j := i) (by omega); omega)).1); omega)); exact vr j h0 h1) (by omega)
        · skip
          refine z_iload hC 8 dX6_spread_54 rfl ?_
          refine z_iload hC 7 dX6_spread_56 rfl ?_
          refine z_icge hC 77 dX6_spread_58 (by decide) (by omega) (fun c_10 => ?_) (fun c_10 => ?_)
          · skip
            refine z_iconst hC dX6_spread_77 ?_
            refine z_istore hC [(9, .int (zI (0))), (0, .ref w), (1, .ref a), (2, .int (zI (src))), (3, .int (zI (tgt))), (4, .int (zI (y))), (5, .int (zI (far))), (6, .int (zI (((max (y - far) ((-30))) + 33) * 67 + ((-33)) + 33))), (7, .int (zI ((((min (y + far) 30) + 1) + 33) * 67 + ((-33)) + 33))), (8, .int (zI (i)))] dX6_spread_78 (by decide) rfl ?_
            refine z_aload_n hC 2 dX6_spread_80 rfl rfl ?_
            refine z_iload_n hC 4 dX6_spread_81 rfl rfl ?_
            refine z_iload hC 9 dX6_spread_82 rfl ?_
            refine z_iadd hC (tgt + i) dX6_spread_84 rfl ?_
            refine z_iload hC 0 dX6_spread_85 rfl ?_
            refine z_ifeq hC 102 dX6_spread_87 (by decide) (by omega) (fun c_11 => ?_) (fun c_11 => by exfalso; omega)
            refine z_lconst (v := 0) hC dX6_spread_102 rfl ?_
            refine z_last hC 4 [wO w 6 [.ref p, .ref w_layers, .ref w_spreading, .int (zI (w_ready))], wO p 4 [.ref p_dx, .ref p_dy, .ref p_weights, .ref p_leaps, .int (zI (4)), .int (zI (0)), .int (zI (p_top)), .int (zI (p_round)), .int (zI (p_barredCount)), .int (zI (p_ax)), .int (zI (p_ay)), .int (zI (p_bx)), .int (zI (p_by)), .ref p_barred, .ref p_passable], wI p_leaps (zK C).2.1 8 lp, wI p_passable (zK C).1 4489 pas, wJ a (zK C).2.2.1 273829 (zu q (tgt + i) 0)] dX6_spread_103 rfl (by omega) rfl ?_
            refine z_iinc (a := i) (v := 1) (r := i + 1) hC 9 [(8, .int (zI (i + 1))), (9, .int (zI (0))), (0, .ref w), (1, .ref a), (2, .int (zI (src))), (3, .int (zI (tgt))), (4, .int (zI (y))), (5, .int (zI (far))), (6, .int (zI (((max (y - far) ((-30))) + 33) * 67 + ((-33)) + 33))), (7, .int (zI ((((min (y + far) 30) + 1) + 33) * 67 + ((-33)) + 33)))] dX6_spread_104 rfl rfl (by decide) rfl ?_
            refine z_goto hC 39 dX6_spread_107 (by decide) ?_
            refine z_lv (lv' := [(0, .ref w), (1, .ref a), (2, .int (zI (src))), (3, .int (zI (tgt))), (4, .int (zI (y))), (5, .int (zI (far))), (6, .int (zI (((max (y - far) ((-30))) + 33) * 67 + ((-33)) + 33))), (7, .int (zI ((((min (y + far) 30) + 1) + 33) * 67 + ((-33)) + 33))), (8, .int (zI (i + 1)))]) [2, 3, 4, 5, 6, 7, 8, 9, 0] rfl ?_
            exact ih39_4 (i + 1) (zu q (tgt + i) 0) (by omega) (by exact spr_step hs vi vq vo hp (by first | (right; exact ⟨rfl, by omega⟩) | (left; exact ⟨hsum, by omega⟩))) (by intro j h0; unfold zu; rw [if_neg (by omega)]; exact vo j (by omega)) (by intro j h0 h1; unfold zu; split; (first | omega | (rw [hsum]; have := sumZ_nn (f := fun k => q (src + i + slp k)) (n := 4) (fun k h0 h1 => (vr _ (by have := slp_c k; have e2 := hp i (by omega) (by omega); have e3 := oP_1 (j := i) (by omega); omega) (by have := slp_c k; have e2 := hp i (by omega) (by omega); have e3 := oP_1 (j := i) (by omega); omega)).1); omega)); exact vr j h0 h1) (by omega)
          · skip
            refine z_aload_n hC 0 dX6_spread_61 rfl rfl ?_
            refine z_get hC (T := TX6) (N := 4) hinX6 0 0 dX6_spread_62 rfl rfl (by decide) (List.mem_of_getElem? (i := 8) rfl) rfl rfl ?_
            refine z_iload hC 8 dX6_spread_65 rfl ?_
            refine z_callV hC [.int (zI (i))] 1 0 dX6_spread_67 (c_X4_isPassable (zl C) (zD C) (zK C) p p_dx p_dy p_weights p_leaps p_barred p_passable i 4 0 p_top p_round p_barredCount p_ax p_ay p_bx p_by pas (by first | assumption | omega) (by intro j h0 h1; rw [hp j h0 h1]; exact oP_01 j)) gX6_spread_X4_isPassable rfl rfl rfl ⟨by decide, by decide, by decide +kernel⟩ ⟨(Nat.le_of_ble_eq_true rfl), (Nat.le_of_ble_eq_true rfl)⟩ rfl rfl rfl rfl [1, 3] [0, 2, 4] [wO w 6 [.ref p, .ref w_layers, .ref w_spreading, .int (zI (w_ready))], wI p_leaps (zK C).2.1 8 lp, wJ a (zK C).2.2.1 273829 q] [] rfl rfl rfl rfl rfl (by decide) (Nat.le_of_ble_eq_true rfl) ⟨(Nat.le_of_ble_eq_true rfl), (Nat.le_of_ble_eq_true rfl)⟩ ?_
            rintro v_ w_ ⟨r_12, rfl, rfl, h_67_13⟩
            show ZW C 0 0 [wO w 6 [.ref p, .ref w_layers, .ref w_spreading, .int (zI (w_ready))], wI p_leaps (zK C).2.1 8 lp, wJ a (zK C).2.2.1 273829 q, wO p 4 [.ref p_dx, .ref p_dy, .ref p_weights, .ref p_leaps, .int (zI (4)), .int (zI (0)), .int (zI (p_top)), .int (zI (p_round)), .int (zI (p_barredCount)), .int (zI (p_ax)), .int (zI (p_ay)), .int (zI (p_bx)), .int (zI (p_by)), .ref p_barred, .ref p_passable], wI p_passable (zK C).1 4489 pas] [(0, .ref w), (1, .ref a), (2, .int (zI (src))), (3, .int (zI (tgt))), (4, .int (zI (y))), (5, .int (zI (far))), (6, .int (zI (((max (y - far) ((-30))) + 33) * 67 + ((-33)) + 33))), (7, .int (zI ((((min (y + far) 30) + 1) + 33) * 67 + ((-33)) + 33))), (8, .int (zI (i)))] 70 [.int (zI (r_12))]
            refine z_ifeq hC 77 dX6_spread_70 (by decide) (by omega) (fun c_14 => ?_) (fun c_14 => ?_)
            · skip
              refine z_iconst hC dX6_spread_77 ?_
              refine z_istore hC [(9, .int (zI (0))), (0, .ref w), (1, .ref a), (2, .int (zI (src))), (3, .int (zI (tgt))), (4, .int (zI (y))), (5, .int (zI (far))), (6, .int (zI (((max (y - far) ((-30))) + 33) * 67 + ((-33)) + 33))), (7, .int (zI ((((min (y + far) 30) + 1) + 33) * 67 + ((-33)) + 33))), (8, .int (zI (i)))] dX6_spread_78 (by decide) rfl ?_
              refine z_aload_n hC 2 dX6_spread_80 rfl rfl ?_
              refine z_iload_n hC 4 dX6_spread_81 rfl rfl ?_
              refine z_iload hC 9 dX6_spread_82 rfl ?_
              refine z_iadd hC (tgt + i) dX6_spread_84 rfl ?_
              refine z_iload hC 0 dX6_spread_85 rfl ?_
              refine z_ifeq hC 102 dX6_spread_87 (by decide) (by omega) (fun c_15 => ?_) (fun c_15 => by exfalso; omega)
              refine z_lconst (v := 0) hC dX6_spread_102 rfl ?_
              refine z_last hC 2 [wO w 6 [.ref p, .ref w_layers, .ref w_spreading, .int (zI (w_ready))], wI p_leaps (zK C).2.1 8 lp, wJ a (zK C).2.2.1 273829 (zu q (tgt + i) 0), wO p 4 [.ref p_dx, .ref p_dy, .ref p_weights, .ref p_leaps, .int (zI (4)), .int (zI (0)), .int (zI (p_top)), .int (zI (p_round)), .int (zI (p_barredCount)), .int (zI (p_ax)), .int (zI (p_ay)), .int (zI (p_bx)), .int (zI (p_by)), .ref p_barred, .ref p_passable], wI p_passable (zK C).1 4489 pas] dX6_spread_103 rfl (by omega) rfl ?_
              refine z_iinc (a := i) (v := 1) (r := i + 1) hC 9 [(8, .int (zI (i + 1))), (9, .int (zI (0))), (0, .ref w), (1, .ref a), (2, .int (zI (src))), (3, .int (zI (tgt))), (4, .int (zI (y))), (5, .int (zI (far))), (6, .int (zI (((max (y - far) ((-30))) + 33) * 67 + ((-33)) + 33))), (7, .int (zI ((((min (y + far) 30) + 1) + 33) * 67 + ((-33)) + 33)))] dX6_spread_104 rfl rfl (by decide) rfl ?_
              refine z_goto hC 39 dX6_spread_107 (by decide) ?_
              refine z_lv (lv' := [(0, .ref w), (1, .ref a), (2, .int (zI (src))), (3, .int (zI (tgt))), (4, .int (zI (y))), (5, .int (zI (far))), (6, .int (zI (((max (y - far) ((-30))) + 33) * 67 + ((-33)) + 33))), (7, .int (zI ((((min (y + far) 30) + 1) + 33) * 67 + ((-33)) + 33))), (8, .int (zI (i + 1)))]) [2, 3, 4, 5, 6, 7, 8, 9, 0] rfl ?_
              refine z_ws (ws' := [wO w 6 [.ref p, .ref w_layers, .ref w_spreading, .int (zI (w_ready))], wO p 4 [.ref p_dx, .ref p_dy, .ref p_weights, .ref p_leaps, .int (zI (4)), .int (zI (0)), .int (zI (p_top)), .int (zI (p_round)), .int (zI (p_barredCount)), .int (zI (p_ax)), .int (zI (p_ay)), .int (zI (p_bx)), .int (zI (p_by)), .ref p_barred, .ref p_passable], wI p_leaps (zK C).2.1 8 lp, wI p_passable (zK C).1 4489 pas, wJ a (zK C).2.2.1 273829 (zu q (tgt + i) 0)]) [0, 3, 1, 4, 2] rfl rfl ?_
              exact ih39_4 (i + 1) (zu q (tgt + i) 0) (by omega) (by exact spr_step hs vi vq vo hp (by first | (right; exact ⟨rfl, by omega⟩) | (left; exact ⟨hsum, by omega⟩))) (by intro j h0; unfold zu; rw [if_neg (by omega)]; exact vo j (by omega)) (by intro j h0 h1; unfold zu; split; (first | omega | (rw [hsum]; have := sumZ_nn (f := fun k => q (src + i + slp k)) (n := 4) (fun k h0 h1 => (vr _ (by have := slp_c k; have e2 := hp i (by omega) (by omega); have e3 := oP_1 (j := i) (by omega); omega) (by have := slp_c k; have e2 := hp i (by omega) (by omega); have e3 := oP_1 (j := i) (by omega); omega)).1); omega)); exact vr j h0 h1) (by omega)
            · skip
              refine z_iconst hC dX6_spread_73 ?_
              refine z_goto hC 78 dX6_spread_74 (by decide) ?_
              refine z_istore hC [(9, .int (zI (1))), (0, .ref w), (1, .ref a), (2, .int (zI (src))), (3, .int (zI (tgt))), (4, .int (zI (y))), (5, .int (zI (far))), (6, .int (zI (((max (y - far) ((-30))) + 33) * 67 + ((-33)) + 33))), (7, .int (zI ((((min (y + far) 30) + 1) + 33) * 67 + ((-33)) + 33))), (8, .int (zI (i)))] dX6_spread_78 (by decide) rfl ?_
              refine z_aload_n hC 2 dX6_spread_80 rfl rfl ?_
              refine z_iload_n hC 4 dX6_spread_81 rfl rfl ?_
              refine z_iload hC 9 dX6_spread_82 rfl ?_
              refine z_iadd hC (tgt + i) dX6_spread_84 rfl ?_
              refine z_iload hC 0 dX6_spread_85 rfl ?_
              refine z_ifeq hC 102 dX6_spread_87 (by decide) (by omega) (fun c_16 => by exfalso; omega) (fun c_16 => ?_)
              refine z_aload_n hC 1 dX6_spread_90 rfl rfl ?_
              refine z_aload_n hC 2 dX6_spread_91 rfl rfl ?_
              refine z_iload_n hC 3 dX6_spread_92 rfl rfl ?_
              refine z_iload hC 9 dX6_spread_93 rfl ?_
              refine z_iadd hC (src + i) dX6_spread_95 rfl ?_
              refine z_callV hC [.ref a, .int (zI (src + i))] 2 0 dX6_spread_96 (c_X6_sumAheadL (zl C) (zD C) (zK C) w a p w_layers w_spreading p_dx p_dy p_weights p_leaps p_barred p_passable (src + i) w_ready 0 p_top p_round p_barredCount p_ax p_ay p_bx p_by lp q (by first | assumption | omega) (by have e2 := hp i (by omega) (by omega); have e3 := oP_1 (j := i) (by omega); omega) (by exact vr)) gX6_spread_X6_sumAhead rfl rfl rfl ⟨by decide, by decide, by decide +kernel⟩ ⟨(Nat.le_of_ble_eq_true rfl), (Nat.le_of_ble_eq_true rfl)⟩ rfl rfl rfl rfl [0, 3, 1, 2] [4] [wI p_passable (zK C).1 4489 pas] [.int (zI (tgt + i)), .ref a] rfl rfl rfl rfl rfl (by decide) (Nat.le_of_ble_eq_true rfl) ⟨(Nat.le_of_ble_eq_true rfl), (Nat.le_of_ble_eq_true rfl)⟩ ?_
              rintro v_ w_ ⟨r_17, rfl, rfl, hsum⟩
              show ZW C 0 0 [wI p_passable (zK C).1 4489 pas, wO w 6 [.ref p, .ref w_layers, .ref w_spreading, .int (zI (w_ready))], wO p 4 [.ref p_dx, .ref p_dy, .ref p_weights, .ref p_leaps, .int (zI (4)), .int (zI (0)), .int (zI (p_top)), .int (zI (p_round)), .int (zI (p_barredCount)), .int (zI (p_ax)), .int (zI (p_ay)), .int (zI (p_bx)), .int (zI (p_by)), .ref p_barred, .ref p_passable], wI p_leaps (zK C).2.1 8 lp, wJ a (zK C).2.2.1 273829 q] [(9, .int (zI (1))), (0, .ref w), (1, .ref a), (2, .int (zI (src))), (3, .int (zI (tgt))), (4, .int (zI (y))), (5, .int (zI (far))), (6, .int (zI (((max (y - far) ((-30))) + 33) * 67 + ((-33)) + 33))), (7, .int (zI ((((min (y + far) 30) + 1) + 33) * 67 + ((-33)) + 33))), (8, .int (zI (i)))] 99 [.long (zL (r_17)), .int (zI (tgt + i)), .ref a]
              refine z_goto hC 103 dX6_spread_99 (by decide) ?_
              refine z_last hC 4 [wI p_passable (zK C).1 4489 pas, wO w 6 [.ref p, .ref w_layers, .ref w_spreading, .int (zI (w_ready))], wO p 4 [.ref p_dx, .ref p_dy, .ref p_weights, .ref p_leaps, .int (zI (4)), .int (zI (0)), .int (zI (p_top)), .int (zI (p_round)), .int (zI (p_barredCount)), .int (zI (p_ax)), .int (zI (p_ay)), .int (zI (p_bx)), .int (zI (p_by)), .ref p_barred, .ref p_passable], wI p_leaps (zK C).2.1 8 lp, wJ a (zK C).2.2.1 273829 (zu q (tgt + i) r_17)] dX6_spread_103 rfl (by omega) rfl ?_
              refine z_iinc (a := i) (v := 1) (r := i + 1) hC 9 [(8, .int (zI (i + 1))), (9, .int (zI (1))), (0, .ref w), (1, .ref a), (2, .int (zI (src))), (3, .int (zI (tgt))), (4, .int (zI (y))), (5, .int (zI (far))), (6, .int (zI (((max (y - far) ((-30))) + 33) * 67 + ((-33)) + 33))), (7, .int (zI ((((min (y + far) 30) + 1) + 33) * 67 + ((-33)) + 33)))] dX6_spread_104 rfl rfl (by decide) rfl ?_
              refine z_goto hC 39 dX6_spread_107 (by decide) ?_
              refine z_lv (lv' := [(0, .ref w), (1, .ref a), (2, .int (zI (src))), (3, .int (zI (tgt))), (4, .int (zI (y))), (5, .int (zI (far))), (6, .int (zI (((max (y - far) ((-30))) + 33) * 67 + ((-33)) + 33))), (7, .int (zI ((((min (y + far) 30) + 1) + 33) * 67 + ((-33)) + 33))), (8, .int (zI (i + 1)))]) [2, 3, 4, 5, 6, 7, 8, 9, 0] rfl ?_
              refine z_ws (ws' := [wO w 6 [.ref p, .ref w_layers, .ref w_spreading, .int (zI (w_ready))], wO p 4 [.ref p_dx, .ref p_dy, .ref p_weights, .ref p_leaps, .int (zI (4)), .int (zI (0)), .int (zI (p_top)), .int (zI (p_round)), .int (zI (p_barredCount)), .int (zI (p_ax)), .int (zI (p_ay)), .int (zI (p_bx)), .int (zI (p_by)), .ref p_barred, .ref p_passable], wI p_leaps (zK C).2.1 8 lp, wI p_passable (zK C).1 4489 pas, wJ a (zK C).2.2.1 273829 (zu q (tgt + i) r_17)]) [1, 2, 3, 0, 4] rfl rfl ?_
              exact ih39_4 (i + 1) (zu q (tgt + i) r_17) (by omega) (by exact spr_step hs vi vq vo hp (by first | (right; exact ⟨rfl, by omega⟩) | (left; exact ⟨hsum, by omega⟩))) (by intro j h0; unfold zu; rw [if_neg (by omega)]; exact vo j (by omega)) (by intro j h0 h1; unfold zu; split; (first | omega | (rw [hsum]; have := sumZ_nn (f := fun k => q (src + i + slp k)) (n := 4) (fun k h0 h1 => (vr _ (by have := slp_c k; have e2 := hp i (by omega) (by omega); have e3 := oP_1 (j := i) (by omega); omega) (by have := slp_c k; have e2 := hp i (by omega) (by omega); have e3 := oP_1 (j := i) (by omega); omega)).1); omega)); exact vr j h0 h1) (by omega)
  exact lp39_3 _ 0 g (by omega) (by intro j h0 h1; omega) (by intro j _; rfl) (by exact hg) (Nat.lt_succ_self _)

set_option maxHeartbeats 4000000 in
set_option maxRecDepth 100000 in
theorem c_X6_sumAheadS (l : Launch) (D : va_G) (K : ClassId × ClassId × ClassId × ClassId) (w a p w_layers w_spreading p_dx p_dy p_weights p_leaps p_barred p_passable : Nat) (here w_ready p_kind p_top p_round p_barredCount p_ax p_ay p_bx p_by : Int) (lp g : Int → Int) (hlp : ∀ k, 0 ≤ k → k < 8 → lp k = slp k) (hh : 67 ≤ here ∧ here + 67 < 8978) (hg : ∀ j, 0 ≤ j → j < 8978 → 0 ≤ g j ∧ g j ≤ 4611686018427387904) : zMet l D K yX6_sumAhead wsX6_sumAhead ({ frames := 1, cells := 0, slots := 0, locals := 15 }) 0 0 [.ref w, .ref a, .int (zI (here))] [wO w 6 [.ref p, .ref w_layers, .ref w_spreading, .int (zI (w_ready))], wO p 4 [.ref p_dx, .ref p_dy, .ref p_weights, .ref p_leaps, .int (zI (4)), .int (zI (p_kind)), .int (zI (p_top)), .int (zI (p_round)), .int (zI (p_barredCount)), .int (zI (p_ax)), .int (zI (p_ay)), .int (zI (p_bx)), .int (zI (p_by)), .ref p_barred, .ref p_passable], wI p_leaps K.2.1 8 lp, wJ a K.2.2.1 8978 g] (fun vr_ wr_ => ∃ (r : Int), vr_ = some (.long (zL (r))) ∧ wr_ = [wO w 6 [.ref p, .ref w_layers, .ref w_spreading, .int (zI (w_ready))], wO p 4 [.ref p_dx, .ref p_dy, .ref p_weights, .ref p_leaps, .int (zI (4)), .int (zI (p_kind)), .int (zI (p_top)), .int (zI (p_round)), .int (zI (p_barredCount)), .int (zI (p_ax)), .int (zI (p_ay)), .int (zI (p_bx)), .int (zI (p_by)), .ref p_barred, .ref p_passable], wI p_leaps K.2.1 8 lp, wJ a K.2.2.1 8978 g] ∧ (r = min (sumZ (fun k => g (here + slp k)) 4) 4611686018427387904)) := by
  refine zMet_of (cc := cX6_sumAhead) (nL := 6) (ret := (some .long)) (by decide) rfl (Nat.le_of_ble_eq_true rfl) ?_
  rintro C rfl rfl rfl hC hR
  have hinX4 : ∀ w ∈ u_ws RX4 TX4 15, w ∈ wsX6_sumAhead := by decide +kernel
  have hinX6 : ∀ w ∈ u_ws RX6 TX6 4, w ∈ wsX6_sumAhead := by decide +kernel
  show ZW C 0 0 [wO w 6 [.ref p, .ref w_layers, .ref w_spreading, .int (zI (w_ready))], wO p 4 [.ref p_dx, .ref p_dy, .ref p_weights, .ref p_leaps, .int (zI (4)), .int (zI (p_kind)), .int (zI (p_top)), .int (zI (p_round)), .int (zI (p_barredCount)), .int (zI (p_ax)), .int (zI (p_ay)), .int (zI (p_bx)), .int (zI (p_by)), .ref p_barred, .ref p_passable], wI p_leaps (zK C).2.1 8 lp, wJ a (zK C).2.2.1 8978 g] [(0, .ref w), (1, .ref a), (2, .int (zI (here)))] 0 []
  refine z_lconst (v := 0) hC dX6_sumAhead_0 rfl ?_
  refine z_lstore_n hC [(3, .long (zL (0))), (0, .ref w), (1, .ref a), (2, .int (zI (here)))] dX6_sumAhead_1 rfl (by decide) rfl ?_
  refine z_iconst hC dX6_sumAhead_2 ?_
  refine z_istore hC [(5, .int (zI (0))), (3, .long (zL (0))), (0, .ref w), (1, .ref a), (2, .int (zI (here)))] dX6_sumAhead_3 (by decide) rfl ?_
  refine z_lv (lv' := [(0, .ref w), (1, .ref a), (2, .int (zI (here))), (3, .long (zL (0))), (5, .int (zI (0)))]) [2, 3, 4, 1, 0] rfl ?_
  have lp5_1 : ∀ (f3 : Nat) (sm : Int) (k : Int), (0 ≤ k ∧ k ≤ 4) → (0 ≤ sm ∧ sm < 9223372036854775808) → (sm = sumZ (fun k => g (here + slp k)) k.toNat) → (4 - k).toNat < f3 → ZW C 0 0 [wO w 6 [.ref p, .ref w_layers, .ref w_spreading, .int (zI (w_ready))], wO p 4 [.ref p_dx, .ref p_dy, .ref p_weights, .ref p_leaps, .int (zI (4)), .int (zI (p_kind)), .int (zI (p_top)), .int (zI (p_round)), .int (zI (p_barredCount)), .int (zI (p_ax)), .int (zI (p_ay)), .int (zI (p_bx)), .int (zI (p_by)), .ref p_barred, .ref p_passable], wI p_leaps (zK C).2.1 8 lp, wJ a (zK C).2.2.1 8978 g] [(0, .ref w), (1, .ref a), (2, .int (zI (here))), (3, .long (zL (sm))), (5, .int (zI (k)))] 5 [] := by
    intro f3
    induction f3 with
    | zero => intro _ _ _ _ _ hf; exact absurd hf (Nat.not_lt_zero _)
    | succ f3 ih5_2 =>
      intro sm k vk vs vs2 hf_5
      refine z_iload hC 4 dX6_sumAhead_5 rfl ?_
      refine z_aload_n hC 0 dX6_sumAhead_7 rfl rfl ?_
      refine z_get hC (T := TX6) (N := 4) hinX6 0 0 dX6_sumAhead_8 rfl rfl (by decide) (List.mem_of_getElem? (i := 1) rfl) rfl rfl ?_
      refine z_get hC (T := TX4) (N := 15) hinX4 1 4 dX6_sumAhead_11 rfl rfl (by decide) (List.mem_of_getElem? (i := 2) rfl) rfl rfl ?_
      refine z_icge hC 48 dX6_sumAhead_14 (by decide) (by omega) (fun c_4 => ?_) (fun c_4 => ?_)
      · skip
        refine z_lload_n hC 3 dX6_sumAhead_48 rfl rfl ?_
        refine z_ldc2 (v := 4611686018427387904) hC (List.mem_of_getElem? (i := 3) rfl) rfl dX6_sumAhead_49 ?_
        refine z_mminL hC dX6_sumAhead_52 (List.mem_of_getElem? (i := 5) rfl) (List.mem_of_getElem? (i := 6) rfl) (List.mem_of_getElem? (i := 7) rfl) (List.mem_of_getElem? (i := 8) rfl) (by omega) (Nat.le_of_ble_eq_true rfl) (Nat.le_of_ble_eq_true rfl) (Nat.le_of_ble_eq_true rfl) (Nat.le_of_ble_eq_true rfl) ?_
        exact z_lret hC hR dX6_sumAhead_55 (Nat.le_of_ble_eq_true rfl) (Nat.le_of_ble_eq_true rfl) ⟨min sm 4611686018427387904, rfl, rfl, by exact sumA_fin vk.1 vk.2 vs2 (fun k h0 h1 => (hg _ (by have := slp_c k; omega) (by have := slp_c k; omega)).1) (by omega)⟩
      · skip
        refine z_lload_n hC 3 dX6_sumAhead_17 rfl rfl ?_
        refine z_ldc2 (v := 4611686018427387904) hC (List.mem_of_getElem? (i := 3) rfl) rfl dX6_sumAhead_18 ?_
        refine z_lcge hC 48 dX6_sumAhead_21 dX6_sumAhead_22 (by decide) (by omega) (fun c_5 => ?_) (fun c_5 => ?_)
        · skip
          refine z_lload_n hC 3 dX6_sumAhead_48 rfl rfl ?_
          refine z_ldc2 (v := 4611686018427387904) hC (List.mem_of_getElem? (i := 3) rfl) rfl dX6_sumAhead_49 ?_
          refine z_mminL hC dX6_sumAhead_52 (List.mem_of_getElem? (i := 5) rfl) (List.mem_of_getElem? (i := 6) rfl) (List.mem_of_getElem? (i := 7) rfl) (List.mem_of_getElem? (i := 8) rfl) (by omega) (Nat.le_of_ble_eq_true rfl) (Nat.le_of_ble_eq_true rfl) (Nat.le_of_ble_eq_true rfl) (Nat.le_of_ble_eq_true rfl) ?_
          exact z_lret hC hR dX6_sumAhead_55 (Nat.le_of_ble_eq_true rfl) (Nat.le_of_ble_eq_true rfl) ⟨min sm 4611686018427387904, rfl, rfl, by exact sumA_fin vk.1 vk.2 vs2 (fun k h0 h1 => (hg _ (by have := slp_c k; omega) (by have := slp_c k; omega)).1) (by omega)⟩
        · skip
          refine z_lload_n hC 3 dX6_sumAhead_25 rfl rfl ?_
          refine z_aload_n hC 1 dX6_sumAhead_26 rfl rfl ?_
          refine z_iload_n hC 2 dX6_sumAhead_27 rfl rfl ?_
          refine z_aload_n hC 0 dX6_sumAhead_28 rfl rfl ?_
          refine z_get hC (T := TX6) (N := 4) hinX6 0 0 dX6_sumAhead_29 rfl rfl (by decide) (List.mem_of_getElem? (i := 1) rfl) rfl rfl ?_
          refine z_get hC (T := TX4) (N := 15) hinX4 1 3 dX6_sumAhead_32 rfl rfl (by decide) (List.mem_of_getElem? (i := 4) rfl) rfl rfl ?_
          refine z_iload hC 4 dX6_sumAhead_35 rfl ?_
          refine z_iald hC 2 dX6_sumAhead_37 rfl (by omega) ?_
          have l_6 := hlp k (by omega) (by omega)
          have l_7 := slp_c k
          refine z_iadd hC (here + (lp k)) dX6_sumAhead_38 rfl ?_
          refine z_lald hC 3 dX6_sumAhead_39 rfl (by omega) ?_
          have l_8 := hg (here + (lp k)) (by omega) (by omega)
          refine z_ladd hC (sm + (g (here + (lp k)))) dX6_sumAhead_40 rfl ?_
          refine z_lstore_n hC [(3, .long (zL (sm + (g (here + (lp k)))))), (0, .ref w), (1, .ref a), (2, .int (zI (here))), (5, .int (zI (k)))] dX6_sumAhead_41 rfl (by decide) rfl ?_
          refine z_iinc (a := k) (v := 1) (r := k + 1) hC 4 [(5, .int (zI (k + 1))), (3, .long (zL (sm + (g (here + (lp k)))))), (0, .ref w), (1, .ref a), (2, .int (zI (here)))] dX6_sumAhead_42 rfl rfl (by decide) rfl ?_
          refine z_goto hC 5 dX6_sumAhead_45 (by decide) ?_
          refine z_lv (lv' := [(0, .ref w), (1, .ref a), (2, .int (zI (here))), (3, .long (zL (sm + (g (here + (lp k)))))), (5, .int (zI (k + 1)))]) [2, 3, 4, 1, 0] rfl ?_
          exact ih5_2 (sm + (g (here + (lp k)))) (k + 1) (by omega) (by omega) (by rw [sumZ_s (by omega), ← vs2, hlp k (by omega) (by omega)]) (by omega)
  exact lp5_1 _ 0 0 (by omega) (by omega) (by rfl) (Nat.lt_succ_self _)

set_option maxHeartbeats 4000000 in
set_option maxRecDepth 100000 in
theorem c_X6_beginS (l : Launch) (D : va_G) (K : ClassId × ClassId × ClassId × ClassId) (w a p w_layers w_spreading p_dx p_dy p_weights p_leaps p_barred p_passable : Nat) (fs en w_ready p_stepCount p_top p_round p_barredCount p_ax p_ay p_bx p_by : Int) (pas g : Int → Int) (hfs : zR fs) (hen : zR en) (hp : ∀ j, 0 ≤ j → j < 4489 → pas j = oP j) : zMet l D K yX6_begin wsX6_begin ({ frames := 1, cells := 0, slots := 0, locals := 25 }) 0 0 [.ref w, .ref a, .int (zI (fs)), .int (zI (en))] [wO w 6 [.ref p, .ref w_layers, .ref w_spreading, .int (zI (w_ready))], wO p 4 [.ref p_dx, .ref p_dy, .ref p_weights, .ref p_leaps, .int (zI (p_stepCount)), .int (zI (0)), .int (zI (p_top)), .int (zI (p_round)), .int (zI (p_barredCount)), .int (zI (p_ax)), .int (zI (p_ay)), .int (zI (p_bx)), .int (zI (p_by)), .ref p_barred, .ref p_passable], wI p_passable K.1 4489 pas, wJ a K.2.2.1 8978 g] (fun vr_ wr_ => ∃ (g2 : Int → Int), vr_ = none ∧ wr_ = [wO w 6 [.ref p, .ref w_layers, .ref w_spreading, .int (zI (w_ready))], wO p 4 [.ref p_dx, .ref p_dy, .ref p_weights, .ref p_leaps, .int (zI (p_stepCount)), .int (zI (0)), .int (zI (p_top)), .int (zI (p_round)), .int (zI (p_barredCount)), .int (zI (p_ax)), .int (zI (p_ay)), .int (zI (p_bx)), .int (zI (p_by)), .ref p_barred, .ref p_passable], wI p_passable K.1 4489 pas, wJ a K.2.2.1 8978 g2] ∧ ((∀ j, 0 ≤ j → j < 4489 → g2 j = if fs ≤ j ∧ j < en ∧ oP j = 1 then 1 else 0) ∧ (∀ j, 4489 ≤ j → g2 j = g j))) := by
  refine zMet_of (cc := cX6_begin) (nL := 5) (ret := none) (by decide) rfl (Nat.le_of_ble_eq_true rfl) ?_
  rintro C rfl rfl rfl hC hR
  have hinX6 : ∀ w ∈ u_ws RX6 TX6 4, w ∈ wsX6_begin := by decide +kernel
  show ZW C 0 0 [wO w 6 [.ref p, .ref w_layers, .ref w_spreading, .int (zI (w_ready))], wO p 4 [.ref p_dx, .ref p_dy, .ref p_weights, .ref p_leaps, .int (zI (p_stepCount)), .int (zI (0)), .int (zI (p_top)), .int (zI (p_round)), .int (zI (p_barredCount)), .int (zI (p_ax)), .int (zI (p_ay)), .int (zI (p_bx)), .int (zI (p_by)), .ref p_barred, .ref p_passable], wI p_passable (zK C).1 4489 pas, wJ a (zK C).2.2.1 8978 g] [(0, .ref w), (1, .ref a), (2, .int (zI (fs))), (3, .int (zI (en)))] 0 []
  refine z_iconst hC dX6_begin_0 ?_
  refine z_istore hC [(4, .int (zI (0))), (0, .ref w), (1, .ref a), (2, .int (zI (fs))), (3, .int (zI (en)))] dX6_begin_1 (by decide) rfl ?_
  refine z_lv (lv' := [(0, .ref w), (1, .ref a), (2, .int (zI (fs))), (3, .int (zI (en))), (4, .int (zI (0)))]) [1, 2, 3, 4, 0] rfl ?_
  have lp3_1 : ∀ (f3 : Nat) (i : Int) (q : Int → Int), (0 ≤ i ∧ i ≤ 4489) → (∀ j, 0 ≤ j → j < i → q j = if fs ≤ j ∧ j < en ∧ oP j = 1 then 1 else 0) → (∀ j, i ≤ j → q j = g j) → (4489 - i).toNat < f3 → ZW C 0 0 [wO w 6 [.ref p, .ref w_layers, .ref w_spreading, .int (zI (w_ready))], wO p 4 [.ref p_dx, .ref p_dy, .ref p_weights, .ref p_leaps, .int (zI (p_stepCount)), .int (zI (0)), .int (zI (p_top)), .int (zI (p_round)), .int (zI (p_barredCount)), .int (zI (p_ax)), .int (zI (p_ay)), .int (zI (p_bx)), .int (zI (p_by)), .ref p_barred, .ref p_passable], wI p_passable (zK C).1 4489 pas, wJ a (zK C).2.2.1 8978 q] [(0, .ref w), (1, .ref a), (2, .int (zI (fs))), (3, .int (zI (en))), (4, .int (zI (i)))] 3 [] := by
    intro f3
    induction f3 with
    | zero => intro _ _ _ _ _ hf; exact absurd hf (Nat.not_lt_zero _)
    | succ f3 ih3_2 =>
      intro i q vi vq vo hf_3
      refine z_iload hC 4 dX6_begin_3 rfl ?_
      refine z_sipush hC dX6_begin_5 (by decide) ?_
      refine z_icge hC 50 dX6_begin_8 (by decide) (by omega) (fun c_4 => ?_) (fun c_4 => ?_)
      · skip
        refine z_aload_n hC 0 dX6_begin_50 rfl rfl ?_
        refine z_aload_n hC 1 dX6_begin_51 rfl rfl ?_
        refine z_iconst hC dX6_begin_52 ?_
        refine z_callV hC [.ref a, .int (zI (0))] 2 0 dX6_begin_53 (c_X6_closeRing (zl C) (zD C) (zK C) w a p w_layers w_spreading p_dx p_dy p_weights p_leaps p_barred p_passable 0 w_ready p_stepCount p_top p_round p_barredCount p_ax p_ay p_bx p_by ) gX6_begin_X6_closeRing rfl rfl rfl ⟨by decide, by decide, by decide +kernel⟩ ⟨(Nat.le_of_ble_eq_true rfl), (Nat.le_of_ble_eq_true rfl)⟩ rfl rfl rfl rfl [0, 1] [2, 3] [wI p_passable (zK C).1 4489 pas, wJ a (zK C).2.2.1 8978 q] [] rfl rfl rfl rfl rfl (by decide) (Nat.le_of_ble_eq_true rfl) ⟨(Nat.le_of_ble_eq_true rfl), (Nat.le_of_ble_eq_true rfl)⟩ ?_
        rintro v_ w_ ⟨rfl, rfl, h_53_5⟩
        show ZW C 0 0 [wI p_passable (zK C).1 4489 pas, wJ a (zK C).2.2.1 8978 q, wO w 6 [.ref p, .ref w_layers, .ref w_spreading, .int (zI (w_ready))], wO p 4 [.ref p_dx, .ref p_dy, .ref p_weights, .ref p_leaps, .int (zI (p_stepCount)), .int (zI (0)), .int (zI (p_top)), .int (zI (p_round)), .int (zI (p_barredCount)), .int (zI (p_ax)), .int (zI (p_ay)), .int (zI (p_bx)), .int (zI (p_by)), .ref p_barred, .ref p_passable]] [(0, .ref w), (1, .ref a), (2, .int (zI (fs))), (3, .int (zI (en))), (4, .int (zI (i)))] 56 []
        refine z_ws (ws' := [wO w 6 [.ref p, .ref w_layers, .ref w_spreading, .int (zI (w_ready))], wO p 4 [.ref p_dx, .ref p_dy, .ref p_weights, .ref p_leaps, .int (zI (p_stepCount)), .int (zI (0)), .int (zI (p_top)), .int (zI (p_round)), .int (zI (p_barredCount)), .int (zI (p_ax)), .int (zI (p_ay)), .int (zI (p_bx)), .int (zI (p_by)), .ref p_barred, .ref p_passable], wI p_passable (zK C).1 4489 pas, wJ a (zK C).2.2.1 8978 q]) [2, 3, 0, 1] rfl rfl ?_
        exact z_vret hC hR dX6_begin_56 (Nat.le_of_ble_eq_true rfl) (Nat.le_of_ble_eq_true rfl) ⟨q, rfl, rfl, by exact ⟨fun j h0 h1 => vq j h0 (by omega), fun j h0 => vo j (by omega)⟩⟩
      · skip
        refine z_aload_n hC 1 dX6_begin_11 rfl rfl ?_
        refine z_iload hC 4 dX6_begin_12 rfl ?_
        refine z_iload hC 4 dX6_begin_14 rfl ?_
        refine z_iload_n hC 2 dX6_begin_16 rfl rfl ?_
        refine z_iclt hC 42 dX6_begin_17 (by decide) (by omega) (fun c_6 => ?_) (fun c_6 => ?_)
        · skip
          refine z_lconst (v := 0) hC dX6_begin_42 rfl ?_
          refine z_last hC 3 [wO w 6 [.ref p, .ref w_layers, .ref w_spreading, .int (zI (w_ready))], wO p 4 [.ref p_dx, .ref p_dy, .ref p_weights, .ref p_leaps, .int (zI (p_stepCount)), .int (zI (0)), .int (zI (p_top)), .int (zI (p_round)), .int (zI (p_barredCount)), .int (zI (p_ax)), .int (zI (p_ay)), .int (zI (p_bx)), .int (zI (p_by)), .ref p_barred, .ref p_passable], wI p_passable (zK C).1 4489 pas, wJ a (zK C).2.2.1 8978 (zu q i 0)] dX6_begin_43 rfl (by omega) rfl ?_
          refine z_iinc (a := i) (v := 1) (r := i + 1) hC 4 [(4, .int (zI (i + 1))), (0, .ref w), (1, .ref a), (2, .int (zI (fs))), (3, .int (zI (en)))] dX6_begin_44 rfl rfl (by decide) rfl ?_
          refine z_goto hC 3 dX6_begin_47 (by decide) ?_
          refine z_lv (lv' := [(0, .ref w), (1, .ref a), (2, .int (zI (fs))), (3, .int (zI (en))), (4, .int (zI (i + 1)))]) [1, 2, 3, 4, 0] rfl ?_
          exact ih3_2 (i + 1) (zu q i 0) (by omega) (by intro j h0 h1; unfold zu; by_cases e : j = i; (rw [if_pos e, e]; have e2 := hp i (by omega) (by omega); split <;> omega); (rw [if_neg e]; exact vq j h0 (by omega))) (by intro j h0; unfold zu; rw [if_neg (by omega)]; exact vo j (by omega)) (by omega)
        · skip
          refine z_iload hC 4 dX6_begin_20 rfl ?_
          refine z_iload_n hC 3 dX6_begin_22 rfl rfl ?_
          refine z_icge hC 42 dX6_begin_23 (by decide) (by omega) (fun c_7 => ?_) (fun c_7 => ?_)
          · skip
            refine z_lconst (v := 0) hC dX6_begin_42 rfl ?_
            refine z_last hC 3 [wO w 6 [.ref p, .ref w_layers, .ref w_spreading, .int (zI (w_ready))], wO p 4 [.ref p_dx, .ref p_dy, .ref p_weights, .ref p_leaps, .int (zI (p_stepCount)), .int (zI (0)), .int (zI (p_top)), .int (zI (p_round)), .int (zI (p_barredCount)), .int (zI (p_ax)), .int (zI (p_ay)), .int (zI (p_bx)), .int (zI (p_by)), .ref p_barred, .ref p_passable], wI p_passable (zK C).1 4489 pas, wJ a (zK C).2.2.1 8978 (zu q i 0)] dX6_begin_43 rfl (by omega) rfl ?_
            refine z_iinc (a := i) (v := 1) (r := i + 1) hC 4 [(4, .int (zI (i + 1))), (0, .ref w), (1, .ref a), (2, .int (zI (fs))), (3, .int (zI (en)))] dX6_begin_44 rfl rfl (by decide) rfl ?_
            refine z_goto hC 3 dX6_begin_47 (by decide) ?_
            refine z_lv (lv' := [(0, .ref w), (1, .ref a), (2, .int (zI (fs))), (3, .int (zI (en))), (4, .int (zI (i + 1)))]) [1, 2, 3, 4, 0] rfl ?_
            exact ih3_2 (i + 1) (zu q i 0) (by omega) (by intro j h0 h1; unfold zu; by_cases e : j = i; (rw [if_pos e, e]; have e2 := hp i (by omega) (by omega); split <;> omega); (rw [if_neg e]; exact vq j h0 (by omega))) (by intro j h0; unfold zu; rw [if_neg (by omega)]; exact vo j (by omega)) (by omega)
          · skip
            refine z_aload_n hC 0 dX6_begin_26 rfl rfl ?_
            refine z_get hC (T := TX6) (N := 4) hinX6 0 0 dX6_begin_27 rfl rfl (by decide) (List.mem_of_getElem? (i := 1) rfl) rfl rfl ?_
            refine z_iload hC 4 dX6_begin_30 rfl ?_
            refine z_callV hC [.int (zI (i))] 1 0 dX6_begin_32 (c_X4_isPassable (zl C) (zD C) (zK C) p p_dx p_dy p_weights p_leaps p_barred p_passable i p_stepCount 0 p_top p_round p_barredCount p_ax p_ay p_bx p_by pas (by first | assumption | omega) (by intro j h0 h1; rw [hp j h0 h1]; exact oP_01 j)) gX6_begin_X4_isPassable rfl rfl rfl ⟨by decide, by decide, by decide +kernel⟩ ⟨(Nat.le_of_ble_eq_true rfl), (Nat.le_of_ble_eq_true rfl)⟩ rfl rfl rfl rfl [1, 2] [0, 3] [wO w 6 [.ref p, .ref w_layers, .ref w_spreading, .int (zI (w_ready))], wJ a (zK C).2.2.1 8978 q] [.int (zI (i)), .ref a] rfl rfl rfl rfl rfl (by decide) (Nat.le_of_ble_eq_true rfl) ⟨(Nat.le_of_ble_eq_true rfl), (Nat.le_of_ble_eq_true rfl)⟩ ?_
            rintro v_ w_ ⟨r_8, rfl, rfl, h_32_9⟩
            show ZW C 0 0 [wO w 6 [.ref p, .ref w_layers, .ref w_spreading, .int (zI (w_ready))], wJ a (zK C).2.2.1 8978 q, wO p 4 [.ref p_dx, .ref p_dy, .ref p_weights, .ref p_leaps, .int (zI (p_stepCount)), .int (zI (0)), .int (zI (p_top)), .int (zI (p_round)), .int (zI (p_barredCount)), .int (zI (p_ax)), .int (zI (p_ay)), .int (zI (p_bx)), .int (zI (p_by)), .ref p_barred, .ref p_passable], wI p_passable (zK C).1 4489 pas] [(0, .ref w), (1, .ref a), (2, .int (zI (fs))), (3, .int (zI (en))), (4, .int (zI (i)))] 35 [.int (zI (r_8)), .int (zI (i)), .ref a]
            refine z_ifeq hC 42 dX6_begin_35 (by decide) (by omega) (fun c_10 => ?_) (fun c_10 => ?_)
            · skip
              refine z_lconst (v := 0) hC dX6_begin_42 rfl ?_
              refine z_last hC 1 [wO w 6 [.ref p, .ref w_layers, .ref w_spreading, .int (zI (w_ready))], wJ a (zK C).2.2.1 8978 (zu q i 0), wO p 4 [.ref p_dx, .ref p_dy, .ref p_weights, .ref p_leaps, .int (zI (p_stepCount)), .int (zI (0)), .int (zI (p_top)), .int (zI (p_round)), .int (zI (p_barredCount)), .int (zI (p_ax)), .int (zI (p_ay)), .int (zI (p_bx)), .int (zI (p_by)), .ref p_barred, .ref p_passable], wI p_passable (zK C).1 4489 pas] dX6_begin_43 rfl (by omega) rfl ?_
              refine z_iinc (a := i) (v := 1) (r := i + 1) hC 4 [(4, .int (zI (i + 1))), (0, .ref w), (1, .ref a), (2, .int (zI (fs))), (3, .int (zI (en)))] dX6_begin_44 rfl rfl (by decide) rfl ?_
              refine z_goto hC 3 dX6_begin_47 (by decide) ?_
              refine z_lv (lv' := [(0, .ref w), (1, .ref a), (2, .int (zI (fs))), (3, .int (zI (en))), (4, .int (zI (i + 1)))]) [1, 2, 3, 4, 0] rfl ?_
              refine z_ws (ws' := [wO w 6 [.ref p, .ref w_layers, .ref w_spreading, .int (zI (w_ready))], wO p 4 [.ref p_dx, .ref p_dy, .ref p_weights, .ref p_leaps, .int (zI (p_stepCount)), .int (zI (0)), .int (zI (p_top)), .int (zI (p_round)), .int (zI (p_barredCount)), .int (zI (p_ax)), .int (zI (p_ay)), .int (zI (p_bx)), .int (zI (p_by)), .ref p_barred, .ref p_passable], wI p_passable (zK C).1 4489 pas, wJ a (zK C).2.2.1 8978 (zu q i 0)]) [0, 2, 3, 1] rfl rfl ?_
              exact ih3_2 (i + 1) (zu q i 0) (by omega) (by intro j h0 h1; unfold zu; by_cases e : j = i; (rw [if_pos e, e]; have e2 := hp i (by omega) (by omega); split <;> omega); (rw [if_neg e]; exact vq j h0 (by omega))) (by intro j h0; unfold zu; rw [if_neg (by omega)]; exact vo j (by omega)) (by omega)
            · skip
              refine z_lconst (v := 1) hC dX6_begin_38 rfl ?_
              refine z_goto hC 43 dX6_begin_39 (by decide) ?_
              refine z_last hC 1 [wO w 6 [.ref p, .ref w_layers, .ref w_spreading, .int (zI (w_ready))], wJ a (zK C).2.2.1 8978 (zu q i 1), wO p 4 [.ref p_dx, .ref p_dy, .ref p_weights, .ref p_leaps, .int (zI (p_stepCount)), .int (zI (0)), .int (zI (p_top)), .int (zI (p_round)), .int (zI (p_barredCount)), .int (zI (p_ax)), .int (zI (p_ay)), .int (zI (p_bx)), .int (zI (p_by)), .ref p_barred, .ref p_passable], wI p_passable (zK C).1 4489 pas] dX6_begin_43 rfl (by omega) rfl ?_
              refine z_iinc (a := i) (v := 1) (r := i + 1) hC 4 [(4, .int (zI (i + 1))), (0, .ref w), (1, .ref a), (2, .int (zI (fs))), (3, .int (zI (en)))] dX6_begin_44 rfl rfl (by decide) rfl ?_
              refine z_goto hC 3 dX6_begin_47 (by decide) ?_
              refine z_lv (lv' := [(0, .ref w), (1, .ref a), (2, .int (zI (fs))), (3, .int (zI (en))), (4, .int (zI (i + 1)))]) [1, 2, 3, 4, 0] rfl ?_
              refine z_ws (ws' := [wO w 6 [.ref p, .ref w_layers, .ref w_spreading, .int (zI (w_ready))], wO p 4 [.ref p_dx, .ref p_dy, .ref p_weights, .ref p_leaps, .int (zI (p_stepCount)), .int (zI (0)), .int (zI (p_top)), .int (zI (p_round)), .int (zI (p_barredCount)), .int (zI (p_ax)), .int (zI (p_ay)), .int (zI (p_bx)), .int (zI (p_by)), .ref p_barred, .ref p_passable], wI p_passable (zK C).1 4489 pas, wJ a (zK C).2.2.1 8978 (zu q i 1)]) [0, 2, 3, 1] rfl rfl ?_
              exact ih3_2 (i + 1) (zu q i 1) (by omega) (by intro j h0 h1; unfold zu; by_cases e : j = i; (rw [if_pos e, e]; have e2 := hp i (by omega) (by omega); split <;> omega); (rw [if_neg e]; exact vq j h0 (by omega))) (by intro j h0; unfold zu; rw [if_neg (by omega)]; exact vo j (by omega)) (by omega)
  exact lp3_1 _ 0 g (by omega) (by intro j h0 h1; omega) (by intro j _; rfl) (Nat.lt_succ_self _)

set_option maxHeartbeats 4000000 in
set_option maxRecDepth 100000 in
theorem c_X6_spreadS (l : Launch) (D : va_G) (K : ClassId × ClassId × ClassId × ClassId) (w a p w_layers w_spreading p_dx p_dy p_weights p_leaps p_barred p_passable : Nat) (src tgt y far w_ready p_top p_round p_barredCount p_ax p_ay p_bx p_by : Int) (lp pas g : Int → Int) (hp : ∀ j, 0 ≤ j → j < 4489 → pas j = oP j) (hlp : ∀ k, 0 ≤ k → k < 8 → lp k = slp k) (hg : ∀ j, 0 ≤ j → j < 8978 → 0 ≤ g j ∧ g j ≤ 4611686018427387904) (hs : 0 ≤ src ∧ src + 4489 ≤ 8978 ∧ 0 ≤ tgt ∧ tgt + 4489 ≤ 8978 ∧ (src + 4489 ≤ tgt ∨ tgt + 4489 ≤ src)) (hy : -30 ≤ y ∧ y ≤ 30 ∧ 0 ≤ far ∧ far ≤ 100) : zMet l D K yX6_spread wsX6_spread ({ frames := 2, cells := 0, slots := 0, locals := 40 }) 0 0 [.ref w, .ref a, .int (zI (src)), .int (zI (tgt)), .int (zI (y)), .int (zI (far))] [wO w 6 [.ref p, .ref w_layers, .ref w_spreading, .int (zI (w_ready))], wO p 4 [.ref p_dx, .ref p_dy, .ref p_weights, .ref p_leaps, .int (zI (4)), .int (zI (0)), .int (zI (p_top)), .int (zI (p_round)), .int (zI (p_barredCount)), .int (zI (p_ax)), .int (zI (p_ay)), .int (zI (p_bx)), .int (zI (p_by)), .ref p_barred, .ref p_passable], wI p_leaps K.2.1 8 lp, wI p_passable K.1 4489 pas, wJ a K.2.2.1 8978 g] (fun vr_ wr_ => ∃ (g2 : Int → Int), vr_ = none ∧ wr_ = [wO w 6 [.ref p, .ref w_layers, .ref w_spreading, .int (zI (w_ready))], wO p 4 [.ref p_dx, .ref p_dy, .ref p_weights, .ref p_leaps, .int (zI (4)), .int (zI (0)), .int (zI (p_top)), .int (zI (p_round)), .int (zI (p_barredCount)), .int (zI (p_ax)), .int (zI (p_ay)), .int (zI (p_bx)), .int (zI (p_by)), .ref p_barred, .ref p_passable], wI p_leaps K.2.1 8 lp, wI p_passable K.1 4489 pas, wJ a K.2.2.1 8978 g2] ∧ ((∀ j, 0 ≤ j → j < 4489 → g2 (tgt + j) = spr g src y far j) ∧ (∀ j, j < tgt ∨ tgt + 4489 ≤ j → g2 j = g j) ∧ (∀ j, 0 ≤ j → j < 8978 → 0 ≤ g2 j ∧ g2 j ≤ 4611686018427387904))) := by
  refine zMet_of (cc := cX6_spread) (nL := 10) (ret := none) (by decide) rfl (Nat.le_of_ble_eq_true rfl) ?_
  rintro C rfl rfl rfl hC hR
  have hinX6 : ∀ w ∈ u_ws RX6 TX6 4, w ∈ wsX6_spread := by decide +kernel
  show ZW C 0 0 [wO w 6 [.ref p, .ref w_layers, .ref w_spreading, .int (zI (w_ready))], wO p 4 [.ref p_dx, .ref p_dy, .ref p_weights, .ref p_leaps, .int (zI (4)), .int (zI (0)), .int (zI (p_top)), .int (zI (p_round)), .int (zI (p_barredCount)), .int (zI (p_ax)), .int (zI (p_ay)), .int (zI (p_bx)), .int (zI (p_by)), .ref p_barred, .ref p_passable], wI p_leaps (zK C).2.1 8 lp, wI p_passable (zK C).1 4489 pas, wJ a (zK C).2.2.1 8978 g] [(0, .ref w), (1, .ref a), (2, .int (zI (src))), (3, .int (zI (tgt))), (4, .int (zI (y))), (5, .int (zI (far)))] 0 []
  refine z_bipush hC dX6_spread_0 (by decide) ?_
  refine z_iload hC 4 dX6_spread_2 rfl ?_
  refine z_iload hC 5 dX6_spread_4 rfl ?_
  refine z_isub hC (y - far) dX6_spread_6 rfl ?_
  refine z_bipush hC dX6_spread_7 (by decide) ?_
  refine z_mmax hC dX6_spread_9 (List.mem_of_getElem? (i := 1) rfl) (List.mem_of_getElem? (i := 2) rfl) (List.mem_of_getElem? (i := 3) rfl) (List.mem_of_getElem? (i := 4) rfl) (by omega) (Nat.le_of_ble_eq_true rfl) (Nat.le_of_ble_eq_true rfl) (Nat.le_of_ble_eq_true rfl) (Nat.le_of_ble_eq_true rfl) ?_
  refine z_callS hC [.int (zI ((-33))), .int (zI (max (y - far) ((-30))))] 2 dX6_spread_12 (c_X4_cellOf (zl C) (zD C) (zK C) ((-33)) (max (y - far) ((-30))) ) gX6_spread_X4_cellOf rfl rfl rfl ⟨by decide, by decide, by decide +kernel⟩ ⟨(Nat.le_of_ble_eq_true rfl), (Nat.le_of_ble_eq_true rfl)⟩ rfl [] [0, 1, 2, 3, 4] [wO w 6 [.ref p, .ref w_layers, .ref w_spreading, .int (zI (w_ready))], wO p 4 [.ref p_dx, .ref p_dy, .ref p_weights, .ref p_leaps, .int (zI (4)), .int (zI (0)), .int (zI (p_top)), .int (zI (p_round)), .int (zI (p_barredCount)), .int (zI (p_ax)), .int (zI (p_ay)), .int (zI (p_bx)), .int (zI (p_by)), .ref p_barred, .ref p_passable], wI p_leaps (zK C).2.1 8 lp, wI p_passable (zK C).1 4489 pas, wJ a (zK C).2.2.1 8978 g] [] rfl rfl rfl rfl rfl (by decide) (Nat.le_of_ble_eq_true rfl) ⟨(Nat.le_of_ble_eq_true rfl), (Nat.le_of_ble_eq_true rfl)⟩ ?_
  rintro v_ w_ ⟨rfl, rfl, h_12_1⟩
  show ZW C 0 0 [wO w 6 [.ref p, .ref w_layers, .ref w_spreading, .int (zI (w_ready))], wO p 4 [.ref p_dx, .ref p_dy, .ref p_weights, .ref p_leaps, .int (zI (4)), .int (zI (0)), .int (zI (p_top)), .int (zI (p_round)), .int (zI (p_barredCount)), .int (zI (p_ax)), .int (zI (p_ay)), .int (zI (p_bx)), .int (zI (p_by)), .ref p_barred, .ref p_passable], wI p_leaps (zK C).2.1 8 lp, wI p_passable (zK C).1 4489 pas, wJ a (zK C).2.2.1 8978 g] [(0, .ref w), (1, .ref a), (2, .int (zI (src))), (3, .int (zI (tgt))), (4, .int (zI (y))), (5, .int (zI (far)))] 15 [.int (zI (((max (y - far) ((-30))) + 33) * 67 + ((-33)) + 33))]
  refine z_istore hC [(6, .int (zI (((max (y - far) ((-30))) + 33) * 67 + ((-33)) + 33))), (0, .ref w), (1, .ref a), (2, .int (zI (src))), (3, .int (zI (tgt))), (4, .int (zI (y))), (5, .int (zI (far)))] dX6_spread_15 (by decide) rfl ?_
  refine z_bipush hC dX6_spread_17 (by decide) ?_
  refine z_iload hC 5 dX6_spread_19 rfl ?_
  refine z_iload hC 6 dX6_spread_21 rfl ?_
  refine z_iadd hC (y + far) dX6_spread_23 rfl ?_
  refine z_bipush hC dX6_spread_24 (by decide) ?_
  refine z_mmin hC dX6_spread_26 (List.mem_of_getElem? (i := 5) rfl) (List.mem_of_getElem? (i := 6) rfl) (List.mem_of_getElem? (i := 3) rfl) (List.mem_of_getElem? (i := 7) rfl) (by omega) (Nat.le_of_ble_eq_true rfl) (Nat.le_of_ble_eq_true rfl) (Nat.le_of_ble_eq_true rfl) (Nat.le_of_ble_eq_true rfl) ?_
  refine z_iconst hC dX6_spread_29 ?_
  refine z_iadd hC ((min (y + far) 30) + 1) dX6_spread_30 rfl ?_
  refine z_callS hC [.int (zI ((-33))), .int (zI ((min (y + far) 30) + 1))] 2 dX6_spread_31 (c_X4_cellOf (zl C) (zD C) (zK C) ((-33)) ((min (y + far) 30) + 1) ) gX6_spread_X4_cellOf rfl rfl rfl ⟨by decide, by decide, by decide +kernel⟩ ⟨(Nat.le_of_ble_eq_true rfl), (Nat.le_of_ble_eq_true rfl)⟩ rfl [] [0, 1, 2, 3, 4] [wO w 6 [.ref p, .ref w_layers, .ref w_spreading, .int (zI (w_ready))], wO p 4 [.ref p_dx, .ref p_dy, .ref p_weights, .ref p_leaps, .int (zI (4)), .int (zI (0)), .int (zI (p_top)), .int (zI (p_round)), .int (zI (p_barredCount)), .int (zI (p_ax)), .int (zI (p_ay)), .int (zI (p_bx)), .int (zI (p_by)), .ref p_barred, .ref p_passable], wI p_leaps (zK C).2.1 8 lp, wI p_passable (zK C).1 4489 pas, wJ a (zK C).2.2.1 8978 g] [] rfl rfl rfl rfl rfl (by decide) (Nat.le_of_ble_eq_true rfl) ⟨(Nat.le_of_ble_eq_true rfl), (Nat.le_of_ble_eq_true rfl)⟩ ?_
  rintro v_ w_ ⟨rfl, rfl, h_31_2⟩
  show ZW C 0 0 [wO w 6 [.ref p, .ref w_layers, .ref w_spreading, .int (zI (w_ready))], wO p 4 [.ref p_dx, .ref p_dy, .ref p_weights, .ref p_leaps, .int (zI (4)), .int (zI (0)), .int (zI (p_top)), .int (zI (p_round)), .int (zI (p_barredCount)), .int (zI (p_ax)), .int (zI (p_ay)), .int (zI (p_bx)), .int (zI (p_by)), .ref p_barred, .ref p_passable], wI p_leaps (zK C).2.1 8 lp, wI p_passable (zK C).1 4489 pas, wJ a (zK C).2.2.1 8978 g] [(6, .int (zI (((max (y - far) ((-30))) + 33) * 67 + ((-33)) + 33))), (0, .ref w), (1, .ref a), (2, .int (zI (src))), (3, .int (zI (tgt))), (4, .int (zI (y))), (5, .int (zI (far)))] 34 [.int (zI ((((min (y + far) 30) + 1) + 33) * 67 + ((-33)) + 33))]
  refine z_istore hC [(7, .int (zI ((((min (y + far) 30) + 1) + 33) * 67 + ((-33)) + 33))), (6, .int (zI (((max (y - far) ((-30))) + 33) * 67 + ((-33)) + 33))), (0, .ref w), (1, .ref a), (2, .int (zI (src))), (3, .int (zI (tgt))), (4, .int (zI (y))), (5, .int (zI (far)))] dX6_spread_34 (by decide) rfl ?_
  refine z_iconst hC dX6_spread_36 ?_
  refine z_istore hC [(8, .int (zI (0))), (7, .int (zI ((((min (y + far) 30) + 1) + 33) * 67 + ((-33)) + 33))), (6, .int (zI (((max (y - far) ((-30))) + 33) * 67 + ((-33)) + 33))), (0, .ref w), (1, .ref a), (2, .int (zI (src))), (3, .int (zI (tgt))), (4, .int (zI (y))), (5, .int (zI (far)))] dX6_spread_37 (by decide) rfl ?_
  refine z_lv (lv' := [(0, .ref w), (1, .ref a), (2, .int (zI (src))), (3, .int (zI (tgt))), (4, .int (zI (y))), (5, .int (zI (far))), (6, .int (zI (((max (y - far) ((-30))) + 33) * 67 + ((-33)) + 33))), (7, .int (zI ((((min (y + far) 30) + 1) + 33) * 67 + ((-33)) + 33))), (8, .int (zI (0)))]) [3, 4, 5, 6, 7, 8, 2, 1, 0] rfl ?_
  have lp39_3 : ∀ (f5 : Nat) (i : Int) (q : Int → Int), (0 ≤ i ∧ i ≤ 4489) → (∀ j, 0 ≤ j → j < i → q (tgt + j) = spr g src y far j) → (∀ j, j < tgt ∨ tgt + i ≤ j → q j = g j) → (∀ j, 0 ≤ j → j < 8978 → 0 ≤ q j ∧ q j ≤ 4611686018427387904) → (4489 - i).toNat < f5 → ZW C 0 0 [wO w 6 [.ref p, .ref w_layers, .ref w_spreading, .int (zI (w_ready))], wO p 4 [.ref p_dx, .ref p_dy, .ref p_weights, .ref p_leaps, .int (zI (4)), .int (zI (0)), .int (zI (p_top)), .int (zI (p_round)), .int (zI (p_barredCount)), .int (zI (p_ax)), .int (zI (p_ay)), .int (zI (p_bx)), .int (zI (p_by)), .ref p_barred, .ref p_passable], wI p_leaps (zK C).2.1 8 lp, wI p_passable (zK C).1 4489 pas, wJ a (zK C).2.2.1 8978 q] [(0, .ref w), (1, .ref a), (2, .int (zI (src))), (3, .int (zI (tgt))), (4, .int (zI (y))), (5, .int (zI (far))), (6, .int (zI (((max (y - far) ((-30))) + 33) * 67 + ((-33)) + 33))), (7, .int (zI ((((min (y + far) 30) + 1) + 33) * 67 + ((-33)) + 33))), (8, .int (zI (i)))] 39 [] := by
    intro f5
    induction f5 with
    | zero => intro _ _ _ _ _ _ hf; exact absurd hf (Nat.not_lt_zero _)
    | succ f5 ih39_4 =>
      intro i q vi vq vo vr hf_39
      refine z_iload hC 8 dX6_spread_39 rfl ?_
      refine z_sipush hC dX6_spread_41 (by decide) ?_
      refine z_icge hC 110 dX6_spread_44 (by decide) (by omega) (fun c_6 => ?_) (fun c_6 => ?_)
      · skip
        refine z_aload_n hC 0 dX6_spread_110 rfl rfl ?_
        refine z_aload_n hC 1 dX6_spread_111 rfl rfl ?_
        refine z_iload_n hC 3 dX6_spread_112 rfl rfl ?_
        refine z_callV hC [.ref a, .int (zI (tgt))] 2 0 dX6_spread_113 (c_X6_closeRing (zl C) (zD C) (zK C) w a p w_layers w_spreading p_dx p_dy p_weights p_leaps p_barred p_passable tgt w_ready 4 p_top p_round p_barredCount p_ax p_ay p_bx p_by ) gX6_spread_X6_closeRing rfl rfl rfl ⟨by decide, by decide, by decide +kernel⟩ ⟨(Nat.le_of_ble_eq_true rfl), (Nat.le_of_ble_eq_true rfl)⟩ rfl rfl rfl rfl [0, 1] [2, 3, 4] [wI p_leaps (zK C).2.1 8 lp, wI p_passable (zK C).1 4489 pas, wJ a (zK C).2.2.1 8978 q] [] rfl rfl rfl rfl rfl (by decide) (Nat.le_of_ble_eq_true rfl) ⟨(Nat.le_of_ble_eq_true rfl), (Nat.le_of_ble_eq_true rfl)⟩ ?_
        rintro v_ w_ ⟨rfl, rfl, h_113_7⟩
        show ZW C 0 0 [wI p_leaps (zK C).2.1 8 lp, wI p_passable (zK C).1 4489 pas, wJ a (zK C).2.2.1 8978 q, wO w 6 [.ref p, .ref w_layers, .ref w_spreading, .int (zI (w_ready))], wO p 4 [.ref p_dx, .ref p_dy, .ref p_weights, .ref p_leaps, .int (zI (4)), .int (zI (0)), .int (zI (p_top)), .int (zI (p_round)), .int (zI (p_barredCount)), .int (zI (p_ax)), .int (zI (p_ay)), .int (zI (p_bx)), .int (zI (p_by)), .ref p_barred, .ref p_passable]] [(0, .ref w), (1, .ref a), (2, .int (zI (src))), (3, .int (zI (tgt))), (4, .int (zI (y))), (5, .int (zI (far))), (6, .int (zI (((max (y - far) ((-30))) + 33) * 67 + ((-33)) + 33))), (7, .int (zI ((((min (y + far) 30) + 1) + 33) * 67 + ((-33)) + 33))), (8, .int (zI (i)))] 116 []
        refine z_ws (ws' := [wO w 6 [.ref p, .ref w_layers, .ref w_spreading, .int (zI (w_ready))], wO p 4 [.ref p_dx, .ref p_dy, .ref p_weights, .ref p_leaps, .int (zI (4)), .int (zI (0)), .int (zI (p_top)), .int (zI (p_round)), .int (zI (p_barredCount)), .int (zI (p_ax)), .int (zI (p_ay)), .int (zI (p_bx)), .int (zI (p_by)), .ref p_barred, .ref p_passable], wI p_leaps (zK C).2.1 8 lp, wI p_passable (zK C).1 4489 pas, wJ a (zK C).2.2.1 8978 q]) [3, 4, 0, 1, 2] rfl rfl ?_
        exact z_vret hC hR dX6_spread_116 (Nat.le_of_ble_eq_true rfl) (Nat.le_of_ble_eq_true rfl) ⟨q, rfl, rfl, by exact ⟨fun j h0 h1 => vq j h0 (by omega), fun j h0 => vo j (by omega), vr⟩⟩
      · skip
        refine z_iload hC 8 dX6_spread_47 rfl ?_
        refine z_iload hC 6 dX6_spread_49 rfl ?_
        refine z_iclt hC 77 dX6_spread_51 (by decide) (by omega) (fun c_8 => ?_) (fun c_8 => ?_)
        · skip
          refine z_iconst hC dX6_spread_77 ?_
          refine z_istore hC [(9, .int (zI (0))), (0, .ref w), (1, .ref a), (2, .int (zI (src))), (3, .int (zI (tgt))), (4, .int (zI (y))), (5, .int (zI (far))), (6, .int (zI (((max (y - far) ((-30))) + 33) * 67 + ((-33)) + 33))), (7, .int (zI ((((min (y + far) 30) + 1) + 33) * 67 + ((-33)) + 33))), (8, .int (zI (i)))] dX6_spread_78 (by decide) rfl ?_
          refine z_aload_n hC 2 dX6_spread_80 rfl rfl ?_
          refine z_iload_n hC 4 dX6_spread_81 rfl rfl ?_
          refine z_iload hC 9 dX6_spread_82 rfl ?_
          refine z_iadd hC (tgt + i) dX6_spread_84 rfl ?_
          refine z_iload hC 0 dX6_spread_85 rfl ?_
          refine z_ifeq hC 102 dX6_spread_87 (by decide) (by omega) (fun c_9 => ?_) (fun c_9 => by exfalso; omega)
          refine z_lconst (v := 0) hC dX6_spread_102 rfl ?_
          refine z_last hC 4 [wO w 6 [.ref p, .ref w_layers, .ref w_spreading, .int (zI (w_ready))], wO p 4 [.ref p_dx, .ref p_dy, .ref p_weights, .ref p_leaps, .int (zI (4)), .int (zI (0)), .int (zI (p_top)), .int (zI (p_round)), .int (zI (p_barredCount)), .int (zI (p_ax)), .int (zI (p_ay)), .int (zI (p_bx)), .int (zI (p_by)), .ref p_barred, .ref p_passable], wI p_leaps (zK C).2.1 8 lp, wI p_passable (zK C).1 4489 pas, wJ a (zK C).2.2.1 8978 (zu q (tgt + i) 0)] dX6_spread_103 rfl (by omega) rfl ?_
          refine z_iinc (a := i) (v := 1) (r := i + 1) hC 9 [(8, .int (zI (i + 1))), (9, .int (zI (0))), (0, .ref w), (1, .ref a), (2, .int (zI (src))), (3, .int (zI (tgt))), (4, .int (zI (y))), (5, .int (zI (far))), (6, .int (zI (((max (y - far) ((-30))) + 33) * 67 + ((-33)) + 33))), (7, .int (zI ((((min (y + far) 30) + 1) + 33) * 67 + ((-33)) + 33)))] dX6_spread_104 rfl rfl (by decide) rfl ?_
          refine z_goto hC 39 dX6_spread_107 (by decide) ?_
          refine z_lv (lv' := [(0, .ref w), (1, .ref a), (2, .int (zI (src))), (3, .int (zI (tgt))), (4, .int (zI (y))), (5, .int (zI (far))), (6, .int (zI (((max (y - far) ((-30))) + 33) * 67 + ((-33)) + 33))), (7, .int (zI ((((min (y + far) 30) + 1) + 33) * 67 + ((-33)) + 33))), (8, .int (zI (i + 1)))]) [2, 3, 4, 5, 6, 7, 8, 9, 0] rfl ?_
          exact ih39_4 (i + 1) (zu q (tgt + i) 0) (by omega) (by exact spr_step hs vi vq vo hp (by first | (right; exact ⟨rfl, by omega⟩) | (left; exact ⟨hsum, by omega⟩))) (by intro j h0; unfold zu; rw [if_neg (by omega)]; exact vo j (by omega)) (by intro j h0 h1; unfold zu; split; (first | omega | (rw [hsum]; have := sumZ_nn (f := fun k => q (src + i + slp k)) (n := 4) (fun k h0 h1 => (vr _ (by have := slp_c k; have e2 := hp i (by omega) (by omega); have e3 := oP_1 (j := i) (by omega); omega) (by have := slp_c k; have e2 := hp i (by omega) (by omega); have e3 := oP_1 (j := i) (by omega); omega)).1); omega)); exact vr j h0 h1) (by omega)
        · skip
          refine z_iload hC 8 dX6_spread_54 rfl ?_
          refine z_iload hC 7 dX6_spread_56 rfl ?_
          refine z_icge hC 77 dX6_spread_58 (by decide) (by omega) (fun c_10 => ?_) (fun c_10 => ?_)
          · skip
            refine z_iconst hC dX6_spread_77 ?_
            refine z_istore hC [(9, .int (zI (0))), (0, .ref w), (1, .ref a), (2, .int (zI (src))), (3, .int (zI (tgt))), (4, .int (zI (y))), (5, .int (zI (far))), (6, .int (zI (((max (y - far) ((-30))) + 33) * 67 + ((-33)) + 33))), (7, .int (zI ((((min (y + far) 30) + 1) + 33) * 67 + ((-33)) + 33))), (8, .int (zI (i)))] dX6_spread_78 (by decide) rfl ?_
            refine z_aload_n hC 2 dX6_spread_80 rfl rfl ?_
            refine z_iload_n hC 4 dX6_spread_81 rfl rfl ?_
            refine z_iload hC 9 dX6_spread_82 rfl ?_
            refine z_iadd hC (tgt + i) dX6_spread_84 rfl ?_
            refine z_iload hC 0 dX6_spread_85 rfl ?_
            refine z_ifeq hC 102 dX6_spread_87 (by decide) (by omega) (fun c_11 => ?_) (fun c_11 => by exfalso; omega)
            refine z_lconst (v := 0) hC dX6_spread_102 rfl ?_
            refine z_last hC 4 [wO w 6 [.ref p, .ref w_layers, .ref w_spreading, .int (zI (w_ready))], wO p 4 [.ref p_dx, .ref p_dy, .ref p_weights, .ref p_leaps, .int (zI (4)), .int (zI (0)), .int (zI (p_top)), .int (zI (p_round)), .int (zI (p_barredCount)), .int (zI (p_ax)), .int (zI (p_ay)), .int (zI (p_bx)), .int (zI (p_by)), .ref p_barred, .ref p_passable], wI p_leaps (zK C).2.1 8 lp, wI p_passable (zK C).1 4489 pas, wJ a (zK C).2.2.1 8978 (zu q (tgt + i) 0)] dX6_spread_103 rfl (by omega) rfl ?_
            refine z_iinc (a := i) (v := 1) (r := i + 1) hC 9 [(8, .int (zI (i + 1))), (9, .int (zI (0))), (0, .ref w), (1, .ref a), (2, .int (zI (src))), (3, .int (zI (tgt))), (4, .int (zI (y))), (5, .int (zI (far))), (6, .int (zI (((max (y - far) ((-30))) + 33) * 67 + ((-33)) + 33))), (7, .int (zI ((((min (y + far) 30) + 1) + 33) * 67 + ((-33)) + 33)))] dX6_spread_104 rfl rfl (by decide) rfl ?_
            refine z_goto hC 39 dX6_spread_107 (by decide) ?_
            refine z_lv (lv' := [(0, .ref w), (1, .ref a), (2, .int (zI (src))), (3, .int (zI (tgt))), (4, .int (zI (y))), (5, .int (zI (far))), (6, .int (zI (((max (y - far) ((-30))) + 33) * 67 + ((-33)) + 33))), (7, .int (zI ((((min (y + far) 30) + 1) + 33) * 67 + ((-33)) + 33))), (8, .int (zI (i + 1)))]) [2, 3, 4, 5, 6, 7, 8, 9, 0] rfl ?_
            exact ih39_4 (i + 1) (zu q (tgt + i) 0) (by omega) (by exact spr_step hs vi vq vo hp (by first | (right; exact ⟨rfl, by omega⟩) | (left; exact ⟨hsum, by omega⟩))) (by intro j h0; unfold zu; rw [if_neg (by omega)]; exact vo j (by omega)) (by intro j h0 h1; unfold zu; split; (first | omega | (rw [hsum]; have := sumZ_nn (f := fun k => q (src + i + slp k)) (n := 4) (fun k h0 h1 => (vr _ (by have := slp_c k; have e2 := hp i (by omega) (by omega); have e3 := oP_1 (j := i) (by omega); omega) (by have := slp_c k; have e2 := hp i (by omega) (by omega); have e3 := oP_1 (j := i) (by omega); omega)).1); omega)); exact vr j h0 h1) (by omega)
          · skip
            refine z_aload_n hC 0 dX6_spread_61 rfl rfl ?_
            refine z_get hC (T := TX6) (N := 4) hinX6 0 0 dX6_spread_62 rfl rfl (by decide) (List.mem_of_getElem? (i := 8) rfl) rfl rfl ?_
            refine z_iload hC 8 dX6_spread_65 rfl ?_
            refine z_callV hC [.int (zI (i))] 1 0 dX6_spread_67 (c_X4_isPassable (zl C) (zD C) (zK C) p p_dx p_dy p_weights p_leaps p_barred p_passable i 4 0 p_top p_round p_barredCount p_ax p_ay p_bx p_by pas (by first | assumption | omega) (by intro j h0 h1; rw [hp j h0 h1]; exact oP_01 j)) gX6_spread_X4_isPassable rfl rfl rfl ⟨by decide, by decide, by decide +kernel⟩ ⟨(Nat.le_of_ble_eq_true rfl), (Nat.le_of_ble_eq_true rfl)⟩ rfl rfl rfl rfl [1, 3] [0, 2, 4] [wO w 6 [.ref p, .ref w_layers, .ref w_spreading, .int (zI (w_ready))], wI p_leaps (zK C).2.1 8 lp, wJ a (zK C).2.2.1 8978 q] [] rfl rfl rfl rfl rfl (by decide) (Nat.le_of_ble_eq_true rfl) ⟨(Nat.le_of_ble_eq_true rfl), (Nat.le_of_ble_eq_true rfl)⟩ ?_
            rintro v_ w_ ⟨r_12, rfl, rfl, h_67_13⟩
            show ZW C 0 0 [wO w 6 [.ref p, .ref w_layers, .ref w_spreading, .int (zI (w_ready))], wI p_leaps (zK C).2.1 8 lp, wJ a (zK C).2.2.1 8978 q, wO p 4 [.ref p_dx, .ref p_dy, .ref p_weights, .ref p_leaps, .int (zI (4)), .int (zI (0)), .int (zI (p_top)), .int (zI (p_round)), .int (zI (p_barredCount)), .int (zI (p_ax)), .int (zI (p_ay)), .int (zI (p_bx)), .int (zI (p_by)), .ref p_barred, .ref p_passable], wI p_passable (zK C).1 4489 pas] [(0, .ref w), (1, .ref a), (2, .int (zI (src))), (3, .int (zI (tgt))), (4, .int (zI (y))), (5, .int (zI (far))), (6, .int (zI (((max (y - far) ((-30))) + 33) * 67 + ((-33)) + 33))), (7, .int (zI ((((min (y + far) 30) + 1) + 33) * 67 + ((-33)) + 33))), (8, .int (zI (i)))] 70 [.int (zI (r_12))]
            refine z_ifeq hC 77 dX6_spread_70 (by decide) (by omega) (fun c_14 => ?_) (fun c_14 => ?_)
            · skip
              refine z_iconst hC dX6_spread_77 ?_
              refine z_istore hC [(9, .int (zI (0))), (0, .ref w), (1, .ref a), (2, .int (zI (src))), (3, .int (zI (tgt))), (4, .int (zI (y))), (5, .int (zI (far))), (6, .int (zI (((max (y - far) ((-30))) + 33) * 67 + ((-33)) + 33))), (7, .int (zI ((((min (y + far) 30) + 1) + 33) * 67 + ((-33)) + 33))), (8, .int (zI (i)))] dX6_spread_78 (by decide) rfl ?_
              refine z_aload_n hC 2 dX6_spread_80 rfl rfl ?_
              refine z_iload_n hC 4 dX6_spread_81 rfl rfl ?_
              refine z_iload hC 9 dX6_spread_82 rfl ?_
              refine z_iadd hC (tgt + i) dX6_spread_84 rfl ?_
              refine z_iload hC 0 dX6_spread_85 rfl ?_
              refine z_ifeq hC 102 dX6_spread_87 (by decide) (by omega) (fun c_15 => ?_) (fun c_15 => by exfalso; omega)
              refine z_lconst (v := 0) hC dX6_spread_102 rfl ?_
              refine z_last hC 2 [wO w 6 [.ref p, .ref w_layers, .ref w_spreading, .int (zI (w_ready))], wI p_leaps (zK C).2.1 8 lp, wJ a (zK C).2.2.1 8978 (zu q (tgt + i) 0), wO p 4 [.ref p_dx, .ref p_dy, .ref p_weights, .ref p_leaps, .int (zI (4)), .int (zI (0)), .int (zI (p_top)), .int (zI (p_round)), .int (zI (p_barredCount)), .int (zI (p_ax)), .int (zI (p_ay)), .int (zI (p_bx)), .int (zI (p_by)), .ref p_barred, .ref p_passable], wI p_passable (zK C).1 4489 pas] dX6_spread_103 rfl (by omega) rfl ?_
              refine z_iinc (a := i) (v := 1) (r := i + 1) hC 9 [(8, .int (zI (i + 1))), (9, .int (zI (0))), (0, .ref w), (1, .ref a), (2, .int (zI (src))), (3, .int (zI (tgt))), (4, .int (zI (y))), (5, .int (zI (far))), (6, .int (zI (((max (y - far) ((-30))) + 33) * 67 + ((-33)) + 33))), (7, .int (zI ((((min (y + far) 30) + 1) + 33) * 67 + ((-33)) + 33)))] dX6_spread_104 rfl rfl (by decide) rfl ?_
              refine z_goto hC 39 dX6_spread_107 (by decide) ?_
              refine z_lv (lv' := [(0, .ref w), (1, .ref a), (2, .int (zI (src))), (3, .int (zI (tgt))), (4, .int (zI (y))), (5, .int (zI (far))), (6, .int (zI (((max (y - far) ((-30))) + 33) * 67 + ((-33)) + 33))), (7, .int (zI ((((min (y + far) 30) + 1) + 33) * 67 + ((-33)) + 33))), (8, .int (zI (i + 1)))]) [2, 3, 4, 5, 6, 7, 8, 9, 0] rfl ?_
              refine z_ws (ws' := [wO w 6 [.ref p, .ref w_layers, .ref w_spreading, .int (zI (w_ready))], wO p 4 [.ref p_dx, .ref p_dy, .ref p_weights, .ref p_leaps, .int (zI (4)), .int (zI (0)), .int (zI (p_top)), .int (zI (p_round)), .int (zI (p_barredCount)), .int (zI (p_ax)), .int (zI (p_ay)), .int (zI (p_bx)), .int (zI (p_by)), .ref p_barred, .ref p_passable], wI p_leaps (zK C).2.1 8 lp, wI p_passable (zK C).1 4489 pas, wJ a (zK C).2.2.1 8978 (zu q (tgt + i) 0)]) [0, 3, 1, 4, 2] rfl rfl ?_
              exact ih39_4 (i + 1) (zu q (tgt + i) 0) (by omega) (by exact spr_step hs vi vq vo hp (by first | (right; exact ⟨rfl, by omega⟩) | (left; exact ⟨hsum, by omega⟩))) (by intro j h0; unfold zu; rw [if_neg (by omega)]; exact vo j (by omega)) (by intro j h0 h1; unfold zu; split; (first | omega | (rw [hsum]; have := sumZ_nn (f := fun k => q (src + i + slp k)) (n := 4) (fun k h0 h1 => (vr _ (by have := slp_c k; have e2 := hp i (by omega) (by omega); have e3 := oP_1 (j := i) (by omega); omega) (by have := slp_c k; have e2 := hp i (by omega) (by omega); have e3 := oP_1 (j := i) (by omega); omega)).1); omega)); exact vr j h0 h1) (by omega)
            · skip
              refine z_iconst hC dX6_spread_73 ?_
              refine z_goto hC 78 dX6_spread_74 (by decide) ?_
              refine z_istore hC [(9, .int (zI (1))), (0, .ref w), (1, .ref a), (2, .int (zI (src))), (3, .int (zI (tgt))), (4, .int (zI (y))), (5, .int (zI (far))), (6, .int (zI (((max (y - far) ((-30))) + 33) * 67 + ((-33)) + 33))), (7, .int (zI ((((min (y + far) 30) + 1) + 33) * 67 + ((-33)) + 33))), (8, .int (zI (i)))] dX6_spread_78 (by decide) rfl ?_
              refine z_aload_n hC 2 dX6_spread_80 rfl rfl ?_
              refine z_iload_n hC 4 dX6_spread_81 rfl rfl ?_
              refine z_iload hC 9 dX6_spread_82 rfl ?_
              refine z_iadd hC (tgt + i) dX6_spread_84 rfl ?_
              refine z_iload hC 0 dX6_spread_85 rfl ?_
              refine z_ifeq hC 102 dX6_spread_87 (by decide) (by omega) (fun c_16 => by exfalso; omega) (fun c_16 => ?_)
              refine z_aload_n hC 1 dX6_spread_90 rfl rfl ?_
              refine z_aload_n hC 2 dX6_spread_91 rfl rfl ?_
              refine z_iload_n hC 3 dX6_spread_92 rfl rfl ?_
              refine z_iload hC 9 dX6_spread_93 rfl ?_
              refine z_iadd hC (src + i) dX6_spread_95 rfl ?_
              refine z_callV hC [.ref a, .int (zI (src + i))] 2 0 dX6_spread_96 (c_X6_sumAheadS (zl C) (zD C) (zK C) w a p w_layers w_spreading p_dx p_dy p_weights p_leaps p_barred p_passable (src + i) w_ready 0 p_top p_round p_barredCount p_ax p_ay p_bx p_by lp q (by first | assumption | omega) (by have e2 := hp i (by omega) (by omega); have e3 := oP_1 (j := i) (by omega); omega) (by exact vr)) gX6_spread_X6_sumAhead rfl rfl rfl ⟨by decide, by decide, by decide +kernel⟩ ⟨(Nat.le_of_ble_eq_true rfl), (Nat.le_of_ble_eq_true rfl)⟩ rfl rfl rfl rfl [0, 3, 1, 2] [4] [wI p_passable (zK C).1 4489 pas] [.int (zI (tgt + i)), .ref a] rfl rfl rfl rfl rfl (by decide) (Nat.le_of_ble_eq_true rfl) ⟨(Nat.le_of_ble_eq_true rfl), (Nat.le_of_ble_eq_true rfl)⟩ ?_
              rintro v_ w_ ⟨r_17, rfl, rfl, hsum⟩
              show ZW C 0 0 [wI p_passable (zK C).1 4489 pas, wO w 6 [.ref p, .ref w_layers, .ref w_spreading, .int (zI (w_ready))], wO p 4 [.ref p_dx, .ref p_dy, .ref p_weights, .ref p_leaps, .int (zI (4)), .int (zI (0)), .int (zI (p_top)), .int (zI (p_round)), .int (zI (p_barredCount)), .int (zI (p_ax)), .int (zI (p_ay)), .int (zI (p_bx)), .int (zI (p_by)), .ref p_barred, .ref p_passable], wI p_leaps (zK C).2.1 8 lp, wJ a (zK C).2.2.1 8978 q] [(9, .int (zI (1))), (0, .ref w), (1, .ref a), (2, .int (zI (src))), (3, .int (zI (tgt))), (4, .int (zI (y))), (5, .int (zI (far))), (6, .int (zI (((max (y - far) ((-30))) + 33) * 67 + ((-33)) + 33))), (7, .int (zI ((((min (y + far) 30) + 1) + 33) * 67 + ((-33)) + 33))), (8, .int (zI (i)))] 99 [.long (zL (r_17)), .int (zI (tgt + i)), .ref a]
              refine z_goto hC 103 dX6_spread_99 (by decide) ?_
              refine z_last hC 4 [wI p_passable (zK C).1 4489 pas, wO w 6 [.ref p, .ref w_layers, .ref w_spreading, .int (zI (w_ready))], wO p 4 [.ref p_dx, .ref p_dy, .ref p_weights, .ref p_leaps, .int (zI (4)), .int (zI (0)), .int (zI (p_top)), .int (zI (p_round)), .int (zI (p_barredCount)), .int (zI (p_ax)), .int (zI (p_ay)), .int (zI (p_bx)), .int (zI (p_by)), .ref p_barred, .ref p_passable], wI p_leaps (zK C).2.1 8 lp, wJ a (zK C).2.2.1 8978 (zu q (tgt + i) r_17)] dX6_spread_103 rfl (by omega) rfl ?_
              refine z_iinc (a := i) (v := 1) (r := i + 1) hC 9 [(8, .int (zI (i + 1))), (9, .int (zI (1))), (0, .ref w), (1, .ref a), (2, .int (zI (src))), (3, .int (zI (tgt))), (4, .int (zI (y))), (5, .int (zI (far))), (6, .int (zI (((max (y - far) ((-30))) + 33) * 67 + ((-33)) + 33))), (7, .int (zI ((((min (y + far) 30) + 1) + 33) * 67 + ((-33)) + 33)))] dX6_spread_104 rfl rfl (by decide) rfl ?_
              refine z_goto hC 39 dX6_spread_107 (by decide) ?_
              refine z_lv (lv' := [(0, .ref w), (1, .ref a), (2, .int (zI (src))), (3, .int (zI (tgt))), (4, .int (zI (y))), (5, .int (zI (far))), (6, .int (zI (((max (y - far) ((-30))) + 33) * 67 + ((-33)) + 33))), (7, .int (zI ((((min (y + far) 30) + 1) + 33) * 67 + ((-33)) + 33))), (8, .int (zI (i + 1)))]) [2, 3, 4, 5, 6, 7, 8, 9, 0] rfl ?_
              refine z_ws (ws' := [wO w 6 [.ref p, .ref w_layers, .ref w_spreading, .int (zI (w_ready))], wO p 4 [.ref p_dx, .ref p_dy, .ref p_weights, .ref p_leaps, .int (zI (4)), .int (zI (0)), .int (zI (p_top)), .int (zI (p_round)), .int (zI (p_barredCount)), .int (zI (p_ax)), .int (zI (p_ay)), .int (zI (p_bx)), .int (zI (p_by)), .ref p_barred, .ref p_passable], wI p_leaps (zK C).2.1 8 lp, wI p_passable (zK C).1 4489 pas, wJ a (zK C).2.2.1 8978 (zu q (tgt + i) r_17)]) [1, 2, 3, 0, 4] rfl rfl ?_
              exact ih39_4 (i + 1) (zu q (tgt + i) r_17) (by omega) (by exact spr_step hs vi vq vo hp (by first | (right; exact ⟨rfl, by omega⟩) | (left; exact ⟨hsum, by omega⟩))) (by intro j h0; unfold zu; rw [if_neg (by omega)]; exact vo j (by omega)) (by intro j h0 h1; unfold zu; split; (first | omega | (rw [hsum]; have := sumZ_nn (f := fun k => q (src + i + slp k)) (n := 4) (fun k h0 h1 => (vr _ (by have := slp_c k; have e2 := hp i (by omega) (by omega); have e3 := oP_1 (j := i) (by omega); omega) (by have := slp_c k; have e2 := hp i (by omega) (by omega); have e3 := oP_1 (j := i) (by omega); omega)).1); omega)); exact vr j h0 h1) (by omega)
  exact lp39_3 _ 0 g (by omega) (by intro j h0 h1; omega) (by intro j _; rfl) (by exact hg) (Nat.lt_succ_self _)
