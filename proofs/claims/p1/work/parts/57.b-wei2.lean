theorem pushB {t k e w : Int} {n : Nat} {Cn Co : Int → Int → Int} (h1 : ∀ e w, 0 < Cn e w → w ≤ 20) (h2 : ∀ e w, 0 < Co e w → w ≤ 20) (h3 : ∀ e w, 0 ≤ Cn e w) (h4 : ∀ e w, 0 ≤ Co e w) (h : 0 < Co e w + pushP t Cn k e w n) : w ≤ 21 := by
  by_cases q : 0 < Co e w
  · have := h2 e w q
    omega
  · have := pushP_b (B := 20) (t := t) (k := k) (e := e) (w := w) (n := n) h1 (by have := h4 e w; omega)
    omega
theorem RW_t0g {tal m lim gt b sb g rch : Int} {th th2 nw : Int → Int} {A Cn : Int → Int → Int} {k t y : Int} (htal : tal = 1) (hm : m ≠ 1) (hlim : 0 ≤ lim ∧ lim ≤ 120) (hg : g = gnW m y) (hneg : ∀ e w, w < 0 → Cn e w = 0) (hrch : ∀ w, rch < w → w ≤ lim → Cn 0 w = 0) (hn : RW tal m lim gt nw sb Cn) (hr : RW tal m lim gt th b A)
    (h2 : ∀ j, th2 j = if b + g ≤ j ∧ j ≤ b + g + min rch (lim - g) then th j + nw (j - b - g + sb) else th j) : RW tal m lim gt th2 b (fun e w => A e w + pushW m t Cn k y e w) := by
  subst htal
  exact RW_t0 hm hlim hg hneg hrch hn hr h2
theorem RW_b0g {tal m lim gt b sb g : Int} {th th2 nw : Int → Int} {A Cn : Int → Int → Int} {k t y : Int} (htal : tal = 0) (hm : m ≠ 1) (hg : g = gnW m y) (hA : ∀ e w, 0 ≤ A e w) (hCn : ∀ e w, 0 ≤ Cn e w) (hn : RW tal m lim gt nw sb Cn) (hr : RW tal m lim gt th b A)
    (h2 : ∀ j, th2 j = zu th b (if 0 < nw sb then bet gt (th b) (nw sb + g) else th b) j) : RW tal m lim gt th2 b (fun e w => A e w + pushW m t Cn k y e w) := by
  subst htal
  exact RW_b0 hm hg hA hCn hn hr h2
set_option maxHeartbeats 16000000 in
set_option maxRecDepth 100000 in
theorem c_X7_carry (l : Launch) (D : va_G) (K : ClassId × ClassId × ClassId × ClassId) (wg p wg_ways wg_slotOf wg_here wg_there wg_now wg_then p_dx p_dy p_weights p_leaps p_barred p_passable : Nat) (i s k c t wg_hereCount wg_thereCount wg_weight wg_limit wg_reach wg_tallying wg_greatest p_kind p_top p_round p_barredCount p_ax p_ay p_bx p_by : Int) (we nw th : Int → Int) (Cn : Int → Int → Int) (Co : Int → Int → Int) (hi : 0 ≤ i ∧ i < 1849 ∧ 0 ≤ s ∧ s < 1849 ∧ 0 ≤ k ∧ k < 4 ∧ 0 ≤ c ∧ c < 4489 ∧ 0 ≤ t ∧ t ≤ 13) (hmm : wg_weight = 0 ∨ wg_weight = 1 ∨ wg_weight = 3) (htl : wg_tallying = 0 ∨ wg_tallying = 1) (hgr : wg_greatest = 0 ∨ wg_greatest = 1) (hlim : 0 ≤ wg_limit ∧ wg_limit ≤ 120) (hrc : 0 ≤ wg_reach ∧ wg_reach ≤ 120) (hwe : ∀ j, 0 ≤ j → j < 8 → we j = 1) (hneg : ∀ e w, w < 0 → Cn e w = 0) (hrch : ∀ w, wg_reach < w → w ≤ wg_limit → Cn 0 w = 0) (hCn : ∀ e w, 0 ≤ Cn e w) (hCo : ∀ e w, 0 ≤ Co e w) (hCb : ∀ e w, 0 < Cn e w → w ≤ 20) (hCb2 : ∀ e w, 0 < Co e w → w ≤ 20) (hn : RW wg_tallying wg_weight wg_limit wg_greatest nw (i * 121) Cn) (ho : RW wg_tallying wg_weight wg_limit wg_greatest th (s * 121) Co) : zMet l D K yX7_carry wsX7_carry ({ frames := 2, cells := 0, slots := 0, locals := 47 }) 0 0 [.ref wg, .int (zI (i)), .int (zI (s)), .int (zI (k)), .int (zI (c)), .int (zI (t))] [wO wg 7 [.ref p, .ref wg_ways, .ref wg_slotOf, .ref wg_here, .ref wg_there, .int (zI (wg_hereCount)), .int (zI (wg_thereCount)), .ref wg_now, .ref wg_then, .int (zI (wg_weight)), .int (zI (wg_limit)), .int (zI (wg_reach)), .int (zI (wg_tallying)), .int (zI (wg_greatest))], wO p 4 [.ref p_dx, .ref p_dy, .ref p_weights, .ref p_leaps, .int (zI (4)), .int (zI (p_kind)), .int (zI (p_top)), .int (zI (p_round)), .int (zI (p_barredCount)), .int (zI (p_ax)), .int (zI (p_ay)), .int (zI (p_bx)), .int (zI (p_by)), .ref p_barred, .ref p_passable], wI p_weights K.2.1 8 we, wJ wg_now K.2.2.1 223729 nw, wJ wg_then K.2.2.1 223729 th] (fun vr_ wr_ => ∃ (th2 : Int → Int), vr_ = none ∧ wr_ = [wO wg 7 [.ref p, .ref wg_ways, .ref wg_slotOf, .ref wg_here, .ref wg_there, .int (zI (wg_hereCount)), .int (zI (wg_thereCount)), .ref wg_now, .ref wg_then, .int (zI (wg_weight)), .int (zI (wg_limit)), .int (zI (wg_reach)), .int (zI (wg_tallying)), .int (zI (wg_greatest))], wO p 4 [.ref p_dx, .ref p_dy, .ref p_weights, .ref p_leaps, .int (zI (4)), .int (zI (p_kind)), .int (zI (p_top)), .int (zI (p_round)), .int (zI (p_barredCount)), .int (zI (p_ax)), .int (zI (p_ay)), .int (zI (p_bx)), .int (zI (p_by)), .ref p_barred, .ref p_passable], wI p_weights K.2.1 8 we, wJ wg_now K.2.2.1 223729 nw, wJ wg_then K.2.2.1 223729 th2] ∧ (RW wg_tallying wg_weight wg_limit wg_greatest th2 (s * 121) (fun e w => Co e w + pushW wg_weight t Cn k (c / 67 - 33) e w) ∧ (∀ j, j < s * 121 ∨ s * 121 + 121 ≤ j → th2 j = th j))) := by
  refine zMet_of (cc := cX7_carry) (nL := 10) (ret := none) (by decide) rfl (Nat.le_of_ble_eq_true rfl) ?_
  rintro C rfl rfl rfl hC hR
  have hinX4 : ∀ w ∈ u_ws RX4 TX4 15, w ∈ wsX7_carry := by decide +kernel
  have hinX7 : ∀ w ∈ u_ws RX7 TX7 14, w ∈ wsX7_carry := by decide +kernel
  show ZW C 0 0 [wO wg 7 [.ref p, .ref wg_ways, .ref wg_slotOf, .ref wg_here, .ref wg_there, .int (zI (wg_hereCount)), .int (zI (wg_thereCount)), .ref wg_now, .ref wg_then, .int (zI (wg_weight)), .int (zI (wg_limit)), .int (zI (wg_reach)), .int (zI (wg_tallying)), .int (zI (wg_greatest))], wO p 4 [.ref p_dx, .ref p_dy, .ref p_weights, .ref p_leaps, .int (zI (4)), .int (zI (p_kind)), .int (zI (p_top)), .int (zI (p_round)), .int (zI (p_barredCount)), .int (zI (p_ax)), .int (zI (p_ay)), .int (zI (p_bx)), .int (zI (p_by)), .ref p_barred, .ref p_passable], wI p_weights (zK C).2.1 8 we, wJ wg_now (zK C).2.2.1 223729 nw, wJ wg_then (zK C).2.2.1 223729 th] [(0, .ref wg), (1, .int (zI (i))), (2, .int (zI (s))), (3, .int (zI (k))), (4, .int (zI (c))), (5, .int (zI (t)))] 0 []
  refine z_iload_n hC 2 dX7_carry_0 rfl rfl ?_
  refine z_ifge hC 5 dX7_carry_1 (by decide) (by omega) (fun c_1 => ?_) (fun c_1 => ?_)
  · skip
    refine z_iload_n hC 1 dX7_carry_5 rfl rfl ?_
    refine z_bipush hC dX7_carry_6 (by decide) ?_
    refine z_imul hC (i * 121) dX7_carry_8 rfl ?_
    refine z_istore hC [(6, .int (zI (i * 121))), (0, .ref wg), (1, .int (zI (i))), (2, .int (zI (s))), (3, .int (zI (k))), (4, .int (zI (c))), (5, .int (zI (t)))] dX7_carry_9 (by decide) rfl ?_
    refine z_iload_n hC 3 dX7_carry_11 rfl rfl ?_
    refine z_bipush hC dX7_carry_12 (by decide) ?_
    refine z_imul hC (s * 121) dX7_carry_14 rfl ?_
    refine z_istore hC [(7, .int (zI (s * 121))), (6, .int (zI (i * 121))), (0, .ref wg), (1, .int (zI (i))), (2, .int (zI (s))), (3, .int (zI (k))), (4, .int (zI (c))), (5, .int (zI (t)))] dX7_carry_15 (by decide) rfl ?_
    refine z_aload_n hC 2 dX7_carry_17 rfl rfl ?_
    refine z_get hC (T := TX7) (N := 14) hinX7 0 9 dX7_carry_18 rfl rfl (by decide) (List.mem_of_getElem? (i := 1) rfl) rfl rfl ?_
    refine z_iconst hC dX7_carry_21 ?_
    refine z_icne hC 118 dX7_carry_22 (by decide) (by omega) (fun c_2 => ?_) (fun c_2 => ?_)
    · skip
      refine z_aload_n hC 2 dX7_carry_118 rfl rfl ?_
      refine z_get hC (T := TX7) (N := 14) hinX7 0 12 dX7_carry_119 rfl rfl (by decide) (List.mem_of_getElem? (i := 4) rfl) rfl rfl ?_
      refine z_ifeq hC 161 dX7_carry_122 (by decide) (by omega) (fun c_3 => ?_) (fun c_3 => ?_)
      · skip
        have hb1 := RW_bd (e := 0) (B := 20) (by omega) (by omega) (by omega) hCb hn
        have hb2 := RW_bd (e := 0) (B := 20) (by omega) (by omega) (by omega) hCb2 ho
        rw [Int.add_zero] at hb1 hb2
        refine z_aload_n hC 2 dX7_carry_161 rfl rfl ?_
        refine z_iload hC 1 dX7_carry_162 rfl ?_
        refine z_iload hC 0 dX7_carry_164 rfl ?_
        refine z_aload_n hC 2 dX7_carry_166 rfl rfl ?_
        refine z_iload_n hC 5 dX7_carry_167 rfl rfl ?_
        refine z_iload hC 6 dX7_carry_168 rfl ?_
        refine z_callV hC [.int (zI (k)), .int (zI (c))] 2 0 dX7_carry_170 (c_X7_gainOf (zl C) (zD C) (zK C) wg p wg_ways wg_slotOf wg_here wg_there wg_now wg_then p_dx p_dy p_weights p_leaps p_barred p_passable k c wg_hereCount wg_thereCount wg_weight wg_limit wg_reach wg_tallying wg_greatest 4 p_kind p_top p_round p_barredCount p_ax p_ay p_bx p_by we (by first | assumption | omega) (by first | assumption | omega) (by first | assumption | omega) (by first | assumption | omega)) gX7_carry_X7_gainOf rfl rfl rfl ⟨by decide, by decide, by decide +kernel⟩ ⟨(Nat.le_of_ble_eq_true rfl), (Nat.le_of_ble_eq_true rfl)⟩ rfl rfl rfl rfl [0, 1, 2] [3, 4] [wJ wg_now (zK C).2.2.1 223729 nw, wJ wg_then (zK C).2.2.1 223729 th] [.int (zI (s * 121)), .int (zI (i * 121)), .ref wg] rfl rfl rfl rfl rfl (by decide) (Nat.le_of_ble_eq_true rfl) ⟨(Nat.le_of_ble_eq_true rfl), (Nat.le_of_ble_eq_true rfl)⟩ ?_
        rintro v_ w_ ⟨r_4, rfl, rfl, rfl⟩
        show ZW C 0 0 [wJ wg_now (zK C).2.2.1 223729 nw, wJ wg_then (zK C).2.2.1 223729 th, wO wg 7 [.ref p, .ref wg_ways, .ref wg_slotOf, .ref wg_here, .ref wg_there, .int (zI (wg_hereCount)), .int (zI (wg_thereCount)), .ref wg_now, .ref wg_then, .int (zI (wg_weight)), .int (zI (wg_limit)), .int (zI (wg_reach)), .int (zI (wg_tallying)), .int (zI (wg_greatest))], wO p 4 [.ref p_dx, .ref p_dy, .ref p_weights, .ref p_leaps, .int (zI (4)), .int (zI (p_kind)), .int (zI (p_top)), .int (zI (p_round)), .int (zI (p_barredCount)), .int (zI (p_ax)), .int (zI (p_ay)), .int (zI (p_bx)), .int (zI (p_by)), .ref p_barred, .ref p_passable], wI p_weights (zK C).2.1 8 we] [(7, .int (zI (s * 121))), (6, .int (zI (i * 121))), (0, .ref wg), (1, .int (zI (i))), (2, .int (zI (s))), (3, .int (zI (k))), (4, .int (zI (c))), (5, .int (zI (t)))] 173 [.int (zI (gnW wg_weight (c / 67 - 33))), .int (zI (s * 121)), .int (zI (i * 121)), .ref wg]
        have hgn := gnW_r wg_weight (c / 67 - 33)
        refine z_callV hC [.int (zI (i * 121)), .int (zI (s * 121)), .int (zI (gnW wg_weight (c / 67 - 33)))] 3 0 dX7_carry_173 (c_X7_improve (zl C) (zD C) (zK C) wg p wg_ways wg_slotOf wg_here wg_there wg_now wg_then (i * 121) (s * 121) (gnW wg_weight (c / 67 - 33)) wg_hereCount wg_thereCount wg_weight wg_limit wg_reach wg_tallying wg_greatest nw th (by first | assumption | omega) (by first | assumption | omega) (by first | assumption | omega) (by first | assumption | omega)) gX7_carry_X7_improve rfl rfl rfl ⟨by decide, by decide, by decide +kernel⟩ ⟨(Nat.le_of_ble_eq_true rfl), (Nat.le_of_ble_eq_true rfl)⟩ rfl rfl rfl rfl [2, 0, 1] [3, 4] [wO p 4 [.ref p_dx, .ref p_dy, .ref p_weights, .ref p_leaps, .int (zI (4)), .int (zI (p_kind)), .int (zI (p_top)), .int (zI (p_round)), .int (zI (p_barredCount)), .int (zI (p_ax)), .int (zI (p_ay)), .int (zI (p_bx)), .int (zI (p_by)), .ref p_barred, .ref p_passable], wI p_weights (zK C).2.1 8 we] [] rfl rfl rfl rfl rfl (by decide) (Nat.le_of_ble_eq_true rfl) ⟨(Nat.le_of_ble_eq_true rfl), (Nat.le_of_ble_eq_true rfl)⟩ ?_
        rintro v_ w_ ⟨th2_6, rfl, rfl, him⟩
        show ZW C 0 0 [wO p 4 [.ref p_dx, .ref p_dy, .ref p_weights, .ref p_leaps, .int (zI (4)), .int (zI (p_kind)), .int (zI (p_top)), .int (zI (p_round)), .int (zI (p_barredCount)), .int (zI (p_ax)), .int (zI (p_ay)), .int (zI (p_bx)), .int (zI (p_by)), .ref p_barred, .ref p_passable], wI p_weights (zK C).2.1 8 we, wO wg 7 [.ref p, .ref wg_ways, .ref wg_slotOf, .ref wg_here, .ref wg_there, .int (zI (wg_hereCount)), .int (zI (wg_thereCount)), .ref wg_now, .ref wg_then, .int (zI (wg_weight)), .int (zI (wg_limit)), .int (zI (wg_reach)), .int (zI (wg_tallying)), .int (zI (wg_greatest))], wJ wg_now (zK C).2.2.1 223729 nw, wJ wg_then (zK C).2.2.1 223729 th2_6] [(7, .int (zI (s * 121))), (6, .int (zI (i * 121))), (0, .ref wg), (1, .int (zI (i))), (2, .int (zI (s))), (3, .int (zI (k))), (4, .int (zI (c))), (5, .int (zI (t)))] 176 []
        refine z_ws (ws' := [wO wg 7 [.ref p, .ref wg_ways, .ref wg_slotOf, .ref wg_here, .ref wg_there, .int (zI (wg_hereCount)), .int (zI (wg_thereCount)), .ref wg_now, .ref wg_then, .int (zI (wg_weight)), .int (zI (wg_limit)), .int (zI (wg_reach)), .int (zI (wg_tallying)), .int (zI (wg_greatest))], wO p 4 [.ref p_dx, .ref p_dy, .ref p_weights, .ref p_leaps, .int (zI (4)), .int (zI (p_kind)), .int (zI (p_top)), .int (zI (p_round)), .int (zI (p_barredCount)), .int (zI (p_ax)), .int (zI (p_ay)), .int (zI (p_bx)), .int (zI (p_by)), .ref p_barred, .ref p_passable], wI p_weights (zK C).2.1 8 we, wJ wg_now (zK C).2.2.1 223729 nw, wJ wg_then (zK C).2.2.1 223729 th2_6]) [2, 0, 1, 3, 4] rfl rfl ?_
        exact z_vret hC hR dX7_carry_176 (Nat.le_of_ble_eq_true rfl) (Nat.le_of_ble_eq_true rfl) ⟨th2_6, rfl, rfl, by first | exact ⟨RW_cong (fun e w => by rw [pushP_end (y := c / 67 - 33) (m := wg_weight) (by omega) (by omega)]) vR, vo⟩ | exact ⟨RW_t0g (by omega) (by omega) hlim rfl hneg hrch hn ho hsh, fun j hj => by rw [hsh j, if_neg (by omega)]⟩ | exact ⟨RW_b0g (by omega) (by omega) rfl hCo hCn hn ho him, fun j hj => by rw [him j]; unfold zu; rw [if_neg (by omega)]⟩⟩
      · skip
        refine z_aload_n hC 2 dX7_carry_125 rfl rfl ?_
        refine z_iload_n hC 5 dX7_carry_126 rfl rfl ?_
        refine z_iload hC 6 dX7_carry_127 rfl ?_
        refine z_callV hC [.int (zI (k)), .int (zI (c))] 2 0 dX7_carry_129 (c_X7_gainOf (zl C) (zD C) (zK C) wg p wg_ways wg_slotOf wg_here wg_there wg_now wg_then p_dx p_dy p_weights p_leaps p_barred p_passable k c wg_hereCount wg_thereCount wg_weight wg_limit wg_reach wg_tallying wg_greatest 4 p_kind p_top p_round p_barredCount p_ax p_ay p_bx p_by we (by first | assumption | omega) (by first | assumption | omega) (by first | assumption | omega) (by first | assumption | omega)) gX7_carry_X7_gainOf rfl rfl rfl ⟨by decide, by decide, by decide +kernel⟩ ⟨(Nat.le_of_ble_eq_true rfl), (Nat.le_of_ble_eq_true rfl)⟩ rfl rfl rfl rfl [0, 1, 2] [3, 4] [wJ wg_now (zK C).2.2.1 223729 nw, wJ wg_then (zK C).2.2.1 223729 th] [] rfl rfl rfl rfl rfl (by decide) (Nat.le_of_ble_eq_true rfl) ⟨(Nat.le_of_ble_eq_true rfl), (Nat.le_of_ble_eq_true rfl)⟩ ?_
        rintro v_ w_ ⟨r_7, rfl, rfl, rfl⟩
        show ZW C 0 0 [wJ wg_now (zK C).2.2.1 223729 nw, wJ wg_then (zK C).2.2.1 223729 th, wO wg 7 [.ref p, .ref wg_ways, .ref wg_slotOf, .ref wg_here, .ref wg_there, .int (zI (wg_hereCount)), .int (zI (wg_thereCount)), .ref wg_now, .ref wg_then, .int (zI (wg_weight)), .int (zI (wg_limit)), .int (zI (wg_reach)), .int (zI (wg_tallying)), .int (zI (wg_greatest))], wO p 4 [.ref p_dx, .ref p_dy, .ref p_weights, .ref p_leaps, .int (zI (4)), .int (zI (p_kind)), .int (zI (p_top)), .int (zI (p_round)), .int (zI (p_barredCount)), .int (zI (p_ax)), .int (zI (p_ay)), .int (zI (p_bx)), .int (zI (p_by)), .ref p_barred, .ref p_passable], wI p_weights (zK C).2.1 8 we] [(7, .int (zI (s * 121))), (6, .int (zI (i * 121))), (0, .ref wg), (1, .int (zI (i))), (2, .int (zI (s))), (3, .int (zI (k))), (4, .int (zI (c))), (5, .int (zI (t)))] 132 [.int (zI (gnW wg_weight (c / 67 - 33)))]
        have hgn := gnW_r wg_weight (c / 67 - 33)
        refine z_istore hC [(8, .int (zI (gnW wg_weight (c / 67 - 33)))), (7, .int (zI (s * 121))), (6, .int (zI (i * 121))), (0, .ref wg), (1, .int (zI (i))), (2, .int (zI (s))), (3, .int (zI (k))), (4, .int (zI (c))), (5, .int (zI (t)))] dX7_carry_132 (by decide) rfl ?_
        refine z_aload_n hC 3 dX7_carry_134 rfl rfl ?_
        refine z_iload hC 2 dX7_carry_135 rfl ?_
        refine z_iload hC 1 dX7_carry_137 rfl ?_
        refine z_iload hC 0 dX7_carry_139 rfl ?_
        refine z_aload_n hC 3 dX7_carry_141 rfl rfl ?_
        refine z_get hC (T := TX7) (N := 14) hinX7 2 11 dX7_carry_142 rfl rfl (by decide) (List.mem_of_getElem? (i := 5) rfl) rfl rfl ?_
        refine z_aload_n hC 3 dX7_carry_145 rfl rfl ?_
        refine z_get hC (T := TX7) (N := 14) hinX7 2 10 dX7_carry_146 rfl rfl (by decide) (List.mem_of_getElem? (i := 6) rfl) rfl rfl ?_
        refine z_iload hC 0 dX7_carry_149 rfl ?_
        refine z_isub hC (wg_limit - (gnW wg_weight (c / 67 - 33))) dX7_carry_151 rfl ?_
        refine z_mmin hC dX7_carry_152 (List.mem_of_getElem? (i := 7) rfl) (List.mem_of_getElem? (i := 8) rfl) (List.mem_of_getElem? (i := 9) rfl) (List.mem_of_getElem? (i := 10) rfl) (by omega) (Nat.le_of_ble_eq_true rfl) (Nat.le_of_ble_eq_true rfl) (Nat.le_of_ble_eq_true rfl) (Nat.le_of_ble_eq_true rfl) ?_
        refine z_callV hC [.int (zI (i * 121)), .int (zI (s * 121)), .int (zI (gnW wg_weight (c / 67 - 33))), .int (zI (min wg_reach (wg_limit - (gnW wg_weight (c / 67 - 33)))))] 4 0 dX7_carry_155 (c_X7_shift (zl C) (zD C) (zK C) wg p wg_ways wg_slotOf wg_here wg_there wg_now wg_then (i * 121) (s * 121) (gnW wg_weight (c / 67 - 33)) (min wg_reach (wg_limit - (gnW wg_weight (c / 67 - 33)))) wg_hereCount wg_thereCount wg_weight wg_limit wg_reach wg_tallying wg_greatest nw th (by first | assumption | omega)) gX7_carry_X7_shift rfl rfl rfl ⟨by decide, by decide, by decide +kernel⟩ ⟨(Nat.le_of_ble_eq_true rfl), (Nat.le_of_ble_eq_true rfl)⟩ rfl rfl rfl rfl [2, 0, 1] [3, 4] [wO p 4 [.ref p_dx, .ref p_dy, .ref p_weights, .ref p_leaps, .int (zI (4)), .int (zI (p_kind)), .int (zI (p_top)), .int (zI (p_round)), .int (zI (p_barredCount)), .int (zI (p_ax)), .int (zI (p_ay)), .int (zI (p_bx)), .int (zI (p_by)), .ref p_barred, .ref p_passable], wI p_weights (zK C).2.1 8 we] [] rfl rfl rfl rfl rfl (by decide) (Nat.le_of_ble_eq_true rfl) ⟨(Nat.le_of_ble_eq_true rfl), (Nat.le_of_ble_eq_true rfl)⟩ ?_
        rintro v_ w_ ⟨th2_9, rfl, rfl, hsh⟩
        show ZW C 0 0 [wO p 4 [.ref p_dx, .ref p_dy, .ref p_weights, .ref p_leaps, .int (zI (4)), .int (zI (p_kind)), .int (zI (p_top)), .int (zI (p_round)), .int (zI (p_barredCount)), .int (zI (p_ax)), .int (zI (p_ay)), .int (zI (p_bx)), .int (zI (p_by)), .ref p_barred, .ref p_passable], wI p_weights (zK C).2.1 8 we, wO wg 7 [.ref p, .ref wg_ways, .ref wg_slotOf, .ref wg_here, .ref wg_there, .int (zI (wg_hereCount)), .int (zI (wg_thereCount)), .ref wg_now, .ref wg_then, .int (zI (wg_weight)), .int (zI (wg_limit)), .int (zI (wg_reach)), .int (zI (wg_tallying)), .int (zI (wg_greatest))], wJ wg_now (zK C).2.2.1 223729 nw, wJ wg_then (zK C).2.2.1 223729 th2_9] [(8, .int (zI (gnW wg_weight (c / 67 - 33)))), (7, .int (zI (s * 121))), (6, .int (zI (i * 121))), (0, .ref wg), (1, .int (zI (i))), (2, .int (zI (s))), (3, .int (zI (k))), (4, .int (zI (c))), (5, .int (zI (t)))] 158 []
        refine z_goto hC 176 dX7_carry_158 (by decide) ?_
        refine z_ws (ws' := [wO wg 7 [.ref p, .ref wg_ways, .ref wg_slotOf, .ref wg_here, .ref wg_there, .int (zI (wg_hereCount)), .int (zI (wg_thereCount)), .ref wg_now, .ref wg_then, .int (zI (wg_weight)), .int (zI (wg_limit)), .int (zI (wg_reach)), .int (zI (wg_tallying)), .int (zI (wg_greatest))], wO p 4 [.ref p_dx, .ref p_dy, .ref p_weights, .ref p_leaps, .int (zI (4)), .int (zI (p_kind)), .int (zI (p_top)), .int (zI (p_round)), .int (zI (p_barredCount)), .int (zI (p_ax)), .int (zI (p_ay)), .int (zI (p_bx)), .int (zI (p_by)), .ref p_barred, .ref p_passable], wI p_weights (zK C).2.1 8 we, wJ wg_now (zK C).2.2.1 223729 nw, wJ wg_then (zK C).2.2.1 223729 th2_9]) [2, 0, 1, 3, 4] rfl rfl ?_
        exact z_vret hC hR dX7_carry_176 (Nat.le_of_ble_eq_true rfl) (Nat.le_of_ble_eq_true rfl) ⟨th2_9, rfl, rfl, by first | exact ⟨RW_cong (fun e w => by rw [pushP_end (y := c / 67 - 33) (m := wg_weight) (by omega) (by omega)]) vR, vo⟩ | exact ⟨RW_t0g (by omega) (by omega) hlim rfl hneg hrch hn ho hsh, fun j hj => by rw [hsh j, if_neg (by omega)]⟩ | exact ⟨RW_b0g (by omega) (by omega) rfl hCo hCn hn ho him, fun j hj => by rw [him j]; unfold zu; rw [if_neg (by omega)]⟩⟩
    · skip
      refine z_iconst hC dX7_carry_25 ?_
      refine z_istore hC [(8, .int (zI (0))), (7, .int (zI (s * 121))), (6, .int (zI (i * 121))), (0, .ref wg), (1, .int (zI (i))), (2, .int (zI (s))), (3, .int (zI (k))), (4, .int (zI (c))), (5, .int (zI (t)))] dX7_carry_26 (by decide) rfl ?_
      refine z_lv (lv' := [(0, .ref wg), (1, .int (zI (i))), (2, .int (zI (s))), (3, .int (zI (k))), (4, .int (zI (c))), (5, .int (zI (t))), (6, .int (zI (i * 121))), (7, .int (zI (s * 121))), (8, .int (zI (0)))]) [3, 4, 5, 6, 7, 8, 2, 1, 0] rfl ?_
      have lp28_10 : ∀ (f12 : Nat) (l : Int) (q : Int → Int), (0 ≤ l ∧ l ≤ 4) → (RW wg_tallying wg_weight wg_limit wg_greatest q (s * 121) (fun e w => Co e w + pushP t Cn k e w l.toNat)) → (∀ j, j < s * 121 ∨ s * 121 + 121 ≤ j → q j = th j) → (4 - l).toNat < f12 → ZW C 0 0 [wO wg 7 [.ref p, .ref wg_ways, .ref wg_slotOf, .ref wg_here, .ref wg_there, .int (zI (wg_hereCount)), .int (zI (wg_thereCount)), .ref wg_now, .ref wg_then, .int (zI (wg_weight)), .int (zI (wg_limit)), .int (zI (wg_reach)), .int (zI (wg_tallying)), .int (zI (wg_greatest))], wO p 4 [.ref p_dx, .ref p_dy, .ref p_weights, .ref p_leaps, .int (zI (4)), .int (zI (p_kind)), .int (zI (p_top)), .int (zI (p_round)), .int (zI (p_barredCount)), .int (zI (p_ax)), .int (zI (p_ay)), .int (zI (p_bx)), .int (zI (p_by)), .ref p_barred, .ref p_passable], wI p_weights (zK C).2.1 8 we, wJ wg_now (zK C).2.2.1 223729 nw, wJ wg_then (zK C).2.2.1 223729 q] [(0, .ref wg), (1, .int (zI (i))), (2, .int (zI (s))), (3, .int (zI (k))), (4, .int (zI (c))), (5, .int (zI (t))), (6, .int (zI (i * 121))), (7, .int (zI (s * 121))), (8, .int (zI (l)))] 28 [] := by
        intro f12
        induction f12 with
        | zero => intro _ _ _ _ _ hf; exact absurd hf (Nat.not_lt_zero _)
        | succ f12 ih28_11 =>
          intro l q vl vR vo hf_28
          refine z_iload hC 8 dX7_carry_28 rfl ?_
          refine z_aload_n hC 0 dX7_carry_30 rfl rfl ?_
          refine z_get hC (T := TX7) (N := 14) hinX7 0 0 dX7_carry_31 rfl rfl (by decide) (List.mem_of_getElem? (i := 2) rfl) rfl rfl ?_
          refine z_get hC (T := TX4) (N := 15) hinX4 1 4 dX7_carry_34 rfl rfl (by decide) (List.mem_of_getElem? (i := 3) rfl) rfl rfl ?_
          refine z_icge hC 115 dX7_carry_37 (by decide) (by omega) (fun c_13 => ?_) (fun c_13 => ?_)
          · skip
            refine z_goto hC 176 dX7_carry_115 (by decide) ?_
            exact z_vret hC hR dX7_carry_176 (Nat.le_of_ble_eq_true rfl) (Nat.le_of_ble_eq_true rfl) ⟨q, rfl, rfl, by first | exact ⟨RW_cong (fun e w => by rw [pushP_end (y := c / 67 - 33) (m := wg_weight) (by omega) (by omega)]) vR, vo⟩ | exact ⟨RW_t0g (by omega) (by omega) hlim rfl hneg hrch hn ho hsh, fun j hj => by rw [hsh j, if_neg (by omega)]⟩ | exact ⟨RW_b0g (by omega) (by omega) rfl hCo hCn hn ho him, fun j hj => by rw [him j]; unfold zu; rw [if_neg (by omega)]⟩⟩
          · skip
            refine z_iload hC 5 dX7_carry_40 rfl ?_
            refine z_ifle hC 55 dX7_carry_42 (by decide) (by omega) (fun c_14 => ?_) (fun c_14 => ?_)
            · skip
              refine z_iconst hC dX7_carry_55 ?_
              refine z_istore hC [(9, .int (zI (0))), (0, .ref wg), (1, .int (zI (i))), (2, .int (zI (s))), (3, .int (zI (k))), (4, .int (zI (c))), (5, .int (zI (t))), (6, .int (zI (i * 121))), (7, .int (zI (s * 121))), (8, .int (zI (l)))] dX7_carry_56 (by decide) rfl ?_
              refine z_aload_n hC 1 dX7_carry_58 rfl rfl ?_
              refine z_get hC (T := TX7) (N := 14) hinX7 0 12 dX7_carry_59 rfl rfl (by decide) (List.mem_of_getElem? (i := 4) rfl) rfl rfl ?_
              refine z_ifeq hC 94 dX7_carry_62 (by decide) (by omega) (fun c_15 => ?_) (fun c_15 => ?_)
              · skip
                have hb1 := RW_bd (e := l) (B := 20) (by omega) (by omega) (by omega) hCb hn
                have hb2 := RW_bd (e := k) (B := 21) (by omega) (by omega) (by omega) (fun e w h => pushB hCb hCb2 hCn hCo h) vR
                refine z_aload_n hC 1 dX7_carry_94 rfl rfl ?_
                refine z_iload hC 7 dX7_carry_95 rfl ?_
                refine z_iload hC 9 dX7_carry_97 rfl ?_
                refine z_iadd hC ((i * 121) + l) dX7_carry_99 rfl ?_
                refine z_iload hC 8 dX7_carry_100 rfl ?_
                refine z_iload_n hC 4 dX7_carry_102 rfl rfl ?_
                refine z_iadd hC ((s * 121) + k) dX7_carry_103 rfl ?_
                refine z_iload hC 0 dX7_carry_104 rfl ?_
                refine z_callV hC [.int (zI ((i * 121) + l)), .int (zI ((s * 121) + k)), .int (zI (0))] 3 0 dX7_carry_106 (c_X7_improve (zl C) (zD C) (zK C) wg p wg_ways wg_slotOf wg_here wg_there wg_now wg_then ((i * 121) + l) ((s * 121) + k) 0 wg_hereCount wg_thereCount wg_weight wg_limit wg_reach wg_tallying wg_greatest nw q (by first | assumption | omega) (by first | assumption | omega) (by first | assumption | omega) (by first | assumption | omega)) gX7_carry_X7_improve rfl rfl rfl ⟨by decide, by decide, by decide +kernel⟩ ⟨(Nat.le_of_ble_eq_true rfl), (Nat.le_of_ble_eq_true rfl)⟩ rfl rfl rfl rfl [0, 3, 4] [1, 2] [wO p 4 [.ref p_dx, .ref p_dy, .ref p_weights, .ref p_leaps, .int (zI (4)), .int (zI (p_kind)), .int (zI (p_top)), .int (zI (p_round)), .int (zI (p_barredCount)), .int (zI (p_ax)), .int (zI (p_ay)), .int (zI (p_bx)), .int (zI (p_by)), .ref p_barred, .ref p_passable], wI p_weights (zK C).2.1 8 we] [] rfl rfl rfl rfl rfl (by decide) (Nat.le_of_ble_eq_true rfl) ⟨(Nat.le_of_ble_eq_true rfl), (Nat.le_of_ble_eq_true rfl)⟩ ?_
                rintro v_ w_ ⟨th2_16, rfl, rfl, him⟩
                show ZW C 0 0 [wO p 4 [.ref p_dx, .ref p_dy, .ref p_weights, .ref p_leaps, .int (zI (4)), .int (zI (p_kind)), .int (zI (p_top)), .int (zI (p_round)), .int (zI (p_barredCount)), .int (zI (p_ax)), .int (zI (p_ay)), .int (zI (p_bx)), .int (zI (p_by)), .ref p_barred, .ref p_passable], wI p_weights (zK C).2.1 8 we, wO wg 7 [.ref p, .ref wg_ways, .ref wg_slotOf, .ref wg_here, .ref wg_there, .int (zI (wg_hereCount)), .int (zI (wg_thereCount)), .ref wg_now, .ref wg_then, .int (zI (wg_weight)), .int (zI (wg_limit)), .int (zI (wg_reach)), .int (zI (wg_tallying)), .int (zI (wg_greatest))], wJ wg_now (zK C).2.2.1 223729 nw, wJ wg_then (zK C).2.2.1 223729 th2_16] [(9, .int (zI (0))), (0, .ref wg), (1, .int (zI (i))), (2, .int (zI (s))), (3, .int (zI (k))), (4, .int (zI (c))), (5, .int (zI (t))), (6, .int (zI (i * 121))), (7, .int (zI (s * 121))), (8, .int (zI (l)))] 109 []
                refine z_iinc (a := l) (v := 1) (r := l + 1) hC 9 [(8, .int (zI (l + 1))), (9, .int (zI (0))), (0, .ref wg), (1, .int (zI (i))), (2, .int (zI (s))), (3, .int (zI (k))), (4, .int (zI (c))), (5, .int (zI (t))), (6, .int (zI (i * 121))), (7, .int (zI (s * 121)))] dX7_carry_109 rfl rfl (by decide) rfl ?_
                refine z_goto hC 28 dX7_carry_112 (by decide) ?_
                refine z_lv (lv' := [(0, .ref wg), (1, .int (zI (i))), (2, .int (zI (s))), (3, .int (zI (k))), (4, .int (zI (c))), (5, .int (zI (t))), (6, .int (zI (i * 121))), (7, .int (zI (s * 121))), (8, .int (zI (l + 1)))]) [2, 3, 4, 5, 6, 7, 8, 9, 0] rfl ?_
                refine z_ws (ws' := [wO wg 7 [.ref p, .ref wg_ways, .ref wg_slotOf, .ref wg_here, .ref wg_there, .int (zI (wg_hereCount)), .int (zI (wg_thereCount)), .ref wg_now, .ref wg_then, .int (zI (wg_weight)), .int (zI (wg_limit)), .int (zI (wg_reach)), .int (zI (wg_tallying)), .int (zI (wg_greatest))], wO p 4 [.ref p_dx, .ref p_dy, .ref p_weights, .ref p_leaps, .int (zI (4)), .int (zI (p_kind)), .int (zI (p_top)), .int (zI (p_round)), .int (zI (p_barredCount)), .int (zI (p_ax)), .int (zI (p_ay)), .int (zI (p_bx)), .int (zI (p_by)), .ref p_barred, .ref p_passable], wI p_weights (zK C).2.1 8 we, wJ wg_now (zK C).2.2.1 223729 nw, wJ wg_then (zK C).2.2.1 223729 th2_16]) [2, 0, 1, 3, 4] rfl rfl ?_
                exact ih28_11 (l + 1) th2_16 (by omega) (by first | exact RW_pt (by omega) (by omega) (by omega) (by omega) (by unfold tgW; split <;> omega) hneg hn vR hsh | exact RW_pb (by omega) (by omega) (by omega) (by unfold tgW; split <;> omega) hCo hCn hn vR him) (by intro j hj; first | (rw [hsh j, if_neg (by omega)]; exact vo j hj) | (rw [him j]; unfold zu; rw [if_neg (by omega)]; exact vo j hj)) (by omega)
              · skip
                refine z_aload_n hC 1 dX7_carry_65 rfl rfl ?_
                refine z_iload hC 7 dX7_carry_66 rfl ?_
                refine z_iload hC 9 dX7_carry_68 rfl ?_
                refine z_bipush hC dX7_carry_70 (by decide) ?_
                refine z_imul hC (l * 14) dX7_carry_72 rfl ?_
                refine z_iadd hC ((i * 121) + (l * 14)) dX7_carry_73 rfl ?_
                refine z_iload hC 8 dX7_carry_74 rfl ?_
                refine z_iload_n hC 4 dX7_carry_76 rfl rfl ?_
                refine z_bipush hC dX7_carry_77 (by decide) ?_
                refine z_imul hC (k * 14) dX7_carry_79 rfl ?_
                refine z_iadd hC ((s * 121) + (k * 14)) dX7_carry_80 rfl ?_
                refine z_iload hC 0 dX7_carry_81 rfl ?_
                refine z_bipush hC dX7_carry_83 (by decide) ?_
                refine z_iload hC 0 dX7_carry_85 rfl ?_
                refine z_isub hC (13) dX7_carry_87 (by decide) ?_
                refine z_callV hC [.int (zI ((i * 121) + (l * 14))), .int (zI ((s * 121) + (k * 14))), .int (zI (0)), .int (zI (13))] 4 0 dX7_carry_88 (c_X7_shift (zl C) (zD C) (zK C) wg p wg_ways wg_slotOf wg_here wg_there wg_now wg_then ((i * 121) + (l * 14)) ((s * 121) + (k * 14)) 0 13 wg_hereCount wg_thereCount wg_weight wg_limit wg_reach wg_tallying wg_greatest nw q (by first | assumption | omega)) gX7_carry_X7_shift rfl rfl rfl ⟨by decide, by decide, by decide +kernel⟩ ⟨(Nat.le_of_ble_eq_true rfl), (Nat.le_of_ble_eq_true rfl)⟩ rfl rfl rfl rfl [0, 3, 4] [1, 2] [wO p 4 [.ref p_dx, .ref p_dy, .ref p_weights, .ref p_leaps, .int (zI (4)), .int (zI (p_kind)), .int (zI (p_top)), .int (zI (p_round)), .int (zI (p_barredCount)), .int (zI (p_ax)), .int (zI (p_ay)), .int (zI (p_bx)), .int (zI (p_by)), .ref p_barred, .ref p_passable], wI p_weights (zK C).2.1 8 we] [] rfl rfl rfl rfl rfl (by decide) (Nat.le_of_ble_eq_true rfl) ⟨(Nat.le_of_ble_eq_true rfl), (Nat.le_of_ble_eq_true rfl)⟩ ?_
                rintro v_ w_ ⟨th2_17, rfl, rfl, hsh⟩
                show ZW C 0 0 [wO p 4 [.ref p_dx, .ref p_dy, .ref p_weights, .ref p_leaps, .int (zI (4)), .int (zI (p_kind)), .int (zI (p_top)), .int (zI (p_round)), .int (zI (p_barredCount)), .int (zI (p_ax)), .int (zI (p_ay)), .int (zI (p_bx)), .int (zI (p_by)), .ref p_barred, .ref p_passable], wI p_weights (zK C).2.1 8 we, wO wg 7 [.ref p, .ref wg_ways, .ref wg_slotOf, .ref wg_here, .ref wg_there, .int (zI (wg_hereCount)), .int (zI (wg_thereCount)), .ref wg_now, .ref wg_then, .int (zI (wg_weight)), .int (zI (wg_limit)), .int (zI (wg_reach)), .int (zI (wg_tallying)), .int (zI (wg_greatest))], wJ wg_now (zK C).2.2.1 223729 nw, wJ wg_then (zK C).2.2.1 223729 th2_17] [(9, .int (zI (0))), (0, .ref wg), (1, .int (zI (i))), (2, .int (zI (s))), (3, .int (zI (k))), (4, .int (zI (c))), (5, .int (zI (t))), (6, .int (zI (i * 121))), (7, .int (zI (s * 121))), (8, .int (zI (l)))] 91 []
                refine z_goto hC 109 dX7_carry_91 (by decide) ?_
                refine z_iinc (a := l) (v := 1) (r := l + 1) hC 9 [(8, .int (zI (l + 1))), (9, .int (zI (0))), (0, .ref wg), (1, .int (zI (i))), (2, .int (zI (s))), (3, .int (zI (k))), (4, .int (zI (c))), (5, .int (zI (t))), (6, .int (zI (i * 121))), (7, .int (zI (s * 121)))] dX7_carry_109 rfl rfl (by decide) rfl ?_
                refine z_goto hC 28 dX7_carry_112 (by decide) ?_
                refine z_lv (lv' := [(0, .ref wg), (1, .int (zI (i))), (2, .int (zI (s))), (3, .int (zI (k))), (4, .int (zI (c))), (5, .int (zI (t))), (6, .int (zI (i * 121))), (7, .int (zI (s * 121))), (8, .int (zI (l + 1)))]) [2, 3, 4, 5, 6, 7, 8, 9, 0] rfl ?_
                refine z_ws (ws' := [wO wg 7 [.ref p, .ref wg_ways, .ref wg_slotOf, .ref wg_here, .ref wg_there, .int (zI (wg_hereCount)), .int (zI (wg_thereCount)), .ref wg_now, .ref wg_then, .int (zI (wg_weight)), .int (zI (wg_limit)), .int (zI (wg_reach)), .int (zI (wg_tallying)), .int (zI (wg_greatest))], wO p 4 [.ref p_dx, .ref p_dy, .ref p_weights, .ref p_leaps, .int (zI (4)), .int (zI (p_kind)), .int (zI (p_top)), .int (zI (p_round)), .int (zI (p_barredCount)), .int (zI (p_ax)), .int (zI (p_ay)), .int (zI (p_bx)), .int (zI (p_by)), .ref p_barred, .ref p_passable], wI p_weights (zK C).2.1 8 we, wJ wg_now (zK C).2.2.1 223729 nw, wJ wg_then (zK C).2.2.1 223729 th2_17]) [2, 0, 1, 3, 4] rfl rfl ?_
                exact ih28_11 (l + 1) th2_17 (by omega) (by first | exact RW_pt (by omega) (by omega) (by omega) (by omega) (by unfold tgW; split <;> omega) hneg hn vR hsh | exact RW_pb (by omega) (by omega) (by omega) (by unfold tgW; split <;> omega) hCo hCn hn vR him) (by intro j hj; first | (rw [hsh j, if_neg (by omega)]; exact vo j hj) | (rw [him j]; unfold zu; rw [if_neg (by omega)]; exact vo j hj)) (by omega)
            · skip
              refine z_iload hC 8 dX7_carry_45 rfl ?_
              refine z_iload_n hC 3 dX7_carry_47 rfl rfl ?_
              refine z_iceq hC 55 dX7_carry_48 (by decide) (by omega) (fun c_18 => ?_) (fun c_18 => ?_)
              · skip
                refine z_iconst hC dX7_carry_55 ?_
                refine z_istore hC [(9, .int (zI (0))), (0, .ref wg), (1, .int (zI (i))), (2, .int (zI (s))), (3, .int (zI (k))), (4, .int (zI (c))), (5, .int (zI (t))), (6, .int (zI (i * 121))), (7, .int (zI (s * 121))), (8, .int (zI (l)))] dX7_carry_56 (by decide) rfl ?_
                refine z_aload_n hC 1 dX7_carry_58 rfl rfl ?_
                refine z_get hC (T := TX7) (N := 14) hinX7 0 12 dX7_carry_59 rfl rfl (by decide) (List.mem_of_getElem? (i := 4) rfl) rfl rfl ?_
                refine z_ifeq hC 94 dX7_carry_62 (by decide) (by omega) (fun c_19 => ?_) (fun c_19 => ?_)
                · skip
                  have hb1 := RW_bd (e := l) (B := 20) (by omega) (by omega) (by omega) hCb hn
                  have hb2 := RW_bd (e := k) (B := 21) (by omega) (by omega) (by omega) (fun e w h => pushB hCb hCb2 hCn hCo h) vR
                  refine z_aload_n hC 1 dX7_carry_94 rfl rfl ?_
                  refine z_iload hC 7 dX7_carry_95 rfl ?_
                  refine z_iload hC 9 dX7_carry_97 rfl ?_
                  refine z_iadd hC ((i * 121) + l) dX7_carry_99 rfl ?_
                  refine z_iload hC 8 dX7_carry_100 rfl ?_
                  refine z_iload_n hC 4 dX7_carry_102 rfl rfl ?_
                  refine z_iadd hC ((s * 121) + k) dX7_carry_103 rfl ?_
                  refine z_iload hC 0 dX7_carry_104 rfl ?_
                  refine z_callV hC [.int (zI ((i * 121) + l)), .int (zI ((s * 121) + k)), .int (zI (0))] 3 0 dX7_carry_106 (c_X7_improve (zl C) (zD C) (zK C) wg p wg_ways wg_slotOf wg_here wg_there wg_now wg_then ((i * 121) + l) ((s * 121) + k) 0 wg_hereCount wg_thereCount wg_weight wg_limit wg_reach wg_tallying wg_greatest nw q (by first | assumption | omega) (by first | assumption | omega) (by first | assumption | omega) (by first | assumption | omega)) gX7_carry_X7_improve rfl rfl rfl ⟨by decide, by decide, by decide +kernel⟩ ⟨(Nat.le_of_ble_eq_true rfl), (Nat.le_of_ble_eq_true rfl)⟩ rfl rfl rfl rfl [0, 3, 4] [1, 2] [wO p 4 [.ref p_dx, .ref p_dy, .ref p_weights, .ref p_leaps, .int (zI (4)), .int (zI (p_kind)), .int (zI (p_top)), .int (zI (p_round)), .int (zI (p_barredCount)), .int (zI (p_ax)), .int (zI (p_ay)), .int (zI (p_bx)), .int (zI (p_by)), .ref p_barred, .ref p_passable], wI p_weights (zK C).2.1 8 we] [] rfl rfl rfl rfl rfl (by decide) (Nat.le_of_ble_eq_true rfl) ⟨(Nat.le_of_ble_eq_true rfl), (Nat.le_of_ble_eq_true rfl)⟩ ?_
                  rintro v_ w_ ⟨th2_20, rfl, rfl, him⟩
                  show ZW C 0 0 [wO p 4 [.ref p_dx, .ref p_dy, .ref p_weights, .ref p_leaps, .int (zI (4)), .int (zI (p_kind)), .int (zI (p_top)), .int (zI (p_round)), .int (zI (p_barredCount)), .int (zI (p_ax)), .int (zI (p_ay)), .int (zI (p_bx)), .int (zI (p_by)), .ref p_barred, .ref p_passable], wI p_weights (zK C).2.1 8 we, wO wg 7 [.ref p, .ref wg_ways, .ref wg_slotOf, .ref wg_here, .ref wg_there, .int (zI (wg_hereCount)), .int (zI (wg_thereCount)), .ref wg_now, .ref wg_then, .int (zI (wg_weight)), .int (zI (wg_limit)), .int (zI (wg_reach)), .int (zI (wg_tallying)), .int (zI (wg_greatest))], wJ wg_now (zK C).2.2.1 223729 nw, wJ wg_then (zK C).2.2.1 223729 th2_20] [(9, .int (zI (0))), (0, .ref wg), (1, .int (zI (i))), (2, .int (zI (s))), (3, .int (zI (k))), (4, .int (zI (c))), (5, .int (zI (t))), (6, .int (zI (i * 121))), (7, .int (zI (s * 121))), (8, .int (zI (l)))] 109 []
                  refine z_iinc (a := l) (v := 1) (r := l + 1) hC 9 [(8, .int (zI (l + 1))), (9, .int (zI (0))), (0, .ref wg), (1, .int (zI (i))), (2, .int (zI (s))), (3, .int (zI (k))), (4, .int (zI (c))), (5, .int (zI (t))), (6, .int (zI (i * 121))), (7, .int (zI (s * 121)))] dX7_carry_109 rfl rfl (by decide) rfl ?_
                  refine z_goto hC 28 dX7_carry_112 (by decide) ?_
                  refine z_lv (lv' := [(0, .ref wg), (1, .int (zI (i))), (2, .int (zI (s))), (3, .int (zI (k))), (4, .int (zI (c))), (5, .int (zI (t))), (6, .int (zI (i * 121))), (7, .int (zI (s * 121))), (8, .int (zI (l + 1)))]) [2, 3, 4, 5, 6, 7, 8, 9, 0] rfl ?_
                  refine z_ws (ws' := [wO wg 7 [.ref p, .ref wg_ways, .ref wg_slotOf, .ref wg_here, .ref wg_there, .int (zI (wg_hereCount)), .int (zI (wg_thereCount)), .ref wg_now, .ref wg_then, .int (zI (wg_weight)), .int (zI (wg_limit)), .int (zI (wg_reach)), .int (zI (wg_tallying)), .int (zI (wg_greatest))], wO p 4 [.ref p_dx, .ref p_dy, .ref p_weights, .ref p_leaps, .int (zI (4)), .int (zI (p_kind)), .int (zI (p_top)), .int (zI (p_round)), .int (zI (p_barredCount)), .int (zI (p_ax)), .int (zI (p_ay)), .int (zI (p_bx)), .int (zI (p_by)), .ref p_barred, .ref p_passable], wI p_weights (zK C).2.1 8 we, wJ wg_now (zK C).2.2.1 223729 nw, wJ wg_then (zK C).2.2.1 223729 th2_20]) [2, 0, 1, 3, 4] rfl rfl ?_
                  exact ih28_11 (l + 1) th2_20 (by omega) (by first | exact RW_pt (by omega) (by omega) (by omega) (by omega) (by unfold tgW; split <;> omega) hneg hn vR hsh | exact RW_pb (by omega) (by omega) (by omega) (by unfold tgW; split <;> omega) hCo hCn hn vR him) (by intro j hj; first | (rw [hsh j, if_neg (by omega)]; exact vo j hj) | (rw [him j]; unfold zu; rw [if_neg (by omega)]; exact vo j hj)) (by omega)
                · skip
                  refine z_aload_n hC 1 dX7_carry_65 rfl rfl ?_
                  refine z_iload hC 7 dX7_carry_66 rfl ?_
                  refine z_iload hC 9 dX7_carry_68 rfl ?_
                  refine z_bipush hC dX7_carry_70 (by decide) ?_
                  refine z_imul hC (l * 14) dX7_carry_72 rfl ?_
                  refine z_iadd hC ((i * 121) + (l * 14)) dX7_carry_73 rfl ?_
                  refine z_iload hC 8 dX7_carry_74 rfl ?_
                  refine z_iload_n hC 4 dX7_carry_76 rfl rfl ?_
                  refine z_bipush hC dX7_carry_77 (by decide) ?_
                  refine z_imul hC (k * 14) dX7_carry_79 rfl ?_
                  refine z_iadd hC ((s * 121) + (k * 14)) dX7_carry_80 rfl ?_
                  refine z_iload hC 0 dX7_carry_81 rfl ?_
                  refine z_bipush hC dX7_carry_83 (by decide) ?_
                  refine z_iload hC 0 dX7_carry_85 rfl ?_
                  refine z_isub hC (13) dX7_carry_87 (by decide) ?_
                  refine z_callV hC [.int (zI ((i * 121) + (l * 14))), .int (zI ((s * 121) + (k * 14))), .int (zI (0)), .int (zI (13))] 4 0 dX7_carry_88 (c_X7_shift (zl C) (zD C) (zK C) wg p wg_ways wg_slotOf wg_here wg_there wg_now wg_then ((i * 121) + (l * 14)) ((s * 121) + (k * 14)) 0 13 wg_hereCount wg_thereCount wg_weight wg_limit wg_reach wg_tallying wg_greatest nw q (by first | assumption | omega)) gX7_carry_X7_shift rfl rfl rfl ⟨by decide, by decide, by decide +kernel⟩ ⟨(Nat.le_of_ble_eq_true rfl), (Nat.le_of_ble_eq_true rfl)⟩ rfl rfl rfl rfl [0, 3, 4] [1, 2] [wO p 4 [.ref p_dx, .ref p_dy, .ref p_weights, .ref p_leaps, .int (zI (4)), .int (zI (p_kind)), .int (zI (p_top)), .int (zI (p_round)), .int (zI (p_barredCount)), .int (zI (p_ax)), .int (zI (p_ay)), .int (zI (p_bx)), .int (zI (p_by)), .ref p_barred, .ref p_passable], wI p_weights (zK C).2.1 8 we] [] rfl rfl rfl rfl rfl (by decide) (Nat.le_of_ble_eq_true rfl) ⟨(Nat.le_of_ble_eq_true rfl), (Nat.le_of_ble_eq_true rfl)⟩ ?_
                  rintro v_ w_ ⟨th2_21, rfl, rfl, hsh⟩
                  show ZW C 0 0 [wO p 4 [.ref p_dx, .ref p_dy, .ref p_weights, .ref p_leaps, .int (zI (4)), .int (zI (p_kind)), .int (zI (p_top)), .int (zI (p_round)), .int (zI (p_barredCount)), .int (zI (p_ax)), .int (zI (p_ay)), .int (zI (p_bx)), .int (zI (p_by)), .ref p_barred, .ref p_passable], wI p_weights (zK C).2.1 8 we, wO wg 7 [.ref p, .ref wg_ways, .ref wg_slotOf, .ref wg_here, .ref wg_there, .int (zI (wg_hereCount)), .int (zI (wg_thereCount)), .ref wg_now, .ref wg_then, .int (zI (wg_weight)), .int (zI (wg_limit)), .int (zI (wg_reach)), .int (zI (wg_tallying)), .int (zI (wg_greatest))], wJ wg_now (zK C).2.2.1 223729 nw, wJ wg_then (zK C).2.2.1 223729 th2_21] [(9, .int (zI (0))), (0, .ref wg), (1, .int (zI (i))), (2, .int (zI (s))), (3, .int (zI (k))), (4, .int (zI (c))), (5, .int (zI (t))), (6, .int (zI (i * 121))), (7, .int (zI (s * 121))), (8, .int (zI (l)))] 91 []
                  refine z_goto hC 109 dX7_carry_91 (by decide) ?_
                  refine z_iinc (a := l) (v := 1) (r := l + 1) hC 9 [(8, .int (zI (l + 1))), (9, .int (zI (0))), (0, .ref wg), (1, .int (zI (i))), (2, .int (zI (s))), (3, .int (zI (k))), (4, .int (zI (c))), (5, .int (zI (t))), (6, .int (zI (i * 121))), (7, .int (zI (s * 121)))] dX7_carry_109 rfl rfl (by decide) rfl ?_
                  refine z_goto hC 28 dX7_carry_112 (by decide) ?_
                  refine z_lv (lv' := [(0, .ref wg), (1, .int (zI (i))), (2, .int (zI (s))), (3, .int (zI (k))), (4, .int (zI (c))), (5, .int (zI (t))), (6, .int (zI (i * 121))), (7, .int (zI (s * 121))), (8, .int (zI (l + 1)))]) [2, 3, 4, 5, 6, 7, 8, 9, 0] rfl ?_
                  refine z_ws (ws' := [wO wg 7 [.ref p, .ref wg_ways, .ref wg_slotOf, .ref wg_here, .ref wg_there, .int (zI (wg_hereCount)), .int (zI (wg_thereCount)), .ref wg_now, .ref wg_then, .int (zI (wg_weight)), .int (zI (wg_limit)), .int (zI (wg_reach)), .int (zI (wg_tallying)), .int (zI (wg_greatest))], wO p 4 [.ref p_dx, .ref p_dy, .ref p_weights, .ref p_leaps, .int (zI (4)), .int (zI (p_kind)), .int (zI (p_top)), .int (zI (p_round)), .int (zI (p_barredCount)), .int (zI (p_ax)), .int (zI (p_ay)), .int (zI (p_bx)), .int (zI (p_by)), .ref p_barred, .ref p_passable], wI p_weights (zK C).2.1 8 we, wJ wg_now (zK C).2.2.1 223729 nw, wJ wg_then (zK C).2.2.1 223729 th2_21]) [2, 0, 1, 3, 4] rfl rfl ?_
                  exact ih28_11 (l + 1) th2_21 (by omega) (by first | exact RW_pt (by omega) (by omega) (by omega) (by omega) (by unfold tgW; split <;> omega) hneg hn vR hsh | exact RW_pb (by omega) (by omega) (by omega) (by unfold tgW; split <;> omega) hCo hCn hn vR him) (by intro j hj; first | (rw [hsh j, if_neg (by omega)]; exact vo j hj) | (rw [him j]; unfold zu; rw [if_neg (by omega)]; exact vo j hj)) (by omega)
              · skip
                refine z_iconst hC dX7_carry_51 ?_
                refine z_goto hC 56 dX7_carry_52 (by decide) ?_
                refine z_istore hC [(9, .int (zI (1))), (0, .ref wg), (1, .int (zI (i))), (2, .int (zI (s))), (3, .int (zI (k))), (4, .int (zI (c))), (5, .int (zI (t))), (6, .int (zI (i * 121))), (7, .int (zI (s * 121))), (8, .int (zI (l)))] dX7_carry_56 (by decide) rfl ?_
                refine z_aload_n hC 1 dX7_carry_58 rfl rfl ?_
                refine z_get hC (T := TX7) (N := 14) hinX7 0 12 dX7_carry_59 rfl rfl (by decide) (List.mem_of_getElem? (i := 4) rfl) rfl rfl ?_
                refine z_ifeq hC 94 dX7_carry_62 (by decide) (by omega) (fun c_22 => ?_) (fun c_22 => ?_)
                · skip
                  have hb1 := RW_bd (e := l) (B := 20) (by omega) (by omega) (by omega) hCb hn
                  have hb2 := RW_bd (e := k) (B := 21) (by omega) (by omega) (by omega) (fun e w h => pushB hCb hCb2 hCn hCo h) vR
                  refine z_aload_n hC 1 dX7_carry_94 rfl rfl ?_
                  refine z_iload hC 7 dX7_carry_95 rfl ?_
                  refine z_iload hC 9 dX7_carry_97 rfl ?_
                  refine z_iadd hC ((i * 121) + l) dX7_carry_99 rfl ?_
                  refine z_iload hC 8 dX7_carry_100 rfl ?_
                  refine z_iload_n hC 4 dX7_carry_102 rfl rfl ?_
                  refine z_iadd hC ((s * 121) + k) dX7_carry_103 rfl ?_
                  refine z_iload hC 0 dX7_carry_104 rfl ?_
                  refine z_callV hC [.int (zI ((i * 121) + l)), .int (zI ((s * 121) + k)), .int (zI (1))] 3 0 dX7_carry_106 (c_X7_improve (zl C) (zD C) (zK C) wg p wg_ways wg_slotOf wg_here wg_there wg_now wg_then ((i * 121) + l) ((s * 121) + k) 1 wg_hereCount wg_thereCount wg_weight wg_limit wg_reach wg_tallying wg_greatest nw q (by first | assumption | omega) (by first | assumption | omega) (by first | assumption | omega) (by first | assumption | omega)) gX7_carry_X7_improve rfl rfl rfl ⟨by decide, by decide, by decide +kernel⟩ ⟨(Nat.le_of_ble_eq_true rfl), (Nat.le_of_ble_eq_true rfl)⟩ rfl rfl rfl rfl [0, 3, 4] [1, 2] [wO p 4 [.ref p_dx, .ref p_dy, .ref p_weights, .ref p_leaps, .int (zI (4)), .int (zI (p_kind)), .int (zI (p_top)), .int (zI (p_round)), .int (zI (p_barredCount)), .int (zI (p_ax)), .int (zI (p_ay)), .int (zI (p_bx)), .int (zI (p_by)), .ref p_barred, .ref p_passable], wI p_weights (zK C).2.1 8 we] [] rfl rfl rfl rfl rfl (by decide) (Nat.le_of_ble_eq_true rfl) ⟨(Nat.le_of_ble_eq_true rfl), (Nat.le_of_ble_eq_true rfl)⟩ ?_
                  rintro v_ w_ ⟨th2_23, rfl, rfl, him⟩
                  show ZW C 0 0 [wO p 4 [.ref p_dx, .ref p_dy, .ref p_weights, .ref p_leaps, .int (zI (4)), .int (zI (p_kind)), .int (zI (p_top)), .int (zI (p_round)), .int (zI (p_barredCount)), .int (zI (p_ax)), .int (zI (p_ay)), .int (zI (p_bx)), .int (zI (p_by)), .ref p_barred, .ref p_passable], wI p_weights (zK C).2.1 8 we, wO wg 7 [.ref p, .ref wg_ways, .ref wg_slotOf, .ref wg_here, .ref wg_there, .int (zI (wg_hereCount)), .int (zI (wg_thereCount)), .ref wg_now, .ref wg_then, .int (zI (wg_weight)), .int (zI (wg_limit)), .int (zI (wg_reach)), .int (zI (wg_tallying)), .int (zI (wg_greatest))], wJ wg_now (zK C).2.2.1 223729 nw, wJ wg_then (zK C).2.2.1 223729 th2_23] [(9, .int (zI (1))), (0, .ref wg), (1, .int (zI (i))), (2, .int (zI (s))), (3, .int (zI (k))), (4, .int (zI (c))), (5, .int (zI (t))), (6, .int (zI (i * 121))), (7, .int (zI (s * 121))), (8, .int (zI (l)))] 109 []
                  refine z_iinc (a := l) (v := 1) (r := l + 1) hC 9 [(8, .int (zI (l + 1))), (9, .int (zI (1))), (0, .ref wg), (1, .int (zI (i))), (2, .int (zI (s))), (3, .int (zI (k))), (4, .int (zI (c))), (5, .int (zI (t))), (6, .int (zI (i * 121))), (7, .int (zI (s * 121)))] dX7_carry_109 rfl rfl (by decide) rfl ?_
                  refine z_goto hC 28 dX7_carry_112 (by decide) ?_
                  refine z_lv (lv' := [(0, .ref wg), (1, .int (zI (i))), (2, .int (zI (s))), (3, .int (zI (k))), (4, .int (zI (c))), (5, .int (zI (t))), (6, .int (zI (i * 121))), (7, .int (zI (s * 121))), (8, .int (zI (l + 1)))]) [2, 3, 4, 5, 6, 7, 8, 9, 0] rfl ?_
                  refine z_ws (ws' := [wO wg 7 [.ref p, .ref wg_ways, .ref wg_slotOf, .ref wg_here, .ref wg_there, .int (zI (wg_hereCount)), .int (zI (wg_thereCount)), .ref wg_now, .ref wg_then, .int (zI (wg_weight)), .int (zI (wg_limit)), .int (zI (wg_reach)), .int (zI (wg_tallying)), .int (zI (wg_greatest))], wO p 4 [.ref p_dx, .ref p_dy, .ref p_weights, .ref p_leaps, .int (zI (4)), .int (zI (p_kind)), .int (zI (p_top)), .int (zI (p_round)), .int (zI (p_barredCount)), .int (zI (p_ax)), .int (zI (p_ay)), .int (zI (p_bx)), .int (zI (p_by)), .ref p_barred, .ref p_passable], wI p_weights (zK C).2.1 8 we, wJ wg_now (zK C).2.2.1 223729 nw, wJ wg_then (zK C).2.2.1 223729 th2_23]) [2, 0, 1, 3, 4] rfl rfl ?_
                  exact ih28_11 (l + 1) th2_23 (by omega) (by first | exact RW_pt (by omega) (by omega) (by omega) (by omega) (by unfold tgW; split <;> omega) hneg hn vR hsh | exact RW_pb (by omega) (by omega) (by omega) (by unfold tgW; split <;> omega) hCo hCn hn vR him) (by intro j hj; first | (rw [hsh j, if_neg (by omega)]; exact vo j hj) | (rw [him j]; unfold zu; rw [if_neg (by omega)]; exact vo j hj)) (by omega)
                · skip
                  refine z_aload_n hC 1 dX7_carry_65 rfl rfl ?_
                  refine z_iload hC 7 dX7_carry_66 rfl ?_
                  refine z_iload hC 9 dX7_carry_68 rfl ?_
                  refine z_bipush hC dX7_carry_70 (by decide) ?_
                  refine z_imul hC (l * 14) dX7_carry_72 rfl ?_
                  refine z_iadd hC ((i * 121) + (l * 14)) dX7_carry_73 rfl ?_
                  refine z_iload hC 8 dX7_carry_74 rfl ?_
                  refine z_iload_n hC 4 dX7_carry_76 rfl rfl ?_
                  refine z_bipush hC dX7_carry_77 (by decide) ?_
                  refine z_imul hC (k * 14) dX7_carry_79 rfl ?_
                  refine z_iadd hC ((s * 121) + (k * 14)) dX7_carry_80 rfl ?_
                  refine z_iload hC 0 dX7_carry_81 rfl ?_
                  refine z_bipush hC dX7_carry_83 (by decide) ?_
                  refine z_iload hC 0 dX7_carry_85 rfl ?_
                  refine z_isub hC (12) dX7_carry_87 (by decide) ?_
                  refine z_callV hC [.int (zI ((i * 121) + (l * 14))), .int (zI ((s * 121) + (k * 14))), .int (zI (1)), .int (zI (12))] 4 0 dX7_carry_88 (c_X7_shift (zl C) (zD C) (zK C) wg p wg_ways wg_slotOf wg_here wg_there wg_now wg_then ((i * 121) + (l * 14)) ((s * 121) + (k * 14)) 1 12 wg_hereCount wg_thereCount wg_weight wg_limit wg_reach wg_tallying wg_greatest nw q (by first | assumption | omega)) gX7_carry_X7_shift rfl rfl rfl ⟨by decide, by decide, by decide +kernel⟩ ⟨(Nat.le_of_ble_eq_true rfl), (Nat.le_of_ble_eq_true rfl)⟩ rfl rfl rfl rfl [0, 3, 4] [1, 2] [wO p 4 [.ref p_dx, .ref p_dy, .ref p_weights, .ref p_leaps, .int (zI (4)), .int (zI (p_kind)), .int (zI (p_top)), .int (zI (p_round)), .int (zI (p_barredCount)), .int (zI (p_ax)), .int (zI (p_ay)), .int (zI (p_bx)), .int (zI (p_by)), .ref p_barred, .ref p_passable], wI p_weights (zK C).2.1 8 we] [] rfl rfl rfl rfl rfl (by decide) (Nat.le_of_ble_eq_true rfl) ⟨(Nat.le_of_ble_eq_true rfl), (Nat.le_of_ble_eq_true rfl)⟩ ?_
                  rintro v_ w_ ⟨th2_24, rfl, rfl, hsh⟩
                  show ZW C 0 0 [wO p 4 [.ref p_dx, .ref p_dy, .ref p_weights, .ref p_leaps, .int (zI (4)), .int (zI (p_kind)), .int (zI (p_top)), .int (zI (p_round)), .int (zI (p_barredCount)), .int (zI (p_ax)), .int (zI (p_ay)), .int (zI (p_bx)), .int (zI (p_by)), .ref p_barred, .ref p_passable], wI p_weights (zK C).2.1 8 we, wO wg 7 [.ref p, .ref wg_ways, .ref wg_slotOf, .ref wg_here, .ref wg_there, .int (zI (wg_hereCount)), .int (zI (wg_thereCount)), .ref wg_now, .ref wg_then, .int (zI (wg_weight)), .int (zI (wg_limit)), .int (zI (wg_reach)), .int (zI (wg_tallying)), .int (zI (wg_greatest))], wJ wg_now (zK C).2.2.1 223729 nw, wJ wg_then (zK C).2.2.1 223729 th2_24] [(9, .int (zI (1))), (0, .ref wg), (1, .int (zI (i))), (2, .int (zI (s))), (3, .int (zI (k))), (4, .int (zI (c))), (5, .int (zI (t))), (6, .int (zI (i * 121))), (7, .int (zI (s * 121))), (8, .int (zI (l)))] 91 []
                  refine z_goto hC 109 dX7_carry_91 (by decide) ?_
                  refine z_iinc (a := l) (v := 1) (r := l + 1) hC 9 [(8, .int (zI (l + 1))), (9, .int (zI (1))), (0, .ref wg), (1, .int (zI (i))), (2, .int (zI (s))), (3, .int (zI (k))), (4, .int (zI (c))), (5, .int (zI (t))), (6, .int (zI (i * 121))), (7, .int (zI (s * 121)))] dX7_carry_109 rfl rfl (by decide) rfl ?_
                  refine z_goto hC 28 dX7_carry_112 (by decide) ?_
                  refine z_lv (lv' := [(0, .ref wg), (1, .int (zI (i))), (2, .int (zI (s))), (3, .int (zI (k))), (4, .int (zI (c))), (5, .int (zI (t))), (6, .int (zI (i * 121))), (7, .int (zI (s * 121))), (8, .int (zI (l + 1)))]) [2, 3, 4, 5, 6, 7, 8, 9, 0] rfl ?_
                  refine z_ws (ws' := [wO wg 7 [.ref p, .ref wg_ways, .ref wg_slotOf, .ref wg_here, .ref wg_there, .int (zI (wg_hereCount)), .int (zI (wg_thereCount)), .ref wg_now, .ref wg_then, .int (zI (wg_weight)), .int (zI (wg_limit)), .int (zI (wg_reach)), .int (zI (wg_tallying)), .int (zI (wg_greatest))], wO p 4 [.ref p_dx, .ref p_dy, .ref p_weights, .ref p_leaps, .int (zI (4)), .int (zI (p_kind)), .int (zI (p_top)), .int (zI (p_round)), .int (zI (p_barredCount)), .int (zI (p_ax)), .int (zI (p_ay)), .int (zI (p_bx)), .int (zI (p_by)), .ref p_barred, .ref p_passable], wI p_weights (zK C).2.1 8 we, wJ wg_now (zK C).2.2.1 223729 nw, wJ wg_then (zK C).2.2.1 223729 th2_24]) [2, 0, 1, 3, 4] rfl rfl ?_
                  exact ih28_11 (l + 1) th2_24 (by omega) (by first | exact RW_pt (by omega) (by omega) (by omega) (by omega) (by unfold tgW; split <;> omega) hneg hn vR hsh | exact RW_pb (by omega) (by omega) (by omega) (by unfold tgW; split <;> omega) hCo hCn hn vR him) (by intro j hj; first | (rw [hsh j, if_neg (by omega)]; exact vo j hj) | (rw [him j]; unfold zu; rw [if_neg (by omega)]; exact vo j hj)) (by omega)
      exact lp28_10 _ 0 th (by omega) (by exact RW_cong (fun e w => by unfold pushP; split <;> exact (Int.add_zero _).symm) ho) (by intro j _; rfl) (Nat.lt_succ_self _)
  · skip
    exact z_vret hC hR dX7_carry_4 (Nat.le_of_ble_eq_true rfl) (Nat.le_of_ble_eq_true rfl) ⟨th, rfl, rfl, by omega⟩
