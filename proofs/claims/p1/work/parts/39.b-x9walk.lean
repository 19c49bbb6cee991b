def fk (r s k : Int) : Int := if 0 ≤ nx0 s k then cntR nx0 4 (iR 0) r.toNat (nx0 s k) else 0
theorem fk_pos {r s k : Int} (h : 0 ≤ nx0 s k) : fk r s k = cntR nx0 4 (iR 0) r.toNat (nx0 s k) := by unfold fk; rw [if_pos h]
theorem fk_neg {r s k : Int} (h : nx0 s k < 0) : fk r s k = 0 := by unfold fk; rw [if_neg (by omega)]
theorem fk_r (r s k : Int) : 0 ≤ fk r s k ∧ fk r s k ≤ 4611686018427387904 := by
  unfold fk
  split
  · exact cntR_rng (iR_r 0) _ _
  · decide
theorem fk_next {r s left : Int} (hr : 0 ≤ r) (h : left < cntR nx0 4 (iR 0) (r + 1).toNat s) : left < sumZ (fk r s) 4 := cR_next hr h
theorem rw_more {f : Int → Int} {left left2 i here : Int} (hl : left < sumZ f 4) (h0 : 0 ≤ i ∧ i ≤ 3) (e : left2 = left - sumZ f i.toNat) (hh : here = f i) (c : here ≤ left2) : i + 1 ≤ 3 ∧ left2 - here = left - sumZ f (i + 1).toNat := by
  have e2 := sumZ_s (f := f) h0.1
  refine ⟨?_, by omega⟩
  by_cases q : i = 3
  · subst q
    have e3 : sumZ f ((3 : Int) + 1).toNat = sumZ f 4 := rfl
    omega
  · omega
set_option maxHeartbeats 4000000 in
set_option maxRecDepth 100000 in
theorem c_X9_walk (l : Launch) (D : va_G) (K : ClassId × ClassId × ClassId × ClassId) (m m_sheetSort m_sheetMany m_numbers m_dx m_dy m_weight m_isBarred m_walks m_one m_two m_light m_lightThen m_fromX m_fromY m_toX m_toY m_rule m_out m_grid m_heap m_ends m_power m_by2 m_product m_levels m_row m_then m_equations : Nat) (n kk m_status m_thrown m_top m_round m_family m_ruleMany m_outs : Int) (mb dx dy g ou : Int → Int) (hn : zR n) (hkk : zRL kk) (hm_top : zR m_top) (hm_round : zR m_round) (hm0 : ∀ j, 0 ≤ j → j < 3721 → mb j = 0) (hdx : ∀ j, 0 ≤ j → j < 8 → dx j = sdx j) (hdy : ∀ j, 0 ≤ j → j < 8 → dy j = sdy j) : zMet l D K yX9_walk wsX9_walk ({ frames := 5, cells := 0, slots := 0, locals := 118 }) 0 0 [.ref m, .int (zI (n)), .long (zL (kk))] [wO m 9 [.int (zI (m_status)), .int (zI (m_thrown)), .ref m_sheetSort, .ref m_sheetMany, .ref m_numbers, .int (zI (4)), .int (zI (0)), .int (zI (m_top)), .int (zI (m_round)), .int (zI (0)), .int (zI (0)), .int (zI (0)), .int (zI (0)), .ref m_dx, .ref m_dy, .ref m_weight, .ref m_isBarred, .ref m_walks, .ref m_one, .ref m_two, .ref m_light, .ref m_lightThen, .int (zI (m_family)), .ref m_fromX, .ref m_fromY, .ref m_toX, .ref m_toY, .int (zI (m_ruleMany)), .ref m_rule, .ref m_out, .int (zI (m_outs)), .ref m_grid, .ref m_heap, .ref m_ends, .ref m_power, .ref m_by2, .ref m_product, .ref m_levels, .ref m_row, .ref m_then, .ref m_equations], wI m_isBarred K.2.2.2 3721 mb, wI m_dx K.2.1 8 dx, wI m_dy K.2.1 8 dy, wJ m_walks K.2.2.1 226981 g, wI m_out K.1 64 ou] (fun vr_ wr_ => ∃ (r : Int), vr_ = some (.int (zI (r))) ∧ wr_ = [] ∧ (((n < 0 ∨ 60 < n) ∧ r = -1) ∨ (¬ (n < 0 ∨ 60 < n) ∧ (((kk < 0 ∨ 4611686018427387904 ≤ cntR nx0 4 (iR (0)) (n).toNat (1860) ∨ cntR nx0 4 (iR (0)) (n).toNat (1860) ≤ kk) ∧ r = -1) ∨ (0 ≤ kk ∧ cntR nx0 4 (iR (0)) (n).toNat (1860) < 4611686018427387904 ∧ kk < cntR nx0 4 (iR (0)) (n).toNat (1860) ∧ r = n))))) := by
  refine zMet_of (cc := cX9_walk) (nL := 15) (ret := (some .int)) (by decide) rfl (Nat.le_of_ble_eq_true rfl) ?_
  rintro C rfl rfl rfl hC hR
  have hinX9 : ∀ w ∈ u_ws RX9 TX9 41, w ∈ wsX9_walk := by decide +kernel
  show ZW C 0 0 [wO m 9 [.int (zI (m_status)), .int (zI (m_thrown)), .ref m_sheetSort, .ref m_sheetMany, .ref m_numbers, .int (zI (4)), .int (zI (0)), .int (zI (m_top)), .int (zI (m_round)), .int (zI (0)), .int (zI (0)), .int (zI (0)), .int (zI (0)), .ref m_dx, .ref m_dy, .ref m_weight, .ref m_isBarred, .ref m_walks, .ref m_one, .ref m_two, .ref m_light, .ref m_lightThen, .int (zI (m_family)), .ref m_fromX, .ref m_fromY, .ref m_toX, .ref m_toY, .int (zI (m_ruleMany)), .ref m_rule, .ref m_out, .int (zI (m_outs)), .ref m_grid, .ref m_heap, .ref m_ends, .ref m_power, .ref m_by2, .ref m_product, .ref m_levels, .ref m_row, .ref m_then, .ref m_equations], wI m_isBarred (zK C).2.2.2 3721 mb, wI m_dx (zK C).2.1 8 dx, wI m_dy (zK C).2.1 8 dy, wJ m_walks (zK C).2.2.1 226981 g, wI m_out (zK C).1 64 ou] [(0, .ref m), (1, .int (zI (n))), (2, .long (zL (kk)))] 0 []
  refine z_aload_n hC 0 dX9_walk_0 rfl rfl ?_
  refine z_iconst hC dX9_walk_1 ?_
  refine z_put hC (T := TX9) (N := 41) hinX9 tyX9_ok nmX9 0 1 [wO m 9 [.int (zI (m_status)), .int (zI (0)), .ref m_sheetSort, .ref m_sheetMany, .ref m_numbers, .int (zI (4)), .int (zI (0)), .int (zI (m_top)), .int (zI (m_round)), .int (zI (0)), .int (zI (0)), .int (zI (0)), .int (zI (0)), .ref m_dx, .ref m_dy, .ref m_weight, .ref m_isBarred, .ref m_walks, .ref m_one, .ref m_two, .ref m_light, .ref m_lightThen, .int (zI (m_family)), .ref m_fromX, .ref m_fromY, .ref m_toX, .ref m_toY, .int (zI (m_ruleMany)), .ref m_rule, .ref m_out, .int (zI (m_outs)), .ref m_grid, .ref m_heap, .ref m_ends, .ref m_power, .ref m_by2, .ref m_product, .ref m_levels, .ref m_row, .ref m_then, .ref m_equations], wI m_isBarred (zK C).2.2.2 3721 mb, wI m_dx (zK C).2.1 8 dx, wI m_dy (zK C).2.1 8 dy, wJ m_walks (zK C).2.2.1 226981 g, wI m_out (zK C).1 64 ou] dX9_walk_2 rfl rfl (by decide) (List.mem_of_getElem? (i := 1) rfl) rfl rfl rfl rfl (Nat.le_of_ble_eq_true rfl) rfl ?_
  refine z_aload_n hC 0 dX9_walk_5 rfl rfl ?_
  refine z_iconst hC dX9_walk_6 ?_
  refine z_put hC (T := TX9) (N := 41) hinX9 tyX9_ok nmX9 0 0 [wO m 9 [.int (zI (0)), .int (zI (0)), .ref m_sheetSort, .ref m_sheetMany, .ref m_numbers, .int (zI (4)), .int (zI (0)), .int (zI (m_top)), .int (zI (m_round)), .int (zI (0)), .int (zI (0)), .int (zI (0)), .int (zI (0)), .ref m_dx, .ref m_dy, .ref m_weight, .ref m_isBarred, .ref m_walks, .ref m_one, .ref m_two, .ref m_light, .ref m_lightThen, .int (zI (m_family)), .ref m_fromX, .ref m_fromY, .ref m_toX, .ref m_toY, .int (zI (m_ruleMany)), .ref m_rule, .ref m_out, .int (zI (m_outs)), .ref m_grid, .ref m_heap, .ref m_ends, .ref m_power, .ref m_by2, .ref m_product, .ref m_levels, .ref m_row, .ref m_then, .ref m_equations], wI m_isBarred (zK C).2.2.2 3721 mb, wI m_dx (zK C).2.1 8 dx, wI m_dy (zK C).2.1 8 dy, wJ m_walks (zK C).2.2.1 226981 g, wI m_out (zK C).1 64 ou] dX9_walk_7 rfl rfl (by decide) (List.mem_of_getElem? (i := 2) rfl) rfl rfl rfl rfl (Nat.le_of_ble_eq_true rfl) rfl ?_
  refine z_iload_n hC 1 dX9_walk_10 rfl rfl ?_
  refine z_iflt hC 20 dX9_walk_11 (by decide) (by omega) (fun c_1 => ?_) (fun c_1 => ?_)
  · skip
    refine z_aload_n hC 0 dX9_walk_20 rfl rfl ?_
    refine z_iconst hC dX9_walk_21 ?_
    refine z_callV hC [.int (zI (2))] 1 0 dX9_walk_22 (c_X9_refuse (zl C) (zD C) (zK C) m m_sheetSort m_sheetMany m_numbers m_dx m_dy m_weight m_isBarred m_walks m_one m_two m_light m_lightThen m_fromX m_fromY m_toX m_toY m_rule m_out m_grid m_heap m_ends m_power m_by2 m_product m_levels m_row m_then m_equations 2 0 0 4 0 m_top m_round 0 0 0 0 m_family m_ruleMany m_outs ) gX9_walk_X9_refuse rfl rfl rfl ⟨by decide, by decide, by decide +kernel⟩ ⟨(Nat.le_of_ble_eq_true rfl), (Nat.le_of_ble_eq_true rfl)⟩ rfl rfl rfl rfl [0] [1, 2, 3, 4, 5] [wI m_isBarred (zK C).2.2.2 3721 mb, wI m_dx (zK C).2.1 8 dx, wI m_dy (zK C).2.1 8 dy, wJ m_walks (zK C).2.2.1 226981 g, wI m_out (zK C).1 64 ou] [] rfl rfl rfl rfl rfl (by decide) (Nat.le_of_ble_eq_true rfl) ⟨(Nat.le_of_ble_eq_true rfl), (Nat.le_of_ble_eq_true rfl)⟩ ?_
    rintro v_ w_ ⟨rfl, rfl, h_22_2⟩
    show ZW C 0 0 [wI m_isBarred (zK C).2.2.2 3721 mb, wI m_dx (zK C).2.1 8 dx, wI m_dy (zK C).2.1 8 dy, wJ m_walks (zK C).2.2.1 226981 g, wI m_out (zK C).1 64 ou, wO m 9 [.int (zI (2)), .int (zI (0)), .ref m_sheetSort, .ref m_sheetMany, .ref m_numbers, .int (zI (4)), .int (zI (0)), .int (zI (m_top)), .int (zI (m_round)), .int (zI (0)), .int (zI (0)), .int (zI (0)), .int (zI (0)), .ref m_dx, .ref m_dy, .ref m_weight, .ref m_isBarred, .ref m_walks, .ref m_one, .ref m_two, .ref m_light, .ref m_lightThen, .int (zI (m_family)), .ref m_fromX, .ref m_fromY, .ref m_toX, .ref m_toY, .int (zI (m_ruleMany)), .ref m_rule, .ref m_out, .int (zI (m_outs)), .ref m_grid, .ref m_heap, .ref m_ends, .ref m_power, .ref m_by2, .ref m_product, .ref m_levels, .ref m_row, .ref m_then, .ref m_equations]] [(0, .ref m), (1, .int (zI (n))), (2, .long (zL (kk)))] 25 [.int (zI (-1))]
    refine z_ws (ws' := []) [] rfl rfl ?_
    exact z_iret hC hR dX9_walk_25 (Nat.le_of_ble_eq_true rfl) (Nat.le_of_ble_eq_true rfl) ⟨-1, rfl, rfl, by first | omega | (rw [← hcr]; omega)⟩
  · skip
    refine z_iload_n hC 1 dX9_walk_14 rfl rfl ?_
    refine z_bipush hC dX9_walk_15 (by decide) ?_
    refine z_icle hC 26 dX9_walk_17 (by decide) (by omega) (fun c_3 => ?_) (fun c_3 => ?_)
    · skip
      refine z_aload_n hC 0 dX9_walk_26 rfl rfl ?_
      refine z_callV hC [] 0 0 dX9_walk_27 (c_X9_areOpen (zl C) (zD C) (zK C) m m_sheetSort m_sheetMany m_numbers m_dx m_dy m_weight m_isBarred m_walks m_one m_two m_light m_lightThen m_fromX m_fromY m_toX m_toY m_rule m_out m_grid m_heap m_ends m_power m_by2 m_product m_levels m_row m_then m_equations 0 0 m_top m_round m_family m_ruleMany m_outs mb (by first | assumption | omega) (by first | assumption | omega) (by first | assumption | omega)) gX9_walk_X9_areOpen rfl rfl rfl ⟨by decide, by decide, by decide +kernel⟩ ⟨(Nat.le_of_ble_eq_true rfl), (Nat.le_of_ble_eq_true rfl)⟩ rfl rfl rfl rfl [0, 1] [2, 3, 4, 5] [wI m_dx (zK C).2.1 8 dx, wI m_dy (zK C).2.1 8 dy, wJ m_walks (zK C).2.2.1 226981 g, wI m_out (zK C).1 64 ou] [] rfl rfl rfl rfl rfl (by decide) (Nat.le_of_ble_eq_true rfl) ⟨(Nat.le_of_ble_eq_true rfl), (Nat.le_of_ble_eq_true rfl)⟩ ?_
      rintro v_ w_ ⟨r_4, rfl, rfl, rfl⟩
      show ZW C 0 0 [wI m_dx (zK C).2.1 8 dx, wI m_dy (zK C).2.1 8 dy, wJ m_walks (zK C).2.2.1 226981 g, wI m_out (zK C).1 64 ou, wO m 9 [.int (zI (0)), .int (zI (0)), .ref m_sheetSort, .ref m_sheetMany, .ref m_numbers, .int (zI (4)), .int (zI (0)), .int (zI (m_top)), .int (zI (m_round)), .int (zI (0)), .int (zI (0)), .int (zI (0)), .int (zI (0)), .ref m_dx, .ref m_dy, .ref m_weight, .ref m_isBarred, .ref m_walks, .ref m_one, .ref m_two, .ref m_light, .ref m_lightThen, .int (zI (m_family)), .ref m_fromX, .ref m_fromY, .ref m_toX, .ref m_toY, .int (zI (m_ruleMany)), .ref m_rule, .ref m_out, .int (zI (m_outs)), .ref m_grid, .ref m_heap, .ref m_ends, .ref m_power, .ref m_by2, .ref m_product, .ref m_levels, .ref m_row, .ref m_then, .ref m_equations], wI m_isBarred (zK C).2.2.2 3721 mb] [(0, .ref m), (1, .int (zI (n))), (2, .long (zL (kk)))] 30 [.int (zI (1))]
      refine z_ifne hC 40 dX9_walk_30 (by decide) (by omega) (fun c_6 => ?_) (fun c_6 => by exfalso; omega)
      refine z_aload_n hC 0 dX9_walk_40 rfl rfl ?_
      refine z_iload_n hC 1 dX9_walk_41 rfl rfl ?_
      refine z_callV hC [.int (zI (n))] 1 0 dX9_walk_42 (c_X9_countOf (zl C) (zD C) (zK C) m m_sheetSort m_sheetMany m_numbers m_dx m_dy m_weight m_isBarred m_walks m_one m_two m_light m_lightThen m_fromX m_fromY m_toX m_toY m_rule m_out m_grid m_heap m_ends m_power m_by2 m_product m_levels m_row m_then m_equations n 0 0 m_top m_round m_family m_ruleMany m_outs mb dx dy g (by first | assumption | omega) (by first | assumption | omega) (by first | assumption | omega) (by first | assumption | omega) (by first | assumption | omega) (by first | assumption | omega)) gX9_walk_X9_countOf rfl rfl rfl ⟨by decide, by decide, by decide +kernel⟩ ⟨(Nat.le_of_ble_eq_true rfl), (Nat.le_of_ble_eq_true rfl)⟩ rfl rfl rfl rfl [4, 5, 0, 1, 2] [3] [wI m_out (zK C).1 64 ou] [] rfl rfl rfl rfl rfl (by decide) (Nat.le_of_ble_eq_true rfl) ⟨(Nat.le_of_ble_eq_true rfl), (Nat.le_of_ble_eq_true rfl)⟩ ?_
      rintro v_ w_ ⟨T, gw, rfl, rfl, hco⟩
      show ZW C 0 0 [wI m_out (zK C).1 64 ou, wO m 9 [.int (zI (0)), .int (zI (0)), .ref m_sheetSort, .ref m_sheetMany, .ref m_numbers, .int (zI (4)), .int (zI (0)), .int (zI (m_top)), .int (zI (m_round)), .int (zI (0)), .int (zI (0)), .int (zI (0)), .int (zI (0)), .ref m_dx, .ref m_dy, .ref m_weight, .ref m_isBarred, .ref m_walks, .ref m_one, .ref m_two, .ref m_light, .ref m_lightThen, .int (zI (m_family)), .ref m_fromX, .ref m_fromY, .ref m_toX, .ref m_toY, .int (zI (m_ruleMany)), .ref m_rule, .ref m_out, .int (zI (m_outs)), .ref m_grid, .ref m_heap, .ref m_ends, .ref m_power, .ref m_by2, .ref m_product, .ref m_levels, .ref m_row, .ref m_then, .ref m_equations], wI m_isBarred (zK C).2.2.2 3721 mb, wI m_dx (zK C).2.1 8 dx, wI m_dy (zK C).2.1 8 dy, wJ m_walks (zK C).2.2.1 226981 gw] [(0, .ref m), (1, .int (zI (n))), (2, .long (zL (kk)))] 45 [.long (zL (T))]
      have e3 := cntR_rng (nxt := nx0) (sc := 4) (i0 := iR 0) (iR_r 0) n.toNat 1860
      obtain ⟨hcr, hcw⟩ := hco
      refine z_lstore hC [(4, .long (zL (T))), (0, .ref m), (1, .int (zI (n))), (2, .long (zL (kk)))] dX9_walk_45 (by decide) rfl ?_
      refine z_lload_n hC 3 dX9_walk_47 rfl rfl ?_
      refine z_lconst (v := 0) hC dX9_walk_48 rfl ?_
      refine z_lclt hC 69 dX9_walk_49 dX9_walk_50 (by decide) (by omega) (fun c_7 => ?_) (fun c_7 => ?_)
      · skip
        refine z_aload_n hC 1 dX9_walk_69 rfl rfl ?_
        refine z_bipush hC dX9_walk_70 (by decide) ?_
        refine z_callV hC [.int (zI (8))] 1 0 dX9_walk_72 (c_X9_refuse (zl C) (zD C) (zK C) m m_sheetSort m_sheetMany m_numbers m_dx m_dy m_weight m_isBarred m_walks m_one m_two m_light m_lightThen m_fromX m_fromY m_toX m_toY m_rule m_out m_grid m_heap m_ends m_power m_by2 m_product m_levels m_row m_then m_equations 8 0 0 4 0 m_top m_round 0 0 0 0 m_family m_ruleMany m_outs ) gX9_walk_X9_refuse rfl rfl rfl ⟨by decide, by decide, by decide +kernel⟩ ⟨(Nat.le_of_ble_eq_true rfl), (Nat.le_of_ble_eq_true rfl)⟩ rfl rfl rfl rfl [1] [0, 2, 3, 4, 5] [wI m_out (zK C).1 64 ou, wI m_isBarred (zK C).2.2.2 3721 mb, wI m_dx (zK C).2.1 8 dx, wI m_dy (zK C).2.1 8 dy, wJ m_walks (zK C).2.2.1 226981 gw] [] rfl rfl rfl rfl rfl (by decide) (Nat.le_of_ble_eq_true rfl) ⟨(Nat.le_of_ble_eq_true rfl), (Nat.le_of_ble_eq_true rfl)⟩ ?_
        rintro v_ w_ ⟨rfl, rfl, h_72_8⟩
        show ZW C 0 0 [wI m_out (zK C).1 64 ou, wI m_isBarred (zK C).2.2.2 3721 mb, wI m_dx (zK C).2.1 8 dx, wI m_dy (zK C).2.1 8 dy, wJ m_walks (zK C).2.2.1 226981 gw, wO m 9 [.int (zI (8)), .int (zI (0)), .ref m_sheetSort, .ref m_sheetMany, .ref m_numbers, .int (zI (4)), .int (zI (0)), .int (zI (m_top)), .int (zI (m_round)), .int (zI (0)), .int (zI (0)), .int (zI (0)), .int (zI (0)), .ref m_dx, .ref m_dy, .ref m_weight, .ref m_isBarred, .ref m_walks, .ref m_one, .ref m_two, .ref m_light, .ref m_lightThen, .int (zI (m_family)), .ref m_fromX, .ref m_fromY, .ref m_toX, .ref m_toY, .int (zI (m_ruleMany)), .ref m_rule, .ref m_out, .int (zI (m_outs)), .ref m_grid, .ref m_heap, .ref m_ends, .ref m_power, .ref m_by2, .ref m_product, .ref m_levels, .ref m_row, .ref m_then, .ref m_equations]] [(4, .long (zL (T))), (0, .ref m), (1, .int (zI (n))), (2, .long (zL (kk)))] 75 [.int (zI (-1))]
        refine z_ws (ws' := []) [] rfl rfl ?_
        exact z_iret hC hR dX9_walk_75 (Nat.le_of_ble_eq_true rfl) (Nat.le_of_ble_eq_true rfl) ⟨-1, rfl, rfl, by first | omega | (rw [← hcr]; omega)⟩
      · skip
        refine z_lload hC 0 dX9_walk_53 rfl ?_
        refine z_ldc2 (v := 4611686018427387904) hC (List.mem_of_getElem? (i := 3) rfl) rfl dX9_walk_55 ?_
        refine z_lcge hC 76 dX9_walk_58 dX9_walk_59 (by decide) (by omega) (fun c_9 => ?_) (fun c_9 => ?_)
        · skip
          refine z_lload hC 0 dX9_walk_76 rfl ?_
          refine z_ldc2 (v := 4611686018427387904) hC (List.mem_of_getElem? (i := 3) rfl) rfl dX9_walk_78 ?_
          refine z_lclt hC 92 dX9_walk_81 dX9_walk_82 (by decide) (by omega) (fun c_10 => by exfalso; omega) (fun c_10 => ?_)
          refine z_aload_n hC 1 dX9_walk_85 rfl rfl ?_
          refine z_bipush hC dX9_walk_86 (by decide) ?_
          refine z_callV hC [.int (zI (9))] 1 0 dX9_walk_88 (c_X9_refuse (zl C) (zD C) (zK C) m m_sheetSort m_sheetMany m_numbers m_dx m_dy m_weight m_isBarred m_walks m_one m_two m_light m_lightThen m_fromX m_fromY m_toX m_toY m_rule m_out m_grid m_heap m_ends m_power m_by2 m_product m_levels m_row m_then m_equations 9 0 0 4 0 m_top m_round 0 0 0 0 m_family m_ruleMany m_outs ) gX9_walk_X9_refuse rfl rfl rfl ⟨by decide, by decide, by decide +kernel⟩ ⟨(Nat.le_of_ble_eq_true rfl), (Nat.le_of_ble_eq_true rfl)⟩ rfl rfl rfl rfl [1] [0, 2, 3, 4, 5] [wI m_out (zK C).1 64 ou, wI m_isBarred (zK C).2.2.2 3721 mb, wI m_dx (zK C).2.1 8 dx, wI m_dy (zK C).2.1 8 dy, wJ m_walks (zK C).2.2.1 226981 gw] [] rfl rfl rfl rfl rfl (by decide) (Nat.le_of_ble_eq_true rfl) ⟨(Nat.le_of_ble_eq_true rfl), (Nat.le_of_ble_eq_true rfl)⟩ ?_
          rintro v_ w_ ⟨rfl, rfl, h_88_11⟩
          show ZW C 0 0 [wI m_out (zK C).1 64 ou, wI m_isBarred (zK C).2.2.2 3721 mb, wI m_dx (zK C).2.1 8 dx, wI m_dy (zK C).2.1 8 dy, wJ m_walks (zK C).2.2.1 226981 gw, wO m 9 [.int (zI (9)), .int (zI (0)), .ref m_sheetSort, .ref m_sheetMany, .ref m_numbers, .int (zI (4)), .int (zI (0)), .int (zI (m_top)), .int (zI (m_round)), .int (zI (0)), .int (zI (0)), .int (zI (0)), .int (zI (0)), .ref m_dx, .ref m_dy, .ref m_weight, .ref m_isBarred, .ref m_walks, .ref m_one, .ref m_two, .ref m_light, .ref m_lightThen, .int (zI (m_family)), .ref m_fromX, .ref m_fromY, .ref m_toX, .ref m_toY, .int (zI (m_ruleMany)), .ref m_rule, .ref m_out, .int (zI (m_outs)), .ref m_grid, .ref m_heap, .ref m_ends, .ref m_power, .ref m_by2, .ref m_product, .ref m_levels, .ref m_row, .ref m_then, .ref m_equations]] [(4, .long (zL (T))), (0, .ref m), (1, .int (zI (n))), (2, .long (zL (kk)))] 91 [.int (zI (-1))]
          refine z_ws (ws' := []) [] rfl rfl ?_
          exact z_iret hC hR dX9_walk_91 (Nat.le_of_ble_eq_true rfl) (Nat.le_of_ble_eq_true rfl) ⟨-1, rfl, rfl, by first | omega | (rw [← hcr]; omega)⟩
        · skip
          refine z_lload_n hC 3 dX9_walk_62 rfl rfl ?_
          refine z_lload hC 0 dX9_walk_63 rfl ?_
          refine z_lclt hC 76 dX9_walk_65 dX9_walk_66 (by decide) (by omega) (fun c_12 => ?_) (fun c_12 => ?_)
          · skip
            refine z_lload hC 0 dX9_walk_76 rfl ?_
            refine z_ldc2 (v := 4611686018427387904) hC (List.mem_of_getElem? (i := 3) rfl) rfl dX9_walk_78 ?_
            refine z_lclt hC 92 dX9_walk_81 dX9_walk_82 (by decide) (by omega) (fun c_13 => ?_) (fun c_13 => by exfalso; omega)
            refine z_aload_n hC 1 dX9_walk_92 rfl rfl ?_
            refine z_iload_n hC 2 dX9_walk_93 rfl rfl ?_
            refine z_put hC (T := TX9) (N := 41) hinX9 tyX9_ok nmX9 1 30 [wI m_out (zK C).1 64 ou, wO m 9 [.int (zI (0)), .int (zI (0)), .ref m_sheetSort, .ref m_sheetMany, .ref m_numbers, .int (zI (4)), .int (zI (0)), .int (zI (m_top)), .int (zI (m_round)), .int (zI (0)), .int (zI (0)), .int (zI (0)), .int (zI (0)), .ref m_dx, .ref m_dy, .ref m_weight, .ref m_isBarred, .ref m_walks, .ref m_one, .ref m_two, .ref m_light, .ref m_lightThen, .int (zI (m_family)), .ref m_fromX, .ref m_fromY, .ref m_toX, .ref m_toY, .int (zI (m_ruleMany)), .ref m_rule, .ref m_out, .int (zI (n)), .ref m_grid, .ref m_heap, .ref m_ends, .ref m_power, .ref m_by2, .ref m_product, .ref m_levels, .ref m_row, .ref m_then, .ref m_equations], wI m_isBarred (zK C).2.2.2 3721 mb, wI m_dx (zK C).2.1 8 dx, wI m_dy (zK C).2.1 8 dy, wJ m_walks (zK C).2.2.1 226981 gw] dX9_walk_94 rfl rfl (by decide) (List.mem_of_getElem? (i := 4) rfl) rfl rfl rfl rfl (Nat.le_of_ble_eq_true rfl) rfl ?_
            refine z_lload_n hC 3 dX9_walk_97 rfl rfl ?_
            refine z_lstore hC [(6, .long (zL (kk))), (4, .long (zL (T))), (0, .ref m), (1, .int (zI (n))), (2, .long (zL (kk)))] dX9_walk_98 (by decide) rfl ?_
            refine z_aload_n hC 2 dX9_walk_100 rfl rfl ?_
            refine z_get hC (T := TX9) (N := 41) hinX9 1 9 dX9_walk_101 rfl rfl (by decide) (List.mem_of_getElem? (i := 5) rfl) rfl rfl ?_
            refine z_aload_n hC 2 dX9_walk_104 rfl rfl ?_
            refine z_get hC (T := TX9) (N := 41) hinX9 1 10 dX9_walk_105 rfl rfl (by decide) (List.mem_of_getElem? (i := 6) rfl) rfl rfl ?_
            refine z_callS hC [.int (zI (0)), .int (zI (0))] 2 dX9_walk_108 (c_X9_squareOf (zl C) (zD C) (zK C) 0 0 ) gX9_walk_X9_squareOf rfl rfl rfl ⟨by decide, by decide, by decide +kernel⟩ ⟨(Nat.le_of_ble_eq_true rfl), (Nat.le_of_ble_eq_true rfl)⟩ rfl [] [0, 1, 2, 3, 4, 5] [wI m_out (zK C).1 64 ou, wO m 9 [.int (zI (0)), .int (zI (0)), .ref m_sheetSort, .ref m_sheetMany, .ref m_numbers, .int (zI (4)), .int (zI (0)), .int (zI (m_top)), .int (zI (m_round)), .int (zI (0)), .int (zI (0)), .int (zI (0)), .int (zI (0)), .ref m_dx, .ref m_dy, .ref m_weight, .ref m_isBarred, .ref m_walks, .ref m_one, .ref m_two, .ref m_light, .ref m_lightThen, .int (zI (m_family)), .ref m_fromX, .ref m_fromY, .ref m_toX, .ref m_toY, .int (zI (m_ruleMany)), .ref m_rule, .ref m_out, .int (zI (n)), .ref m_grid, .ref m_heap, .ref m_ends, .ref m_power, .ref m_by2, .ref m_product, .ref m_levels, .ref m_row, .ref m_then, .ref m_equations], wI m_isBarred (zK C).2.2.2 3721 mb, wI m_dx (zK C).2.1 8 dx, wI m_dy (zK C).2.1 8 dy, wJ m_walks (zK C).2.2.1 226981 gw] [] rfl rfl rfl rfl rfl (by decide) (Nat.le_of_ble_eq_true rfl) ⟨(Nat.le_of_ble_eq_true rfl), (Nat.le_of_ble_eq_true rfl)⟩ ?_
            rintro v_ w_ ⟨rfl, rfl, h_108_14⟩
            show ZW C 0 0 [wI m_out (zK C).1 64 ou, wO m 9 [.int (zI (0)), .int (zI (0)), .ref m_sheetSort, .ref m_sheetMany, .ref m_numbers, .int (zI (4)), .int (zI (0)), .int (zI (m_top)), .int (zI (m_round)), .int (zI (0)), .int (zI (0)), .int (zI (0)), .int (zI (0)), .ref m_dx, .ref m_dy, .ref m_weight, .ref m_isBarred, .ref m_walks, .ref m_one, .ref m_two, .ref m_light, .ref m_lightThen, .int (zI (m_family)), .ref m_fromX, .ref m_fromY, .ref m_toX, .ref m_toY, .int (zI (m_ruleMany)), .ref m_rule, .ref m_out, .int (zI (n)), .ref m_grid, .ref m_heap, .ref m_ends, .ref m_power, .ref m_by2, .ref m_product, .ref m_levels, .ref m_row, .ref m_then, .ref m_equations], wI m_isBarred (zK C).2.2.2 3721 mb, wI m_dx (zK C).2.1 8 dx, wI m_dy (zK C).2.1 8 dy, wJ m_walks (zK C).2.2.1 226981 gw] [(6, .long (zL (kk))), (4, .long (zL (T))), (0, .ref m), (1, .int (zI (n))), (2, .long (zL (kk)))] 111 [.int (zI (61 * (0 + 30) + 0 + 30))]
            refine z_istore hC [(8, .int (zI (61 * (0 + 30) + 0 + 30))), (6, .long (zL (kk))), (4, .long (zL (T))), (0, .ref m), (1, .int (zI (n))), (2, .long (zL (kk)))] dX9_walk_111 (by decide) rfl ?_
            refine z_iload_n hC 4 dX9_walk_113 rfl rfl ?_
            refine z_iconst hC dX9_walk_114 ?_
            refine z_isub hC (n - 1) dX9_walk_115 rfl ?_
            refine z_istore hC [(9, .int (zI (n - 1))), (8, .int (zI (61 * (0 + 30) + 0 + 30))), (6, .long (zL (kk))), (4, .long (zL (T))), (0, .ref m), (1, .int (zI (n))), (2, .long (zL (kk)))] dX9_walk_116 (by decide) rfl ?_
            refine z_lv (lv' := [(0, .ref m), (1, .int (zI (n))), (2, .long (zL (kk))), (4, .long (zL (T))), (6, .long (zL (kk))), (8, .int (zI (61 * (0 + 30) + 0 + 30))), (9, .int (zI (n - 1)))]) [4, 5, 6, 3, 2, 1, 0] rfl ?_
            have lp118_15 : ∀ (f17 : Nat) (left : Int) (s : Int) (r : Int) (ou2 : Int → Int), (-1 ≤ r ∧ r ≤ n - 1) → (0 ≤ s ∧ s < 3721) → (0 ≤ left ∧ left < cntR nx0 4 (iR 0) (r + 1).toNat s) → (r + 1).toNat < f17 → ZW C 0 0 [wI m_out (zK C).1 64 ou2, wO m 9 [.int (zI (0)), .int (zI (0)), .ref m_sheetSort, .ref m_sheetMany, .ref m_numbers, .int (zI (4)), .int (zI (0)), .int (zI (m_top)), .int (zI (m_round)), .int (zI (0)), .int (zI (0)), .int (zI (0)), .int (zI (0)), .ref m_dx, .ref m_dy, .ref m_weight, .ref m_isBarred, .ref m_walks, .ref m_one, .ref m_two, .ref m_light, .ref m_lightThen, .int (zI (m_family)), .ref m_fromX, .ref m_fromY, .ref m_toX, .ref m_toY, .int (zI (m_ruleMany)), .ref m_rule, .ref m_out, .int (zI (n)), .ref m_grid, .ref m_heap, .ref m_ends, .ref m_power, .ref m_by2, .ref m_product, .ref m_levels, .ref m_row, .ref m_then, .ref m_equations], wI m_isBarred (zK C).2.2.2 3721 mb, wI m_dx (zK C).2.1 8 dx, wI m_dy (zK C).2.1 8 dy, wJ m_walks (zK C).2.2.1 226981 gw] [(0, .ref m), (1, .int (zI (n))), (2, .long (zL (kk))), (4, .long (zL (T))), (6, .long (zL (left))), (8, .int (zI (s))), (9, .int (zI (r)))] 118 [] := by
              intro f17
              induction f17 with
              | zero => intro _ _ _ _ _ _ _ hf; exact absurd hf (Nat.not_lt_zero _)
              | succ f17 ih118_16 =>
                intro left s r ou2 vr vs vl hf_118
                refine z_iload hC 6 dX9_walk_118 rfl ?_
                refine z_iflt hC 235 dX9_walk_120 (by decide) (by omega) (fun c_18 => ?_) (fun c_18 => ?_)
                · skip
                  refine z_iload_n hC 1 dX9_walk_235 rfl rfl ?_
                  refine z_ws (ws' := []) [] rfl rfl ?_
                  exact z_iret hC hR dX9_walk_236 (Nat.le_of_ble_eq_true rfl) (Nat.le_of_ble_eq_true rfl) ⟨n, rfl, rfl, by first | omega | (rw [← hcr]; omega)⟩
                · skip
                  have hln := fk_next (by omega) vl.2
                  have hlm := cntR_rng (nxt := nx0) (sc := 4) (i0 := iR 0) (iR_r 0) (r + 1).toNat s
                  refine z_iconst hC dX9_walk_123 ?_
                  refine z_istore hC [(10, .int (zI (0))), (0, .ref m), (1, .int (zI (n))), (2, .long (zL (kk))), (4, .long (zL (T))), (6, .long (zL (left))), (8, .int (zI (s))), (9, .int (zI (r)))] dX9_walk_124 (by decide) rfl ?_
                  refine z_iconst hC dX9_walk_126 ?_
                  refine z_istore hC [(11, .int (zI (1))), (10, .int (zI (0))), (0, .ref m), (1, .int (zI (n))), (2, .long (zL (kk))), (4, .long (zL (T))), (6, .long (zL (left))), (8, .int (zI (s))), (9, .int (zI (r)))] dX9_walk_127 (by decide) rfl ?_
                  refine z_lv (lv' := [(0, .ref m), (1, .int (zI (n))), (2, .long (zL (kk))), (4, .long (zL (T))), (6, .long (zL (left))), (8, .int (zI (s))), (9, .int (zI (r))), (10, .int (zI (0))), (11, .int (zI (1)))]) [2, 3, 4, 5, 6, 7, 8, 1, 0] rfl ?_
                  have lp129_19 : ∀ (f21 : Nat) (left2 : Int) (i : Int) (more : Int), (more = 0 ∨ more = 1) → (0 ≤ i ∧ i ≤ 3) → (0 ≤ left2 ∧ left2 ≤ left) → (left2 = left - sumZ (fk r s) i.toNat) → (more = 0 → left2 < fk r s i) → (2 * (4 - i) + more).toNat < f21 → ZW C 0 0 [wI m_out (zK C).1 64 ou2, wO m 9 [.int (zI (0)), .int (zI (0)), .ref m_sheetSort, .ref m_sheetMany, .ref m_numbers, .int (zI (4)), .int (zI (0)), .int (zI (m_top)), .int (zI (m_round)), .int (zI (0)), .int (zI (0)), .int (zI (0)), .int (zI (0)), .ref m_dx, .ref m_dy, .ref m_weight, .ref m_isBarred, .ref m_walks, .ref m_one, .ref m_two, .ref m_light, .ref m_lightThen, .int (zI (m_family)), .ref m_fromX, .ref m_fromY, .ref m_toX, .ref m_toY, .int (zI (m_ruleMany)), .ref m_rule, .ref m_out, .int (zI (n)), .ref m_grid, .ref m_heap, .ref m_ends, .ref m_power, .ref m_by2, .ref m_product, .ref m_levels, .ref m_row, .ref m_then, .ref m_equations], wI m_isBarred (zK C).2.2.2 3721 mb, wI m_dx (zK C).2.1 8 dx, wI m_dy (zK C).2.1 8 dy, wJ m_walks (zK C).2.2.1 226981 gw] [(0, .ref m), (1, .int (zI (n))), (2, .long (zL (kk))), (4, .long (zL (T))), (6, .long (zL (left2))), (8, .int (zI (s))), (9, .int (zI (r))), (10, .int (zI (i))), (11, .int (zI (more)))] 129 [] := by
                    intro f21
                    induction f21 with
                    | zero => intro _ _ _ _ _ _ _ _ hf; exact absurd hf (Nat.not_lt_zero _)
                    | succ f21 ih129_20 =>
                      intro left2 i more vm vi vl2 vs2 vz hf_129
                      refine z_iload hC 8 dX9_walk_129 rfl ?_
                      refine z_ifeq hC 202 dX9_walk_131 (by decide) (by omega) (fun c_22 => ?_) (fun c_22 => ?_)
                      · skip
                        refine z_aload_n hC 0 dX9_walk_202 rfl rfl ?_
                        refine z_get hC (T := TX9) (N := 41) hinX9 1 29 dX9_walk_203 rfl rfl (by decide) (List.mem_of_getElem? (i := 8) rfl) rfl rfl ?_
                        refine z_iload_n hC 1 dX9_walk_206 rfl rfl ?_
                        refine z_iconst hC dX9_walk_207 ?_
                        refine z_isub hC (n - 1) dX9_walk_208 rfl ?_
                        refine z_iload hC 6 dX9_walk_209 rfl ?_
                        refine z_isub hC ((n - 1) - r) dX9_walk_211 rfl ?_
                        refine z_bipush hC dX9_walk_212 (by decide) ?_
                        refine z_iload hC 7 dX9_walk_214 rfl ?_
                        refine z_iadd hC (48 + i) dX9_walk_216 rfl ?_
                        refine z_i2b hC dX9_walk_217 (by omega) ?_
                        refine z_bast hC 0 [wI m_out (zK C).1 64 (zu ou2 ((n - 1) - r) (48 + i)), wO m 9 [.int (zI (0)), .int (zI (0)), .ref m_sheetSort, .ref m_sheetMany, .ref m_numbers, .int (zI (4)), .int (zI (0)), .int (zI (m_top)), .int (zI (m_round)), .int (zI (0)), .int (zI (0)), .int (zI (0)), .int (zI (0)), .ref m_dx, .ref m_dy, .ref m_weight, .ref m_isBarred, .ref m_walks, .ref m_one, .ref m_two, .ref m_light, .ref m_lightThen, .int (zI (m_family)), .ref m_fromX, .ref m_fromY, .ref m_toX, .ref m_toY, .int (zI (m_ruleMany)), .ref m_rule, .ref m_out, .int (zI (n)), .ref m_grid, .ref m_heap, .ref m_ends, .ref m_power, .ref m_by2, .ref m_product, .ref m_levels, .ref m_row, .ref m_then, .ref m_equations], wI m_isBarred (zK C).2.2.2 3721 mb, wI m_dx (zK C).2.1 8 dx, wI m_dy (zK C).2.1 8 dy, wJ m_walks (zK C).2.2.1 226981 gw] dX9_walk_218 rfl (by omega) (by omega) rfl ?_
                        refine z_aload_n hC 0 dX9_walk_219 rfl rfl ?_
                        refine z_iload hC 5 dX9_walk_220 rfl ?_
                        refine z_iload hC 7 dX9_walk_222 rfl ?_
                        refine z_callV hC [.int (zI (s)), .int (zI (i))] 2 0 dX9_walk_224 (c_X9_next (zl C) (zD C) (zK C) m m_sheetSort m_sheetMany m_numbers m_dx m_dy m_weight m_isBarred m_walks m_one m_two m_light m_lightThen m_fromX m_fromY m_toX m_toY m_rule m_out m_grid m_heap m_ends m_power m_by2 m_product m_levels m_row m_then m_equations s i 0 0 4 m_top m_round 0 0 0 0 m_family m_ruleMany n mb dx dy (by first | assumption | omega) (by first | assumption | omega) (by first | assumption | omega) (by first | assumption | omega) (by first | assumption | omega) (by first | assumption | omega) (by first | assumption | omega)) gX9_walk_X9_next rfl rfl rfl ⟨by decide, by decide, by decide +kernel⟩ ⟨(Nat.le_of_ble_eq_true rfl), (Nat.le_of_ble_eq_true rfl)⟩ rfl rfl rfl rfl [1, 2, 3, 4] [0, 5] [wI m_out (zK C).1 64 (zu ou2 ((n - 1) - r) (48 + i)), wJ m_walks (zK C).2.2.1 226981 gw] [] rfl rfl rfl rfl rfl (by decide) (Nat.le_of_ble_eq_true rfl) ⟨(Nat.le_of_ble_eq_true rfl), (Nat.le_of_ble_eq_true rfl)⟩ ?_
                        rintro v_ w_ ⟨r_23, rfl, rfl, rfl⟩
                        show ZW C 0 0 [wI m_out (zK C).1 64 (zu ou2 ((n - 1) - r) (48 + i)), wJ m_walks (zK C).2.2.1 226981 gw, wO m 9 [.int (zI (0)), .int (zI (0)), .ref m_sheetSort, .ref m_sheetMany, .ref m_numbers, .int (zI (4)), .int (zI (0)), .int (zI (m_top)), .int (zI (m_round)), .int (zI (0)), .int (zI (0)), .int (zI (0)), .int (zI (0)), .ref m_dx, .ref m_dy, .ref m_weight, .ref m_isBarred, .ref m_walks, .ref m_one, .ref m_two, .ref m_light, .ref m_lightThen, .int (zI (m_family)), .ref m_fromX, .ref m_fromY, .ref m_toX, .ref m_toY, .int (zI (m_ruleMany)), .ref m_rule, .ref m_out, .int (zI (n)), .ref m_grid, .ref m_heap, .ref m_ends, .ref m_power, .ref m_by2, .ref m_product, .ref m_levels, .ref m_row, .ref m_then, .ref m_equations], wI m_isBarred (zK C).2.2.2 3721 mb, wI m_dx (zK C).2.1 8 dx, wI m_dy (zK C).2.1 8 dy] [(0, .ref m), (1, .int (zI (n))), (2, .long (zL (kk))), (4, .long (zL (T))), (6, .long (zL (left2))), (8, .int (zI (s))), (9, .int (zI (r))), (10, .int (zI (i))), (11, .int (zI (more)))] 227 [.int (zI (nx0 s i))]
                        have hnr := nx0_r (s := s) (k := i) (by omega)
                        have hf0 : nx0 s i < 0 → fk r s i = 0 := fun h => fk_neg h
                        have hz := vz (by omega)
                        have hcn := cntR_rng (nxt := nx0) (sc := 4) (i0 := iR 0) (iR_r 0) r.toNat (nx0 s i)
                        refine z_istore hC [(8, .int (zI (nx0 s i))), (0, .ref m), (1, .int (zI (n))), (2, .long (zL (kk))), (4, .long (zL (T))), (6, .long (zL (left2))), (9, .int (zI (r))), (10, .int (zI (i))), (11, .int (zI (more)))] dX9_walk_227 (by decide) rfl ?_
                        refine z_iinc (a := r) (v := -1) (r := r - 1) hC 6 [(9, .int (zI (r - 1))), (8, .int (zI (nx0 s i))), (0, .ref m), (1, .int (zI (n))), (2, .long (zL (kk))), (4, .long (zL (T))), (6, .long (zL (left2))), (10, .int (zI (i))), (11, .int (zI (more)))] dX9_walk_229 rfl (by omega) (by decide) rfl ?_
                        refine z_goto hC 118 dX9_walk_232 (by decide) ?_
                        refine z_lv (lv' := [(0, .ref m), (1, .int (zI (n))), (2, .long (zL (kk))), (4, .long (zL (T))), (6, .long (zL (left2))), (8, .int (zI (nx0 s i))), (9, .int (zI (r - 1)))]) [2, 3, 4, 5, 6, 1, 0] rfl ?_
                        refine z_ws (ws' := [wI m_out (zK C).1 64 (zu ou2 ((n - 1) - r) (48 + i)), wO m 9 [.int (zI (0)), .int (zI (0)), .ref m_sheetSort, .ref m_sheetMany, .ref m_numbers, .int (zI (4)), .int (zI (0)), .int (zI (m_top)), .int (zI (m_round)), .int (zI (0)), .int (zI (0)), .int (zI (0)), .int (zI (0)), .ref m_dx, .ref m_dy, .ref m_weight, .ref m_isBarred, .ref m_walks, .ref m_one, .ref m_two, .ref m_light, .ref m_lightThen, .int (zI (m_family)), .ref m_fromX, .ref m_fromY, .ref m_toX, .ref m_toY, .int (zI (m_ruleMany)), .ref m_rule, .ref m_out, .int (zI (n)), .ref m_grid, .ref m_heap, .ref m_ends, .ref m_power, .ref m_by2, .ref m_product, .ref m_levels, .ref m_row, .ref m_then, .ref m_equations], wI m_isBarred (zK C).2.2.2 3721 mb, wI m_dx (zK C).2.1 8 dx, wI m_dy (zK C).2.1 8 dy, wJ m_walks (zK C).2.2.1 226981 gw]) [0, 2, 3, 4, 5, 1] rfl rfl ?_
                        exact ih118_16 left2 (nx0 s i) (r - 1) (zu ou2 ((n - 1) - r) (48 + i)) (by omega) (by omega) (by rw [show r - 1 + 1 = r by omega, ← fk_pos (r := r) (s := s) (k := i) (by omega)]; omega) (by omega)
                      · skip
                        refine z_aload_n hC 0 dX9_walk_134 rfl rfl ?_
                        refine z_iload hC 5 dX9_walk_135 rfl ?_
                        refine z_iload hC 7 dX9_walk_137 rfl ?_
                        refine z_callV hC [.int (zI (s)), .int (zI (i))] 2 0 dX9_walk_139 (c_X9_next (zl C) (zD C) (zK C) m m_sheetSort m_sheetMany m_numbers m_dx m_dy m_weight m_isBarred m_walks m_one m_two m_light m_lightThen m_fromX m_fromY m_toX m_toY m_rule m_out m_grid m_heap m_ends m_power m_by2 m_product m_levels m_row m_then m_equations s i 0 0 4 m_top m_round 0 0 0 0 m_family m_ruleMany n mb dx dy (by first | assumption | omega) (by first | assumption | omega) (by first | assumption | omega) (by first | assumption | omega) (by first | assumption | omega) (by first | assumption | omega) (by first | assumption | omega)) gX9_walk_X9_next rfl rfl rfl ⟨by decide, by decide, by decide +kernel⟩ ⟨(Nat.le_of_ble_eq_true rfl), (Nat.le_of_ble_eq_true rfl)⟩ rfl rfl rfl rfl [1, 2, 3, 4] [0, 5] [wI m_out (zK C).1 64 ou2, wJ m_walks (zK C).2.2.1 226981 gw] [] rfl rfl rfl rfl rfl (by decide) (Nat.le_of_ble_eq_true rfl) ⟨(Nat.le_of_ble_eq_true rfl), (Nat.le_of_ble_eq_true rfl)⟩ ?_
                        rintro v_ w_ ⟨r_25, rfl, rfl, rfl⟩
                        show ZW C 0 0 [wI m_out (zK C).1 64 ou2, wJ m_walks (zK C).2.2.1 226981 gw, wO m 9 [.int (zI (0)), .int (zI (0)), .ref m_sheetSort, .ref m_sheetMany, .ref m_numbers, .int (zI (4)), .int (zI (0)), .int (zI (m_top)), .int (zI (m_round)), .int (zI (0)), .int (zI (0)), .int (zI (0)), .int (zI (0)), .ref m_dx, .ref m_dy, .ref m_weight, .ref m_isBarred, .ref m_walks, .ref m_one, .ref m_two, .ref m_light, .ref m_lightThen, .int (zI (m_family)), .ref m_fromX, .ref m_fromY, .ref m_toX, .ref m_toY, .int (zI (m_ruleMany)), .ref m_rule, .ref m_out, .int (zI (n)), .ref m_grid, .ref m_heap, .ref m_ends, .ref m_power, .ref m_by2, .ref m_product, .ref m_levels, .ref m_row, .ref m_then, .ref m_equations], wI m_isBarred (zK C).2.2.2 3721 mb, wI m_dx (zK C).2.1 8 dx, wI m_dy (zK C).2.1 8 dy] [(0, .ref m), (1, .int (zI (n))), (2, .long (zL (kk))), (4, .long (zL (T))), (6, .long (zL (left2))), (8, .int (zI (s))), (9, .int (zI (r))), (10, .int (zI (i))), (11, .int (zI (more)))] 142 [.int (zI (nx0 s i))]
                        have hnr := nx0_r (s := s) (k := i) (by omega)
                        have hf1 : 0 ≤ nx0 s i → gw (3721 * r + nx0 s i) = fk r s i := fun h => by rw [hcw r _ (by omega) (by omega) h (by omega), fk_pos h]
                        have hf0 : nx0 s i < 0 → fk r s i = 0 := fun h => fk_neg h
                        have hfr := fk_r r s i
                        refine z_istore hC [(12, .int (zI (nx0 s i))), (0, .ref m), (1, .int (zI (n))), (2, .long (zL (kk))), (4, .long (zL (T))), (6, .long (zL (left2))), (8, .int (zI (s))), (9, .int (zI (r))), (10, .int (zI (i))), (11, .int (zI (more)))] dX9_walk_142 (by decide) rfl ?_
                        refine z_iload hC 0 dX9_walk_144 rfl ?_
                        refine z_ifge hC 153 dX9_walk_146 (by decide) (by omega) (fun c_27 => ?_) (fun c_27 => ?_)
                        · skip
                          refine z_aload_n hC 1 dX9_walk_153 rfl rfl ?_
                          refine z_get hC (T := TX9) (N := 41) hinX9 2 17 dX9_walk_154 rfl rfl (by decide) (List.mem_of_getElem? (i := 7) rfl) rfl rfl ?_
                          refine z_sipush hC dX9_walk_157 (by decide) ?_
                          refine z_iload hC 7 dX9_walk_160 rfl ?_
                          refine z_imul hC (3721 * r) dX9_walk_162 rfl ?_
                          refine z_iload hC 0 dX9_walk_163 rfl ?_
                          refine z_iadd hC ((3721 * r) + (nx0 s i)) dX9_walk_165 rfl ?_
                          refine z_lald hC 1 dX9_walk_166 rfl (by omega) ?_
                          refine z_topl (b := fk r s i) (by exact hf1 (by omega)) ?_
                          refine z_lstore hC [(13, .long (zL (fk r s i))), (12, .int (zI (nx0 s i))), (0, .ref m), (1, .int (zI (n))), (2, .long (zL (kk))), (4, .long (zL (T))), (6, .long (zL (left2))), (8, .int (zI (s))), (9, .int (zI (r))), (10, .int (zI (i))), (11, .int (zI (more)))] dX9_walk_167 (by decide) rfl ?_
                          refine z_lload hC 6 dX9_walk_169 rfl ?_
                          refine z_lload hC 0 dX9_walk_171 rfl ?_
                          refine z_lclt hC 181 dX9_walk_173 dX9_walk_174 (by decide) (by omega) (fun c_28 => ?_) (fun c_28 => ?_)
                          · skip
                            refine z_iconst hC dX9_walk_181 ?_
                            refine z_istore hC [(11, .int (zI (0))), (13, .long (zL (fk r s i))), (12, .int (zI (nx0 s i))), (0, .ref m), (1, .int (zI (n))), (2, .long (zL (kk))), (4, .long (zL (T))), (6, .long (zL (left2))), (8, .int (zI (s))), (9, .int (zI (r))), (10, .int (zI (i)))] dX9_walk_182 (by decide) rfl ?_
                            refine z_iload hC 0 dX9_walk_184 rfl ?_
                            refine z_ifeq hC 199 dX9_walk_186 (by decide) (by omega) (fun c_29 => ?_) (fun c_29 => by exfalso; omega)
                            refine z_goto hC 129 dX9_walk_199 (by decide) ?_
                            refine z_lv (lv' := [(0, .ref m), (1, .int (zI (n))), (2, .long (zL (kk))), (4, .long (zL (T))), (6, .long (zL (left2))), (8, .int (zI (s))), (9, .int (zI (r))), (10, .int (zI (i))), (11, .int (zI (0)))]) [3, 4, 5, 6, 7, 8, 9, 10, 0] rfl ?_
                            refine z_ws (ws' := [wI m_out (zK C).1 64 ou2, wO m 9 [.int (zI (0)), .int (zI (0)), .ref m_sheetSort, .ref m_sheetMany, .ref m_numbers, .int (zI (4)), .int (zI (0)), .int (zI (m_top)), .int (zI (m_round)), .int (zI (0)), .int (zI (0)), .int (zI (0)), .int (zI (0)), .ref m_dx, .ref m_dy, .ref m_weight, .ref m_isBarred, .ref m_walks, .ref m_one, .ref m_two, .ref m_light, .ref m_lightThen, .int (zI (m_family)), .ref m_fromX, .ref m_fromY, .ref m_toX, .ref m_toY, .int (zI (m_ruleMany)), .ref m_rule, .ref m_out, .int (zI (n)), .ref m_grid, .ref m_heap, .ref m_ends, .ref m_power, .ref m_by2, .ref m_product, .ref m_levels, .ref m_row, .ref m_then, .ref m_equations], wI m_isBarred (zK C).2.2.2 3721 mb, wI m_dx (zK C).2.1 8 dx, wI m_dy (zK C).2.1 8 dy, wJ m_walks (zK C).2.2.1 226981 gw]) [0, 2, 3, 4, 5, 1] rfl rfl ?_
                            exact ih129_20 left2 i 0 (by omega) (by omega) (by omega) (by omega) (by intro h; omega) (by omega)
                          · skip
                            refine z_iconst hC dX9_walk_177 ?_
                            refine z_goto hC 182 dX9_walk_178 (by decide) ?_
                            refine z_istore hC [(11, .int (zI (1))), (13, .long (zL (fk r s i))), (12, .int (zI (nx0 s i))), (0, .ref m), (1, .int (zI (n))), (2, .long (zL (kk))), (4, .long (zL (T))), (6, .long (zL (left2))), (8, .int (zI (s))), (9, .int (zI (r))), (10, .int (zI (i)))] dX9_walk_182 (by decide) rfl ?_
                            refine z_iload hC 0 dX9_walk_184 rfl ?_
                            refine z_ifeq hC 199 dX9_walk_186 (by decide) (by omega) (fun c_30 => by exfalso; omega) (fun c_30 => ?_)
                            have hrm := rw_more (here := fk r s i) hln vi vs2 rfl (by omega)
                            refine z_lload hC 7 dX9_walk_189 rfl ?_
                            refine z_lload hC 1 dX9_walk_191 rfl ?_
                            refine z_lsub hC (left2 - (fk r s i)) dX9_walk_193 rfl ?_
                            refine z_lstore hC [(6, .long (zL (left2 - (fk r s i)))), (11, .int (zI (1))), (13, .long (zL (fk r s i))), (12, .int (zI (nx0 s i))), (0, .ref m), (1, .int (zI (n))), (2, .long (zL (kk))), (4, .long (zL (T))), (8, .int (zI (s))), (9, .int (zI (r))), (10, .int (zI (i)))] dX9_walk_194 (by decide) rfl ?_
                            refine z_iinc (a := i) (v := 1) (r := i + 1) hC 10 [(10, .int (zI (i + 1))), (6, .long (zL (left2 - (fk r s i)))), (11, .int (zI (1))), (13, .long (zL (fk r s i))), (12, .int (zI (nx0 s i))), (0, .ref m), (1, .int (zI (n))), (2, .long (zL (kk))), (4, .long (zL (T))), (8, .int (zI (s))), (9, .int (zI (r)))] dX9_walk_196 rfl rfl (by decide) rfl ?_
                            refine z_goto hC 129 dX9_walk_199 (by decide) ?_
                            refine z_lv (lv' := [(0, .ref m), (1, .int (zI (n))), (2, .long (zL (kk))), (4, .long (zL (T))), (6, .long (zL (left2 - (fk r s i)))), (8, .int (zI (s))), (9, .int (zI (r))), (10, .int (zI (i + 1))), (11, .int (zI (1)))]) [5, 6, 7, 8, 1, 9, 10, 0, 2] rfl ?_
                            refine z_ws (ws' := [wI m_out (zK C).1 64 ou2, wO m 9 [.int (zI (0)), .int (zI (0)), .ref m_sheetSort, .ref m_sheetMany, .ref m_numbers, .int (zI (4)), .int (zI (0)), .int (zI (m_top)), .int (zI (m_round)), .int (zI (0)), .int (zI (0)), .int (zI (0)), .int (zI (0)), .ref m_dx, .ref m_dy, .ref m_weight, .ref m_isBarred, .ref m_walks, .ref m_one, .ref m_two, .ref m_light, .ref m_lightThen, .int (zI (m_family)), .ref m_fromX, .ref m_fromY, .ref m_toX, .ref m_toY, .int (zI (m_ruleMany)), .ref m_rule, .ref m_out, .int (zI (n)), .ref m_grid, .ref m_heap, .ref m_ends, .ref m_power, .ref m_by2, .ref m_product, .ref m_levels, .ref m_row, .ref m_then, .ref m_equations], wI m_isBarred (zK C).2.2.2 3721 mb, wI m_dx (zK C).2.1 8 dx, wI m_dy (zK C).2.1 8 dy, wJ m_walks (zK C).2.2.1 226981 gw]) [0, 2, 3, 4, 5, 1] rfl rfl ?_
                            exact ih129_20 (left2 - (fk r s i)) (i + 1) 1 (by omega) (by omega) (by omega) (by omega) (by intro h; omega) (by omega)
                        · skip
                          refine z_lconst (v := 0) hC dX9_walk_149 rfl ?_
                          refine z_goto hC 167 dX9_walk_150 (by decide) ?_
                          refine z_lstore hC [(13, .long (zL (0))), (12, .int (zI (nx0 s i))), (0, .ref m), (1, .int (zI (n))), (2, .long (zL (kk))), (4, .long (zL (T))), (6, .long (zL (left2))), (8, .int (zI (s))), (9, .int (zI (r))), (10, .int (zI (i))), (11, .int (zI (more)))] dX9_walk_167 (by decide) rfl ?_
                          refine z_lload hC 6 dX9_walk_169 rfl ?_
                          refine z_lload hC 0 dX9_walk_171 rfl ?_
                          refine z_lclt hC 181 dX9_walk_173 dX9_walk_174 (by decide) (by omega) (fun c_31 => by exfalso; omega) (fun c_31 => ?_)
                          refine z_iconst hC dX9_walk_177 ?_
                          refine z_goto hC 182 dX9_walk_178 (by decide) ?_
                          refine z_istore hC [(11, .int (zI (1))), (13, .long (zL (0))), (12, .int (zI (nx0 s i))), (0, .ref m), (1, .int (zI (n))), (2, .long (zL (kk))), (4, .long (zL (T))), (6, .long (zL (left2))), (8, .int (zI (s))), (9, .int (zI (r))), (10, .int (zI (i)))] dX9_walk_182 (by decide) rfl ?_
                          refine z_iload hC 0 dX9_walk_184 rfl ?_
                          refine z_ifeq hC 199 dX9_walk_186 (by decide) (by omega) (fun c_32 => by exfalso; omega) (fun c_32 => ?_)
                          have hrm := rw_more (here := fk r s i) hln vi vs2 rfl (by omega)
                          refine z_lload hC 7 dX9_walk_189 rfl ?_
                          refine z_lload hC 1 dX9_walk_191 rfl ?_
                          refine z_lsub hC (left2) dX9_walk_193 (by omega) ?_
                          refine z_lstore hC [(6, .long (zL (left2))), (11, .int (zI (1))), (13, .long (zL (0))), (12, .int (zI (nx0 s i))), (0, .ref m), (1, .int (zI (n))), (2, .long (zL (kk))), (4, .long (zL (T))), (8, .int (zI (s))), (9, .int (zI (r))), (10, .int (zI (i)))] dX9_walk_194 (by decide) rfl ?_
                          refine z_iinc (a := i) (v := 1) (r := i + 1) hC 10 [(10, .int (zI (i + 1))), (6, .long (zL (left2))), (11, .int (zI (1))), (13, .long (zL (0))), (12, .int (zI (nx0 s i))), (0, .ref m), (1, .int (zI (n))), (2, .long (zL (kk))), (4, .long (zL (T))), (8, .int (zI (s))), (9, .int (zI (r)))] dX9_walk_196 rfl rfl (by decide) rfl ?_
                          refine z_goto hC 129 dX9_walk_199 (by decide) ?_
                          refine z_lv (lv' := [(0, .ref m), (1, .int (zI (n))), (2, .long (zL (kk))), (4, .long (zL (T))), (6, .long (zL (left2))), (8, .int (zI (s))), (9, .int (zI (r))), (10, .int (zI (i + 1))), (11, .int (zI (1)))]) [5, 6, 7, 8, 1, 9, 10, 0, 2] rfl ?_
                          refine z_ws (ws' := [wI m_out (zK C).1 64 ou2, wO m 9 [.int (zI (0)), .int (zI (0)), .ref m_sheetSort, .ref m_sheetMany, .ref m_numbers, .int (zI (4)), .int (zI (0)), .int (zI (m_top)), .int (zI (m_round)), .int (zI (0)), .int (zI (0)), .int (zI (0)), .int (zI (0)), .ref m_dx, .ref m_dy, .ref m_weight, .ref m_isBarred, .ref m_walks, .ref m_one, .ref m_two, .ref m_light, .ref m_lightThen, .int (zI (m_family)), .ref m_fromX, .ref m_fromY, .ref m_toX, .ref m_toY, .int (zI (m_ruleMany)), .ref m_rule, .ref m_out, .int (zI (n)), .ref m_grid, .ref m_heap, .ref m_ends, .ref m_power, .ref m_by2, .ref m_product, .ref m_levels, .ref m_row, .ref m_then, .ref m_equations], wI m_isBarred (zK C).2.2.2 3721 mb, wI m_dx (zK C).2.1 8 dx, wI m_dy (zK C).2.1 8 dy, wJ m_walks (zK C).2.2.1 226981 gw]) [0, 2, 3, 4, 5, 1] rfl rfl ?_
                          exact ih129_20 left2 (i + 1) 1 (by omega) (by omega) (by omega) (by omega) (by intro h; omega) (by omega)
                  exact lp129_19 _ left 0 1 (by omega) (by omega) (by omega) (by show left = left - 0; omega) (by intro h; omega) (Nat.lt_succ_self _)
            exact lp118_15 _ kk (61 * (0 + 30) + 0 + 30) (n - 1) ou (by omega) (by omega) (by rw [show n - 1 + 1 = n by omega]; refine ⟨by omega, ?_⟩; show kk < cntR nx0 4 (iR 0) n.toNat 1860; omega) (Nat.lt_succ_self _)
          · skip
            refine z_aload_n hC 1 dX9_walk_69 rfl rfl ?_
            refine z_bipush hC dX9_walk_70 (by decide) ?_
            refine z_callV hC [.int (zI (8))] 1 0 dX9_walk_72 (c_X9_refuse (zl C) (zD C) (zK C) m m_sheetSort m_sheetMany m_numbers m_dx m_dy m_weight m_isBarred m_walks m_one m_two m_light m_lightThen m_fromX m_fromY m_toX m_toY m_rule m_out m_grid m_heap m_ends m_power m_by2 m_product m_levels m_row m_then m_equations 8 0 0 4 0 m_top m_round 0 0 0 0 m_family m_ruleMany m_outs ) gX9_walk_X9_refuse rfl rfl rfl ⟨by decide, by decide, by decide +kernel⟩ ⟨(Nat.le_of_ble_eq_true rfl), (Nat.le_of_ble_eq_true rfl)⟩ rfl rfl rfl rfl [1] [0, 2, 3, 4, 5] [wI m_out (zK C).1 64 ou, wI m_isBarred (zK C).2.2.2 3721 mb, wI m_dx (zK C).2.1 8 dx, wI m_dy (zK C).2.1 8 dy, wJ m_walks (zK C).2.2.1 226981 gw] [] rfl rfl rfl rfl rfl (by decide) (Nat.le_of_ble_eq_true rfl) ⟨(Nat.le_of_ble_eq_true rfl), (Nat.le_of_ble_eq_true rfl)⟩ ?_
            rintro v_ w_ ⟨rfl, rfl, h_72_33⟩
            show ZW C 0 0 [wI m_out (zK C).1 64 ou, wI m_isBarred (zK C).2.2.2 3721 mb, wI m_dx (zK C).2.1 8 dx, wI m_dy (zK C).2.1 8 dy, wJ m_walks (zK C).2.2.1 226981 gw, wO m 9 [.int (zI (8)), .int (zI (0)), .ref m_sheetSort, .ref m_sheetMany, .ref m_numbers, .int (zI (4)), .int (zI (0)), .int (zI (m_top)), .int (zI (m_round)), .int (zI (0)), .int (zI (0)), .int (zI (0)), .int (zI (0)), .ref m_dx, .ref m_dy, .ref m_weight, .ref m_isBarred, .ref m_walks, .ref m_one, .ref m_two, .ref m_light, .ref m_lightThen, .int (zI (m_family)), .ref m_fromX, .ref m_fromY, .ref m_toX, .ref m_toY, .int (zI (m_ruleMany)), .ref m_rule, .ref m_out, .int (zI (m_outs)), .ref m_grid, .ref m_heap, .ref m_ends, .ref m_power, .ref m_by2, .ref m_product, .ref m_levels, .ref m_row, .ref m_then, .ref m_equations]] [(4, .long (zL (T))), (0, .ref m), (1, .int (zI (n))), (2, .long (zL (kk)))] 75 [.int (zI (-1))]
            refine z_ws (ws' := []) [] rfl rfl ?_
            exact z_iret hC hR dX9_walk_75 (Nat.le_of_ble_eq_true rfl) (Nat.le_of_ble_eq_true rfl) ⟨-1, rfl, rfl, by first | omega | (rw [← hcr]; omega)⟩
    · skip
      refine z_aload_n hC 0 dX9_walk_20 rfl rfl ?_
      refine z_iconst hC dX9_walk_21 ?_
      refine z_callV hC [.int (zI (2))] 1 0 dX9_walk_22 (c_X9_refuse (zl C) (zD C) (zK C) m m_sheetSort m_sheetMany m_numbers m_dx m_dy m_weight m_isBarred m_walks m_one m_two m_light m_lightThen m_fromX m_fromY m_toX m_toY m_rule m_out m_grid m_heap m_ends m_power m_by2 m_product m_levels m_row m_then m_equations 2 0 0 4 0 m_top m_round 0 0 0 0 m_family m_ruleMany m_outs ) gX9_walk_X9_refuse rfl rfl rfl ⟨by decide, by decide, by decide +kernel⟩ ⟨(Nat.le_of_ble_eq_true rfl), (Nat.le_of_ble_eq_true rfl)⟩ rfl rfl rfl rfl [0] [1, 2, 3, 4, 5] [wI m_isBarred (zK C).2.2.2 3721 mb, wI m_dx (zK C).2.1 8 dx, wI m_dy (zK C).2.1 8 dy, wJ m_walks (zK C).2.2.1 226981 g, wI m_out (zK C).1 64 ou] [] rfl rfl rfl rfl rfl (by decide) (Nat.le_of_ble_eq_true rfl) ⟨(Nat.le_of_ble_eq_true rfl), (Nat.le_of_ble_eq_true rfl)⟩ ?_
      rintro v_ w_ ⟨rfl, rfl, h_22_34⟩
      show ZW C 0 0 [wI m_isBarred (zK C).2.2.2 3721 mb, wI m_dx (zK C).2.1 8 dx, wI m_dy (zK C).2.1 8 dy, wJ m_walks (zK C).2.2.1 226981 g, wI m_out (zK C).1 64 ou, wO m 9 [.int (zI (2)), .int (zI (0)), .ref m_sheetSort, .ref m_sheetMany, .ref m_numbers, .int (zI (4)), .int (zI (0)), .int (zI (m_top)), .int (zI (m_round)), .int (zI (0)), .int (zI (0)), .int (zI (0)), .int (zI (0)), .ref m_dx, .ref m_dy, .ref m_weight, .ref m_isBarred, .ref m_walks, .ref m_one, .ref m_two, .ref m_light, .ref m_lightThen, .int (zI (m_family)), .ref m_fromX, .ref m_fromY, .ref m_toX, .ref m_toY, .int (zI (m_ruleMany)), .ref m_rule, .ref m_out, .int (zI (m_outs)), .ref m_grid, .ref m_heap, .ref m_ends, .ref m_power, .ref m_by2, .ref m_product, .ref m_levels, .ref m_row, .ref m_then, .ref m_equations]] [(0, .ref m), (1, .int (zI (n))), (2, .long (zL (kk)))] 25 [.int (zI (-1))]
      refine z_ws (ws' := []) [] rfl rfl ?_
      exact z_iret hC hR dX9_walk_25 (Nat.le_of_ble_eq_true rfl) (Nat.le_of_ble_eq_true rfl) ⟨-1, rfl, rfl, by first | omega | (rw [← hcr]; omega)⟩
