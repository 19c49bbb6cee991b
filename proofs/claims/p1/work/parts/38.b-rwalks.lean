set_option maxHeartbeats 4000000 in
set_option maxRecDepth 100000 in
theorem c_X9_draw (l : Launch) (D : va_G) (K : ClassId × ClassId × ClassId × ClassId) (m m_sheetSort m_sheetMany m_numbers m_dx m_dy m_weight m_isBarred m_walks m_one m_two m_light m_lightThen m_fromX m_fromY m_toX m_toY m_rule m_out m_grid m_heap m_ends m_power m_by2 m_product m_levels m_row m_then m_equations : Nat) (n seed m_status m_thrown m_top m_round m_family m_ruleMany m_outs : Int) (mb dx dy g : Int → Int) (hn : zR n) (hseed : zR seed) (hm_top : zR m_top) (hm_round : zR m_round) (hm0 : ∀ j, 0 ≤ j → j < 3721 → mb j = 0) (hdx : ∀ j, 0 ≤ j → j < 8 → dx j = sdx j) (hdy : ∀ j, 0 ≤ j → j < 8 → dy j = sdy j) : zMet l D K yX9_draw wsX9_draw ({ frames := 5, cells := 0, slots := 0, locals := 118 }) 0 0 [.ref m, .int (zI (n)), .int (zI (seed))] [wO m 9 [.int (zI (m_status)), .int (zI (m_thrown)), .ref m_sheetSort, .ref m_sheetMany, .ref m_numbers, .int (zI (4)), .int (zI (0)), .int (zI (m_top)), .int (zI (m_round)), .int (zI (0)), .int (zI (0)), .int (zI (0)), .int (zI (0)), .ref m_dx, .ref m_dy, .ref m_weight, .ref m_isBarred, .ref m_walks, .ref m_one, .ref m_two, .ref m_light, .ref m_lightThen, .int (zI (m_family)), .ref m_fromX, .ref m_fromY, .ref m_toX, .ref m_toY, .int (zI (m_ruleMany)), .ref m_rule, .ref m_out, .int (zI (m_outs)), .ref m_grid, .ref m_heap, .ref m_ends, .ref m_power, .ref m_by2, .ref m_product, .ref m_levels, .ref m_row, .ref m_then, .ref m_equations], wI m_isBarred K.2.2.2 3721 mb, wI m_dx K.2.1 8 dx, wI m_dy K.2.1 8 dy, wJ m_walks K.2.2.1 226981 g] (fun vr_ wr_ => ∃ (r : Int), vr_ = some (.long (zL (r))) ∧ wr_ = [] ∧ (((seed < 0 ∨ n < 0 ∨ 60 < n) ∧ r = -1) ∨ (¬ (seed < 0 ∨ n < 0 ∨ 60 < n) ∧ (((cntR nx0 4 (iR (0)) (n).toNat (1860) ≤ 0 ∨ 4611686018427387904 ≤ cntR nx0 4 (iR (0)) (n).toNat (1860)) ∧ r = -1) ∨ (0 < cntR nx0 4 (iR (0)) (n).toNat (1860) ∧ cntR nx0 4 (iR (0)) (n).toNat (1860) < 4611686018427387904 ∧ r = drawP (cntR nx0 4 (iR (0)) (n).toNat (1860)) seed))))) := by
  refine zMet_of (cc := cX9_draw) (nL := 12) (ret := (some .long)) (by decide) rfl (Nat.le_of_ble_eq_true rfl) ?_
  rintro C rfl rfl rfl hC hR
  have hinX9 : ∀ w ∈ u_ws RX9 TX9 41, w ∈ wsX9_draw := by decide +kernel
  show ZW C 0 0 [wO m 9 [.int (zI (m_status)), .int (zI (m_thrown)), .ref m_sheetSort, .ref m_sheetMany, .ref m_numbers, .int (zI (4)), .int (zI (0)), .int (zI (m_top)), .int (zI (m_round)), .int (zI (0)), .int (zI (0)), .int (zI (0)), .int (zI (0)), .ref m_dx, .ref m_dy, .ref m_weight, .ref m_isBarred, .ref m_walks, .ref m_one, .ref m_two, .ref m_light, .ref m_lightThen, .int (zI (m_family)), .ref m_fromX, .ref m_fromY, .ref m_toX, .ref m_toY, .int (zI (m_ruleMany)), .ref m_rule, .ref m_out, .int (zI (m_outs)), .ref m_grid, .ref m_heap, .ref m_ends, .ref m_power, .ref m_by2, .ref m_product, .ref m_levels, .ref m_row, .ref m_then, .ref m_equations], wI m_isBarred (zK C).2.2.2 3721 mb, wI m_dx (zK C).2.1 8 dx, wI m_dy (zK C).2.1 8 dy, wJ m_walks (zK C).2.2.1 226981 g] [(0, .ref m), (1, .int (zI (n))), (2, .int (zI (seed)))] 0 []
  refine z_aload_n hC 0 dX9_draw_0 rfl rfl ?_
  refine z_iconst hC dX9_draw_1 ?_
  refine z_put hC (T := TX9) (N := 41) hinX9 tyX9_ok nmX9 0 1 [wO m 9 [.int (zI (m_status)), .int (zI (0)), .ref m_sheetSort, .ref m_sheetMany, .ref m_numbers, .int (zI (4)), .int (zI (0)), .int (zI (m_top)), .int (zI (m_round)), .int (zI (0)), .int (zI (0)), .int (zI (0)), .int (zI (0)), .ref m_dx, .ref m_dy, .ref m_weight, .ref m_isBarred, .ref m_walks, .ref m_one, .ref m_two, .ref m_light, .ref m_lightThen, .int (zI (m_family)), .ref m_fromX, .ref m_fromY, .ref m_toX, .ref m_toY, .int (zI (m_ruleMany)), .ref m_rule, .ref m_out, .int (zI (m_outs)), .ref m_grid, .ref m_heap, .ref m_ends, .ref m_power, .ref m_by2, .ref m_product, .ref m_levels, .ref m_row, .ref m_then, .ref m_equations], wI m_isBarred (zK C).2.2.2 3721 mb, wI m_dx (zK C).2.1 8 dx, wI m_dy (zK C).2.1 8 dy, wJ m_walks (zK C).2.2.1 226981 g] dX9_draw_2 rfl rfl (by decide) (List.mem_of_getElem? (i := 1) rfl) rfl rfl rfl rfl (Nat.le_of_ble_eq_true rfl) rfl ?_
  refine z_aload_n hC 0 dX9_draw_5 rfl rfl ?_
  refine z_iconst hC dX9_draw_6 ?_
  refine z_put hC (T := TX9) (N := 41) hinX9 tyX9_ok nmX9 0 0 [wO m 9 [.int (zI (0)), .int (zI (0)), .ref m_sheetSort, .ref m_sheetMany, .ref m_numbers, .int (zI (4)), .int (zI (0)), .int (zI (m_top)), .int (zI (m_round)), .int (zI (0)), .int (zI (0)), .int (zI (0)), .int (zI (0)), .ref m_dx, .ref m_dy, .ref m_weight, .ref m_isBarred, .ref m_walks, .ref m_one, .ref m_two, .ref m_light, .ref m_lightThen, .int (zI (m_family)), .ref m_fromX, .ref m_fromY, .ref m_toX, .ref m_toY, .int (zI (m_ruleMany)), .ref m_rule, .ref m_out, .int (zI (m_outs)), .ref m_grid, .ref m_heap, .ref m_ends, .ref m_power, .ref m_by2, .ref m_product, .ref m_levels, .ref m_row, .ref m_then, .ref m_equations], wI m_isBarred (zK C).2.2.2 3721 mb, wI m_dx (zK C).2.1 8 dx, wI m_dy (zK C).2.1 8 dy, wJ m_walks (zK C).2.2.1 226981 g] dX9_draw_7 rfl rfl (by decide) (List.mem_of_getElem? (i := 2) rfl) rfl rfl rfl rfl (Nat.le_of_ble_eq_true rfl) rfl ?_
  refine z_iload_n hC 1 dX9_draw_10 rfl rfl ?_
  refine z_iflt hC 24 dX9_draw_11 (by decide) (by omega) (fun c_1 => ?_) (fun c_1 => ?_)
  · skip
    refine z_aload_n hC 0 dX9_draw_24 rfl rfl ?_
    refine z_iconst hC dX9_draw_25 ?_
    refine z_callV hC [.int (zI (2))] 1 0 dX9_draw_26 (c_X9_refuse (zl C) (zD C) (zK C) m m_sheetSort m_sheetMany m_numbers m_dx m_dy m_weight m_isBarred m_walks m_one m_two m_light m_lightThen m_fromX m_fromY m_toX m_toY m_rule m_out m_grid m_heap m_ends m_power m_by2 m_product m_levels m_row m_then m_equations 2 0 0 4 0 m_top m_round 0 0 0 0 m_family m_ruleMany m_outs ) gX9_draw_X9_refuse rfl rfl rfl ⟨by decide, by decide, by decide +kernel⟩ ⟨(Nat.le_of_ble_eq_true rfl), (Nat.le_of_ble_eq_true rfl)⟩ rfl rfl rfl rfl [0] [1, 2, 3, 4] [wI m_isBarred (zK C).2.2.2 3721 mb, wI m_dx (zK C).2.1 8 dx, wI m_dy (zK C).2.1 8 dy, wJ m_walks (zK C).2.2.1 226981 g] [] rfl rfl rfl rfl rfl (by decide) (Nat.le_of_ble_eq_true rfl) ⟨(Nat.le_of_ble_eq_true rfl), (Nat.le_of_ble_eq_true rfl)⟩ ?_
    rintro v_ w_ ⟨rfl, rfl, h_26_2⟩
    show ZW C 0 0 [wI m_isBarred (zK C).2.2.2 3721 mb, wI m_dx (zK C).2.1 8 dx, wI m_dy (zK C).2.1 8 dy, wJ m_walks (zK C).2.2.1 226981 g, wO m 9 [.int (zI (2)), .int (zI (0)), .ref m_sheetSort, .ref m_sheetMany, .ref m_numbers, .int (zI (4)), .int (zI (0)), .int (zI (m_top)), .int (zI (m_round)), .int (zI (0)), .int (zI (0)), .int (zI (0)), .int (zI (0)), .ref m_dx, .ref m_dy, .ref m_weight, .ref m_isBarred, .ref m_walks, .ref m_one, .ref m_two, .ref m_light, .ref m_lightThen, .int (zI (m_family)), .ref m_fromX, .ref m_fromY, .ref m_toX, .ref m_toY, .int (zI (m_ruleMany)), .ref m_rule, .ref m_out, .int (zI (m_outs)), .ref m_grid, .ref m_heap, .ref m_ends, .ref m_power, .ref m_by2, .ref m_product, .ref m_levels, .ref m_row, .ref m_then, .ref m_equations]] [(0, .ref m), (1, .int (zI (n))), (2, .int (zI (seed)))] 29 [.int (zI (-1))]
    refine z_i2l hC dX9_draw_29 (by omega) ?_
    refine z_ws (ws' := []) [] rfl rfl ?_
    exact z_lret hC hR dX9_draw_30 (Nat.le_of_ble_eq_true rfl) (Nat.le_of_ble_eq_true rfl) ⟨-1, rfl, rfl, by first | omega | (rw [← hcr]; omega)⟩
  · skip
    refine z_iload_n hC 1 dX9_draw_14 rfl rfl ?_
    refine z_bipush hC dX9_draw_15 (by decide) ?_
    refine z_icgt hC 24 dX9_draw_17 (by decide) (by omega) (fun c_3 => ?_) (fun c_3 => ?_)
    · skip
      refine z_aload_n hC 0 dX9_draw_24 rfl rfl ?_
      refine z_iconst hC dX9_draw_25 ?_
      refine z_callV hC [.int (zI (2))] 1 0 dX9_draw_26 (c_X9_refuse (zl C) (zD C) (zK C) m m_sheetSort m_sheetMany m_numbers m_dx m_dy m_weight m_isBarred m_walks m_one m_two m_light m_lightThen m_fromX m_fromY m_toX m_toY m_rule m_out m_grid m_heap m_ends m_power m_by2 m_product m_levels m_row m_then m_equations 2 0 0 4 0 m_top m_round 0 0 0 0 m_family m_ruleMany m_outs ) gX9_draw_X9_refuse rfl rfl rfl ⟨by decide, by decide, by decide +kernel⟩ ⟨(Nat.le_of_ble_eq_true rfl), (Nat.le_of_ble_eq_true rfl)⟩ rfl rfl rfl rfl [0] [1, 2, 3, 4] [wI m_isBarred (zK C).2.2.2 3721 mb, wI m_dx (zK C).2.1 8 dx, wI m_dy (zK C).2.1 8 dy, wJ m_walks (zK C).2.2.1 226981 g] [] rfl rfl rfl rfl rfl (by decide) (Nat.le_of_ble_eq_true rfl) ⟨(Nat.le_of_ble_eq_true rfl), (Nat.le_of_ble_eq_true rfl)⟩ ?_
      rintro v_ w_ ⟨rfl, rfl, h_26_4⟩
      show ZW C 0 0 [wI m_isBarred (zK C).2.2.2 3721 mb, wI m_dx (zK C).2.1 8 dx, wI m_dy (zK C).2.1 8 dy, wJ m_walks (zK C).2.2.1 226981 g, wO m 9 [.int (zI (2)), .int (zI (0)), .ref m_sheetSort, .ref m_sheetMany, .ref m_numbers, .int (zI (4)), .int (zI (0)), .int (zI (m_top)), .int (zI (m_round)), .int (zI (0)), .int (zI (0)), .int (zI (0)), .int (zI (0)), .ref m_dx, .ref m_dy, .ref m_weight, .ref m_isBarred, .ref m_walks, .ref m_one, .ref m_two, .ref m_light, .ref m_lightThen, .int (zI (m_family)), .ref m_fromX, .ref m_fromY, .ref m_toX, .ref m_toY, .int (zI (m_ruleMany)), .ref m_rule, .ref m_out, .int (zI (m_outs)), .ref m_grid, .ref m_heap, .ref m_ends, .ref m_power, .ref m_by2, .ref m_product, .ref m_levels, .ref m_row, .ref m_then, .ref m_equations]] [(0, .ref m), (1, .int (zI (n))), (2, .int (zI (seed)))] 29 [.int (zI (-1))]
      refine z_i2l hC dX9_draw_29 (by omega) ?_
      refine z_ws (ws' := []) [] rfl rfl ?_
      exact z_lret hC hR dX9_draw_30 (Nat.le_of_ble_eq_true rfl) (Nat.le_of_ble_eq_true rfl) ⟨-1, rfl, rfl, by first | omega | (rw [← hcr]; omega)⟩
    · skip
      refine z_iload_n hC 2 dX9_draw_20 rfl rfl ?_
      refine z_ifge hC 31 dX9_draw_21 (by decide) (by omega) (fun c_5 => ?_) (fun c_5 => ?_)
      · skip
        refine z_aload_n hC 0 dX9_draw_31 rfl rfl ?_
        refine z_callV hC [] 0 0 dX9_draw_32 (c_X9_areOpen (zl C) (zD C) (zK C) m m_sheetSort m_sheetMany m_numbers m_dx m_dy m_weight m_isBarred m_walks m_one m_two m_light m_lightThen m_fromX m_fromY m_toX m_toY m_rule m_out m_grid m_heap m_ends m_power m_by2 m_product m_levels m_row m_then m_equations 0 0 m_top m_round m_family m_ruleMany m_outs mb (by first | assumption | omega) (by first | assumption | omega) (by first | assumption | omega)) gX9_draw_X9_areOpen rfl rfl rfl ⟨by decide, by decide, by decide +kernel⟩ ⟨(Nat.le_of_ble_eq_true rfl), (Nat.le_of_ble_eq_true rfl)⟩ rfl rfl rfl rfl [0, 1] [2, 3, 4] [wI m_dx (zK C).2.1 8 dx, wI m_dy (zK C).2.1 8 dy, wJ m_walks (zK C).2.2.1 226981 g] [] rfl rfl rfl rfl rfl (by decide) (Nat.le_of_ble_eq_true rfl) ⟨(Nat.le_of_ble_eq_true rfl), (Nat.le_of_ble_eq_true rfl)⟩ ?_
        rintro v_ w_ ⟨r_6, rfl, rfl, rfl⟩
        show ZW C 0 0 [wI m_dx (zK C).2.1 8 dx, wI m_dy (zK C).2.1 8 dy, wJ m_walks (zK C).2.2.1 226981 g, wO m 9 [.int (zI (0)), .int (zI (0)), .ref m_sheetSort, .ref m_sheetMany, .ref m_numbers, .int (zI (4)), .int (zI (0)), .int (zI (m_top)), .int (zI (m_round)), .int (zI (0)), .int (zI (0)), .int (zI (0)), .int (zI (0)), .ref m_dx, .ref m_dy, .ref m_weight, .ref m_isBarred, .ref m_walks, .ref m_one, .ref m_two, .ref m_light, .ref m_lightThen, .int (zI (m_family)), .ref m_fromX, .ref m_fromY, .ref m_toX, .ref m_toY, .int (zI (m_ruleMany)), .ref m_rule, .ref m_out, .int (zI (m_outs)), .ref m_grid, .ref m_heap, .ref m_ends, .ref m_power, .ref m_by2, .ref m_product, .ref m_levels, .ref m_row, .ref m_then, .ref m_equations], wI m_isBarred (zK C).2.2.2 3721 mb] [(0, .ref m), (1, .int (zI (n))), (2, .int (zI (seed)))] 35 [.int (zI (1))]
        refine z_ifne hC 46 dX9_draw_35 (by decide) (by omega) (fun c_8 => ?_) (fun c_8 => by exfalso; omega)
        refine z_aload_n hC 0 dX9_draw_46 rfl rfl ?_
        refine z_iload_n hC 1 dX9_draw_47 rfl rfl ?_
        refine z_callV hC [.int (zI (n))] 1 0 dX9_draw_48 (c_X9_countOf (zl C) (zD C) (zK C) m m_sheetSort m_sheetMany m_numbers m_dx m_dy m_weight m_isBarred m_walks m_one m_two m_light m_lightThen m_fromX m_fromY m_toX m_toY m_rule m_out m_grid m_heap m_ends m_power m_by2 m_product m_levels m_row m_then m_equations n 0 0 m_top m_round m_family m_ruleMany m_outs mb dx dy g (by first | assumption | omega) (by first | assumption | omega) (by first | assumption | omega) (by first | assumption | omega) (by first | assumption | omega) (by first | assumption | omega)) gX9_draw_X9_countOf rfl rfl rfl ⟨by decide, by decide, by decide +kernel⟩ ⟨(Nat.le_of_ble_eq_true rfl), (Nat.le_of_ble_eq_true rfl)⟩ rfl rfl rfl rfl [3, 4, 0, 1, 2] [] [] [] rfl rfl rfl rfl rfl (by decide) (Nat.le_of_ble_eq_true rfl) ⟨(Nat.le_of_ble_eq_true rfl), (Nat.le_of_ble_eq_true rfl)⟩ ?_
        rintro v_ w_ ⟨T, g2_9, rfl, rfl, hco⟩
        show ZW C 0 0 [wO m 9 [.int (zI (0)), .int (zI (0)), .ref m_sheetSort, .ref m_sheetMany, .ref m_numbers, .int (zI (4)), .int (zI (0)), .int (zI (m_top)), .int (zI (m_round)), .int (zI (0)), .int (zI (0)), .int (zI (0)), .int (zI (0)), .ref m_dx, .ref m_dy, .ref m_weight, .ref m_isBarred, .ref m_walks, .ref m_one, .ref m_two, .ref m_light, .ref m_lightThen, .int (zI (m_family)), .ref m_fromX, .ref m_fromY, .ref m_toX, .ref m_toY, .int (zI (m_ruleMany)), .ref m_rule, .ref m_out, .int (zI (m_outs)), .ref m_grid, .ref m_heap, .ref m_ends, .ref m_power, .ref m_by2, .ref m_product, .ref m_levels, .ref m_row, .ref m_then, .ref m_equations], wI m_isBarred (zK C).2.2.2 3721 mb, wI m_dx (zK C).2.1 8 dx, wI m_dy (zK C).2.1 8 dy, wJ m_walks (zK C).2.2.1 226981 g2_9] [(0, .ref m), (1, .int (zI (n))), (2, .int (zI (seed)))] 51 [.long (zL (T))]
        have e3 := cntR_rng (nxt := nx0) (sc := 4) (i0 := iR 0) (iR_r 0) n.toNat 1860
        obtain ⟨hcr, hcw⟩ := hco
        refine z_lstore_n hC [(3, .long (zL (T))), (0, .ref m), (1, .int (zI (n))), (2, .int (zI (seed)))] dX9_draw_51 rfl (by decide) rfl ?_
        refine z_lload_n hC 0 dX9_draw_52 rfl rfl ?_
        refine z_lconst (v := 0) hC dX9_draw_53 rfl ?_
        refine z_lcne hC 66 dX9_draw_54 dX9_draw_55 (by decide) (by omega) (fun c_10 => ?_) (fun c_10 => ?_)
        · skip
          refine z_lload_n hC 0 dX9_draw_66 rfl rfl ?_
          refine z_ldc2 (v := 4611686018427387904) hC (List.mem_of_getElem? (i := 3) rfl) rfl dX9_draw_67 ?_
          refine z_lclt hC 82 dX9_draw_70 dX9_draw_71 (by decide) (by omega) (fun c_11 => ?_) (fun c_11 => ?_)
          · skip
            refine z_lconst (v := 0) hC dX9_draw_82 rfl ?_
            refine z_lstore hC [(5, .long (zL (0))), (3, .long (zL (T))), (0, .ref m), (1, .int (zI (n))), (2, .int (zI (seed)))] dX9_draw_83 (by decide) rfl ?_
            refine z_lv (lv' := [(0, .ref m), (1, .int (zI (n))), (2, .int (zI (seed))), (3, .long (zL (T))), (5, .long (zL (0)))]) [2, 3, 4, 1, 0] rfl ?_
            have lp85_12 : ∀ (f14 : Nat) (mk : Int), (0 ≤ mk ∧ mk < 9223372036854775808) → (∃ f : Nat, mskOf T f mk = mskOf T 62 0 ∧ (mk + 1) * 2 ^ f = 4611686018427387904) → (T - mk).toNat < f14 → ZW C 0 0 [wO m 9 [.int (zI (0)), .int (zI (0)), .ref m_sheetSort, .ref m_sheetMany, .ref m_numbers, .int (zI (4)), .int (zI (0)), .int (zI (m_top)), .int (zI (m_round)), .int (zI (0)), .int (zI (0)), .int (zI (0)), .int (zI (0)), .ref m_dx, .ref m_dy, .ref m_weight, .ref m_isBarred, .ref m_walks, .ref m_one, .ref m_two, .ref m_light, .ref m_lightThen, .int (zI (m_family)), .ref m_fromX, .ref m_fromY, .ref m_toX, .ref m_toY, .int (zI (m_ruleMany)), .ref m_rule, .ref m_out, .int (zI (m_outs)), .ref m_grid, .ref m_heap, .ref m_ends, .ref m_power, .ref m_by2, .ref m_product, .ref m_levels, .ref m_row, .ref m_then, .ref m_equations], wI m_isBarred (zK C).2.2.2 3721 mb, wI m_dx (zK C).2.1 8 dx, wI m_dy (zK C).2.1 8 dy, wJ m_walks (zK C).2.2.1 226981 g2_9] [(0, .ref m), (1, .int (zI (n))), (2, .int (zI (seed))), (3, .long (zL (T))), (5, .long (zL (mk)))] 85 [] := by
              intro f14
              induction f14 with
              | zero => intro _ _ _ hf; exact absurd hf (Nat.not_lt_zero _)
              | succ f14 ih85_13 =>
                intro mk vk vm hf_85
                refine z_lload hC 4 dX9_draw_85 rfl ?_
                refine z_lload_n hC 3 dX9_draw_87 rfl rfl ?_
                refine z_lconst (v := 1) hC dX9_draw_88 rfl ?_
                refine z_lsub hC (T - 1) dX9_draw_89 rfl ?_
                refine z_lcge hC 107 dX9_draw_90 dX9_draw_91 (by decide) (by omega) (fun c_15 => ?_) (fun c_15 => ?_)
                · skip
                  have hmk := msk_end vm (by omega) (by omega)
                  refine z_iload_n hC 2 dX9_draw_107 rfl rfl ?_
                  refine z_istore hC [(7, .int (zI (seed))), (0, .ref m), (1, .int (zI (n))), (2, .int (zI (seed))), (3, .long (zL (T))), (5, .long (zL (mk)))] dX9_draw_108 (by decide) rfl ?_
                  refine z_lconst (v := 0) hC dX9_draw_110 rfl ?_
                  refine z_lstore hC [(8, .long (zL (0))), (7, .int (zI (seed))), (0, .ref m), (1, .int (zI (n))), (2, .int (zI (seed))), (3, .long (zL (T))), (5, .long (zL (mk)))] dX9_draw_111 (by decide) rfl ?_
                  refine z_iconst hC dX9_draw_113 ?_
                  refine z_istore hC [(10, .int (zI (0))), (8, .long (zL (0))), (7, .int (zI (seed))), (0, .ref m), (1, .int (zI (n))), (2, .int (zI (seed))), (3, .long (zL (T))), (5, .long (zL (mk)))] dX9_draw_114 (by decide) rfl ?_
                  refine z_lv (lv' := [(0, .ref m), (1, .int (zI (n))), (2, .int (zI (seed))), (3, .long (zL (T))), (5, .long (zL (mk))), (7, .int (zI (seed))), (8, .long (zL (0))), (10, .int (zI (0)))]) [3, 4, 5, 6, 7, 2, 1, 0] rfl ?_
                  have lp116_16 : ∀ (f18 : Nat) (s : Int) (d0 : Int) (i : Int), (0 ≤ i ∧ i ≤ 64) → (0 ≤ s ∧ s < 2147483648) → (0 ≤ d0 ∧ d0 < 9223372036854775808) → (dres T mk (64 - i).toNat s d0 = drawP T seed) → (64 - i).toNat < f18 → ZW C 0 0 [wO m 9 [.int (zI (0)), .int (zI (0)), .ref m_sheetSort, .ref m_sheetMany, .ref m_numbers, .int (zI (4)), .int (zI (0)), .int (zI (m_top)), .int (zI (m_round)), .int (zI (0)), .int (zI (0)), .int (zI (0)), .int (zI (0)), .ref m_dx, .ref m_dy, .ref m_weight, .ref m_isBarred, .ref m_walks, .ref m_one, .ref m_two, .ref m_light, .ref m_lightThen, .int (zI (m_family)), .ref m_fromX, .ref m_fromY, .ref m_toX, .ref m_toY, .int (zI (m_ruleMany)), .ref m_rule, .ref m_out, .int (zI (m_outs)), .ref m_grid, .ref m_heap, .ref m_ends, .ref m_power, .ref m_by2, .ref m_product, .ref m_levels, .ref m_row, .ref m_then, .ref m_equations], wI m_isBarred (zK C).2.2.2 3721 mb, wI m_dx (zK C).2.1 8 dx, wI m_dy (zK C).2.1 8 dy, wJ m_walks (zK C).2.2.1 226981 g2_9] [(0, .ref m), (1, .int (zI (n))), (2, .int (zI (seed))), (3, .long (zL (T))), (5, .long (zL (mk))), (7, .int (zI (s))), (8, .long (zL (d0))), (10, .int (zI (i)))] 116 [] := by
                    intro f18
                    induction f18 with
                    | zero => intro _ _ _ _ _ _ _ hf; exact absurd hf (Nat.not_lt_zero _)
                    | succ f18 ih116_17 =>
                      intro s d0 i vi vs vd0 vr hf_116
                      refine z_iload hC 7 dX9_draw_116 rfl ?_
                      refine z_bipush hC dX9_draw_118 (by decide) ?_
                      refine z_icge hC 192 dX9_draw_120 (by decide) (by omega) (fun c_19 => ?_) (fun c_19 => ?_)
                      · skip
                        refine z_lload hC 6 dX9_draw_192 rfl ?_
                        refine z_lload_n hC 3 dX9_draw_194 rfl rfl ?_
                        refine z_lrem hC (d0 % T) dX9_draw_195 (by omega) rfl ?_
                        refine z_ws (ws' := []) [] rfl rfl ?_
                        exact z_lret hC hR dX9_draw_196 (Nat.le_of_ble_eq_true rfl) (Nat.le_of_ble_eq_true rfl) ⟨d0 % T, rfl, rfl, by rw [← hcr]; right; refine ⟨by omega, Or.inr ⟨by omega, by omega, ?_⟩⟩; rw [← vr, show (64 - i).toNat = 0 by omega]; rfl⟩
                      · skip
                        refine z_lconst (v := 0) hC dX9_draw_123 rfl ?_
                        refine z_lstore hC [(8, .long (zL (0))), (0, .ref m), (1, .int (zI (n))), (2, .int (zI (seed))), (3, .long (zL (T))), (5, .long (zL (mk))), (7, .int (zI (s))), (10, .int (zI (i)))] dX9_draw_124 (by decide) rfl ?_
                        refine z_iconst hC dX9_draw_126 ?_
                        refine z_istore hC [(11, .int (zI (0))), (8, .long (zL (0))), (0, .ref m), (1, .int (zI (n))), (2, .int (zI (seed))), (3, .long (zL (T))), (5, .long (zL (mk))), (7, .int (zI (s))), (10, .int (zI (i)))] dX9_draw_127 (by decide) rfl ?_
                        refine z_lv (lv' := [(0, .ref m), (1, .int (zI (n))), (2, .int (zI (seed))), (3, .long (zL (T))), (5, .long (zL (mk))), (7, .int (zI (s))), (8, .long (zL (0))), (10, .int (zI (i))), (11, .int (zI (0)))]) [2, 3, 4, 5, 6, 7, 1, 8, 0] rfl ?_
                        have lp129_20 : ∀ (f22 : Nat) (s1 : Int) (d : Int) (j : Int), (0 ≤ j ∧ j ≤ 5) → (s1 = lcgN j.toNat s) → (0 ≤ s1 ∧ s1 < 2147483648) → (d = drw j.toNat s) → (5 - j).toNat < f22 → ZW C 0 0 [wO m 9 [.int (zI (0)), .int (zI (0)), .ref m_sheetSort, .ref m_sheetMany, .ref m_numbers, .int (zI (4)), .int (zI (0)), .int (zI (m_top)), .int (zI (m_round)), .int (zI (0)), .int (zI (0)), .int (zI (0)), .int (zI (0)), .ref m_dx, .ref m_dy, .ref m_weight, .ref m_isBarred, .ref m_walks, .ref m_one, .ref m_two, .ref m_light, .ref m_lightThen, .int (zI (m_family)), .ref m_fromX, .ref m_fromY, .ref m_toX, .ref m_toY, .int (zI (m_ruleMany)), .ref m_rule, .ref m_out, .int (zI (m_outs)), .ref m_grid, .ref m_heap, .ref m_ends, .ref m_power, .ref m_by2, .ref m_product, .ref m_levels, .ref m_row, .ref m_then, .ref m_equations], wI m_isBarred (zK C).2.2.2 3721 mb, wI m_dx (zK C).2.1 8 dx, wI m_dy (zK C).2.1 8 dy, wJ m_walks (zK C).2.2.1 226981 g2_9] [(0, .ref m), (1, .int (zI (n))), (2, .int (zI (seed))), (3, .long (zL (T))), (5, .long (zL (mk))), (7, .int (zI (s1))), (8, .long (zL (d))), (10, .int (zI (i))), (11, .int (zI (j)))] 129 [] := by
                          intro f22
                          induction f22 with
                          | zero => intro _ _ _ _ _ _ _ hf; exact absurd hf (Nat.not_lt_zero _)
                          | succ f22 ih129_21 =>
                            intro s1 d j vj vs1 vsr vd hf_129
                            refine z_iload hC 8 dX9_draw_129 rfl ?_
                            refine z_iconst hC dX9_draw_131 ?_
                            refine z_icge hC 165 dX9_draw_132 (by decide) (by omega) (fun c_23 => ?_) (fun c_23 => ?_)
                            · skip
                              have e5 : j = 5 := by omega
                              rw [e5] at vs1 vd
                              have vs1 : s1 = lcgN 5 s := vs1
                              have vd : d = drw 5 s := vd
                              have hzr := zand_rng (a := d) (m := mk) (by omega)
                              refine z_lload hC 6 dX9_draw_165 rfl ?_
                              refine z_ldc2 (v := 4611686018427387903) hC (List.mem_of_getElem? (i := 7) rfl) rfl dX9_draw_167 ?_
                              refine z_lload hC 4 dX9_draw_170 rfl ?_
                              refine z_land hC dX9_draw_172 ?_
                              refine z_topl (b := mk) (by exact zand_top (by omega)) ?_
                              refine z_land hC dX9_draw_173 ?_
                              refine z_lstore hC [(8, .long (zL (zand d mk))), (0, .ref m), (1, .int (zI (n))), (2, .int (zI (seed))), (3, .long (zL (T))), (5, .long (zL (mk))), (7, .int (zI (s1))), (10, .int (zI (i))), (11, .int (zI (j)))] dX9_draw_174 (by decide) rfl ?_
                              refine z_lload hC 0 dX9_draw_176 rfl ?_
                              refine z_lload_n hC 4 dX9_draw_178 rfl rfl ?_
                              refine z_lcge hC 186 dX9_draw_179 dX9_draw_180 (by decide) (by omega) (fun c_24 => ?_) (fun c_24 => ?_)
                              · skip
                                refine z_iinc (a := i) (v := 1) (r := i + 1) hC 7 [(10, .int (zI (i + 1))), (8, .long (zL (zand d mk))), (0, .ref m), (1, .int (zI (n))), (2, .int (zI (seed))), (3, .long (zL (T))), (5, .long (zL (mk))), (7, .int (zI (s1))), (11, .int (zI (j)))] dX9_draw_186 rfl rfl (by decide) rfl ?_
                                refine z_goto hC 116 dX9_draw_189 (by decide) ?_
                                refine z_lv (lv' := [(0, .ref m), (1, .int (zI (n))), (2, .int (zI (seed))), (3, .long (zL (T))), (5, .long (zL (mk))), (7, .int (zI (s1))), (8, .long (zL (zand d mk))), (10, .int (zI (i + 1)))]) [2, 3, 4, 5, 6, 7, 1, 0] rfl ?_
                                exact ih116_17 s1 (zand d mk) (i + 1) (by omega) (by exact vsr) (by omega) (by rw [← vr, dres_s (v := d0) (by omega) (by rw [← vd]; omega), vs1, vd]) (by omega)
                              · skip
                                refine z_lload hC 0 dX9_draw_183 rfl ?_
                                refine z_ws (ws' := []) [] rfl rfl ?_
                                exact z_lret hC hR dX9_draw_185 (Nat.le_of_ble_eq_true rfl) (Nat.le_of_ble_eq_true rfl) ⟨zand d mk, rfl, rfl, by rw [← hcr]; right; refine ⟨by omega, Or.inr ⟨by omega, by omega, ?_⟩⟩; rw [← vr, dres_e (v := d0) (by omega) (by rw [← vd]; omega), vd]⟩
                            · skip
                              refine z_iload hC 5 dX9_draw_135 rfl ?_
                              refine z_callS hC [.int (zI (s1))] 1 dX9_draw_137 (c_X9_drawn (zl C) (zD C) (zK C) s1 (by first | assumption | omega)) gX9_draw_X9_drawn rfl rfl rfl ⟨by decide, by decide, by decide +kernel⟩ ⟨(Nat.le_of_ble_eq_true rfl), (Nat.le_of_ble_eq_true rfl)⟩ rfl [] [0, 1, 2, 3, 4] [wO m 9 [.int (zI (0)), .int (zI (0)), .ref m_sheetSort, .ref m_sheetMany, .ref m_numbers, .int (zI (4)), .int (zI (0)), .int (zI (m_top)), .int (zI (m_round)), .int (zI (0)), .int (zI (0)), .int (zI (0)), .int (zI (0)), .ref m_dx, .ref m_dy, .ref m_weight, .ref m_isBarred, .ref m_walks, .ref m_one, .ref m_two, .ref m_light, .ref m_lightThen, .int (zI (m_family)), .ref m_fromX, .ref m_fromY, .ref m_toX, .ref m_toY, .int (zI (m_ruleMany)), .ref m_rule, .ref m_out, .int (zI (m_outs)), .ref m_grid, .ref m_heap, .ref m_ends, .ref m_power, .ref m_by2, .ref m_product, .ref m_levels, .ref m_row, .ref m_then, .ref m_equations], wI m_isBarred (zK C).2.2.2 3721 mb, wI m_dx (zK C).2.1 8 dx, wI m_dy (zK C).2.1 8 dy, wJ m_walks (zK C).2.2.1 226981 g2_9] [] rfl rfl rfl rfl rfl (by decide) (Nat.le_of_ble_eq_true rfl) ⟨(Nat.le_of_ble_eq_true rfl), (Nat.le_of_ble_eq_true rfl)⟩ ?_
                              rintro v_ w_ ⟨r_25, rfl, rfl, rfl⟩
                              show ZW C 0 0 [wO m 9 [.int (zI (0)), .int (zI (0)), .ref m_sheetSort, .ref m_sheetMany, .ref m_numbers, .int (zI (4)), .int (zI (0)), .int (zI (m_top)), .int (zI (m_round)), .int (zI (0)), .int (zI (0)), .int (zI (0)), .int (zI (0)), .ref m_dx, .ref m_dy, .ref m_weight, .ref m_isBarred, .ref m_walks, .ref m_one, .ref m_two, .ref m_light, .ref m_lightThen, .int (zI (m_family)), .ref m_fromX, .ref m_fromY, .ref m_toX, .ref m_toY, .int (zI (m_ruleMany)), .ref m_rule, .ref m_out, .int (zI (m_outs)), .ref m_grid, .ref m_heap, .ref m_ends, .ref m_power, .ref m_by2, .ref m_product, .ref m_levels, .ref m_row, .ref m_then, .ref m_equations], wI m_isBarred (zK C).2.2.2 3721 mb, wI m_dx (zK C).2.1 8 dx, wI m_dy (zK C).2.1 8 dy, wJ m_walks (zK C).2.2.1 226981 g2_9] [(0, .ref m), (1, .int (zI (n))), (2, .int (zI (seed))), (3, .long (zL (T))), (5, .long (zL (mk))), (7, .int (zI (s1))), (8, .long (zL (d))), (10, .int (zI (i))), (11, .int (zI (j)))] 140 [.int (zI (lcg s1))]
                              refine z_istore hC [(7, .int (zI (lcg s1))), (0, .ref m), (1, .int (zI (n))), (2, .int (zI (seed))), (3, .long (zL (T))), (5, .long (zL (mk))), (8, .long (zL (d))), (10, .int (zI (i))), (11, .int (zI (j)))] dX9_draw_140 (by decide) rfl ?_
                              have hlr := lcg_r s1
                              refine z_lload hC 6 dX9_draw_142 rfl ?_
                              refine z_bipush hC dX9_draw_144 (by decide) ?_
                              refine z_lshl hC dX9_draw_146 ?_
                              refine z_iload hC 0 dX9_draw_147 rfl ?_
                              refine z_ldc (v := 65536) hC (List.mem_of_getElem? (i := 5) rfl) rfl dX9_draw_149 ?_
                              refine z_idiv hC ((lcg s1) / 65536) dX9_draw_151 (by omega) rfl ?_
                              refine z_ldc (v := 32768) hC (List.mem_of_getElem? (i := 6) rfl) rfl dX9_draw_152 ?_
                              refine z_irem hC (((lcg s1) / 65536) % 32768) dX9_draw_154 (by omega) rfl ?_
                              refine z_topi (b := lcg s1 / 65536 % 32768) (by rfl) ?_
                              refine z_i2l hC dX9_draw_155 (by omega) ?_
                              refine z_lor hC dX9_draw_156 ?_
                              refine z_lstore hC [(8, .long (zL (zor (zshl d 15) (lcg s1 / 65536 % 32768)))), (7, .int (zI (lcg s1))), (0, .ref m), (1, .int (zI (n))), (2, .int (zI (seed))), (3, .long (zL (T))), (5, .long (zL (mk))), (10, .int (zI (i))), (11, .int (zI (j)))] dX9_draw_157 (by decide) rfl ?_
                              refine z_iinc (a := j) (v := 1) (r := j + 1) hC 8 [(11, .int (zI (j + 1))), (8, .long (zL (zor (zshl d 15) (lcg s1 / 65536 % 32768)))), (7, .int (zI (lcg s1))), (0, .ref m), (1, .int (zI (n))), (2, .int (zI (seed))), (3, .long (zL (T))), (5, .long (zL (mk))), (10, .int (zI (i)))] dX9_draw_159 rfl rfl (by decide) rfl ?_
                              refine z_goto hC 129 dX9_draw_162 (by decide) ?_
                              refine z_lv (lv' := [(0, .ref m), (1, .int (zI (n))), (2, .int (zI (seed))), (3, .long (zL (T))), (5, .long (zL (mk))), (7, .int (zI (lcg s1))), (8, .long (zL (zor (zshl d 15) (lcg s1 / 65536 % 32768)))), (10, .int (zI (i))), (11, .int (zI (j + 1)))]) [3, 4, 5, 6, 7, 2, 1, 8, 0] rfl ?_
                              exact ih129_21 (lcg s1) (zor (zshl d 15) (lcg s1 / 65536 % 32768)) (j + 1) (by omega) (by rw [lcgN_s (by omega), ← vs1]) (by exact lcg_r _) (by rw [drw_s (by omega), ← vs1, ← vd]) (by omega)
                        exact lp129_20 _ s 0 0 (by omega) (by rfl) (by omega) (by rfl) (Nat.lt_succ_self _)
                  exact lp116_16 _ seed 0 0 (by omega) (by omega) (by omega) (by unfold drawP; rw [hmk.1]; rfl) (Nat.lt_succ_self _)
                · skip
                  refine z_ldc2 (v := 2) hC (List.mem_of_getElem? (i := 4) rfl) rfl dX9_draw_94 ?_
                  refine z_lload hC 4 dX9_draw_97 rfl ?_
                  refine z_lmul hC (2 * mk) dX9_draw_99 rfl ?_
                  refine z_lconst (v := 1) hC dX9_draw_100 rfl ?_
                  refine z_ladd hC ((2 * mk) + 1) dX9_draw_101 rfl ?_
                  refine z_lstore hC [(5, .long (zL ((2 * mk) + 1))), (0, .ref m), (1, .int (zI (n))), (2, .int (zI (seed))), (3, .long (zL (T)))] dX9_draw_102 (by decide) rfl ?_
                  refine z_goto hC 85 dX9_draw_104 (by decide) ?_
                  refine z_lv (lv' := [(0, .ref m), (1, .int (zI (n))), (2, .int (zI (seed))), (3, .long (zL (T))), (5, .long (zL ((2 * mk) + 1)))]) [1, 2, 3, 4, 0] rfl ?_
                  exact ih85_13 ((2 * mk) + 1) (by omega) (by exact msk_step vm (by omega) (by omega)) (by omega)
            exact lp85_12 _ 0 (by omega) (by exact ⟨62, rfl, by decide⟩) (Nat.lt_succ_self _)
          · skip
            refine z_aload_n hC 1 dX9_draw_74 rfl rfl ?_
            refine z_bipush hC dX9_draw_75 (by decide) ?_
            refine z_callV hC [.int (zI (9))] 1 0 dX9_draw_77 (c_X9_refuse (zl C) (zD C) (zK C) m m_sheetSort m_sheetMany m_numbers m_dx m_dy m_weight m_isBarred m_walks m_one m_two m_light m_lightThen m_fromX m_fromY m_toX m_toY m_rule m_out m_grid m_heap m_ends m_power m_by2 m_product m_levels m_row m_then m_equations 9 0 0 4 0 m_top m_round 0 0 0 0 m_family m_ruleMany m_outs ) gX9_draw_X9_refuse rfl rfl rfl ⟨by decide, by decide, by decide +kernel⟩ ⟨(Nat.le_of_ble_eq_true rfl), (Nat.le_of_ble_eq_true rfl)⟩ rfl rfl rfl rfl [0] [1, 2, 3, 4] [wI m_isBarred (zK C).2.2.2 3721 mb, wI m_dx (zK C).2.1 8 dx, wI m_dy (zK C).2.1 8 dy, wJ m_walks (zK C).2.2.1 226981 g2_9] [] rfl rfl rfl rfl rfl (by decide) (Nat.le_of_ble_eq_true rfl) ⟨(Nat.le_of_ble_eq_true rfl), (Nat.le_of_ble_eq_true rfl)⟩ ?_
            rintro v_ w_ ⟨rfl, rfl, h_77_27⟩
            show ZW C 0 0 [wI m_isBarred (zK C).2.2.2 3721 mb, wI m_dx (zK C).2.1 8 dx, wI m_dy (zK C).2.1 8 dy, wJ m_walks (zK C).2.2.1 226981 g2_9, wO m 9 [.int (zI (9)), .int (zI (0)), .ref m_sheetSort, .ref m_sheetMany, .ref m_numbers, .int (zI (4)), .int (zI (0)), .int (zI (m_top)), .int (zI (m_round)), .int (zI (0)), .int (zI (0)), .int (zI (0)), .int (zI (0)), .ref m_dx, .ref m_dy, .ref m_weight, .ref m_isBarred, .ref m_walks, .ref m_one, .ref m_two, .ref m_light, .ref m_lightThen, .int (zI (m_family)), .ref m_fromX, .ref m_fromY, .ref m_toX, .ref m_toY, .int (zI (m_ruleMany)), .ref m_rule, .ref m_out, .int (zI (m_outs)), .ref m_grid, .ref m_heap, .ref m_ends, .ref m_power, .ref m_by2, .ref m_product, .ref m_levels, .ref m_row, .ref m_then, .ref m_equations]] [(3, .long (zL (T))), (0, .ref m), (1, .int (zI (n))), (2, .int (zI (seed)))] 80 [.int (zI (-1))]
            refine z_i2l hC dX9_draw_80 (by omega) ?_
            refine z_ws (ws' := []) [] rfl rfl ?_
            exact z_lret hC hR dX9_draw_81 (Nat.le_of_ble_eq_true rfl) (Nat.le_of_ble_eq_true rfl) ⟨-1, rfl, rfl, by first | omega | (rw [← hcr]; omega)⟩
        · skip
          refine z_aload_n hC 1 dX9_draw_58 rfl rfl ?_
          refine z_bipush hC dX9_draw_59 (by decide) ?_
          refine z_callV hC [.int (zI (8))] 1 0 dX9_draw_61 (c_X9_refuse (zl C) (zD C) (zK C) m m_sheetSort m_sheetMany m_numbers m_dx m_dy m_weight m_isBarred m_walks m_one m_two m_light m_lightThen m_fromX m_fromY m_toX m_toY m_rule m_out m_grid m_heap m_ends m_power m_by2 m_product m_levels m_row m_then m_equations 8 0 0 4 0 m_top m_round 0 0 0 0 m_family m_ruleMany m_outs ) gX9_draw_X9_refuse rfl rfl rfl ⟨by decide, by decide, by decide +kernel⟩ ⟨(Nat.le_of_ble_eq_true rfl), (Nat.le_of_ble_eq_true rfl)⟩ rfl rfl rfl rfl [0] [1, 2, 3, 4] [wI m_isBarred (zK C).2.2.2 3721 mb, wI m_dx (zK C).2.1 8 dx, wI m_dy (zK C).2.1 8 dy, wJ m_walks (zK C).2.2.1 226981 g2_9] [] rfl rfl rfl rfl rfl (by decide) (Nat.le_of_ble_eq_true rfl) ⟨(Nat.le_of_ble_eq_true rfl), (Nat.le_of_ble_eq_true rfl)⟩ ?_
          rintro v_ w_ ⟨rfl, rfl, h_61_28⟩
          show ZW C 0 0 [wI m_isBarred (zK C).2.2.2 3721 mb, wI m_dx (zK C).2.1 8 dx, wI m_dy (zK C).2.1 8 dy, wJ m_walks (zK C).2.2.1 226981 g2_9, wO m 9 [.int (zI (8)), .int (zI (0)), .ref m_sheetSort, .ref m_sheetMany, .ref m_numbers, .int (zI (4)), .int (zI (0)), .int (zI (m_top)), .int (zI (m_round)), .int (zI (0)), .int (zI (0)), .int (zI (0)), .int (zI (0)), .ref m_dx, .ref m_dy, .ref m_weight, .ref m_isBarred, .ref m_walks, .ref m_one, .ref m_two, .ref m_light, .ref m_lightThen, .int (zI (m_family)), .ref m_fromX, .ref m_fromY, .ref m_toX, .ref m_toY, .int (zI (m_ruleMany)), .ref m_rule, .ref m_out, .int (zI (m_outs)), .ref m_grid, .ref m_heap, .ref m_ends, .ref m_power, .ref m_by2, .ref m_product, .ref m_levels, .ref m_row, .ref m_then, .ref m_equations]] [(3, .long (zL (T))), (0, .ref m), (1, .int (zI (n))), (2, .int (zI (seed)))] 64 [.int (zI (-1))]
          refine z_i2l hC dX9_draw_64 (by omega) ?_
          refine z_ws (ws' := []) [] rfl rfl ?_
          exact z_lret hC hR dX9_draw_65 (Nat.le_of_ble_eq_true rfl) (Nat.le_of_ble_eq_true rfl) ⟨-1, rfl, rfl, by first | omega | (rw [← hcr]; omega)⟩
      · skip
        refine z_aload_n hC 0 dX9_draw_24 rfl rfl ?_
        refine z_iconst hC dX9_draw_25 ?_
        refine z_callV hC [.int (zI (2))] 1 0 dX9_draw_26 (c_X9_refuse (zl C) (zD C) (zK C) m m_sheetSort m_sheetMany m_numbers m_dx m_dy m_weight m_isBarred m_walks m_one m_two m_light m_lightThen m_fromX m_fromY m_toX m_toY m_rule m_out m_grid m_heap m_ends m_power m_by2 m_product m_levels m_row m_then m_equations 2 0 0 4 0 m_top m_round 0 0 0 0 m_family m_ruleMany m_outs ) gX9_draw_X9_refuse rfl rfl rfl ⟨by decide, by decide, by decide +kernel⟩ ⟨(Nat.le_of_ble_eq_true rfl), (Nat.le_of_ble_eq_true rfl)⟩ rfl rfl rfl rfl [0] [1, 2, 3, 4] [wI m_isBarred (zK C).2.2.2 3721 mb, wI m_dx (zK C).2.1 8 dx, wI m_dy (zK C).2.1 8 dy, wJ m_walks (zK C).2.2.1 226981 g] [] rfl rfl rfl rfl rfl (by decide) (Nat.le_of_ble_eq_true rfl) ⟨(Nat.le_of_ble_eq_true rfl), (Nat.le_of_ble_eq_true rfl)⟩ ?_
        rintro v_ w_ ⟨rfl, rfl, h_26_29⟩
        show ZW C 0 0 [wI m_isBarred (zK C).2.2.2 3721 mb, wI m_dx (zK C).2.1 8 dx, wI m_dy (zK C).2.1 8 dy, wJ m_walks (zK C).2.2.1 226981 g, wO m 9 [.int (zI (2)), .int (zI (0)), .ref m_sheetSort, .ref m_sheetMany, .ref m_numbers, .int (zI (4)), .int (zI (0)), .int (zI (m_top)), .int (zI (m_round)), .int (zI (0)), .int (zI (0)), .int (zI (0)), .int (zI (0)), .ref m_dx, .ref m_dy, .ref m_weight, .ref m_isBarred, .ref m_walks, .ref m_one, .ref m_two, .ref m_light, .ref m_lightThen, .int (zI (m_family)), .ref m_fromX, .ref m_fromY, .ref m_toX, .ref m_toY, .int (zI (m_ruleMany)), .ref m_rule, .ref m_out, .int (zI (m_outs)), .ref m_grid, .ref m_heap, .ref m_ends, .ref m_power, .ref m_by2, .ref m_product, .ref m_levels, .ref m_row, .ref m_then, .ref m_equations]] [(0, .ref m), (1, .int (zI (n))), (2, .int (zI (seed)))] 29 [.int (zI (-1))]
        refine z_i2l hC dX9_draw_29 (by omega) ?_
        refine z_ws (ws' := []) [] rfl rfl ?_
        exact z_lret hC hR dX9_draw_30 (Nat.le_of_ble_eq_true rfl) (Nat.le_of_ble_eq_true rfl) ⟨-1, rfl, rfl, by first | omega | (rw [← hcr]; omega)⟩
