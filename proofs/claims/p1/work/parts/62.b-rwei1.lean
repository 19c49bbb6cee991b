set_option maxHeartbeats 4000000 in
set_option maxRecDepth 100000 in
theorem c_X9_hasArea (l : Launch) (D : va_G) (K : ClassId × ClassId × ClassId × ClassId) (m m_sheetSort m_sheetMany m_numbers m_dx m_dy m_weight m_isBarred m_walks m_one m_two m_light m_lightThen m_fromX m_fromY m_toX m_toY m_rule m_out m_grid m_heap m_ends m_power m_by2 m_product m_levels m_row m_then m_equations : Nat) (m_status m_thrown m_steps m_top m_round m_ax m_ay m_bx m_by m_family m_ruleMany m_outs : Int) : zMet l D K yX9_hasArea wsX9_hasArea ({ frames := 0, cells := 0, slots := 0, locals := 0 }) 0 0 [.ref m] [wO m 9 [.int (zI (m_status)), .int (zI (m_thrown)), .ref m_sheetSort, .ref m_sheetMany, .ref m_numbers, .int (zI (m_steps)), .int (zI (0)), .int (zI (m_top)), .int (zI (m_round)), .int (zI (m_ax)), .int (zI (m_ay)), .int (zI (m_bx)), .int (zI (m_by)), .ref m_dx, .ref m_dy, .ref m_weight, .ref m_isBarred, .ref m_walks, .ref m_one, .ref m_two, .ref m_light, .ref m_lightThen, .int (zI (m_family)), .ref m_fromX, .ref m_fromY, .ref m_toX, .ref m_toY, .int (zI (m_ruleMany)), .ref m_rule, .ref m_out, .int (zI (m_outs)), .ref m_grid, .ref m_heap, .ref m_ends, .ref m_power, .ref m_by2, .ref m_product, .ref m_levels, .ref m_row, .ref m_then, .ref m_equations]] (fun vr_ wr_ => ∃ (r : Int), vr_ = some (.int (zI (r))) ∧ wr_ = [wO m 9 [.int (zI (m_status)), .int (zI (m_thrown)), .ref m_sheetSort, .ref m_sheetMany, .ref m_numbers, .int (zI (m_steps)), .int (zI (0)), .int (zI (m_top)), .int (zI (m_round)), .int (zI (m_ax)), .int (zI (m_ay)), .int (zI (m_bx)), .int (zI (m_by)), .ref m_dx, .ref m_dy, .ref m_weight, .ref m_isBarred, .ref m_walks, .ref m_one, .ref m_two, .ref m_light, .ref m_lightThen, .int (zI (m_family)), .ref m_fromX, .ref m_fromY, .ref m_toX, .ref m_toY, .int (zI (m_ruleMany)), .ref m_rule, .ref m_out, .int (zI (m_outs)), .ref m_grid, .ref m_heap, .ref m_ends, .ref m_power, .ref m_by2, .ref m_product, .ref m_levels, .ref m_row, .ref m_then, .ref m_equations]] ∧ (r = 0)) := by
  refine zMet_of (cc := cX9_hasArea) (nL := 1) (ret := (some .boolean)) (by decide) rfl (Nat.le_of_ble_eq_true rfl) ?_
  rintro C rfl rfl rfl hC hR
  have hinX9 : ∀ w ∈ u_ws RX9 TX9 41, w ∈ wsX9_hasArea := by decide +kernel
  show ZW C 0 0 [wO m 9 [.int (zI (m_status)), .int (zI (m_thrown)), .ref m_sheetSort, .ref m_sheetMany, .ref m_numbers, .int (zI (m_steps)), .int (zI (0)), .int (zI (m_top)), .int (zI (m_round)), .int (zI (m_ax)), .int (zI (m_ay)), .int (zI (m_bx)), .int (zI (m_by)), .ref m_dx, .ref m_dy, .ref m_weight, .ref m_isBarred, .ref m_walks, .ref m_one, .ref m_two, .ref m_light, .ref m_lightThen, .int (zI (m_family)), .ref m_fromX, .ref m_fromY, .ref m_toX, .ref m_toY, .int (zI (m_ruleMany)), .ref m_rule, .ref m_out, .int (zI (m_outs)), .ref m_grid, .ref m_heap, .ref m_ends, .ref m_power, .ref m_by2, .ref m_product, .ref m_levels, .ref m_row, .ref m_then, .ref m_equations]] [(0, .ref m)] 0 []
  refine z_aload_n hC 0 dX9_hasArea_0 rfl rfl ?_
  refine z_get hC (T := TX9) (N := 41) hinX9 0 6 dX9_hasArea_1 rfl rfl (by decide) (List.mem_of_getElem? (i := 1) rfl) rfl rfl ?_
  refine z_iconst hC dX9_hasArea_4 ?_
  refine z_iceq hC 24 dX9_hasArea_5 (by decide) (by omega) (fun c_1 => by exfalso; omega) (fun c_1 => ?_)
  refine z_aload_n hC 0 dX9_hasArea_8 rfl rfl ?_
  refine z_get hC (T := TX9) (N := 41) hinX9 0 6 dX9_hasArea_9 rfl rfl (by decide) (List.mem_of_getElem? (i := 1) rfl) rfl rfl ?_
  refine z_iconst hC dX9_hasArea_12 ?_
  refine z_iceq hC 24 dX9_hasArea_13 (by decide) (by omega) (fun c_2 => by exfalso; omega) (fun c_2 => ?_)
  refine z_aload_n hC 0 dX9_hasArea_16 rfl rfl ?_
  refine z_get hC (T := TX9) (N := 41) hinX9 0 6 dX9_hasArea_17 rfl rfl (by decide) (List.mem_of_getElem? (i := 1) rfl) rfl rfl ?_
  refine z_iconst hC dX9_hasArea_20 ?_
  refine z_icne hC 28 dX9_hasArea_21 (by decide) (by omega) (fun c_3 => ?_) (fun c_3 => by exfalso; omega)
  refine z_iconst hC dX9_hasArea_28 ?_
  exact z_zret hC hR dX9_hasArea_29 (by omega) (Nat.le_of_ble_eq_true rfl) (Nat.le_of_ble_eq_true rfl) ⟨0, rfl, rfl, by rfl⟩

set_option maxHeartbeats 4000000 in
set_option maxRecDepth 100000 in
theorem c_X9_adds (l : Launch) (D : va_G) (K : ClassId × ClassId × ClassId × ClassId) (m m_sheetSort m_sheetMany m_numbers m_dx m_dy m_weight m_isBarred m_walks m_one m_two m_light m_lightThen m_fromX m_fromY m_toX m_toY m_rule m_out m_grid m_heap m_ends m_power m_by2 m_product m_levels m_row m_then m_equations : Nat) (w k t la m_status m_thrown m_steps m_kind m_top m_round m_ax m_ay m_bx m_by m_family m_ruleMany m_outs : Int) (we : Int → Int) (hw : w = 0 ∨ w = 1 ∨ w = 3) (hk : 0 ≤ k ∧ k < 4) (ht : 0 ≤ t ∧ t < 3721) (hl : -1 ≤ la ∧ la < 8) (hmwe : ∀ j, 0 ≤ j → j < 4 → we j = 1) : zMet l D K yX9_adds wsX9_adds ({ frames := 1, cells := 0, slots := 0, locals := 20 }) 0 0 [.ref m, .int (zI (w)), .int (zI (k)), .int (zI (t)), .int (zI (la))] [wO m 9 [.int (zI (m_status)), .int (zI (m_thrown)), .ref m_sheetSort, .ref m_sheetMany, .ref m_numbers, .int (zI (m_steps)), .int (zI (m_kind)), .int (zI (m_top)), .int (zI (m_round)), .int (zI (m_ax)), .int (zI (m_ay)), .int (zI (m_bx)), .int (zI (m_by)), .ref m_dx, .ref m_dy, .ref m_weight, .ref m_isBarred, .ref m_walks, .ref m_one, .ref m_two, .ref m_light, .ref m_lightThen, .int (zI (m_family)), .ref m_fromX, .ref m_fromY, .ref m_toX, .ref m_toY, .int (zI (m_ruleMany)), .ref m_rule, .ref m_out, .int (zI (m_outs)), .ref m_grid, .ref m_heap, .ref m_ends, .ref m_power, .ref m_by2, .ref m_product, .ref m_levels, .ref m_row, .ref m_then, .ref m_equations], wI m_weight K.2.1 8 we] (fun vr_ wr_ => ∃ (r : Int), vr_ = some (.int (zI (r))) ∧ wr_ = [wO m 9 [.int (zI (m_status)), .int (zI (m_thrown)), .ref m_sheetSort, .ref m_sheetMany, .ref m_numbers, .int (zI (m_steps)), .int (zI (m_kind)), .int (zI (m_top)), .int (zI (m_round)), .int (zI (m_ax)), .int (zI (m_ay)), .int (zI (m_bx)), .int (zI (m_by)), .ref m_dx, .ref m_dy, .ref m_weight, .ref m_isBarred, .ref m_walks, .ref m_one, .ref m_two, .ref m_light, .ref m_lightThen, .int (zI (m_family)), .ref m_fromX, .ref m_fromY, .ref m_toX, .ref m_toY, .int (zI (m_ruleMany)), .ref m_rule, .ref m_out, .int (zI (m_outs)), .ref m_grid, .ref m_heap, .ref m_ends, .ref m_power, .ref m_by2, .ref m_product, .ref m_levels, .ref m_row, .ref m_then, .ref m_equations], wI m_weight K.2.1 8 we] ∧ (r = adW w k t la)) := by
  refine zMet_of (cc := cX9_adds) (nL := 5) (ret := (some .int)) (by decide) rfl (Nat.le_of_ble_eq_true rfl) ?_
  rintro C rfl rfl rfl hC hR
  have hinX9 : ∀ w ∈ u_ws RX9 TX9 41, w ∈ wsX9_adds := by decide +kernel
  show ZW C 0 0 [wO m 9 [.int (zI (m_status)), .int (zI (m_thrown)), .ref m_sheetSort, .ref m_sheetMany, .ref m_numbers, .int (zI (m_steps)), .int (zI (m_kind)), .int (zI (m_top)), .int (zI (m_round)), .int (zI (m_ax)), .int (zI (m_ay)), .int (zI (m_bx)), .int (zI (m_by)), .ref m_dx, .ref m_dy, .ref m_weight, .ref m_isBarred, .ref m_walks, .ref m_one, .ref m_two, .ref m_light, .ref m_lightThen, .int (zI (m_family)), .ref m_fromX, .ref m_fromY, .ref m_toX, .ref m_toY, .int (zI (m_ruleMany)), .ref m_rule, .ref m_out, .int (zI (m_outs)), .ref m_grid, .ref m_heap, .ref m_ends, .ref m_power, .ref m_by2, .ref m_product, .ref m_levels, .ref m_row, .ref m_then, .ref m_equations], wI m_weight (zK C).2.1 8 we] [(0, .ref m), (1, .int (zI (w))), (2, .int (zI (k))), (3, .int (zI (t))), (4, .int (zI (la)))] 0 []
  refine z_iload_n hC 1 dX9_adds_0 rfl rfl ?_
  rcases (show (w < 0 ∨ 2 < w) ∨ w = 0 ∨ w = 1 ∨ w = 2 by omega) with sw_1 | sw_1 | sw_1 | sw_1
  · refine z_tableOut hC dX9_adds_1 sw_1 (by omega) 63 (by decide) ?_
    refine z_aload_n hC 0 dX9_adds_63 rfl rfl ?_
    refine z_get hC (T := TX9) (N := 41) hinX9 0 15 dX9_adds_64 rfl rfl (by decide) (List.mem_of_getElem? (i := 1) rfl) rfl rfl ?_
    refine z_iload_n hC 2 dX9_adds_67 rfl rfl ?_
    refine z_iald hC 1 dX9_adds_68 rfl (by omega) ?_
    have l_2 := hmwe k (by omega) (by omega)
    exact z_iret hC hR dX9_adds_69 (Nat.le_of_ble_eq_true rfl) (Nat.le_of_ble_eq_true rfl) ⟨we k, rfl, rfl, by unfold adW gnW; (repeat' split) <;> omega⟩
  · refine z_tableIn hC 0 dX9_adds_1 sw_1 (by decide) (by decide) (by decide) rfl 28 (by decide) ?_
    refine z_iload_n hC 3 dX9_adds_28 rfl rfl ?_
    refine z_callS hC [.int (zI (t))] 1 dX9_adds_29 (c_X9_yOf (zl C) (zD C) (zK C) t (by first | assumption | omega)) gX9_adds_X9_yOf rfl rfl rfl ⟨by decide, by decide, by decide +kernel⟩ ⟨(Nat.le_of_ble_eq_true rfl), (Nat.le_of_ble_eq_true rfl)⟩ rfl [] [0, 1] [wO m 9 [.int (zI (m_status)), .int (zI (m_thrown)), .ref m_sheetSort, .ref m_sheetMany, .ref m_numbers, .int (zI (m_steps)), .int (zI (m_kind)), .int (zI (m_top)), .int (zI (m_round)), .int (zI (m_ax)), .int (zI (m_ay)), .int (zI (m_bx)), .int (zI (m_by)), .ref m_dx, .ref m_dy, .ref m_weight, .ref m_isBarred, .ref m_walks, .ref m_one, .ref m_two, .ref m_light, .ref m_lightThen, .int (zI (m_family)), .ref m_fromX, .ref m_fromY, .ref m_toX, .ref m_toY, .int (zI (m_ruleMany)), .ref m_rule, .ref m_out, .int (zI (m_outs)), .ref m_grid, .ref m_heap, .ref m_ends, .ref m_power, .ref m_by2, .ref m_product, .ref m_levels, .ref m_row, .ref m_then, .ref m_equations], wI m_weight (zK C).2.1 8 we] [] rfl rfl rfl rfl rfl (by decide) (Nat.le_of_ble_eq_true rfl) ⟨(Nat.le_of_ble_eq_true rfl), (Nat.le_of_ble_eq_true rfl)⟩ ?_
    rintro v_ w_ ⟨rfl, rfl, h_29_3⟩
    show ZW C 0 0 [wO m 9 [.int (zI (m_status)), .int (zI (m_thrown)), .ref m_sheetSort, .ref m_sheetMany, .ref m_numbers, .int (zI (m_steps)), .int (zI (m_kind)), .int (zI (m_top)), .int (zI (m_round)), .int (zI (m_ax)), .int (zI (m_ay)), .int (zI (m_bx)), .int (zI (m_by)), .ref m_dx, .ref m_dy, .ref m_weight, .ref m_isBarred, .ref m_walks, .ref m_one, .ref m_two, .ref m_light, .ref m_lightThen, .int (zI (m_family)), .ref m_fromX, .ref m_fromY, .ref m_toX, .ref m_toY, .int (zI (m_ruleMany)), .ref m_rule, .ref m_out, .int (zI (m_outs)), .ref m_grid, .ref m_heap, .ref m_ends, .ref m_power, .ref m_by2, .ref m_product, .ref m_levels, .ref m_row, .ref m_then, .ref m_equations], wI m_weight (zK C).2.1 8 we] [(0, .ref m), (1, .int (zI (w))), (2, .int (zI (k))), (3, .int (zI (t))), (4, .int (zI (la)))] 32 [.int (zI (t % 61 - 30))]
    refine z_ifne hC 39 dX9_adds_32 (by decide) (by omega) (fun c_4 => ?_) (fun c_4 => ?_)
    · skip
      refine z_iconst hC dX9_adds_39 ?_
      exact z_iret hC hR dX9_adds_40 (Nat.le_of_ble_eq_true rfl) (Nat.le_of_ble_eq_true rfl) ⟨0, rfl, rfl, by unfold adW gnW; (repeat' split) <;> omega⟩
    · skip
      refine z_iconst hC dX9_adds_35 ?_
      refine z_goto hC 40 dX9_adds_36 (by decide) ?_
      exact z_iret hC hR dX9_adds_40 (Nat.le_of_ble_eq_true rfl) (Nat.le_of_ble_eq_true rfl) ⟨1, rfl, rfl, by unfold adW gnW; (repeat' split) <;> omega⟩
  · refine z_tableIn hC 1 dX9_adds_1 sw_1 (by decide) (by decide) (by decide) rfl 41 (by decide) ?_
    refine z_iload hC 4 dX9_adds_41 rfl ?_
    refine z_iflt hC 56 dX9_adds_43 (by decide) (by omega) (fun c_5 => ?_) (fun c_5 => ?_)
    · skip
      refine z_iconst hC dX9_adds_56 ?_
      exact z_iret hC hR dX9_adds_57 (Nat.le_of_ble_eq_true rfl) (Nat.le_of_ble_eq_true rfl) ⟨0, rfl, rfl, by unfold adW gnW; (repeat' split) <;> omega⟩
    · skip
      refine z_iload hC 4 dX9_adds_46 rfl ?_
      refine z_iload_n hC 2 dX9_adds_48 rfl rfl ?_
      refine z_iceq hC 56 dX9_adds_49 (by decide) (by omega) (fun c_6 => ?_) (fun c_6 => ?_)
      · skip
        refine z_iconst hC dX9_adds_56 ?_
        exact z_iret hC hR dX9_adds_57 (Nat.le_of_ble_eq_true rfl) (Nat.le_of_ble_eq_true rfl) ⟨0, rfl, rfl, by unfold adW gnW; (repeat' split) <;> omega⟩
      · skip
        refine z_iconst hC dX9_adds_52 ?_
        refine z_goto hC 57 dX9_adds_53 (by decide) ?_
        exact z_iret hC hR dX9_adds_57 (Nat.le_of_ble_eq_true rfl) (Nat.le_of_ble_eq_true rfl) ⟨1, rfl, rfl, by unfold adW gnW; (repeat' split) <;> omega⟩
  · refine z_tableIn hC 2 dX9_adds_1 sw_1 (by decide) (by decide) (by decide) rfl 58 (by decide) ?_
    refine z_iload_n hC 3 dX9_adds_58 rfl rfl ?_
    refine z_callS hC [.int (zI (t))] 1 dX9_adds_59 (c_X9_yOf (zl C) (zD C) (zK C) t (by first | assumption | omega)) gX9_adds_X9_yOf rfl rfl rfl ⟨by decide, by decide, by decide +kernel⟩ ⟨(Nat.le_of_ble_eq_true rfl), (Nat.le_of_ble_eq_true rfl)⟩ rfl [] [0, 1] [wO m 9 [.int (zI (m_status)), .int (zI (m_thrown)), .ref m_sheetSort, .ref m_sheetMany, .ref m_numbers, .int (zI (m_steps)), .int (zI (m_kind)), .int (zI (m_top)), .int (zI (m_round)), .int (zI (m_ax)), .int (zI (m_ay)), .int (zI (m_bx)), .int (zI (m_by)), .ref m_dx, .ref m_dy, .ref m_weight, .ref m_isBarred, .ref m_walks, .ref m_one, .ref m_two, .ref m_light, .ref m_lightThen, .int (zI (m_family)), .ref m_fromX, .ref m_fromY, .ref m_toX, .ref m_toY, .int (zI (m_ruleMany)), .ref m_rule, .ref m_out, .int (zI (m_outs)), .ref m_grid, .ref m_heap, .ref m_ends, .ref m_power, .ref m_by2, .ref m_product, .ref m_levels, .ref m_row, .ref m_then, .ref m_equations], wI m_weight (zK C).2.1 8 we] [] rfl rfl rfl rfl rfl (by decide) (Nat.le_of_ble_eq_true rfl) ⟨(Nat.le_of_ble_eq_true rfl), (Nat.le_of_ble_eq_true rfl)⟩ ?_
    rintro v_ w_ ⟨rfl, rfl, h_59_7⟩
    show ZW C 0 0 [wO m 9 [.int (zI (m_status)), .int (zI (m_thrown)), .ref m_sheetSort, .ref m_sheetMany, .ref m_numbers, .int (zI (m_steps)), .int (zI (m_kind)), .int (zI (m_top)), .int (zI (m_round)), .int (zI (m_ax)), .int (zI (m_ay)), .int (zI (m_bx)), .int (zI (m_by)), .ref m_dx, .ref m_dy, .ref m_weight, .ref m_isBarred, .ref m_walks, .ref m_one, .ref m_two, .ref m_light, .ref m_lightThen, .int (zI (m_family)), .ref m_fromX, .ref m_fromY, .ref m_toX, .ref m_toY, .int (zI (m_ruleMany)), .ref m_rule, .ref m_out, .int (zI (m_outs)), .ref m_grid, .ref m_heap, .ref m_ends, .ref m_power, .ref m_by2, .ref m_product, .ref m_levels, .ref m_row, .ref m_then, .ref m_equations], wI m_weight (zK C).2.1 8 we] [(0, .ref m), (1, .int (zI (w))), (2, .int (zI (k))), (3, .int (zI (t))), (4, .int (zI (la)))] 62 [.int (zI (t % 61 - 30))]
    exact z_iret hC hR dX9_adds_62 (Nat.le_of_ble_eq_true rfl) (Nat.le_of_ble_eq_true rfl) ⟨t % 61 - 30, rfl, rfl, by unfold adW gnW; (repeat' split) <;> omega⟩

set_option maxHeartbeats 4000000 in
set_option maxRecDepth 100000 in
theorem c_X9_weighed (l : Launch) (D : va_G) (K : ClassId × ClassId × ClassId × ClassId) (m m_sheetSort m_sheetMany m_numbers m_dx m_dy m_weight m_isBarred m_walks m_one m_two m_light m_lightThen m_fromX m_fromY m_toX m_toY m_rule m_out m_grid m_heap m_ends m_power m_by2 m_product m_levels m_row m_then m_equations : Nat) (w n m_status m_thrown m_top m_round m_family m_ruleMany m_outs : Int) (mb : Int → Int) (hw : zR w) (hn : zR n) (hm_top : zR m_top) (hm_round : zR m_round) (hm0 : ∀ j, 0 ≤ j → j < 3721 → mb j = 0) : zMet l D K yX9_weighed wsX9_weighed ({ frames := 3, cells := 0, slots := 0, locals := 65 }) 0 0 [.ref m, .int (zI (w)), .int (zI (n))] [wO m 9 [.int (zI (m_status)), .int (zI (m_thrown)), .ref m_sheetSort, .ref m_sheetMany, .ref m_numbers, .int (zI (4)), .int (zI (0)), .int (zI (m_top)), .int (zI (m_round)), .int (zI (0)), .int (zI (0)), .int (zI (0)), .int (zI (0)), .ref m_dx, .ref m_dy, .ref m_weight, .ref m_isBarred, .ref m_walks, .ref m_one, .ref m_two, .ref m_light, .ref m_lightThen, .int (zI (m_family)), .ref m_fromX, .ref m_fromY, .ref m_toX, .ref m_toY, .int (zI (m_ruleMany)), .ref m_rule, .ref m_out, .int (zI (m_outs)), .ref m_grid, .ref m_heap, .ref m_ends, .ref m_power, .ref m_by2, .ref m_product, .ref m_levels, .ref m_row, .ref m_then, .ref m_equations], wI m_isBarred K.2.2.2 3721 mb] (fun vr_ wr_ => ∃ (r : Int), vr_ = some (.int (zI (r))) ∧ wr_ = [wO m 9 [.int (zI (m_status)), .int (zI (m_thrown)), .ref m_sheetSort, .ref m_sheetMany, .ref m_numbers, .int (zI (4)), .int (zI (0)), .int (zI (m_top)), .int (zI (m_round)), .int (zI (0)), .int (zI (0)), .int (zI (0)), .int (zI (0)), .ref m_dx, .ref m_dy, .ref m_weight, .ref m_isBarred, .ref m_walks, .ref m_one, .ref m_two, .ref m_light, .ref m_lightThen, .int (zI (m_family)), .ref m_fromX, .ref m_fromY, .ref m_toX, .ref m_toY, .int (zI (m_ruleMany)), .ref m_rule, .ref m_out, .int (zI (m_outs)), .ref m_grid, .ref m_heap, .ref m_ends, .ref m_power, .ref m_by2, .ref m_product, .ref m_levels, .ref m_row, .ref m_then, .ref m_equations], wI m_isBarred K.2.2.2 3721 mb] ∧ (((w < 0 ∨ 3 < w ∨ n < 0 ∨ 14 < n) ∧ r = 2) ∨ (w = 2 ∧ 0 ≤ n ∧ n ≤ 14 ∧ r = 5) ∨ (0 ≤ w ∧ w ≤ 3 ∧ w ≠ 2 ∧ 0 ≤ n ∧ n ≤ 14 ∧ r = 0))) := by
  refine zMet_of (cc := cX9_weighed) (nL := 3) (ret := (some .int)) (by decide) rfl (Nat.le_of_ble_eq_true rfl) ?_
  rintro C rfl rfl rfl hC hR
  show ZW C 0 0 [wO m 9 [.int (zI (m_status)), .int (zI (m_thrown)), .ref m_sheetSort, .ref m_sheetMany, .ref m_numbers, .int (zI (4)), .int (zI (0)), .int (zI (m_top)), .int (zI (m_round)), .int (zI (0)), .int (zI (0)), .int (zI (0)), .int (zI (0)), .ref m_dx, .ref m_dy, .ref m_weight, .ref m_isBarred, .ref m_walks, .ref m_one, .ref m_two, .ref m_light, .ref m_lightThen, .int (zI (m_family)), .ref m_fromX, .ref m_fromY, .ref m_toX, .ref m_toY, .int (zI (m_ruleMany)), .ref m_rule, .ref m_out, .int (zI (m_outs)), .ref m_grid, .ref m_heap, .ref m_ends, .ref m_power, .ref m_by2, .ref m_product, .ref m_levels, .ref m_row, .ref m_then, .ref m_equations], wI m_isBarred (zK C).2.2.2 3721 mb] [(0, .ref m), (1, .int (zI (w))), (2, .int (zI (n)))] 0 []
  refine z_iload_n hC 1 dX9_weighed_0 rfl rfl ?_
  refine z_iflt hC 19 dX9_weighed_1 (by decide) (by omega) (fun c_1 => ?_) (fun c_1 => ?_)
  · skip
    refine z_iconst hC dX9_weighed_19 ?_
    exact z_iret hC hR dX9_weighed_20 (Nat.le_of_ble_eq_true rfl) (Nat.le_of_ble_eq_true rfl) ⟨2, rfl, rfl, by omega⟩
  · skip
    refine z_iload_n hC 1 dX9_weighed_4 rfl rfl ?_
    refine z_iconst hC dX9_weighed_5 ?_
    refine z_icgt hC 19 dX9_weighed_6 (by decide) (by omega) (fun c_2 => ?_) (fun c_2 => ?_)
    · skip
      refine z_iconst hC dX9_weighed_19 ?_
      exact z_iret hC hR dX9_weighed_20 (Nat.le_of_ble_eq_true rfl) (Nat.le_of_ble_eq_true rfl) ⟨2, rfl, rfl, by omega⟩
    · skip
      refine z_iload_n hC 2 dX9_weighed_9 rfl rfl ?_
      refine z_iflt hC 19 dX9_weighed_10 (by decide) (by omega) (fun c_3 => ?_) (fun c_3 => ?_)
      · skip
        refine z_iconst hC dX9_weighed_19 ?_
        exact z_iret hC hR dX9_weighed_20 (Nat.le_of_ble_eq_true rfl) (Nat.le_of_ble_eq_true rfl) ⟨2, rfl, rfl, by omega⟩
      · skip
        refine z_iload_n hC 2 dX9_weighed_13 rfl rfl ?_
        refine z_bipush hC dX9_weighed_14 (by decide) ?_
        refine z_icle hC 21 dX9_weighed_16 (by decide) (by omega) (fun c_4 => ?_) (fun c_4 => ?_)
        · skip
          refine z_iload_n hC 1 dX9_weighed_21 rfl rfl ?_
          refine z_iconst hC dX9_weighed_22 ?_
          refine z_icne hC 35 dX9_weighed_23 (by decide) (by omega) (fun c_5 => ?_) (fun c_5 => ?_)
          · skip
            refine z_aload_n hC 0 dX9_weighed_35 rfl rfl ?_
            refine z_callV hC [] 0 0 dX9_weighed_36 (c_X9_areOpen (zl C) (zD C) (zK C) m m_sheetSort m_sheetMany m_numbers m_dx m_dy m_weight m_isBarred m_walks m_one m_two m_light m_lightThen m_fromX m_fromY m_toX m_toY m_rule m_out m_grid m_heap m_ends m_power m_by2 m_product m_levels m_row m_then m_equations m_status m_thrown m_top m_round m_family m_ruleMany m_outs mb (by first | assumption | omega) (by first | assumption | omega) (by first | assumption | omega)) gX9_weighed_X9_areOpen rfl rfl rfl ⟨by decide, by decide, by decide +kernel⟩ ⟨(Nat.le_of_ble_eq_true rfl), (Nat.le_of_ble_eq_true rfl)⟩ rfl rfl rfl rfl [0, 1] [] [] [] rfl rfl rfl rfl rfl (by decide) (Nat.le_of_ble_eq_true rfl) ⟨(Nat.le_of_ble_eq_true rfl), (Nat.le_of_ble_eq_true rfl)⟩ ?_
            rintro v_ w_ ⟨r_6, rfl, rfl, rfl⟩
            show ZW C 0 0 [wO m 9 [.int (zI (m_status)), .int (zI (m_thrown)), .ref m_sheetSort, .ref m_sheetMany, .ref m_numbers, .int (zI (4)), .int (zI (0)), .int (zI (m_top)), .int (zI (m_round)), .int (zI (0)), .int (zI (0)), .int (zI (0)), .int (zI (0)), .ref m_dx, .ref m_dy, .ref m_weight, .ref m_isBarred, .ref m_walks, .ref m_one, .ref m_two, .ref m_light, .ref m_lightThen, .int (zI (m_family)), .ref m_fromX, .ref m_fromY, .ref m_toX, .ref m_toY, .int (zI (m_ruleMany)), .ref m_rule, .ref m_out, .int (zI (m_outs)), .ref m_grid, .ref m_heap, .ref m_ends, .ref m_power, .ref m_by2, .ref m_product, .ref m_levels, .ref m_row, .ref m_then, .ref m_equations], wI m_isBarred (zK C).2.2.2 3721 mb] [(0, .ref m), (1, .int (zI (w))), (2, .int (zI (n)))] 39 [.int (zI (1))]
            refine z_ifeq hC 46 dX9_weighed_39 (by decide) (by omega) (fun c_8 => by exfalso; omega) (fun c_8 => ?_)
            refine z_iconst hC dX9_weighed_42 ?_
            refine z_goto hC 48 dX9_weighed_43 (by decide) ?_
            exact z_iret hC hR dX9_weighed_48 (Nat.le_of_ble_eq_true rfl) (Nat.le_of_ble_eq_true rfl) ⟨0, rfl, rfl, by omega⟩
          · skip
            refine z_aload_n hC 0 dX9_weighed_26 rfl rfl ?_
            refine z_callV hC [] 0 0 dX9_weighed_27 (c_X9_hasArea (zl C) (zD C) (zK C) m m_sheetSort m_sheetMany m_numbers m_dx m_dy m_weight m_isBarred m_walks m_one m_two m_light m_lightThen m_fromX m_fromY m_toX m_toY m_rule m_out m_grid m_heap m_ends m_power m_by2 m_product m_levels m_row m_then m_equations m_status m_thrown 4 m_top m_round 0 0 0 0 m_family m_ruleMany m_outs ) gX9_weighed_X9_hasArea rfl rfl rfl ⟨by decide, by decide, by decide +kernel⟩ ⟨(Nat.le_of_ble_eq_true rfl), (Nat.le_of_ble_eq_true rfl)⟩ rfl rfl rfl rfl [0] [1] [wI m_isBarred (zK C).2.2.2 3721 mb] [] rfl rfl rfl rfl rfl (by decide) (Nat.le_of_ble_eq_true rfl) ⟨(Nat.le_of_ble_eq_true rfl), (Nat.le_of_ble_eq_true rfl)⟩ ?_
            rintro v_ w_ ⟨r_9, rfl, rfl, rfl⟩
            show ZW C 0 0 [wI m_isBarred (zK C).2.2.2 3721 mb, wO m 9 [.int (zI (m_status)), .int (zI (m_thrown)), .ref m_sheetSort, .ref m_sheetMany, .ref m_numbers, .int (zI (4)), .int (zI (0)), .int (zI (m_top)), .int (zI (m_round)), .int (zI (0)), .int (zI (0)), .int (zI (0)), .int (zI (0)), .ref m_dx, .ref m_dy, .ref m_weight, .ref m_isBarred, .ref m_walks, .ref m_one, .ref m_two, .ref m_light, .ref m_lightThen, .int (zI (m_family)), .ref m_fromX, .ref m_fromY, .ref m_toX, .ref m_toY, .int (zI (m_ruleMany)), .ref m_rule, .ref m_out, .int (zI (m_outs)), .ref m_grid, .ref m_heap, .ref m_ends, .ref m_power, .ref m_by2, .ref m_product, .ref m_levels, .ref m_row, .ref m_then, .ref m_equations]] [(0, .ref m), (1, .int (zI (w))), (2, .int (zI (n)))] 30 [.int (zI (0))]
            refine z_ifne hC 35 dX9_weighed_30 (by decide) (by omega) (fun c_11 => by exfalso; omega) (fun c_11 => ?_)
            refine z_iconst hC dX9_weighed_33 ?_
            refine z_ws (ws' := [wO m 9 [.int (zI (m_status)), .int (zI (m_thrown)), .ref m_sheetSort, .ref m_sheetMany, .ref m_numbers, .int (zI (4)), .int (zI (0)), .int (zI (m_top)), .int (zI (m_round)), .int (zI (0)), .int (zI (0)), .int (zI (0)), .int (zI (0)), .ref m_dx, .ref m_dy, .ref m_weight, .ref m_isBarred, .ref m_walks, .ref m_one, .ref m_two, .ref m_light, .ref m_lightThen, .int (zI (m_family)), .ref m_fromX, .ref m_fromY, .ref m_toX, .ref m_toY, .int (zI (m_ruleMany)), .ref m_rule, .ref m_out, .int (zI (m_outs)), .ref m_grid, .ref m_heap, .ref m_ends, .ref m_power, .ref m_by2, .ref m_product, .ref m_levels, .ref m_row, .ref m_then, .ref m_equations], wI m_isBarred (zK C).2.2.2 3721 mb]) [1, 0] rfl rfl ?_
            exact z_iret hC hR dX9_weighed_34 (Nat.le_of_ble_eq_true rfl) (Nat.le_of_ble_eq_true rfl) ⟨5, rfl, rfl, by omega⟩
        · skip
          refine z_iconst hC dX9_weighed_19 ?_
          exact z_iret hC hR dX9_weighed_20 (Nat.le_of_ble_eq_true rfl) (Nat.le_of_ble_eq_true rfl) ⟨2, rfl, rfl, by omega⟩

set_option maxHeartbeats 4000000 in
set_option maxRecDepth 100000 in
theorem c_X9_better (l : Launch) (D : va_G) (K : ClassId × ClassId × ClassId × ClassId) (a b gt : Int) (ha : zR a) (hb : zR b) (hgt : gt = 0 ∨ gt = 1) : zMet l D K yX9_better wsX9_better ({ frames := 1, cells := 0, slots := 0, locals := 13 }) 0 0 [.int (zI (a)), .int (zI (b)), .int (zI (gt))] [] (fun vr_ wr_ => ∃ (r : Int), vr_ = some (.int (zI (r))) ∧ wr_ = [] ∧ (r = bR gt a b)) := by
  refine zMet_of (cc := cX9_better) (nL := 3) (ret := (some .int)) (by decide) rfl (Nat.le_of_ble_eq_true rfl) ?_
  rintro C rfl rfl rfl hC hR
  show ZW C 0 0 [] [(0, .int (zI (a))), (1, .int (zI (b))), (2, .int (zI (gt)))] 0 []
  refine z_iload_n hC 0 dX9_better_0 rfl rfl ?_
  refine z_iflt hC 8 dX9_better_1 (by decide) (by omega) (fun c_1 => ?_) (fun c_1 => ?_)
  · skip
    refine z_iload_n hC 0 dX9_better_8 rfl rfl ?_
    refine z_iload_n hC 1 dX9_better_9 rfl rfl ?_
    refine z_mmax hC dX9_better_10 (List.mem_of_getElem? (i := 1) rfl) (List.mem_of_getElem? (i := 2) rfl) (List.mem_of_getElem? (i := 3) rfl) (List.mem_of_getElem? (i := 4) rfl) (by omega) (Nat.le_of_ble_eq_true rfl) (Nat.le_of_ble_eq_true rfl) (Nat.le_of_ble_eq_true rfl) (Nat.le_of_ble_eq_true rfl) ?_
    exact z_iret hC hR dX9_better_13 (Nat.le_of_ble_eq_true rfl) (Nat.le_of_ble_eq_true rfl) ⟨max a b, rfl, rfl, by unfold bR; (repeat' split) <;> omega⟩
  · skip
    refine z_iload_n hC 1 dX9_better_4 rfl rfl ?_
    refine z_ifge hC 14 dX9_better_5 (by decide) (by omega) (fun c_2 => ?_) (fun c_2 => ?_)
    · skip
      refine z_iload_n hC 2 dX9_better_14 rfl rfl ?_
      refine z_ifeq hC 26 dX9_better_15 (by decide) (by omega) (fun c_3 => ?_) (fun c_3 => ?_)
      · skip
        refine z_iload_n hC 0 dX9_better_26 rfl rfl ?_
        refine z_iload_n hC 1 dX9_better_27 rfl rfl ?_
        refine z_mmin hC dX9_better_28 (List.mem_of_getElem? (i := 5) rfl) (List.mem_of_getElem? (i := 6) rfl) (List.mem_of_getElem? (i := 3) rfl) (List.mem_of_getElem? (i := 7) rfl) (by omega) (Nat.le_of_ble_eq_true rfl) (Nat.le_of_ble_eq_true rfl) (Nat.le_of_ble_eq_true rfl) (Nat.le_of_ble_eq_true rfl) ?_
        exact z_iret hC hR dX9_better_31 (Nat.le_of_ble_eq_true rfl) (Nat.le_of_ble_eq_true rfl) ⟨min a b, rfl, rfl, by unfold bR; (repeat' split) <;> omega⟩
      · skip
        refine z_iload_n hC 0 dX9_better_18 rfl rfl ?_
        refine z_iload_n hC 1 dX9_better_19 rfl rfl ?_
        refine z_mmax hC dX9_better_20 (List.mem_of_getElem? (i := 1) rfl) (List.mem_of_getElem? (i := 2) rfl) (List.mem_of_getElem? (i := 3) rfl) (List.mem_of_getElem? (i := 4) rfl) (by omega) (Nat.le_of_ble_eq_true rfl) (Nat.le_of_ble_eq_true rfl) (Nat.le_of_ble_eq_true rfl) (Nat.le_of_ble_eq_true rfl) ?_
        refine z_goto hC 31 dX9_better_23 (by decide) ?_
        exact z_iret hC hR dX9_better_31 (Nat.le_of_ble_eq_true rfl) (Nat.le_of_ble_eq_true rfl) ⟨max a b, rfl, rfl, by unfold bR; (repeat' split) <;> omega⟩
    · skip
      refine z_iload_n hC 0 dX9_better_8 rfl rfl ?_
      refine z_iload_n hC 1 dX9_better_9 rfl rfl ?_
      refine z_mmax hC dX9_better_10 (List.mem_of_getElem? (i := 1) rfl) (List.mem_of_getElem? (i := 2) rfl) (List.mem_of_getElem? (i := 3) rfl) (List.mem_of_getElem? (i := 4) rfl) (by omega) (Nat.le_of_ble_eq_true rfl) (Nat.le_of_ble_eq_true rfl) (Nat.le_of_ble_eq_true rfl) (Nat.le_of_ble_eq_true rfl) ?_
      exact z_iret hC hR dX9_better_13 (Nat.le_of_ble_eq_true rfl) (Nat.le_of_ble_eq_true rfl) ⟨max a b, rfl, rfl, by unfold bR; (repeat' split) <;> omega⟩

set_option maxHeartbeats 8000000 in
set_option maxRecDepth 100000 in
theorem c_X9_goesOn (l : Launch) (D : va_G) (K : ClassId × ClassId × ClassId × ClassId) (m m_sheetSort m_sheetMany m_numbers m_dx m_dy m_weight m_isBarred m_walks m_one m_two m_light m_lightThen m_fromX m_fromY m_toX m_toY m_rule m_out m_grid m_heap m_ends m_power m_by2 m_product m_levels m_row m_then m_equations : Nat) (s k m_status m_thrown m_top m_round m_family m_ruleMany m_outs : Int) (mb dx dy one two : Int → Int) (hs : 0 ≤ s ∧ s < 3721) (hk : 0 ≤ k ∧ k < 4) (hm_top : zR m_top) (hm_round : zR m_round) (hm0 : ∀ j, 0 ≤ j → j < 3721 → mb j = 0) (hdx : ∀ j, 0 ≤ j → j < 8 → dx j = sdx j) (hdy : ∀ j, 0 ≤ j → j < 8 → dy j = sdy j) : zMet l D K yX9_goesOn wsX9_goesOn ({ frames := 3, cells := 0, slots := 0, locals := 69 }) 0 0 [.ref m, .int (zI (s)), .int (zI (k))] [wO m 9 [.int (zI (m_status)), .int (zI (m_thrown)), .ref m_sheetSort, .ref m_sheetMany, .ref m_numbers, .int (zI (4)), .int (zI (0)), .int (zI (m_top)), .int (zI (m_round)), .int (zI (0)), .int (zI (0)), .int (zI (0)), .int (zI (0)), .ref m_dx, .ref m_dy, .ref m_weight, .ref m_isBarred, .ref m_walks, .ref m_one, .ref m_two, .ref m_light, .ref m_lightThen, .int (zI (m_family)), .ref m_fromX, .ref m_fromY, .ref m_toX, .ref m_toY, .int (zI (m_ruleMany)), .ref m_rule, .ref m_out, .int (zI (m_outs)), .ref m_grid, .ref m_heap, .ref m_ends, .ref m_power, .ref m_by2, .ref m_product, .ref m_levels, .ref m_row, .ref m_then, .ref m_equations], wI m_isBarred K.2.2.2 3721 mb, wI m_dx K.2.1 8 dx, wI m_dy K.2.1 8 dy, wJ m_one K.2.2.1 450241 one, wJ m_two K.2.2.1 450241 two] (fun vr_ wr_ => ∃ (tw2 : Int → Int), vr_ = none ∧ wr_ = [wO m 9 [.int (zI (m_status)), .int (zI (m_thrown)), .ref m_sheetSort, .ref m_sheetMany, .ref m_numbers, .int (zI (4)), .int (zI (0)), .int (zI (m_top)), .int (zI (m_round)), .int (zI (0)), .int (zI (0)), .int (zI (0)), .int (zI (0)), .ref m_dx, .ref m_dy, .ref m_weight, .ref m_isBarred, .ref m_walks, .ref m_one, .ref m_two, .ref m_light, .ref m_lightThen, .int (zI (m_family)), .ref m_fromX, .ref m_fromY, .ref m_toX, .ref m_toY, .int (zI (m_ruleMany)), .ref m_rule, .ref m_out, .int (zI (m_outs)), .ref m_grid, .ref m_heap, .ref m_ends, .ref m_power, .ref m_by2, .ref m_product, .ref m_levels, .ref m_row, .ref m_then, .ref m_equations], wI m_isBarred K.2.2.2 3721 mb, wI m_dx K.2.1 8 dx, wI m_dy K.2.1 8 dy, wJ m_one K.2.2.1 450241 one, wJ m_two K.2.2.1 450241 tw2] ∧ (∀ t e w, 0 ≤ t → t < 3721 → 0 ≤ e → e < 4 → 0 ≤ w → w < 15 → tw2 (120 * t + 15 * e + w) = two (120 * t + 15 * e + w) + gsR one s k t e w 4)) := by
  refine zMet_of (cc := cX9_goesOn) (nL := 7) (ret := none) (by decide) rfl (Nat.le_of_ble_eq_true rfl) ?_
  rintro C rfl rfl rfl hC hR
  have hinX9 : ∀ w ∈ u_ws RX9 TX9 41, w ∈ wsX9_goesOn := by decide +kernel
  show ZW C 0 0 [wO m 9 [.int (zI (m_status)), .int (zI (m_thrown)), .ref m_sheetSort, .ref m_sheetMany, .ref m_numbers, .int (zI (4)), .int (zI (0)), .int (zI (m_top)), .int (zI (m_round)), .int (zI (0)), .int (zI (0)), .int (zI (0)), .int (zI (0)), .ref m_dx, .ref m_dy, .ref m_weight, .ref m_isBarred, .ref m_walks, .ref m_one, .ref m_two, .ref m_light, .ref m_lightThen, .int (zI (m_family)), .ref m_fromX, .ref m_fromY, .ref m_toX, .ref m_toY, .int (zI (m_ruleMany)), .ref m_rule, .ref m_out, .int (zI (m_outs)), .ref m_grid, .ref m_heap, .ref m_ends, .ref m_power, .ref m_by2, .ref m_product, .ref m_levels, .ref m_row, .ref m_then, .ref m_equations], wI m_isBarred (zK C).2.2.2 3721 mb, wI m_dx (zK C).2.1 8 dx, wI m_dy (zK C).2.1 8 dy, wJ m_one (zK C).2.2.1 450241 one, wJ m_two (zK C).2.2.1 450241 two] [(0, .ref m), (1, .int (zI (s))), (2, .int (zI (k)))] 0 []
  refine z_aload_n hC 0 dX9_goesOn_0 rfl rfl ?_
  refine z_iload_n hC 1 dX9_goesOn_1 rfl rfl ?_
  refine z_iload_n hC 2 dX9_goesOn_2 rfl rfl ?_
  refine z_callV hC [.int (zI (s)), .int (zI (k))] 2 0 dX9_goesOn_3 (c_X9_next (zl C) (zD C) (zK C) m m_sheetSort m_sheetMany m_numbers m_dx m_dy m_weight m_isBarred m_walks m_one m_two m_light m_lightThen m_fromX m_fromY m_toX m_toY m_rule m_out m_grid m_heap m_ends m_power m_by2 m_product m_levels m_row m_then m_equations s k m_status m_thrown 4 m_top m_round 0 0 0 0 m_family m_ruleMany m_outs mb dx dy (by first | assumption | omega) (by first | assumption | omega) (by first | assumption | omega) (by first | assumption | omega) (by first | assumption | omega) (by first | assumption | omega) (by first | assumption | omega)) gX9_goesOn_X9_next rfl rfl rfl ⟨by decide, by decide, by decide +kernel⟩ ⟨(Nat.le_of_ble_eq_true rfl), (Nat.le_of_ble_eq_true rfl)⟩ rfl rfl rfl rfl [0, 1, 2, 3] [4, 5] [wJ m_one (zK C).2.2.1 450241 one, wJ m_two (zK C).2.2.1 450241 two] [] rfl rfl rfl rfl rfl (by decide) (Nat.le_of_ble_eq_true rfl) ⟨(Nat.le_of_ble_eq_true rfl), (Nat.le_of_ble_eq_true rfl)⟩ ?_
  rintro v_ w_ ⟨r_1, rfl, rfl, rfl⟩
  show ZW C 0 0 [wJ m_one (zK C).2.2.1 450241 one, wJ m_two (zK C).2.2.1 450241 two, wO m 9 [.int (zI (m_status)), .int (zI (m_thrown)), .ref m_sheetSort, .ref m_sheetMany, .ref m_numbers, .int (zI (4)), .int (zI (0)), .int (zI (m_top)), .int (zI (m_round)), .int (zI (0)), .int (zI (0)), .int (zI (0)), .int (zI (0)), .ref m_dx, .ref m_dy, .ref m_weight, .ref m_isBarred, .ref m_walks, .ref m_one, .ref m_two, .ref m_light, .ref m_lightThen, .int (zI (m_family)), .ref m_fromX, .ref m_fromY, .ref m_toX, .ref m_toY, .int (zI (m_ruleMany)), .ref m_rule, .ref m_out, .int (zI (m_outs)), .ref m_grid, .ref m_heap, .ref m_ends, .ref m_power, .ref m_by2, .ref m_product, .ref m_levels, .ref m_row, .ref m_then, .ref m_equations], wI m_isBarred (zK C).2.2.2 3721 mb, wI m_dx (zK C).2.1 8 dx, wI m_dy (zK C).2.1 8 dy] [(0, .ref m), (1, .int (zI (s))), (2, .int (zI (k)))] 6 [.int (zI (nx0 s k))]
  have hnr := nx0_r (s := s) (k := k) (by omega)
  refine z_istore_n hC [(3, .int (zI (nx0 s k))), (0, .ref m), (1, .int (zI (s))), (2, .int (zI (k)))] dX9_goesOn_6 rfl (by decide) rfl ?_
  refine z_iload_n hC 0 dX9_goesOn_7 rfl rfl ?_
  refine z_ifge hC 12 dX9_goesOn_8 (by decide) (by omega) (fun c_3 => ?_) (fun c_3 => ?_)
  · skip
    refine z_iconst hC dX9_goesOn_12 ?_
    refine z_istore hC [(4, .int (zI (0))), (3, .int (zI (nx0 s k))), (0, .ref m), (1, .int (zI (s))), (2, .int (zI (k)))] dX9_goesOn_13 (by decide) rfl ?_
    refine z_lv (lv' := [(0, .ref m), (1, .int (zI (s))), (2, .int (zI (k))), (3, .int (zI (nx0 s k))), (4, .int (zI (0)))]) [2, 3, 4, 1, 0] rfl ?_
    have lp15_4 : ∀ (f6 : Nat) (la : Int) (q : Int → Int), (0 ≤ la ∧ la ≤ 4) → (∀ t e w, 0 ≤ t → t < 3721 → 0 ≤ e → e < 4 → 0 ≤ w → w < 15 → q (120 * t + 15 * e + w) = two (120 * t + 15 * e + w) + gsR one s k t e w la.toNat) → (4 - la).toNat < f6 → ZW C 0 0 [wJ m_one (zK C).2.2.1 450241 one, wJ m_two (zK C).2.2.1 450241 q, wO m 9 [.int (zI (m_status)), .int (zI (m_thrown)), .ref m_sheetSort, .ref m_sheetMany, .ref m_numbers, .int (zI (4)), .int (zI (0)), .int (zI (m_top)), .int (zI (m_round)), .int (zI (0)), .int (zI (0)), .int (zI (0)), .int (zI (0)), .ref m_dx, .ref m_dy, .ref m_weight, .ref m_isBarred, .ref m_walks, .ref m_one, .ref m_two, .ref m_light, .ref m_lightThen, .int (zI (m_family)), .ref m_fromX, .ref m_fromY, .ref m_toX, .ref m_toY, .int (zI (m_ruleMany)), .ref m_rule, .ref m_out, .int (zI (m_outs)), .ref m_grid, .ref m_heap, .ref m_ends, .ref m_power, .ref m_by2, .ref m_product, .ref m_levels, .ref m_row, .ref m_then, .ref m_equations], wI m_isBarred (zK C).2.2.2 3721 mb, wI m_dx (zK C).2.1 8 dx, wI m_dy (zK C).2.1 8 dy] [(0, .ref m), (1, .int (zI (s))), (2, .int (zI (k))), (3, .int (zI (nx0 s k))), (4, .int (zI (la)))] 15 [] := by
      intro f6
      induction f6 with
      | zero => intro _ _ _ _ hf; exact absurd hf (Nat.not_lt_zero _)
      | succ f6 ih15_5 =>
        intro la q vl vq hf_15
        refine z_iload hC 4 dX9_goesOn_15 rfl ?_
        refine z_aload_n hC 0 dX9_goesOn_17 rfl rfl ?_
        refine z_get hC (T := TX9) (N := 41) hinX9 2 5 dX9_goesOn_18 rfl rfl (by decide) (List.mem_of_getElem? (i := 1) rfl) rfl rfl ?_
        refine z_icge hC 103 dX9_goesOn_21 (by decide) (by omega) (fun c_7 => ?_) (fun c_7 => ?_)
        · skip
          refine z_ws (ws' := [wO m 9 [.int (zI (m_status)), .int (zI (m_thrown)), .ref m_sheetSort, .ref m_sheetMany, .ref m_numbers, .int (zI (4)), .int (zI (0)), .int (zI (m_top)), .int (zI (m_round)), .int (zI (0)), .int (zI (0)), .int (zI (0)), .int (zI (0)), .ref m_dx, .ref m_dy, .ref m_weight, .ref m_isBarred, .ref m_walks, .ref m_one, .ref m_two, .ref m_light, .ref m_lightThen, .int (zI (m_family)), .ref m_fromX, .ref m_fromY, .ref m_toX, .ref m_toY, .int (zI (m_ruleMany)), .ref m_rule, .ref m_out, .int (zI (m_outs)), .ref m_grid, .ref m_heap, .ref m_ends, .ref m_power, .ref m_by2, .ref m_product, .ref m_levels, .ref m_row, .ref m_then, .ref m_equations], wI m_isBarred (zK C).2.2.2 3721 mb, wI m_dx (zK C).2.1 8 dx, wI m_dy (zK C).2.1 8 dy, wJ m_one (zK C).2.2.1 450241 one, wJ m_two (zK C).2.2.1 450241 q]) [2, 3, 4, 5, 0, 1] rfl rfl ?_
          exact z_vret hC hR dX9_goesOn_103 (Nat.le_of_ble_eq_true rfl) (Nat.le_of_ble_eq_true rfl) ⟨q, rfl, rfl, by intro t e w a b c d f g; rw [vq t e w a b c d f g, show la = 4 by omega]; rfl⟩
        · skip
          refine z_iload hC 4 dX9_goesOn_24 rfl ?_
          refine z_iload_n hC 2 dX9_goesOn_26 rfl rfl ?_
          refine z_icne hC 34 dX9_goesOn_27 (by decide) (by omega) (fun c_8 => ?_) (fun c_8 => ?_)
          · skip
            refine z_iconst hC dX9_goesOn_34 ?_
            refine z_istore hC [(5, .int (zI (1))), (0, .ref m), (1, .int (zI (s))), (2, .int (zI (k))), (3, .int (zI (nx0 s k))), (4, .int (zI (la)))] dX9_goesOn_35 (by decide) rfl ?_
            have htn := tnR_c la k
            refine z_iconst hC dX9_goesOn_37 ?_
            refine z_istore hC [(6, .int (zI (0))), (5, .int (zI (1))), (0, .ref m), (1, .int (zI (s))), (2, .int (zI (k))), (3, .int (zI (nx0 s k))), (4, .int (zI (la)))] dX9_goesOn_38 (by decide) rfl ?_
            refine z_lv (lv' := [(0, .ref m), (1, .int (zI (s))), (2, .int (zI (k))), (3, .int (zI (nx0 s k))), (4, .int (zI (la))), (5, .int (zI (1))), (6, .int (zI (0)))]) [2, 3, 4, 5, 6, 1, 0] rfl ?_
            have lp40_9 : ∀ (f11 : Nat) (x : Int) (q2 : Int → Int), (0 ≤ x ∧ x + tnR la k ≤ 15) → (∀ j, q2 j = if 120 * nx0 s k + 15 * k + tnR la k ≤ j ∧ j < 120 * nx0 s k + 15 * k + tnR la k + x then q j + one (j - (120 * nx0 s k + 15 * k) - tnR la k + (120 * s + 15 * la)) else q j) → (15 - x).toNat < f11 → ZW C 0 0 [wJ m_one (zK C).2.2.1 450241 one, wJ m_two (zK C).2.2.1 450241 q2, wO m 9 [.int (zI (m_status)), .int (zI (m_thrown)), .ref m_sheetSort, .ref m_sheetMany, .ref m_numbers, .int (zI (4)), .int (zI (0)), .int (zI (m_top)), .int (zI (m_round)), .int (zI (0)), .int (zI (0)), .int (zI (0)), .int (zI (0)), .ref m_dx, .ref m_dy, .ref m_weight, .ref m_isBarred, .ref m_walks, .ref m_one, .ref m_two, .ref m_light, .ref m_lightThen, .int (zI (m_family)), .ref m_fromX, .ref m_fromY, .ref m_toX, .ref m_toY, .int (zI (m_ruleMany)), .ref m_rule, .ref m_out, .int (zI (m_outs)), .ref m_grid, .ref m_heap, .ref m_ends, .ref m_power, .ref m_by2, .ref m_product, .ref m_levels, .ref m_row, .ref m_then, .ref m_equations], wI m_isBarred (zK C).2.2.2 3721 mb, wI m_dx (zK C).2.1 8 dx, wI m_dy (zK C).2.1 8 dy] [(0, .ref m), (1, .int (zI (s))), (2, .int (zI (k))), (3, .int (zI (nx0 s k))), (4, .int (zI (la))), (5, .int (zI (1))), (6, .int (zI (x)))] 40 [] := by
              intro f11
              induction f11 with
              | zero => intro _ _ _ _ hf; exact absurd hf (Nat.not_lt_zero _)
              | succ f11 ih40_10 =>
                intro x q2 vx vq2 hf_40
                refine z_iload hC 6 dX9_goesOn_40 rfl ?_
                refine z_iload hC 5 dX9_goesOn_42 rfl ?_
                refine z_iadd hC (x + 1) dX9_goesOn_44 rfl ?_
                refine z_bipush hC dX9_goesOn_45 (by decide) ?_
                refine z_icge hC 97 dX9_goesOn_47 (by decide) (by omega) (fun c_12 => ?_) (fun c_12 => ?_)
                · skip
                  refine z_iinc (a := la) (v := 1) (r := la + 1) hC 4 [(4, .int (zI (la + 1))), (0, .ref m), (1, .int (zI (s))), (2, .int (zI (k))), (3, .int (zI (nx0 s k))), (5, .int (zI (1))), (6, .int (zI (x)))] dX9_goesOn_97 rfl rfl (by decide) rfl ?_
                  refine z_goto hC 15 dX9_goesOn_100 (by decide) ?_
                  refine z_lv (lv' := [(0, .ref m), (1, .int (zI (s))), (2, .int (zI (k))), (3, .int (zI (nx0 s k))), (4, .int (zI (la + 1)))]) [1, 2, 3, 4, 0] rfl ?_
                  exact ih15_5 (la + 1) q2 (by omega) (by exact gs_step (by omega) (by omega) (by omega) vq vq2) (by omega)
                · skip
                  refine z_aload_n hC 0 dX9_goesOn_50 rfl rfl ?_
                  refine z_get hC (T := TX9) (N := 41) hinX9 2 19 dX9_goesOn_51 rfl rfl (by decide) (List.mem_of_getElem? (i := 2) rfl) rfl rfl ?_
                  refine z_bipush hC dX9_goesOn_54 (by decide) ?_
                  refine z_iload_n hC 3 dX9_goesOn_56 rfl rfl ?_
                  refine z_imul hC (120 * (nx0 s k)) dX9_goesOn_57 rfl ?_
                  refine z_bipush hC dX9_goesOn_58 (by decide) ?_
                  refine z_iload_n hC 2 dX9_goesOn_60 rfl rfl ?_
                  refine z_imul hC (15 * k) dX9_goesOn_61 rfl ?_
                  refine z_iadd hC ((120 * (nx0 s k)) + (15 * k)) dX9_goesOn_62 rfl ?_
                  refine z_iload hC 6 dX9_goesOn_63 rfl ?_
                  refine z_iadd hC (((120 * (nx0 s k)) + (15 * k)) + x) dX9_goesOn_65 rfl ?_
                  refine z_iload hC 5 dX9_goesOn_66 rfl ?_
                  refine z_iadd hC ((((120 * (nx0 s k)) + (15 * k)) + x) + 1) dX9_goesOn_68 rfl ?_
                  refine z_dup2 hC dX9_goesOn_69 rfl rfl ?_
                  refine z_lald hC 1 dX9_goesOn_70 rfl (by omega) ?_
                  refine z_aload_n hC 0 dX9_goesOn_71 rfl rfl ?_
                  refine z_get hC (T := TX9) (N := 41) hinX9 2 18 dX9_goesOn_72 rfl rfl (by decide) (List.mem_of_getElem? (i := 3) rfl) rfl rfl ?_
                  refine z_bipush hC dX9_goesOn_75 (by decide) ?_
                  refine z_iload_n hC 1 dX9_goesOn_77 rfl rfl ?_
                  refine z_imul hC (120 * s) dX9_goesOn_78 rfl ?_
                  refine z_bipush hC dX9_goesOn_79 (by decide) ?_
                  refine z_iload hC 4 dX9_goesOn_81 rfl ?_
                  refine z_imul hC (15 * la) dX9_goesOn_83 rfl ?_
                  refine z_iadd hC ((120 * s) + (15 * la)) dX9_goesOn_84 rfl ?_
                  refine z_iload hC 6 dX9_goesOn_85 rfl ?_
                  refine z_iadd hC (((120 * s) + (15 * la)) + x) dX9_goesOn_87 rfl ?_
                  refine z_lald hC 0 dX9_goesOn_88 rfl (by omega) ?_
                  refine z_ladd hC ((q2 ((((120 * (nx0 s k)) + (15 * k)) + x) + 1)) + (one (((120 * s) + (15 * la)) + x))) dX9_goesOn_89 rfl ?_
                  refine z_last hC 1 [wJ m_one (zK C).2.2.1 450241 one, wJ m_two (zK C).2.2.1 450241 (zu q2 ((((120 * (nx0 s k)) + (15 * k)) + x) + 1) ((q2 ((((120 * (nx0 s k)) + (15 * k)) + x) + 1)) + (one (((120 * s) + (15 * la)) + x)))), wO m 9 [.int (zI (m_status)), .int (zI (m_thrown)), .ref m_sheetSort, .ref m_sheetMany, .ref m_numbers, .int (zI (4)), .int (zI (0)), .int (zI (m_top)), .int (zI (m_round)), .int (zI (0)), .int (zI (0)), .int (zI (0)), .int (zI (0)), .ref m_dx, .ref m_dy, .ref m_weight, .ref m_isBarred, .ref m_walks, .ref m_one, .ref m_two, .ref m_light, .ref m_lightThen, .int (zI (m_family)), .ref m_fromX, .ref m_fromY, .ref m_toX, .ref m_toY, .int (zI (m_ruleMany)), .ref m_rule, .ref m_out, .int (zI (m_outs)), .ref m_grid, .ref m_heap, .ref m_ends, .ref m_power, .ref m_by2, .ref m_product, .ref m_levels, .ref m_row, .ref m_then, .ref m_equations], wI m_isBarred (zK C).2.2.2 3721 mb, wI m_dx (zK C).2.1 8 dx, wI m_dy (zK C).2.1 8 dy] dX9_goesOn_90 rfl (by omega) rfl ?_
                  refine z_iinc (a := x) (v := 1) (r := x + 1) hC 6 [(6, .int (zI (x + 1))), (0, .ref m), (1, .int (zI (s))), (2, .int (zI (k))), (3, .int (zI (nx0 s k))), (4, .int (zI (la))), (5, .int (zI (1)))] dX9_goesOn_91 rfl rfl (by decide) rfl ?_
                  refine z_goto hC 40 dX9_goesOn_94 (by decide) ?_
                  refine z_lv (lv' := [(0, .ref m), (1, .int (zI (s))), (2, .int (zI (k))), (3, .int (zI (nx0 s k))), (4, .int (zI (la))), (5, .int (zI (1))), (6, .int (zI (x + 1)))]) [1, 2, 3, 4, 5, 6, 0] rfl ?_
                  exact ih40_10 (x + 1) (zu q2 ((((120 * (nx0 s k)) + (15 * k)) + x) + 1) ((q2 ((((120 * (nx0 s k)) + (15 * k)) + x) + 1)) + (one (((120 * s) + (15 * la)) + x)))) (by omega) (by exact sh_step (B := 120 * nx0 s k + 15 * k) (A := 120 * s + 15 * la) vq2 (by omega) (by omega) rfl) (by omega)
            exact lp40_9 _ 0 q (by omega) (by intro j; rw [if_neg (by omega)]) (Nat.lt_succ_self _)
          · skip
            refine z_iconst hC dX9_goesOn_30 ?_
            refine z_goto hC 35 dX9_goesOn_31 (by decide) ?_
            refine z_istore hC [(5, .int (zI (0))), (0, .ref m), (1, .int (zI (s))), (2, .int (zI (k))), (3, .int (zI (nx0 s k))), (4, .int (zI (la)))] dX9_goesOn_35 (by decide) rfl ?_
            have htn := tnR_c la k
            refine z_iconst hC dX9_goesOn_37 ?_
            refine z_istore hC [(6, .int (zI (0))), (5, .int (zI (0))), (0, .ref m), (1, .int (zI (s))), (2, .int (zI (k))), (3, .int (zI (nx0 s k))), (4, .int (zI (la)))] dX9_goesOn_38 (by decide) rfl ?_
            refine z_lv (lv' := [(0, .ref m), (1, .int (zI (s))), (2, .int (zI (k))), (3, .int (zI (nx0 s k))), (4, .int (zI (la))), (5, .int (zI (0))), (6, .int (zI (0)))]) [2, 3, 4, 5, 6, 1, 0] rfl ?_
            have lp40_13 : ∀ (f15 : Nat) (x : Int) (q2 : Int → Int), (0 ≤ x ∧ x + tnR la k ≤ 15) → (∀ j, q2 j = if 120 * nx0 s k + 15 * k + tnR la k ≤ j ∧ j < 120 * nx0 s k + 15 * k + tnR la k + x then q j + one (j - (120 * nx0 s k + 15 * k) - tnR la k + (120 * s + 15 * la)) else q j) → (15 - x).toNat < f15 → ZW C 0 0 [wJ m_one (zK C).2.2.1 450241 one, wJ m_two (zK C).2.2.1 450241 q2, wO m 9 [.int (zI (m_status)), .int (zI (m_thrown)), .ref m_sheetSort, .ref m_sheetMany, .ref m_numbers, .int (zI (4)), .int (zI (0)), .int (zI (m_top)), .int (zI (m_round)), .int (zI (0)), .int (zI (0)), .int (zI (0)), .int (zI (0)), .ref m_dx, .ref m_dy, .ref m_weight, .ref m_isBarred, .ref m_walks, .ref m_one, .ref m_two, .ref m_light, .ref m_lightThen, .int (zI (m_family)), .ref m_fromX, .ref m_fromY, .ref m_toX, .ref m_toY, .int (zI (m_ruleMany)), .ref m_rule, .ref m_out, .int (zI (m_outs)), .ref m_grid, .ref m_heap, .ref m_ends, .ref m_power, .ref m_by2, .ref m_product, .ref m_levels, .ref m_row, .ref m_then, .ref m_equations], wI m_isBarred (zK C).2.2.2 3721 mb, wI m_dx (zK C).2.1 8 dx, wI m_dy (zK C).2.1 8 dy] [(0, .ref m), (1, .int (zI (s))), (2, .int (zI (k))), (3, .int (zI (nx0 s k))), (4, .int (zI (la))), (5, .int (zI (0))), (6, .int (zI (x)))] 40 [] := by
              intro f15
              induction f15 with
              | zero => intro _ _ _ _ hf; exact absurd hf (Nat.not_lt_zero _)
              | succ f15 ih40_14 =>
                intro x q2 vx vq2 hf_40
                refine z_iload hC 6 dX9_goesOn_40 rfl ?_
                refine z_iload hC 5 dX9_goesOn_42 rfl ?_
                refine z_iadd hC (x) dX9_goesOn_44 (by omega) ?_
                refine z_bipush hC dX9_goesOn_45 (by decide) ?_
                refine z_icge hC 97 dX9_goesOn_47 (by decide) (by omega) (fun c_16 => ?_) (fun c_16 => ?_)
                · skip
                  refine z_iinc (a := la) (v := 1) (r := la + 1) hC 4 [(4, .int (zI (la + 1))), (0, .ref m), (1, .int (zI (s))), (2, .int (zI (k))), (3, .int (zI (nx0 s k))), (5, .int (zI (0))), (6, .int (zI (x)))] dX9_goesOn_97 rfl rfl (by decide) rfl ?_
                  refine z_goto hC 15 dX9_goesOn_100 (by decide) ?_
                  refine z_lv (lv' := [(0, .ref m), (1, .int (zI (s))), (2, .int (zI (k))), (3, .int (zI (nx0 s k))), (4, .int (zI (la + 1)))]) [1, 2, 3, 4, 0] rfl ?_
                  exact ih15_5 (la + 1) q2 (by omega) (by exact gs_step (by omega) (by omega) (by omega) vq vq2) (by omega)
                · skip
                  refine z_aload_n hC 0 dX9_goesOn_50 rfl rfl ?_
                  refine z_get hC (T := TX9) (N := 41) hinX9 2 19 dX9_goesOn_51 rfl rfl (by decide) (List.mem_of_getElem? (i := 2) rfl) rfl rfl ?_
                  refine z_bipush hC dX9_goesOn_54 (by decide) ?_
                  refine z_iload_n hC 3 dX9_goesOn_56 rfl rfl ?_
                  refine z_imul hC (120 * (nx0 s k)) dX9_goesOn_57 rfl ?_
                  refine z_bipush hC dX9_goesOn_58 (by decide) ?_
                  refine z_iload_n hC 2 dX9_goesOn_60 rfl rfl ?_
                  refine z_imul hC (15 * k) dX9_goesOn_61 rfl ?_
                  refine z_iadd hC ((120 * (nx0 s k)) + (15 * k)) dX9_goesOn_62 rfl ?_
                  refine z_iload hC 6 dX9_goesOn_63 rfl ?_
                  refine z_iadd hC (((120 * (nx0 s k)) + (15 * k)) + x) dX9_goesOn_65 rfl ?_
                  refine z_iload hC 5 dX9_goesOn_66 rfl ?_
                  refine z_iadd hC (((120 * (nx0 s k)) + (15 * k)) + x) dX9_goesOn_68 (by omega) ?_
                  refine z_dup2 hC dX9_goesOn_69 rfl rfl ?_
                  refine z_lald hC 1 dX9_goesOn_70 rfl (by omega) ?_
                  refine z_aload_n hC 0 dX9_goesOn_71 rfl rfl ?_
                  refine z_get hC (T := TX9) (N := 41) hinX9 2 18 dX9_goesOn_72 rfl rfl (by decide) (List.mem_of_getElem? (i := 3) rfl) rfl rfl ?_
                  refine z_bipush hC dX9_goesOn_75 (by decide) ?_
                  refine z_iload_n hC 1 dX9_goesOn_77 rfl rfl ?_
                  refine z_imul hC (120 * s) dX9_goesOn_78 rfl ?_
                  refine z_bipush hC dX9_goesOn_79 (by decide) ?_
                  refine z_iload hC 4 dX9_goesOn_81 rfl ?_
                  refine z_imul hC (15 * la) dX9_goesOn_83 rfl ?_
                  refine z_iadd hC ((120 * s) + (15 * la)) dX9_goesOn_84 rfl ?_
                  refine z_iload hC 6 dX9_goesOn_85 rfl ?_
                  refine z_iadd hC (((120 * s) + (15 * la)) + x) dX9_goesOn_87 rfl ?_
                  refine z_lald hC 0 dX9_goesOn_88 rfl (by omega) ?_
                  refine z_ladd hC ((q2 (((120 * (nx0 s k)) + (15 * k)) + x)) + (one (((120 * s) + (15 * la)) + x))) dX9_goesOn_89 rfl ?_
                  refine z_last hC 1 [wJ m_one (zK C).2.2.1 450241 one, wJ m_two (zK C).2.2.1 450241 (zu q2 (((120 * (nx0 s k)) + (15 * k)) + x) ((q2 (((120 * (nx0 s k)) + (15 * k)) + x)) + (one (((120 * s) + (15 * la)) + x)))), wO m 9 [.int (zI (m_status)), .int (zI (m_thrown)), .ref m_sheetSort, .ref m_sheetMany, .ref m_numbers, .int (zI (4)), .int (zI (0)), .int (zI (m_top)), .int (zI (m_round)), .int (zI (0)), .int (zI (0)), .int (zI (0)), .int (zI (0)), .ref m_dx, .ref m_dy, .ref m_weight, .ref m_isBarred, .ref m_walks, .ref m_one, .ref m_two, .ref m_light, .ref m_lightThen, .int (zI (m_family)), .ref m_fromX, .ref m_fromY, .ref m_toX, .ref m_toY, .int (zI (m_ruleMany)), .ref m_rule, .ref m_out, .int (zI (m_outs)), .ref m_grid, .ref m_heap, .ref m_ends, .ref m_power, .ref m_by2, .ref m_product, .ref m_levels, .ref m_row, .ref m_then, .ref m_equations], wI m_isBarred (zK C).2.2.2 3721 mb, wI m_dx (zK C).2.1 8 dx, wI m_dy (zK C).2.1 8 dy] dX9_goesOn_90 rfl (by omega) rfl ?_
                  refine z_iinc (a := x) (v := 1) (r := x + 1) hC 6 [(6, .int (zI (x + 1))), (0, .ref m), (1, .int (zI (s))), (2, .int (zI (k))), (3, .int (zI (nx0 s k))), (4, .int (zI (la))), (5, .int (zI (0)))] dX9_goesOn_91 rfl rfl (by decide) rfl ?_
                  refine z_goto hC 40 dX9_goesOn_94 (by decide) ?_
                  refine z_lv (lv' := [(0, .ref m), (1, .int (zI (s))), (2, .int (zI (k))), (3, .int (zI (nx0 s k))), (4, .int (zI (la))), (5, .int (zI (0))), (6, .int (zI (x + 1)))]) [1, 2, 3, 4, 5, 6, 0] rfl ?_
                  exact ih40_14 (x + 1) (zu q2 (((120 * (nx0 s k)) + (15 * k)) + x) ((q2 (((120 * (nx0 s k)) + (15 * k)) + x)) + (one (((120 * s) + (15 * la)) + x)))) (by omega) (by exact sh_step (B := 120 * nx0 s k + 15 * k) (A := 120 * s + 15 * la) vq2 (by omega) (by omega) rfl) (by omega)
            exact lp40_13 _ 0 q (by omega) (by intro j; rw [if_neg (by omega)]) (Nat.lt_succ_self _)
    exact lp15_4 _ 0 two (by omega) (by intro t e w _ _ _ _ _ _; unfold gsR; split <;> exact (Int.add_zero _).symm) (Nat.lt_succ_self _)
  · skip
    refine z_ws (ws' := [wO m 9 [.int (zI (m_status)), .int (zI (m_thrown)), .ref m_sheetSort, .ref m_sheetMany, .ref m_numbers, .int (zI (4)), .int (zI (0)), .int (zI (m_top)), .int (zI (m_round)), .int (zI (0)), .int (zI (0)), .int (zI (0)), .int (zI (0)), .ref m_dx, .ref m_dy, .ref m_weight, .ref m_isBarred, .ref m_walks, .ref m_one, .ref m_two, .ref m_light, .ref m_lightThen, .int (zI (m_family)), .ref m_fromX, .ref m_fromY, .ref m_toX, .ref m_toY, .int (zI (m_ruleMany)), .ref m_rule, .ref m_out, .int (zI (m_outs)), .ref m_grid, .ref m_heap, .ref m_ends, .ref m_power, .ref m_by2, .ref m_product, .ref m_levels, .ref m_row, .ref m_then, .ref m_equations], wI m_isBarred (zK C).2.2.2 3721 mb, wI m_dx (zK C).2.1 8 dx, wI m_dy (zK C).2.1 8 dy, wJ m_one (zK C).2.2.1 450241 one, wJ m_two (zK C).2.2.1 450241 two]) [2, 3, 4, 5, 0, 1] rfl rfl ?_
    exact z_vret hC hR dX9_goesOn_11 (Nat.le_of_ble_eq_true rfl) (Nat.le_of_ble_eq_true rfl) ⟨two, rfl, rfl, by intro t e w t0 _ _ _ _ _; unfold gsR; rw [if_neg (by omega), Int.add_zero]⟩
