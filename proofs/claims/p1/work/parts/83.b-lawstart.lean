def dfl9 : List Value := [.int (zI (0)), .int (zI (0)), .null, .null, .null, .int (zI (0)), .int (zI (0)), .int (zI (0)), .int (zI (0)), .int (zI (0)), .int (zI (0)), .int (zI (0)), .int (zI (0)), .null, .null, .null, .null, .null, .null, .null, .null, .null, .int (zI (0)), .null, .null, .null, .null, .int (zI (0)), .null, .null, .int (zI (0)), .null, .null, .null, .null, .null, .null, .null, .null, .null, .null]
theorem z_dfl9 : ∀ j, j < 41 → defaultValue (tyX9 j) = vp_V dfl9 j := z_dfX9
set_option maxHeartbeats 8000000 in
set_option maxRecDepth 100000 in
theorem law_start {nm : String} {C : zC} {zv : Nat → Int} {zs L : Nat} (hC : zOK C cL_law (yLw nm) wsL_law room_1 7) (hS : lwS C zs zv L) (hN : ∀ w ∈ zNl, zNw C w) (hX : zXc C) (hfl : (zl C).stackTraces = false) (hv : ∀ j, zR (zv j)) (hL : L ≤ 6) : ZW C 0 0 [] [(0, .ref zs)] 0 [] := by
  have hinX8 : ∀ w ∈ u_ws RX8 TX8 12, w ∈ wsL_law := by decide +kernel
  have hinX9 : ∀ w ∈ u_ws RX9 TX9 41, w ∈ wsL_law := by decide +kernel
  refine z_new (ci := 8) hC (T := TX8) (N := 12) hinX8 tyX8_ok [.null, .null, .null, .null, .null, .null, .null, .null, .int (zI (0)), .int (zI (0)), .null, .null] dL_law_0 (List.mem_of_getElem? (i := 0) rfl) (List.mem_of_getElem? (i := 1) rfl) (List.mem_of_getElem? (i := 2) rfl) rfl z_dfX8 (Nat.le_of_ble_eq_true rfl) (Nat.le_of_ble_eq_true rfl) (fun q_1 => ?_)
  show ZW C 1 12 [wO q_1 8 [.null, .null, .null, .null, .null, .null, .null, .null, .int (zI (0)), .int (zI (0)), .null, .null]] [(0, .ref zs)] 3 [.ref q_1]
  refine z_dup hC dL_law_3 rfl ?_
  refine z_callIZ hC [] 0 dL_law_4 (c_X8_init (zl C) (zD C) (zK C) q_1 ) gL_law_X8_init rfl rfl rfl ⟨by decide, by decide, by decide +kernel⟩ ⟨(Nat.le_of_ble_eq_true rfl), (Nat.le_of_ble_eq_true rfl)⟩ rfl hN rfl (List.mem_of_getElem? (i := 2) rfl) (List.mem_of_getElem? (i := 8) rfl) (List.mem_of_getElem? (i := 9) rfl) [0] [] [] [.ref q_1] rfl rfl rfl rfl rfl (by decide) (Nat.le_of_ble_eq_true rfl) ⟨(Nat.le_of_ble_eq_true rfl), (Nat.le_of_ble_eq_true rfl)⟩ ?_
  rintro v_ w_ ⟨sh_2, p_3, f_4, h_5, v_6, b_7, xshown_8, xpowers_9, sh_numbers_10, sh_sorts_11, sh_lengths_12, p_dx_13, p_dy_14, p_weights_15, p_leaps_16, p_barred_17, p_passable_18, f_xs_19, f_ys_20, f_row_21, f_square_22, h_now_23, h_then_24, v_terms_25, v_now_26, v_then_27, v_link_28, v_older_29, v_spare_30, v_parts_31, v_rest_32, v_product_33, v_keptParts_34, b_ends_35, len_36, dx_37, dy_38, we_39, lp_40, pas_41, rfl, rfl, hX8⟩
  show ZW C 35 14094 [wO q_1 8 [.ref sh_2, .ref p_3, .ref f_4, .ref h_5, .ref v_6, .ref b_7, .ref xshown_8, .ref xpowers_9, .int (zI (0)), .int (zI (0)), .null, .null], wO sh_2 5 [.ref sh_numbers_10, .ref sh_sorts_11, .ref sh_lengths_12], wI sh_numbers_10 (zK C).2.1 256 (fun _ => 0), wI sh_sorts_11 (zK C).2.1 4 (fun _ => 0), wI sh_lengths_12 (zK C).2.1 4 len_36, wO p_3 4 [.ref p_dx_13, .ref p_dy_14, .ref p_weights_15, .ref p_leaps_16, .int (zI (4)), .int (zI (0)), .int (zI (5)), .int (zI (6)), .int (zI (0)), .int (zI (0)), .int (zI (0)), .int (zI (0)), .int (zI (0)), .ref p_barred_17, .ref p_passable_18], wI p_dx_13 (zK C).2.1 8 dx_37, wI p_dy_14 (zK C).2.1 8 dy_38, wI p_weights_15 (zK C).2.1 8 we_39, wI p_leaps_16 (zK C).2.1 8 lp_40, wI p_barred_17 (zK C).1 4489 (fun _ => 0), wI p_passable_18 (zK C).1 4489 pas_41, wO f_4 1 [.ref f_xs_19, .ref f_ys_20, .ref f_row_21, .ref f_square_22, .int (zI (0))], wI f_xs_19 (zK C).2.1 8 (fun _ => 0), wI f_ys_20 (zK C).2.1 8 (fun _ => 0), wI f_row_21 (zK C).2.1 61 (fun _ => 0), wJ f_square_22 (zK C).2.2.1 16 (fun _ => 0), wO h_5 2 [.ref h_now_23, .ref h_then_24], wJ h_now_23 (zK C).2.2.1 121 (fun _ => 0), wJ h_then_24 (zK C).2.2.1 121 (fun _ => 0), wO v_6 3 [.ref v_terms_25, .ref v_now_26, .ref v_then_27, .ref v_link_28, .ref v_older_29, .ref v_spare_30, .ref v_parts_31, .ref v_rest_32, .ref v_product_33, .ref v_keptParts_34, .int (zI (0)), .int (zI (0))], wJ v_terms_25 (zK C).2.2.1 64 (fun _ => 0), wJ v_now_26 (zK C).2.2.1 31 (fun _ => 0), wJ v_then_27 (zK C).2.2.1 31 (fun _ => 0), wJ v_link_28 (zK C).2.2.1 64 (fun _ => 0), wJ v_older_29 (zK C).2.2.1 64 (fun _ => 0), wJ v_spare_30 (zK C).2.2.1 64 (fun _ => 0), wJ v_parts_31 (zK C).2.2.1 64 (fun _ => 0), wJ v_rest_32 (zK C).2.2.1 64 (fun _ => 0), wJ v_product_33 (zK C).2.2.1 64 (fun _ => 0), wI v_keptParts_34 (zK C).2.1 64 (fun _ => 0), wO b_7 0 [.ref b_ends_35, .int (zI (0))], wJ b_ends_35 (zK C).2.2.1 3782 (fun _ => 0), wI xshown_8 (zK C).2.1 60 (fun _ => 0), wI xpowers_9 (zK C).2.1 18 (fun _ => 0)] [(0, .ref zs)] 7 [.ref q_1]
  refine z_astore_n hC [(1, .ref q_1), (0, .ref zs)] dL_law_7 rfl (by decide) rfl ?_
  refine z_new (ci := 9) hC (T := TX9) (N := 41) hinX9 tyX9_ok dfl9 dL_law_8 (List.mem_of_getElem? (i := 3) rfl) (List.mem_of_getElem? (i := 4) rfl) (List.mem_of_getElem? (i := 5) rfl) rfl z_dfl9 (Nat.le_of_ble_eq_true rfl) (Nat.le_of_ble_eq_true rfl) (fun q_42 => ?_)
  show ZW C 36 14135 [wO q_1 8 [.ref sh_2, .ref p_3, .ref f_4, .ref h_5, .ref v_6, .ref b_7, .ref xshown_8, .ref xpowers_9, .int (zI (0)), .int (zI (0)), .null, .null], wO sh_2 5 [.ref sh_numbers_10, .ref sh_sorts_11, .ref sh_lengths_12], wI sh_numbers_10 (zK C).2.1 256 (fun _ => 0), wI sh_sorts_11 (zK C).2.1 4 (fun _ => 0), wI sh_lengths_12 (zK C).2.1 4 len_36, wO p_3 4 [.ref p_dx_13, .ref p_dy_14, .ref p_weights_15, .ref p_leaps_16, .int (zI (4)), .int (zI (0)), .int (zI (5)), .int (zI (6)), .int (zI (0)), .int (zI (0)), .int (zI (0)), .int (zI (0)), .int (zI (0)), .ref p_barred_17, .ref p_passable_18], wI p_dx_13 (zK C).2.1 8 dx_37, wI p_dy_14 (zK C).2.1 8 dy_38, wI p_weights_15 (zK C).2.1 8 we_39, wI p_leaps_16 (zK C).2.1 8 lp_40, wI p_barred_17 (zK C).1 4489 (fun _ => 0), wI p_passable_18 (zK C).1 4489 pas_41, wO f_4 1 [.ref f_xs_19, .ref f_ys_20, .ref f_row_21, .ref f_square_22, .int (zI (0))], wI f_xs_19 (zK C).2.1 8 (fun _ => 0), wI f_ys_20 (zK C).2.1 8 (fun _ => 0), wI f_row_21 (zK C).2.1 61 (fun _ => 0), wJ f_square_22 (zK C).2.2.1 16 (fun _ => 0), wO h_5 2 [.ref h_now_23, .ref h_then_24], wJ h_now_23 (zK C).2.2.1 121 (fun _ => 0), wJ h_then_24 (zK C).2.2.1 121 (fun _ => 0), wO v_6 3 [.ref v_terms_25, .ref v_now_26, .ref v_then_27, .ref v_link_28, .ref v_older_29, .ref v_spare_30, .ref v_parts_31, .ref v_rest_32, .ref v_product_33, .ref v_keptParts_34, .int (zI (0)), .int (zI (0))], wJ v_terms_25 (zK C).2.2.1 64 (fun _ => 0), wJ v_now_26 (zK C).2.2.1 31 (fun _ => 0), wJ v_then_27 (zK C).2.2.1 31 (fun _ => 0), wJ v_link_28 (zK C).2.2.1 64 (fun _ => 0), wJ v_older_29 (zK C).2.2.1 64 (fun _ => 0), wJ v_spare_30 (zK C).2.2.1 64 (fun _ => 0), wJ v_parts_31 (zK C).2.2.1 64 (fun _ => 0), wJ v_rest_32 (zK C).2.2.1 64 (fun _ => 0), wJ v_product_33 (zK C).2.2.1 64 (fun _ => 0), wI v_keptParts_34 (zK C).2.1 64 (fun _ => 0), wO b_7 0 [.ref b_ends_35, .int (zI (0))], wJ b_ends_35 (zK C).2.2.1 3782 (fun _ => 0), wI xshown_8 (zK C).2.1 60 (fun _ => 0), wI xpowers_9 (zK C).2.1 18 (fun _ => 0), wO q_42 9 [.int (zI (0)), .int (zI (0)), .null, .null, .null, .int (zI (0)), .int (zI (0)), .int (zI (0)), .int (zI (0)), .int (zI (0)), .int (zI (0)), .int (zI (0)), .int (zI (0)), .null, .null, .null, .null, .null, .null, .null, .null, .null, .int (zI (0)), .null, .null, .null, .null, .int (zI (0)), .null, .null, .int (zI (0)), .null, .null, .null, .null, .null, .null, .null, .null, .null, .null]] [(1, .ref q_1), (0, .ref zs)] 11 [.ref q_42]
  refine z_dup hC dL_law_11 rfl ?_
  refine z_callI hC [] 0 dL_law_12 (c_X9_init (zl C) (zD C) (zK C) q_42 ) gL_law_X9_init rfl rfl rfl ⟨by decide, by decide, by decide +kernel⟩ ⟨(Nat.le_of_ble_eq_true rfl), (Nat.le_of_ble_eq_true rfl)⟩ rfl rfl (List.mem_of_getElem? (i := 5) rfl) (List.mem_of_getElem? (i := 107) rfl) (List.mem_of_getElem? (i := 108) rfl) [35] [0, 1, 2, 3, 4, 5, 6, 7, 8, 9, 10, 11, 12, 13, 14, 15, 16, 17, 18, 19, 20, 21, 22, 23, 24, 25, 26, 27, 28, 29, 30, 31, 32, 33, 34] [wO q_1 8 [.ref sh_2, .ref p_3, .ref f_4, .ref h_5, .ref v_6, .ref b_7, .ref xshown_8, .ref xpowers_9, .int (zI (0)), .int (zI (0)), .null, .null], wO sh_2 5 [.ref sh_numbers_10, .ref sh_sorts_11, .ref sh_lengths_12], wI sh_numbers_10 (zK C).2.1 256 (fun _ => 0), wI sh_sorts_11 (zK C).2.1 4 (fun _ => 0), wI sh_lengths_12 (zK C).2.1 4 len_36, wO p_3 4 [.ref p_dx_13, .ref p_dy_14, .ref p_weights_15, .ref p_leaps_16, .int (zI (4)), .int (zI (0)), .int (zI (5)), .int (zI (6)), .int (zI (0)), .int (zI (0)), .int (zI (0)), .int (zI (0)), .int (zI (0)), .ref p_barred_17, .ref p_passable_18], wI p_dx_13 (zK C).2.1 8 dx_37, wI p_dy_14 (zK C).2.1 8 dy_38, wI p_weights_15 (zK C).2.1 8 we_39, wI p_leaps_16 (zK C).2.1 8 lp_40, wI p_barred_17 (zK C).1 4489 (fun _ => 0), wI p_passable_18 (zK C).1 4489 pas_41, wO f_4 1 [.ref f_xs_19, .ref f_ys_20, .ref f_row_21, .ref f_square_22, .int (zI (0))], wI f_xs_19 (zK C).2.1 8 (fun _ => 0), wI f_ys_20 (zK C).2.1 8 (fun _ => 0), wI f_row_21 (zK C).2.1 61 (fun _ => 0), wJ f_square_22 (zK C).2.2.1 16 (fun _ => 0), wO h_5 2 [.ref h_now_23, .ref h_then_24], wJ h_now_23 (zK C).2.2.1 121 (fun _ => 0), wJ h_then_24 (zK C).2.2.1 121 (fun _ => 0), wO v_6 3 [.ref v_terms_25, .ref v_now_26, .ref v_then_27, .ref v_link_28, .ref v_older_29, .ref v_spare_30, .ref v_parts_31, .ref v_rest_32, .ref v_product_33, .ref v_keptParts_34, .int (zI (0)), .int (zI (0))], wJ v_terms_25 (zK C).2.2.1 64 (fun _ => 0), wJ v_now_26 (zK C).2.2.1 31 (fun _ => 0), wJ v_then_27 (zK C).2.2.1 31 (fun _ => 0), wJ v_link_28 (zK C).2.2.1 64 (fun _ => 0), wJ v_older_29 (zK C).2.2.1 64 (fun _ => 0), wJ v_spare_30 (zK C).2.2.1 64 (fun _ => 0), wJ v_parts_31 (zK C).2.2.1 64 (fun _ => 0), wJ v_rest_32 (zK C).2.2.1 64 (fun _ => 0), wJ v_product_33 (zK C).2.2.1 64 (fun _ => 0), wI v_keptParts_34 (zK C).2.1 64 (fun _ => 0), wO b_7 0 [.ref b_ends_35, .int (zI (0))], wJ b_ends_35 (zK C).2.2.1 3782 (fun _ => 0), wI xshown_8 (zK C).2.1 60 (fun _ => 0), wI xpowers_9 (zK C).2.1 18 (fun _ => 0)] [.ref q_42] rfl rfl rfl rfl rfl (by decide) (Nat.le_of_ble_eq_true rfl) ⟨(Nat.le_of_ble_eq_true rfl), (Nat.le_of_ble_eq_true rfl)⟩ ?_
  rintro v_ w_ ⟨m_sheetSort_43, m_sheetMany_44, m_numbers_45, m_dx_46, m_dy_47, m_weight_48, m_isBarred_49, m_walks_50, m_one_51, m_two_52, m_light_53, m_lightThen_54, m_fromX_55, m_fromY_56, m_toX_57, m_toY_58, m_rule_59, m_out_60, m_grid_61, m_heap_62, m_ends_63, m_power_64, m_by2_65, m_product_66, m_levels_67, m_row_68, m_then_69, m_equations_70, mny_71, mdx_72, mdy_73, mwe_74, rfl, rfl, hX9⟩
  show ZW C 64 1219756 [wO q_1 8 [.ref sh_2, .ref p_3, .ref f_4, .ref h_5, .ref v_6, .ref b_7, .ref xshown_8, .ref xpowers_9, .int (zI (0)), .int (zI (0)), .null, .null], wO sh_2 5 [.ref sh_numbers_10, .ref sh_sorts_11, .ref sh_lengths_12], wI sh_numbers_10 (zK C).2.1 256 (fun _ => 0), wI sh_sorts_11 (zK C).2.1 4 (fun _ => 0), wI sh_lengths_12 (zK C).2.1 4 len_36, wO p_3 4 [.ref p_dx_13, .ref p_dy_14, .ref p_weights_15, .ref p_leaps_16, .int (zI (4)), .int (zI (0)), .int (zI (5)), .int (zI (6)), .int (zI (0)), .int (zI (0)), .int (zI (0)), .int (zI (0)), .int (zI (0)), .ref p_barred_17, .ref p_passable_18], wI p_dx_13 (zK C).2.1 8 dx_37, wI p_dy_14 (zK C).2.1 8 dy_38, wI p_weights_15 (zK C).2.1 8 we_39, wI p_leaps_16 (zK C).2.1 8 lp_40, wI p_barred_17 (zK C).1 4489 (fun _ => 0), wI p_passable_18 (zK C).1 4489 pas_41, wO f_4 1 [.ref f_xs_19, .ref f_ys_20, .ref f_row_21, .ref f_square_22, .int (zI (0))], wI f_xs_19 (zK C).2.1 8 (fun _ => 0), wI f_ys_20 (zK C).2.1 8 (fun _ => 0), wI f_row_21 (zK C).2.1 61 (fun _ => 0), wJ f_square_22 (zK C).2.2.1 16 (fun _ => 0), wO h_5 2 [.ref h_now_23, .ref h_then_24], wJ h_now_23 (zK C).2.2.1 121 (fun _ => 0), wJ h_then_24 (zK C).2.2.1 121 (fun _ => 0), wO v_6 3 [.ref v_terms_25, .ref v_now_26, .ref v_then_27, .ref v_link_28, .ref v_older_29, .ref v_spare_30, .ref v_parts_31, .ref v_rest_32, .ref v_product_33, .ref v_keptParts_34, .int (zI (0)), .int (zI (0))], wJ v_terms_25 (zK C).2.2.1 64 (fun _ => 0), wJ v_now_26 (zK C).2.2.1 31 (fun _ => 0), wJ v_then_27 (zK C).2.2.1 31 (fun _ => 0), wJ v_link_28 (zK C).2.2.1 64 (fun _ => 0), wJ v_older_29 (zK C).2.2.1 64 (fun _ => 0), wJ v_spare_30 (zK C).2.2.1 64 (fun _ => 0), wJ v_parts_31 (zK C).2.2.1 64 (fun _ => 0), wJ v_rest_32 (zK C).2.2.1 64 (fun _ => 0), wJ v_product_33 (zK C).2.2.1 64 (fun _ => 0), wI v_keptParts_34 (zK C).2.1 64 (fun _ => 0), wO b_7 0 [.ref b_ends_35, .int (zI (0))], wJ b_ends_35 (zK C).2.2.1 3782 (fun _ => 0), wI xshown_8 (zK C).2.1 60 (fun _ => 0), wI xpowers_9 (zK C).2.1 18 (fun _ => 0), wO q_42 9 [.int (zI (0)), .int (zI (0)), .ref m_sheetSort_43, .ref m_sheetMany_44, .ref m_numbers_45, .int (zI (4)), .int (zI (0)), .int (zI (5)), .int (zI (6)), .int (zI (0)), .int (zI (0)), .int (zI (0)), .int (zI (0)), .ref m_dx_46, .ref m_dy_47, .ref m_weight_48, .ref m_isBarred_49, .ref m_walks_50, .ref m_one_51, .ref m_two_52, .ref m_light_53, .ref m_lightThen_54, .int (zI (0)), .ref m_fromX_55, .ref m_fromY_56, .ref m_toX_57, .ref m_toY_58, .int (zI ((-1))), .ref m_rule_59, .ref m_out_60, .int (zI (0)), .ref m_grid_61, .ref m_heap_62, .ref m_ends_63, .ref m_power_64, .ref m_by2_65, .ref m_product_66, .ref m_levels_67, .ref m_row_68, .ref m_then_69, .ref m_equations_70], wI m_sheetSort_43 (zK C).2.1 4 (fun _ => 0), wI m_sheetMany_44 (zK C).2.1 4 mny_71, wI m_numbers_45 (zK C).2.1 256 (fun _ => 0), wI m_dx_46 (zK C).2.1 8 mdx_72, wI m_dy_47 (zK C).2.1 8 mdy_73, wI m_weight_48 (zK C).2.1 8 mwe_74, wI m_isBarred_49 (zK C).2.2.2 3721 (fun _ => 0), wJ m_walks_50 (zK C).2.2.1 226981 (fun _ => 0), wJ m_one_51 (zK C).2.2.1 450241 (fun _ => 0), wJ m_two_52 (zK C).2.2.1 450241 (fun _ => 0), wI m_light_53 (zK C).2.1 29768 (fun _ => 0), wI m_lightThen_54 (zK C).2.1 29768 (fun _ => 0), wI m_fromX_55 (zK C).2.1 4 (fun _ => 0), wI m_fromY_56 (zK C).2.1 4 (fun _ => 0), wI m_toX_57 (zK C).2.1 4 (fun _ => 0), wI m_toY_58 (zK C).2.1 4 (fun _ => 0), wJ m_rule_59 (zK C).2.2.1 64 (fun _ => 0), wI m_out_60 (zK C).1 64 (fun _ => 0), wJ m_grid_61 (zK C).2.2.1 16 (fun _ => 0), wI m_heap_62 (zK C).2.1 5550 (fun _ => 0), wJ m_ends_63 (zK C).2.2.1 3782 (fun _ => 0), wJ m_power_64 (zK C).2.2.1 961 (fun _ => 0), wJ m_by2_65 (zK C).2.2.1 961 (fun _ => 0), wJ m_product_66 (zK C).2.2.1 961 (fun _ => 0), wJ m_levels_67 (zK C).2.2.1 128 (fun _ => 0), wJ m_row_68 (zK C).2.2.1 31 (fun _ => 0), wJ m_then_69 (zK C).2.2.1 31 (fun _ => 0), wJ m_equations_70 (zK C).2.2.1 2048 (fun _ => 0)] [(1, .ref q_1), (0, .ref zs)] 15 [.ref q_42]
  refine z_astore_n hC [(2, .ref q_42), (1, .ref q_1), (0, .ref zs)] dL_law_15 rfl (by decide) rfl ?_
  refine z_iconst hC dL_law_16 ?_
  refine z_newaJ hC 1 dL_law_17 (List.mem_of_getElem? (i := 6) rfl) rfl (Nat.le_of_ble_eq_true rfl) (Nat.le_of_ble_eq_true rfl) (Nat.le_of_ble_eq_true rfl) (fun q_75 => ?_)
  show ZW C 65 1219757 [wO q_1 8 [.ref sh_2, .ref p_3, .ref f_4, .ref h_5, .ref v_6, .ref b_7, .ref xshown_8, .ref xpowers_9, .int (zI (0)), .int (zI (0)), .null, .null], wO sh_2 5 [.ref sh_numbers_10, .ref sh_sorts_11, .ref sh_lengths_12], wI sh_numbers_10 (zK C).2.1 256 (fun _ => 0), wI sh_sorts_11 (zK C).2.1 4 (fun _ => 0), wI sh_lengths_12 (zK C).2.1 4 len_36, wO p_3 4 [.ref p_dx_13, .ref p_dy_14, .ref p_weights_15, .ref p_leaps_16, .int (zI (4)), .int (zI (0)), .int (zI (5)), .int (zI (6)), .int (zI (0)), .int (zI (0)), .int (zI (0)), .int (zI (0)), .int (zI (0)), .ref p_barred_17, .ref p_passable_18], wI p_dx_13 (zK C).2.1 8 dx_37, wI p_dy_14 (zK C).2.1 8 dy_38, wI p_weights_15 (zK C).2.1 8 we_39, wI p_leaps_16 (zK C).2.1 8 lp_40, wI p_barred_17 (zK C).1 4489 (fun _ => 0), wI p_passable_18 (zK C).1 4489 pas_41, wO f_4 1 [.ref f_xs_19, .ref f_ys_20, .ref f_row_21, .ref f_square_22, .int (zI (0))], wI f_xs_19 (zK C).2.1 8 (fun _ => 0), wI f_ys_20 (zK C).2.1 8 (fun _ => 0), wI f_row_21 (zK C).2.1 61 (fun _ => 0), wJ f_square_22 (zK C).2.2.1 16 (fun _ => 0), wO h_5 2 [.ref h_now_23, .ref h_then_24], wJ h_now_23 (zK C).2.2.1 121 (fun _ => 0), wJ h_then_24 (zK C).2.2.1 121 (fun _ => 0), wO v_6 3 [.ref v_terms_25, .ref v_now_26, .ref v_then_27, .ref v_link_28, .ref v_older_29, .ref v_spare_30, .ref v_parts_31, .ref v_rest_32, .ref v_product_33, .ref v_keptParts_34, .int (zI (0)), .int (zI (0))], wJ v_terms_25 (zK C).2.2.1 64 (fun _ => 0), wJ v_now_26 (zK C).2.2.1 31 (fun _ => 0), wJ v_then_27 (zK C).2.2.1 31 (fun _ => 0), wJ v_link_28 (zK C).2.2.1 64 (fun _ => 0), wJ v_older_29 (zK C).2.2.1 64 (fun _ => 0), wJ v_spare_30 (zK C).2.2.1 64 (fun _ => 0), wJ v_parts_31 (zK C).2.2.1 64 (fun _ => 0), wJ v_rest_32 (zK C).2.2.1 64 (fun _ => 0), wJ v_product_33 (zK C).2.2.1 64 (fun _ => 0), wI v_keptParts_34 (zK C).2.1 64 (fun _ => 0), wO b_7 0 [.ref b_ends_35, .int (zI (0))], wJ b_ends_35 (zK C).2.2.1 3782 (fun _ => 0), wI xshown_8 (zK C).2.1 60 (fun _ => 0), wI xpowers_9 (zK C).2.1 18 (fun _ => 0), wO q_42 9 [.int (zI (0)), .int (zI (0)), .ref m_sheetSort_43, .ref m_sheetMany_44, .ref m_numbers_45, .int (zI (4)), .int (zI (0)), .int (zI (5)), .int (zI (6)), .int (zI (0)), .int (zI (0)), .int (zI (0)), .int (zI (0)), .ref m_dx_46, .ref m_dy_47, .ref m_weight_48, .ref m_isBarred_49, .ref m_walks_50, .ref m_one_51, .ref m_two_52, .ref m_light_53, .ref m_lightThen_54, .int (zI (0)), .ref m_fromX_55, .ref m_fromY_56, .ref m_toX_57, .ref m_toY_58, .int (zI ((-1))), .ref m_rule_59, .ref m_out_60, .int (zI (0)), .ref m_grid_61, .ref m_heap_62, .ref m_ends_63, .ref m_power_64, .ref m_by2_65, .ref m_product_66, .ref m_levels_67, .ref m_row_68, .ref m_then_69, .ref m_equations_70], wI m_sheetSort_43 (zK C).2.1 4 (fun _ => 0), wI m_sheetMany_44 (zK C).2.1 4 mny_71, wI m_numbers_45 (zK C).2.1 256 (fun _ => 0), wI m_dx_46 (zK C).2.1 8 mdx_72, wI m_dy_47 (zK C).2.1 8 mdy_73, wI m_weight_48 (zK C).2.1 8 mwe_74, wI m_isBarred_49 (zK C).2.2.2 3721 (fun _ => 0), wJ m_walks_50 (zK C).2.2.1 226981 (fun _ => 0), wJ m_one_51 (zK C).2.2.1 450241 (fun _ => 0), wJ m_two_52 (zK C).2.2.1 450241 (fun _ => 0), wI m_light_53 (zK C).2.1 29768 (fun _ => 0), wI m_lightThen_54 (zK C).2.1 29768 (fun _ => 0), wI m_fromX_55 (zK C).2.1 4 (fun _ => 0), wI m_fromY_56 (zK C).2.1 4 (fun _ => 0), wI m_toX_57 (zK C).2.1 4 (fun _ => 0), wI m_toY_58 (zK C).2.1 4 (fun _ => 0), wJ m_rule_59 (zK C).2.2.1 64 (fun _ => 0), wI m_out_60 (zK C).1 64 (fun _ => 0), wJ m_grid_61 (zK C).2.2.1 16 (fun _ => 0), wI m_heap_62 (zK C).2.1 5550 (fun _ => 0), wJ m_ends_63 (zK C).2.2.1 3782 (fun _ => 0), wJ m_power_64 (zK C).2.2.1 961 (fun _ => 0), wJ m_by2_65 (zK C).2.2.1 961 (fun _ => 0), wJ m_product_66 (zK C).2.2.1 961 (fun _ => 0), wJ m_levels_67 (zK C).2.2.1 128 (fun _ => 0), wJ m_row_68 (zK C).2.2.1 31 (fun _ => 0), wJ m_then_69 (zK C).2.2.1 31 (fun _ => 0), wJ m_equations_70 (zK C).2.2.1 2048 (fun _ => 0), wJ q_75 (zK C).2.2.1 1 (fun _ => 0)] [(2, .ref q_42), (1, .ref q_1), (0, .ref zs)] 19 [.ref q_75]
  refine z_astore_n hC [(3, .ref q_75), (2, .ref q_42), (1, .ref q_1), (0, .ref zs)] dL_law_19 rfl (by decide) rfl ?_
  refine z_iconst hC dL_law_20 ?_
  refine z_istore hC [(4, .int (zI (0))), (3, .ref q_75), (2, .ref q_42), (1, .ref q_1), (0, .ref zs)] dL_law_21 (by decide) rfl ?_
  by_cases hL6 : L = 6
  case neg => exact law_exit (i := 0) hC hS 0 4 rfl rfl (by omega) (by omega) (Nat.le_of_ble_eq_true rfl) (Nat.le_of_ble_eq_true rfl)
  subst hL6
  refine z_lv (lv' := [(0, .ref zs), (1, .ref q_1), (2, .ref q_42), (3, .ref q_75), (4, .int (zI (0)))]) [4, 3, 2, 1, 0] rfl ?_
  obtain ⟨hlen, hdxc, hdyc, hwe, hlp, hpz⟩ := hX8
  obtain ⟨hmny, hdx, hdy, hmwe⟩ := hX9
  have hv0 := hv 0
  refine z_iload hC 4 dL_law_23 rfl ?_
  refine z_aload_n hC 0 dL_law_25 rfl rfl ?_
  refine hS.2.1 _ _ _ _ _ _ dL_law_26 ?_
  refine z_bipush hC dL_law_27 (by decide) ?_
  refine z_isub hC (0) dL_law_29 (by decide) ?_
  refine z_icgt hC 1664 dL_law_30 (by decide) (by omega) (fun c_76 => by exfalso; omega) (fun c_76 => ?_)
  refine z_aload_n hC 0 dL_law_33 rfl rfl ?_
  refine z_iload hC 4 dL_law_34 rfl ?_
  refine hS.1 _ _ _ _ _ _ (j := 0) dL_law_36 (by decide) ?_
  refine z_bipush hC dL_law_37 (by decide) ?_
  refine z_iand64 hC dL_law_39 ?_
  rcases (show ((zv 0) % 64 < 0 ∨ 35 < (zv 0) % 64) ∨ (zv 0) % 64 = 0 ∨ (zv 0) % 64 = 1 ∨ (zv 0) % 64 = 2 ∨ (zv 0) % 64 = 3 ∨ (zv 0) % 64 = 4 ∨ (zv 0) % 64 = 5 ∨ (zv 0) % 64 = 6 ∨ (zv 0) % 64 = 7 ∨ (zv 0) % 64 = 8 ∨ (zv 0) % 64 = 9 ∨ (zv 0) % 64 = 10 ∨ (zv 0) % 64 = 11 ∨ (zv 0) % 64 = 12 ∨ (zv 0) % 64 = 13 ∨ (zv 0) % 64 = 14 ∨ (zv 0) % 64 = 15 ∨ (zv 0) % 64 = 16 ∨ (zv 0) % 64 = 17 ∨ (zv 0) % 64 = 18 ∨ (zv 0) % 64 = 19 ∨ (zv 0) % 64 = 20 ∨ (zv 0) % 64 = 21 ∨ (zv 0) % 64 = 22 ∨ (zv 0) % 64 = 23 ∨ (zv 0) % 64 = 24 ∨ (zv 0) % 64 = 25 ∨ (zv 0) % 64 = 26 ∨ (zv 0) % 64 = 27 ∨ (zv 0) % 64 = 28 ∨ (zv 0) % 64 = 29 ∨ (zv 0) % 64 = 30 ∨ (zv 0) % 64 = 31 ∨ (zv 0) % 64 = 32 ∨ (zv 0) % 64 = 33 ∨ (zv 0) % 64 = 34 ∨ (zv 0) % 64 = 35 by omega) with sw_77 | sw_77 | sw_77 | sw_77 | sw_77 | sw_77 | sw_77 | sw_77 | sw_77 | sw_77 | sw_77 | sw_77 | sw_77 | sw_77 | sw_77 | sw_77 | sw_77 | sw_77 | sw_77 | sw_77 | sw_77 | sw_77 | sw_77 | sw_77 | sw_77 | sw_77 | sw_77 | sw_77 | sw_77 | sw_77 | sw_77 | sw_77 | sw_77 | sw_77 | sw_77 | sw_77 | sw_77
  · refine z_tableOut hC dL_law_40 sw_77 (by omega) 1658 (by decide) ?_
    refine z_iinc (a := 0) (v := 6) (r := 6) hC 4 [(4, .int (zI (6))), (0, .ref zs), (1, .ref q_1), (2, .ref q_42), (3, .ref q_75)] dL_law_1658 rfl (by decide) (by decide) rfl ?_
    refine z_goto hC 23 dL_law_1661 (by decide) ?_
    exact law_exit (i := 6) hC hS 0 1 rfl rfl (by decide) (by decide) (Nat.le_of_ble_eq_true rfl) (Nat.le_of_ble_eq_true rfl)
  · refine z_tableIn hC 0 dL_law_40 sw_77 (by decide) (by decide) (by decide) rfl 200 (by decide) ?_
    exact law_c0 hC hS hv hlen hpz hlp hdxc hdyc hwe hmny hdx hdy hmwe
  · refine z_tableIn hC 1 dL_law_40 sw_77 (by decide) (by decide) (by decide) rfl 213 (by decide) ?_
    exact law_c1 hC hS hv hlen hpz hlp hdxc hdyc hwe hmny hdx hdy hmwe
  · refine z_tableIn hC 2 dL_law_40 sw_77 (by decide) (by decide) (by decide) rfl 262 (by decide) ?_
    exact law_c2 hC hS hv hlen hpz hlp hdxc hdyc hwe hmny hdx hdy hmwe
  · refine z_tableIn hC 3 dL_law_40 sw_77 (by decide) (by decide) (by decide) rfl 311 (by decide) ?_
    exact law_c3 hC hS hv hlen hpz hlp hdxc hdyc hwe hmny hdx hdy hmwe
  · refine z_tableIn hC 4 dL_law_40 sw_77 (by decide) (by decide) (by decide) rfl 348 (by decide) ?_
    exact law_c4 hC hS hv hlen hpz hlp hdxc hdyc hwe hmny hdx hdy hmwe
  · refine z_tableIn hC 5 dL_law_40 sw_77 (by decide) (by decide) (by decide) rfl 421 (by decide) ?_
    exact law_c5 hC hS hv hlen hpz hlp hdxc hdyc hwe hmny hdx hdy hmwe
  · refine z_tableIn hC 6 dL_law_40 sw_77 (by decide) (by decide) (by decide) rfl 458 (by decide) ?_
    exact law_c6 hC hS hv hlen hpz hlp hdxc hdyc hwe hmny hdx hdy hmwe
  · refine z_tableIn hC 7 dL_law_40 sw_77 (by decide) (by decide) (by decide) rfl 495 (by decide) ?_
    exact law_c7 hC hS hv hlen hpz hlp hdxc hdyc hwe hmny hdx hdy hmwe
  · refine z_tableIn hC 8 dL_law_40 sw_77 (by decide) (by decide) (by decide) rfl 532 (by decide) ?_
    exact law_c8 hC hS hv hlen hpz hlp hdxc hdyc hwe hmny hdx hdy hmwe
  · refine z_tableIn hC 9 dL_law_40 sw_77 (by decide) (by decide) (by decide) rfl 569 (by decide) ?_
    exact law_c9 hC hS hv hlen hpz hlp hdxc hdyc hwe hmny hdx hdy hmwe
  · refine z_tableIn hC 10 dL_law_40 sw_77 (by decide) (by decide) (by decide) rfl 634 (by decide) ?_
    exact law_c10 hC hS hv hlen hpz hlp hdxc hdyc hwe hmny hdx hdy hmwe
  · refine z_tableIn hC 11 dL_law_40 sw_77 (by decide) (by decide) (by decide) rfl 671 (by decide) ?_
    exact law_c11 hC hS hv hlen hpz hlp hdxc hdyc hwe hmny hdx hdy hmwe
  · refine z_tableIn hC 12 dL_law_40 sw_77 (by decide) (by decide) (by decide) rfl 708 (by decide) ?_
    exact law_c12 hC hS hv hlen hpz hlp hdxc hdyc hwe hmny hdx hdy hmwe
  · refine z_tableIn hC 13 dL_law_40 sw_77 (by decide) (by decide) (by decide) rfl 745 (by decide) ?_
    exact law_c13 hC hS hv hlen hpz hlp hdxc hdyc hwe hmny hdx hdy hmwe
  · refine z_tableIn hC 14 dL_law_40 sw_77 (by decide) (by decide) (by decide) rfl 782 (by decide) ?_
    exact law_c14 hC hS hv hlen hpz hlp hdxc hdyc hwe hmny hdx hdy hmwe
  · refine z_tableIn hC 15 dL_law_40 sw_77 (by decide) (by decide) (by decide) rfl 808 (by decide) ?_
    exact law_c15 hC hS hv hlen hpz hlp hdxc hdyc hwe hmny hdx hdy hmwe
  · refine z_tableIn hC 16 dL_law_40 sw_77 (by decide) (by decide) (by decide) rfl 834 (by decide) ?_
    exact law_c16 hC hS hv hlen hpz hlp hdxc hdyc hwe hmny hdx hdy hmwe
  · refine z_tableIn hC 17 dL_law_40 sw_77 (by decide) (by decide) (by decide) rfl 847 (by decide) ?_
    exact law_c17 hC hS hv hlen hpz hlp hdxc hdyc hwe hmny hdx hdy hmwe
  · refine z_tableIn hC 18 dL_law_40 sw_77 (by decide) (by decide) (by decide) rfl 897 (by decide) ?_
    exact law_c18 hC hS hv hlen hpz hlp hdxc hdyc hwe hmny hdx hdy hmwe
  · refine z_tableIn hC 19 dL_law_40 sw_77 (by decide) (by decide) (by decide) rfl 962 (by decide) ?_
    exact law_c19 hC hS hv hlen hpz hlp hdxc hdyc hwe hmny hdx hdy hmwe
  · refine z_tableIn hC 20 dL_law_40 sw_77 (by decide) (by decide) (by decide) rfl 1031 (by decide) ?_
    exact law_c20 hC hS hv hlen hpz hlp hdxc hdyc hwe hmny hdx hdy hmwe
  · refine z_tableIn hC 21 dL_law_40 sw_77 (by decide) (by decide) (by decide) rfl 1069 (by decide) ?_
    exact law_c21 hC hS hv hlen hpz hlp hdxc hdyc hwe hmny hdx hdy hmwe
  · refine z_tableIn hC 22 dL_law_40 sw_77 (by decide) (by decide) (by decide) rfl 1107 (by decide) ?_
    exact law_c22 hC hS hv hlen hpz hlp hdxc hdyc hwe hmny hdx hdy hmwe
  · refine z_tableIn hC 23 dL_law_40 sw_77 (by decide) (by decide) (by decide) rfl 1145 (by decide) ?_
    exact law_c23 hC hS hv hlen hpz hlp hdxc hdyc hwe hmny hdx hdy hmwe
  · refine z_tableIn hC 24 dL_law_40 sw_77 (by decide) (by decide) (by decide) rfl 1171 (by decide) ?_
    exact law_c24 hC hS hv hlen hpz hlp hdxc hdyc hwe hmny hdx hdy hmwe
  · refine z_tableIn hC 25 dL_law_40 sw_77 (by decide) (by decide) (by decide) rfl 1197 (by decide) ?_
    exact law_c25 hC hS hv hlen hpz hlp hdxc hdyc hwe hmny hdx hdy hmwe
  · refine z_tableIn hC 26 dL_law_40 sw_77 (by decide) (by decide) (by decide) rfl 1222 (by decide) ?_
    exact law_c26 hC hS hv hlen hpz hlp hdxc hdyc hwe hmny hdx hdy hmwe
  · refine z_tableIn hC 27 dL_law_40 sw_77 (by decide) (by decide) (by decide) rfl 1299 (by decide) ?_
    exact law_c27 hC hS hv hlen hpz hlp hdxc hdyc hwe hmny hdx hdy hmwe
  · refine z_tableIn hC 28 dL_law_40 sw_77 (by decide) (by decide) (by decide) rfl 1336 (by decide) ?_
    exact law_c28 hC hS hv hlen hpz hlp hdxc hdyc hwe hmny hdx hdy hmwe
  · refine z_tableIn hC 29 dL_law_40 sw_77 (by decide) (by decide) (by decide) rfl 1350 (by decide) ?_
    exact law_c29 hC hS hv hlen hpz hlp hdxc hdyc hwe hmny hdx hdy hmwe
  · refine z_tableIn hC 30 dL_law_40 sw_77 (by decide) (by decide) (by decide) rfl 1400 (by decide) ?_
    exact law_c30 hC hS hv hlen hpz hlp hdxc hdyc hwe hmny hdx hdy hmwe
  · refine z_tableIn hC 31 dL_law_40 sw_77 (by decide) (by decide) (by decide) rfl 1469 (by decide) ?_
    exact law_c31 hC hS hv hlen hpz hlp hdxc hdyc hwe hmny hdx hdy hmwe
  · refine z_tableIn hC 32 dL_law_40 sw_77 (by decide) (by decide) (by decide) rfl 1507 (by decide) ?_
    exact law_c32 hC hS hv hlen hpz hlp hdxc hdyc hwe hmny hdx hdy hmwe
  · refine z_tableIn hC 33 dL_law_40 sw_77 (by decide) (by decide) (by decide) rfl 1564 (by decide) ?_
    exact law_c33 hC hS hv hlen hpz hlp hdxc hdyc hwe hmny hdx hdy hmwe
  · refine z_tableIn hC 34 dL_law_40 sw_77 (by decide) (by decide) (by decide) rfl 1577 (by decide) ?_
    exact law_c34 hC hS hv hlen hpz hlp hdxc hdyc hwe hmny hdx hdy hmwe
  · refine z_tableIn hC 35 dL_law_40 sw_77 (by decide) (by decide) (by decide) rfl 1602 (by decide) ?_
    exact law_c35 hC hS hv hlen hpz hlp hdxc hdyc hwe hmny hdx hdy hmwe hX hfl
set_option maxHeartbeats 4000000 in
set_option maxRecDepth 100000 in
theorem whole_start {p : Program} {e : Env} {s : State} {m : MethodId} {below : List Frame} {meth : Method} {c : Code} (l : Launch) (hflags : l.flags = flags0) {b L : Nat} {xs : Nat → Int32} (hL : L ≤ 6) (C0 : lw_At p s m meth c b L xs) : W p l e room_1 s m #[Value.ref b] below meth c s.heap [] 0 0 (lw_Z below #[Value.ref b] s) (entryFrame m ([Value.ref b] : List Value).toArray 7) := by
  obtain ⟨hx, hb, hr, hml, hown, hts, hX, hbl, hlocks, hgv⟩ := id C0
  have hA : ∀ q : Nat, s.heap.size ≤ q → (fun q : Nat => s.heap.size ≤ q) q := fun _ h => h
  have hbA : ¬ (fun q : Nat => s.heap.size ≤ q) b := Nat.not_le.mpr hbl
  have htl : ∀ w ∈ wsL_law, w.before #[Value.ref b] s = true := fun w hw => hts w (wsL_law_in w hw)
  obtain ⟨c0, iS0, hKn0⟩ := u_known (C := RX0) (T := TX0) (N := 2) (n := 2) hts lwi_wsX00 (htl _ (List.mem_of_getElem? (i := 35) rfl))
  obtain ⟨c1, iS1, hKn1⟩ := u_known (C := RX1) (T := TX1) (N := 5) (n := 5) hts lwi_wsX10 (htl _ (List.mem_of_getElem? (i := 23) rfl))
  obtain ⟨c2, iS2, hKn2⟩ := u_known (C := RX2) (T := TX2) (N := 2) (n := 2) hts lwi_wsX20 (htl _ (List.mem_of_getElem? (i := 27) rfl))
  obtain ⟨c3, iS3, hKn3⟩ := u_known (C := RX3) (T := TX3) (N := 12) (n := 12) hts lwi_wsX30 (htl _ (List.mem_of_getElem? (i := 31) rfl))
  obtain ⟨c4, iS4, hKn4⟩ := u_known (C := RX4) (T := TX4) (N := 15) (n := 15) hts lwi_wsX40 (htl _ (List.mem_of_getElem? (i := 19) rfl))
  obtain ⟨c5, iS5, hKn5⟩ := u_known (C := RX5) (T := TX5) (N := 3) (n := 3) hts lwi_wsX50 (htl _ (List.mem_of_getElem? (i := 15) rfl))
  obtain ⟨c6, iS6, hKn6⟩ := u_known (C := RX6) (T := TX6) (N := 4) (n := 4) hts lwi_wsX60 (htl _ (List.mem_of_getElem? (i := 450) rfl))
  obtain ⟨c7, iS7, hKn7⟩ := u_known (C := RX7) (T := TX7) (N := 14) (n := 14) hts lwi_wsX70 (htl _ (List.mem_of_getElem? (i := 597) rfl))
  obtain ⟨c8, iS8, hKn8⟩ := u_known (C := RX8) (T := TX8) (N := 12) (n := 12) hts lwi_wsX80 (htl _ (List.mem_of_getElem? (i := 1) rfl))
  obtain ⟨c9, iS9, hKn9⟩ := u_known (C := RX9) (T := TX9) (N := 41) (n := 41) hts lwi_wsX90 (htl _ (List.mem_of_getElem? (i := 4) rfl))
  obtain ⟨dC, dI, hKc⟩ : ∃ (dC : Nat → ClassId) (dI : Nat → Nat → Nat), ∀ (k : Nat) (q : vw_C), vwCl[k]? = some q → u_Kn s q.1 q.2.1 q.2.2 (dC k) (dI k) := by
    refine ⟨fun k => match k with | 0 => c0 | 1 => c1 | 2 => c2 | 3 => c3 | 4 => c4 | 5 => c5 | 6 => c6 | 7 => c7 | 8 => c8 | _ => c9, fun k => match k with | 0 => iS0 | 1 => iS1 | 2 => iS2 | 3 => iS3 | 4 => iS4 | 5 => iS5 | 6 => iS6 | 7 => iS7 | 8 => iS8 | _ => iS9, ?_⟩
    intro k q hq
    match k, hq with
    | 0, hq => cases hq; exact hKn0
    | 1, hq => cases hq; exact hKn1
    | 2, hq => cases hq; exact hKn2
    | 3, hq => cases hq; exact hKn3
    | 4, hq => cases hq; exact hKn4
    | 5, hq => cases hq; exact hKn5
    | 6, hq => cases hq; exact hKn6
    | 7, hq => cases hq; exact hKn7
    | 8, hq => cases hq; exact hKn8
    | 9, hq => cases hq; exact hKn9
    | k + 10, hq => simp [vwCl] at hq
  obtain ⟨cB, kB, pB, fB, gB, hB⟩ := Cond.arrayClass_spec (htl _ (List.mem_of_getElem? (i := 59) rfl) : (Cond.arrayClass .byte).before #[Value.ref b] s = true)
  obtain ⟨cI, kI, pI, fI, gI, hI⟩ := Cond.arrayClass_spec (htl _ (List.mem_of_getElem? (i := 38) rfl) : (Cond.arrayClass .int).before #[Value.ref b] s = true)
  obtain ⟨cJ, kJ, pJ, fJ, gJ, hJ⟩ := Cond.arrayClass_spec (htl _ (List.mem_of_getElem? (i := 6) rfl) : (Cond.arrayClass .long).before #[Value.ref b] s = true)
  obtain ⟨cZ, kZ, pZ, fZ, gZ, hZ⟩ := Cond.arrayClass_spec (htl _ (List.mem_of_getElem? (i := 120) rfl) : (Cond.arrayClass .boolean).before #[Value.ref b] s = true)
  have hK : va_K (dC, dI) vwCl (zT (cB, cI, cJ, cZ)) s := by
    refine ⟨hKc, fun k q h => ?_⟩
    match k, h with
    | 0, h => cases h; exact ⟨fun n z => ⟨fun k h => (by cases h), kB, gB, pB, hB⟩, fB⟩
    | 1, h => cases h; exact ⟨fun n z => ⟨fun k h => (by cases h), kI, gI, pI, hI⟩, fI⟩
    | 2, h => cases h; exact ⟨fun n z => ⟨fun k h => (by cases h), kJ, gJ, pJ, hJ⟩, fJ⟩
    | 3, h => cases h; exact ⟨fun n z => ⟨fun k h => (by cases h), kZ, gZ, pZ, hZ⟩, fZ⟩
    | k + 4, h => simp [zT] at h
  have hC : zOK (p, l, e, room_1, s, m, #[Value.ref b], below, meth, c, lw_Z below #[Value.ref b] s, (fun q : Nat => s.heap.size ≤ q), 7, (dC, dI), (cB, cI, cJ, cZ)) cL_law (yLw meth.name) wsL_law room_1 7 := ⟨hx, hb, hml, rfl, hown, htl, hK, hA, rfl, rfl⟩
  have hS : lwS (p, l, e, room_1, s, m, #[Value.ref b], below, meth, c, lw_Z below #[Value.ref b] s, (fun q : Nat => s.heap.size ≤ q), 7, (dC, dI), (cB, cI, cJ, cZ)) b (fun j => (xs j).toInt) L := by
    refine ⟨fun k n ws lv pc st j hd hj kk H locs ls hP hD hS hl => ?_, fun k n ws lv pc st hd kk H locs ls hP hD hS hl => ?_, fun k n ws lv h1 h2 H locs ls hP hD hS hl => ?_⟩
    · refine va_sld hx hb hX hbl hbA hS (zI_in (by omega) (by omega) (by omega)) hd ?_
      rw [zI_cl (by omega), Int.toNat_natCast, ← zI_as (xs j)]
      exact kk H locs ls hP hD hS hl
    · refine va_slen hx hb hX hbl hbA hS hd ?_
      rw [show Int32.ofNat L = zI (L : Int) from zI_nat L]
      exact kk H locs ls hP hD hS hl
    · refine va_forget (fun q hq => hS.2.2 q hq) ?_
      refine W.widen (k := 600002) (n := 7302232) h1 h2 ?_
      exact lw_ret hx hb hr hlocks dL_law_1665
  have hN : ∀ w ∈ zNl, va_Nw w s := by
    intro w hw
    simp only [zNl, List.mem_cons, List.not_mem_nil, or_false] at hw
    rcases hw with rfl | rfl | rfl | rfl <;> exact va_Nw.of rfl (hts _ (by decide +kernel))
  have hgs := flat_of_before _ hgv
  have hA0 : ∀ a : Nat, a < s.heap.size → ¬ (s.heap.size ≤ a) := fun a h => Nat.not_le.mpr h
  have hXs : zXs s (fun q : Nat => s.heap.size ≤ q) s.heap := ⟨fun w hw => va_Nw.of (zXl_t w hw) (hts _ (zXl_law w hw)), vx_Zqof (hts _ (by decide +kernel)) (hts _ (by decide +kernel)) (hgs _ (by decide +kernel)) hA0, vx_Zqof (hts _ (by decide +kernel)) (hts _ (by decide +kernel)) (hgs _ (by decide +kernel)) hA0⟩
  have hfl : l.stackTraces = false := by
    unfold Launch.stackTraces
    rw [hflags]
    decide +kernel
  have hv : ∀ j : Nat, zR ((fun j => (xs j).toInt) j) := fun j => ⟨by have := Int32.le_toInt (xs j); show _ ≤ (xs j).toInt; omega, by have := Int32.toInt_lt (xs j); show (xs j).toInt < _; omega⟩
  rw [lg_entry_eq]
  exact law_start hC hS hN hXs hfl hv hL s.heap [] _ (fun k q h => by simp at h) ⟨fun i j p q h => by simp at h, fun k q h => by simp at h⟩ va_S.rf (lv_entry ([.ref b]) (n := 7) (Nat.le_of_ble_eq_true rfl))
