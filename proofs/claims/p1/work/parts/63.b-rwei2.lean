set_option maxHeartbeats 16000000 in
set_option maxRecDepth 100000 in
theorem c_X9_turns (l : Launch) (D : va_G) (K : ClassId × ClassId × ClassId × ClassId) (m m_sheetSort m_sheetMany m_numbers m_dx m_dy m_weight m_isBarred m_walks m_one m_two m_light m_lightThen m_fromX m_fromY m_toX m_toY m_rule m_out m_grid m_heap m_ends m_power m_by2 m_product m_levels m_row m_then m_equations : Nat) (n want m_status m_thrown m_top m_round m_family m_ruleMany m_outs : Int) (mb dx dy one two : Int → Int) (hn : 0 ≤ n ∧ n ≤ 14) (hwt : 0 ≤ want ∧ want ≤ 120) (hm_top : zR m_top) (hm_round : zR m_round) (hm0 : ∀ j, 0 ≤ j → j < 3721 → mb j = 0) (hdx : ∀ j, 0 ≤ j → j < 8 → dx j = sdx j) (hdy : ∀ j, 0 ≤ j → j < 8 → dy j = sdy j) : zMet l D K yX9_turns wsX9_turns ({ frames := 4, cells := 0, slots := 0, locals := 95 }) 0 0 [.ref m, .int (zI (n)), .int (zI (want))] [wO m 9 [.int (zI (m_status)), .int (zI (m_thrown)), .ref m_sheetSort, .ref m_sheetMany, .ref m_numbers, .int (zI (4)), .int (zI (0)), .int (zI (m_top)), .int (zI (m_round)), .int (zI (0)), .int (zI (0)), .int (zI (0)), .int (zI (0)), .ref m_dx, .ref m_dy, .ref m_weight, .ref m_isBarred, .ref m_walks, .ref m_one, .ref m_two, .ref m_light, .ref m_lightThen, .int (zI (m_family)), .ref m_fromX, .ref m_fromY, .ref m_toX, .ref m_toY, .int (zI (m_ruleMany)), .ref m_rule, .ref m_out, .int (zI (m_outs)), .ref m_grid, .ref m_heap, .ref m_ends, .ref m_power, .ref m_by2, .ref m_product, .ref m_levels, .ref m_row, .ref m_then, .ref m_equations], wI m_isBarred K.2.2.2 3721 mb, wI m_dx K.2.1 8 dx, wI m_dy K.2.1 8 dy, wJ m_one K.2.2.1 450241 one, wJ m_two K.2.2.1 450241 two] (fun vr_ wr_ => ∃ (r_ : Int), vr_ = some (.long (zL (r_))) ∧ wr_ = [] ∧ (r_ = TT 1 n.toNat want)) := by
  refine zMet_of (cc := cX9_turns) (nL := 8) (ret := (some .long)) (by decide) rfl (Nat.le_of_ble_eq_true rfl) ?_
  rintro C rfl rfl rfl hC hR
  have hinX9 : ∀ w ∈ u_ws RX9 TX9 41, w ∈ wsX9_turns := by decide +kernel
  show ZW C 0 0 [wO m 9 [.int (zI (m_status)), .int (zI (m_thrown)), .ref m_sheetSort, .ref m_sheetMany, .ref m_numbers, .int (zI (4)), .int (zI (0)), .int (zI (m_top)), .int (zI (m_round)), .int (zI (0)), .int (zI (0)), .int (zI (0)), .int (zI (0)), .ref m_dx, .ref m_dy, .ref m_weight, .ref m_isBarred, .ref m_walks, .ref m_one, .ref m_two, .ref m_light, .ref m_lightThen, .int (zI (m_family)), .ref m_fromX, .ref m_fromY, .ref m_toX, .ref m_toY, .int (zI (m_ruleMany)), .ref m_rule, .ref m_out, .int (zI (m_outs)), .ref m_grid, .ref m_heap, .ref m_ends, .ref m_power, .ref m_by2, .ref m_product, .ref m_levels, .ref m_row, .ref m_then, .ref m_equations], wI m_isBarred (zK C).2.2.2 3721 mb, wI m_dx (zK C).2.1 8 dx, wI m_dy (zK C).2.1 8 dy, wJ m_one (zK C).2.2.1 450241 one, wJ m_two (zK C).2.2.1 450241 two] [(0, .ref m), (1, .int (zI (n))), (2, .int (zI (want)))] 0 []
  refine z_iload_n hC 1 dX9_turns_0 rfl rfl ?_
  refine z_ifne hC 39 dX9_turns_1 (by decide) (by omega) (fun c_1 => ?_) (fun c_1 => ?_)
  · skip
    refine z_iload_n hC 2 dX9_turns_39 rfl rfl ?_
    refine z_bipush hC dX9_turns_40 (by decide) ?_
    refine z_icle hC 47 dX9_turns_42 (by decide) (by omega) (fun c_2 => ?_) (fun c_2 => ?_)
    · skip
      refine z_lconst (v := 0) hC dX9_turns_47 rfl ?_
      refine z_lstore_n hC [(3, .long (zL (0))), (0, .ref m), (1, .int (zI (n))), (2, .int (zI (want)))] dX9_turns_48 rfl (by decide) rfl ?_
      refine z_iconst hC dX9_turns_49 ?_
      refine z_istore hC [(5, .int (zI (0))), (3, .long (zL (0))), (0, .ref m), (1, .int (zI (n))), (2, .int (zI (want)))] dX9_turns_50 (by decide) rfl ?_
      refine z_lv (lv' := [(0, .ref m), (1, .int (zI (n))), (2, .int (zI (want))), (3, .long (zL (0))), (5, .int (zI (0)))]) [2, 3, 4, 1, 0] rfl ?_
      have lp52_3 : ∀ (f5 : Nat) (i0 : Int) (z0 : Int → Int), (0 ≤ i0 ∧ i0 ≤ 450241) → (∀ j, 0 ≤ j → j < i0 → z0 j = 0) → (450241 - i0).toNat < f5 → ZW C 0 0 [wO m 9 [.int (zI (m_status)), .int (zI (m_thrown)), .ref m_sheetSort, .ref m_sheetMany, .ref m_numbers, .int (zI (4)), .int (zI (0)), .int (zI (m_top)), .int (zI (m_round)), .int (zI (0)), .int (zI (0)), .int (zI (0)), .int (zI (0)), .ref m_dx, .ref m_dy, .ref m_weight, .ref m_isBarred, .ref m_walks, .ref m_one, .ref m_two, .ref m_light, .ref m_lightThen, .int (zI (m_family)), .ref m_fromX, .ref m_fromY, .ref m_toX, .ref m_toY, .int (zI (m_ruleMany)), .ref m_rule, .ref m_out, .int (zI (m_outs)), .ref m_grid, .ref m_heap, .ref m_ends, .ref m_power, .ref m_by2, .ref m_product, .ref m_levels, .ref m_row, .ref m_then, .ref m_equations], wI m_isBarred (zK C).2.2.2 3721 mb, wI m_dx (zK C).2.1 8 dx, wI m_dy (zK C).2.1 8 dy, wJ m_one (zK C).2.2.1 450241 z0, wJ m_two (zK C).2.2.1 450241 two] [(0, .ref m), (1, .int (zI (n))), (2, .int (zI (want))), (3, .long (zL (0))), (5, .int (zI (i0)))] 52 [] := by
        intro f5
        induction f5 with
        | zero => intro _ _ _ _ hf; exact absurd hf (Nat.not_lt_zero _)
        | succ f5 ih52_4 =>
          intro i0 z0 vi0 vz hf_52
          refine z_iload hC 4 dX9_turns_52 rfl ?_
          refine z_aload_n hC 0 dX9_turns_54 rfl rfl ?_
          refine z_get hC (T := TX9) (N := 41) hinX9 0 18 dX9_turns_55 rfl rfl (by decide) (List.mem_of_getElem? (i := 5) rfl) rfl rfl ?_
          refine z_alenJ hC 4 dX9_turns_58 rfl ?_
          show ZW C 0 0 [wO m 9 [.int (zI (m_status)), .int (zI (m_thrown)), .ref m_sheetSort, .ref m_sheetMany, .ref m_numbers, .int (zI (4)), .int (zI (0)), .int (zI (m_top)), .int (zI (m_round)), .int (zI (0)), .int (zI (0)), .int (zI (0)), .int (zI (0)), .ref m_dx, .ref m_dy, .ref m_weight, .ref m_isBarred, .ref m_walks, .ref m_one, .ref m_two, .ref m_light, .ref m_lightThen, .int (zI (m_family)), .ref m_fromX, .ref m_fromY, .ref m_toX, .ref m_toY, .int (zI (m_ruleMany)), .ref m_rule, .ref m_out, .int (zI (m_outs)), .ref m_grid, .ref m_heap, .ref m_ends, .ref m_power, .ref m_by2, .ref m_product, .ref m_levels, .ref m_row, .ref m_then, .ref m_equations], wI m_isBarred (zK C).2.2.2 3721 mb, wI m_dx (zK C).2.1 8 dx, wI m_dy (zK C).2.1 8 dy, wJ m_one (zK C).2.2.1 450241 z0, wJ m_two (zK C).2.2.1 450241 two] [(0, .ref m), (1, .int (zI (n))), (2, .int (zI (want))), (3, .long (zL (0))), (5, .int (zI (i0)))] 59 [.int (zI (450241)), .int (zI (i0))]
          refine z_icge hC 76 dX9_turns_59 (by decide) (by omega) (fun c_6 => ?_) (fun c_6 => ?_)
          · skip
            refine z_iconst hC dX9_turns_76 ?_
            refine z_istore hC [(5, .int (zI (0))), (0, .ref m), (1, .int (zI (n))), (2, .int (zI (want))), (3, .long (zL (0)))] dX9_turns_77 (by decide) rfl ?_
            refine z_lv (lv' := [(0, .ref m), (1, .int (zI (n))), (2, .int (zI (want))), (3, .long (zL (0))), (5, .int (zI (0)))]) [1, 2, 3, 4, 0] rfl ?_
            have lp79_7 : ∀ (f9 : Nat) (k1 : Int) (f1 : Int → Int), (0 ≤ k1 ∧ k1 ≤ 4) → (∀ t e w, 0 ≤ t → t < 3721 → 0 ≤ e → e < 4 → 0 ≤ w → w < 15 → f1 (120 * t + 15 * e + w) = if nx0 1860 e = t ∧ e < k1 ∧ w = 0 then 1 else 0) → (4 - k1).toNat < f9 → ZW C 0 0 [wO m 9 [.int (zI (m_status)), .int (zI (m_thrown)), .ref m_sheetSort, .ref m_sheetMany, .ref m_numbers, .int (zI (4)), .int (zI (0)), .int (zI (m_top)), .int (zI (m_round)), .int (zI (0)), .int (zI (0)), .int (zI (0)), .int (zI (0)), .ref m_dx, .ref m_dy, .ref m_weight, .ref m_isBarred, .ref m_walks, .ref m_one, .ref m_two, .ref m_light, .ref m_lightThen, .int (zI (m_family)), .ref m_fromX, .ref m_fromY, .ref m_toX, .ref m_toY, .int (zI (m_ruleMany)), .ref m_rule, .ref m_out, .int (zI (m_outs)), .ref m_grid, .ref m_heap, .ref m_ends, .ref m_power, .ref m_by2, .ref m_product, .ref m_levels, .ref m_row, .ref m_then, .ref m_equations], wI m_isBarred (zK C).2.2.2 3721 mb, wI m_dx (zK C).2.1 8 dx, wI m_dy (zK C).2.1 8 dy, wJ m_one (zK C).2.2.1 450241 f1, wJ m_two (zK C).2.2.1 450241 two] [(0, .ref m), (1, .int (zI (n))), (2, .int (zI (want))), (3, .long (zL (0))), (5, .int (zI (k1)))] 79 [] := by
              intro f9
              induction f9 with
              | zero => intro _ _ _ _ hf; exact absurd hf (Nat.not_lt_zero _)
              | succ f9 ih79_8 =>
                intro k1 f1 vk1 vf hf_79
                refine z_iload hC 4 dX9_turns_79 rfl ?_
                refine z_aload_n hC 0 dX9_turns_81 rfl rfl ?_
                refine z_get hC (T := TX9) (N := 41) hinX9 0 5 dX9_turns_82 rfl rfl (by decide) (List.mem_of_getElem? (i := 6) rfl) rfl rfl ?_
                refine z_icge hC 138 dX9_turns_85 (by decide) (by omega) (fun c_10 => ?_) (fun c_10 => ?_)
                · skip
                  refine z_iconst hC dX9_turns_138 ?_
                  refine z_istore hC [(5, .int (zI (1))), (0, .ref m), (1, .int (zI (n))), (2, .int (zI (want))), (3, .long (zL (0)))] dX9_turns_139 (by decide) rfl ?_
                  refine z_lv (lv' := [(0, .ref m), (1, .int (zI (n))), (2, .int (zI (want))), (3, .long (zL (0))), (5, .int (zI (1)))]) [1, 2, 3, 4, 0] rfl ?_
                  have lp141_11 : ∀ (f13 : Nat) (r : Int) (oq : Int → Int) (tq : Int → Int), (1 ≤ r ∧ r ≤ n) → (∀ t e w, 0 ≤ t → t < 3721 → 0 ≤ e → e < 4 → 0 ≤ w → w < 15 → oq (120 * t + 15 * e + w) = CL 1 r.toNat (t / 61 - 30) (t % 61 - 30) e w) → (n - r).toNat < f13 → ZW C 0 0 [wO m 9 [.int (zI (m_status)), .int (zI (m_thrown)), .ref m_sheetSort, .ref m_sheetMany, .ref m_numbers, .int (zI (4)), .int (zI (0)), .int (zI (m_top)), .int (zI (m_round)), .int (zI (0)), .int (zI (0)), .int (zI (0)), .int (zI (0)), .ref m_dx, .ref m_dy, .ref m_weight, .ref m_isBarred, .ref m_walks, .ref m_one, .ref m_two, .ref m_light, .ref m_lightThen, .int (zI (m_family)), .ref m_fromX, .ref m_fromY, .ref m_toX, .ref m_toY, .int (zI (m_ruleMany)), .ref m_rule, .ref m_out, .int (zI (m_outs)), .ref m_grid, .ref m_heap, .ref m_ends, .ref m_power, .ref m_by2, .ref m_product, .ref m_levels, .ref m_row, .ref m_then, .ref m_equations], wI m_isBarred (zK C).2.2.2 3721 mb, wI m_dx (zK C).2.1 8 dx, wI m_dy (zK C).2.1 8 dy, wJ m_one (zK C).2.2.1 450241 oq, wJ m_two (zK C).2.2.1 450241 tq] [(0, .ref m), (1, .int (zI (n))), (2, .int (zI (want))), (3, .long (zL (0))), (5, .int (zI (r)))] 141 [] := by
                    intro f13
                    induction f13 with
                    | zero => intro _ _ _ _ _ hf; exact absurd hf (Nat.not_lt_zero _)
                    | succ f13 ih141_12 =>
                      intro r oq tq vr vo hf_141
                      refine z_iload hC 4 dX9_turns_141 rfl ?_
                      refine z_iload_n hC 1 dX9_turns_143 rfl rfl ?_
                      refine z_icge hC 256 dX9_turns_144 (by decide) (by omega) (fun c_14 => ?_) (fun c_14 => ?_)
                      · skip
                        refine z_iconst hC dX9_turns_256 ?_
                        refine z_istore hC [(5, .int (zI (0))), (0, .ref m), (1, .int (zI (n))), (2, .int (zI (want))), (3, .long (zL (0)))] dX9_turns_257 (by decide) rfl ?_
                        refine z_lv (lv' := [(0, .ref m), (1, .int (zI (n))), (2, .int (zI (want))), (3, .long (zL (0))), (5, .int (zI (0)))]) [1, 2, 3, 4, 0] rfl ?_
                        have lp259_15 : ∀ (f17 : Nat) (al : Int) (k4 : Int), (0 ≤ k4 ∧ k4 ≤ 4) → (al = sumZ (fun e => CL 1 n.toNat 0 0 e want) k4.toNat) → (4 - k4).toNat < f17 → ZW C 0 0 [wO m 9 [.int (zI (m_status)), .int (zI (m_thrown)), .ref m_sheetSort, .ref m_sheetMany, .ref m_numbers, .int (zI (4)), .int (zI (0)), .int (zI (m_top)), .int (zI (m_round)), .int (zI (0)), .int (zI (0)), .int (zI (0)), .int (zI (0)), .ref m_dx, .ref m_dy, .ref m_weight, .ref m_isBarred, .ref m_walks, .ref m_one, .ref m_two, .ref m_light, .ref m_lightThen, .int (zI (m_family)), .ref m_fromX, .ref m_fromY, .ref m_toX, .ref m_toY, .int (zI (m_ruleMany)), .ref m_rule, .ref m_out, .int (zI (m_outs)), .ref m_grid, .ref m_heap, .ref m_ends, .ref m_power, .ref m_by2, .ref m_product, .ref m_levels, .ref m_row, .ref m_then, .ref m_equations], wI m_isBarred (zK C).2.2.2 3721 mb, wI m_dx (zK C).2.1 8 dx, wI m_dy (zK C).2.1 8 dy, wJ m_one (zK C).2.2.1 450241 oq, wJ m_two (zK C).2.2.1 450241 tq] [(0, .ref m), (1, .int (zI (n))), (2, .int (zI (want))), (3, .long (zL (al))), (5, .int (zI (k4)))] 259 [] := by
                          intro f17
                          induction f17 with
                          | zero => intro _ _ _ _ hf; exact absurd hf (Nat.not_lt_zero _)
                          | succ f17 ih259_16 =>
                            intro al k4 vk4 val hf_259
                            refine z_iload hC 4 dX9_turns_259 rfl ?_
                            refine z_aload_n hC 0 dX9_turns_261 rfl rfl ?_
                            refine z_get hC (T := TX9) (N := 41) hinX9 0 5 dX9_turns_262 rfl rfl (by decide) (List.mem_of_getElem? (i := 6) rfl) rfl rfl ?_
                            refine z_icge hC 304 dX9_turns_265 (by decide) (by omega) (fun c_18 => ?_) (fun c_18 => ?_)
                            · skip
                              refine z_lload_n hC 3 dX9_turns_304 rfl rfl ?_
                              refine z_ws (ws' := []) [] rfl rfl ?_
                              exact z_lret hC hR dX9_turns_305 (Nat.le_of_ble_eq_true rfl) (Nat.le_of_ble_eq_true rfl) ⟨al, rfl, rfl, by rw [val, show k4 = 4 by omega]; rfl⟩
                            · skip
                              refine z_lload_n hC 3 dX9_turns_268 rfl rfl ?_
                              refine z_aload_n hC 0 dX9_turns_269 rfl rfl ?_
                              refine z_get hC (T := TX9) (N := 41) hinX9 0 18 dX9_turns_270 rfl rfl (by decide) (List.mem_of_getElem? (i := 5) rfl) rfl rfl ?_
                              refine z_bipush hC dX9_turns_273 (by decide) ?_
                              refine z_aload_n hC 0 dX9_turns_275 rfl rfl ?_
                              refine z_get hC (T := TX9) (N := 41) hinX9 0 11 dX9_turns_276 rfl rfl (by decide) (List.mem_of_getElem? (i := 3) rfl) rfl rfl ?_
                              refine z_aload_n hC 0 dX9_turns_279 rfl rfl ?_
                              refine z_get hC (T := TX9) (N := 41) hinX9 0 12 dX9_turns_280 rfl rfl (by decide) (List.mem_of_getElem? (i := 4) rfl) rfl rfl ?_
                              refine z_callS hC [.int (zI (0)), .int (zI (0))] 2 dX9_turns_283 (c_X9_squareOf (zl C) (zD C) (zK C) 0 0 ) gX9_turns_X9_squareOf rfl rfl rfl ⟨by decide, by decide, by decide +kernel⟩ ⟨(Nat.le_of_ble_eq_true rfl), (Nat.le_of_ble_eq_true rfl)⟩ rfl [] [0, 1, 2, 3, 4, 5] [wO m 9 [.int (zI (m_status)), .int (zI (m_thrown)), .ref m_sheetSort, .ref m_sheetMany, .ref m_numbers, .int (zI (4)), .int (zI (0)), .int (zI (m_top)), .int (zI (m_round)), .int (zI (0)), .int (zI (0)), .int (zI (0)), .int (zI (0)), .ref m_dx, .ref m_dy, .ref m_weight, .ref m_isBarred, .ref m_walks, .ref m_one, .ref m_two, .ref m_light, .ref m_lightThen, .int (zI (m_family)), .ref m_fromX, .ref m_fromY, .ref m_toX, .ref m_toY, .int (zI (m_ruleMany)), .ref m_rule, .ref m_out, .int (zI (m_outs)), .ref m_grid, .ref m_heap, .ref m_ends, .ref m_power, .ref m_by2, .ref m_product, .ref m_levels, .ref m_row, .ref m_then, .ref m_equations], wI m_isBarred (zK C).2.2.2 3721 mb, wI m_dx (zK C).2.1 8 dx, wI m_dy (zK C).2.1 8 dy, wJ m_one (zK C).2.2.1 450241 oq, wJ m_two (zK C).2.2.1 450241 tq] [.int (zI (120)), .ref m_one, .long (zL (al))] rfl rfl rfl rfl rfl (by decide) (Nat.le_of_ble_eq_true rfl) ⟨(Nat.le_of_ble_eq_true rfl), (Nat.le_of_ble_eq_true rfl)⟩ ?_
                              rintro v_ w_ ⟨rfl, rfl, h_283_19⟩
                              show ZW C 0 0 [wO m 9 [.int (zI (m_status)), .int (zI (m_thrown)), .ref m_sheetSort, .ref m_sheetMany, .ref m_numbers, .int (zI (4)), .int (zI (0)), .int (zI (m_top)), .int (zI (m_round)), .int (zI (0)), .int (zI (0)), .int (zI (0)), .int (zI (0)), .ref m_dx, .ref m_dy, .ref m_weight, .ref m_isBarred, .ref m_walks, .ref m_one, .ref m_two, .ref m_light, .ref m_lightThen, .int (zI (m_family)), .ref m_fromX, .ref m_fromY, .ref m_toX, .ref m_toY, .int (zI (m_ruleMany)), .ref m_rule, .ref m_out, .int (zI (m_outs)), .ref m_grid, .ref m_heap, .ref m_ends, .ref m_power, .ref m_by2, .ref m_product, .ref m_levels, .ref m_row, .ref m_then, .ref m_equations], wI m_isBarred (zK C).2.2.2 3721 mb, wI m_dx (zK C).2.1 8 dx, wI m_dy (zK C).2.1 8 dy, wJ m_one (zK C).2.2.1 450241 oq, wJ m_two (zK C).2.2.1 450241 tq] [(0, .ref m), (1, .int (zI (n))), (2, .int (zI (want))), (3, .long (zL (al))), (5, .int (zI (k4)))] 286 [.int (zI (61 * (0 + 30) + 0 + 30)), .int (zI (120)), .ref m_one, .long (zL (al))]
                              refine z_topi (b := 1860) (by rfl) ?_
                              refine z_imul hC (223200) dX9_turns_286 (by decide) ?_
                              refine z_bipush hC dX9_turns_287 (by decide) ?_
                              refine z_iload hC 4 dX9_turns_289 rfl ?_
                              refine z_imul hC (15 * k4) dX9_turns_291 rfl ?_
                              refine z_iadd hC (223200 + (15 * k4)) dX9_turns_292 rfl ?_
                              refine z_iload_n hC 2 dX9_turns_293 rfl rfl ?_
                              refine z_iadd hC ((223200 + (15 * k4)) + want) dX9_turns_294 rfl ?_
                              refine z_lald hC 4 dX9_turns_295 rfl (by omega) ?_
                              refine z_topl (b := CL 1 n.toNat 0 0 k4 want) (by have h := vo 1860 k4 want (by omega) (by omega) (by omega) (by omega) (by omega) (by omega); rw [show r = n by omega, CL_mid, show (120 : Int) * 1860 + 15 * k4 + want = 223200 + 15 * k4 + want by omega] at h; exact h) ?_
                              refine z_ladd hC (al + (CL 1 n.toNat 0 0 k4 want)) dX9_turns_296 rfl ?_
                              refine z_lstore_n hC [(3, .long (zL (al + (CL 1 n.toNat 0 0 k4 want)))), (0, .ref m), (1, .int (zI (n))), (2, .int (zI (want))), (5, .int (zI (k4)))] dX9_turns_297 rfl (by decide) rfl ?_
                              refine z_iinc (a := k4) (v := 1) (r := k4 + 1) hC 4 [(5, .int (zI (k4 + 1))), (3, .long (zL (al + (CL 1 n.toNat 0 0 k4 want)))), (0, .ref m), (1, .int (zI (n))), (2, .int (zI (want)))] dX9_turns_298 rfl rfl (by decide) rfl ?_
                              refine z_goto hC 259 dX9_turns_301 (by decide) ?_
                              refine z_lv (lv' := [(0, .ref m), (1, .int (zI (n))), (2, .int (zI (want))), (3, .long (zL (al + (CL 1 n.toNat 0 0 k4 want)))), (5, .int (zI (k4 + 1)))]) [2, 3, 4, 1, 0] rfl ?_
                              exact ih259_16 (al + (CL 1 n.toNat 0 0 k4 want)) (k4 + 1) (by omega) (by rw [sumZ_s (by omega), ← val]) (by omega)
                        exact lp259_15 _ 0 0 (by omega) (by rfl) (Nat.lt_succ_self _)
                      · skip
                        refine z_iconst hC dX9_turns_147 ?_
                        refine z_istore hC [(6, .int (zI (0))), (0, .ref m), (1, .int (zI (n))), (2, .int (zI (want))), (3, .long (zL (0))), (5, .int (zI (r)))] dX9_turns_148 (by decide) rfl ?_
                        refine z_lv (lv' := [(0, .ref m), (1, .int (zI (n))), (2, .int (zI (want))), (3, .long (zL (0))), (5, .int (zI (r))), (6, .int (zI (0)))]) [1, 2, 3, 4, 5, 0] rfl ?_
                        have lp150_20 : ∀ (f22 : Nat) (i1 : Int) (z1 : Int → Int), (0 ≤ i1 ∧ i1 ≤ 450241) → (∀ j, 0 ≤ j → j < i1 → z1 j = 0) → (450241 - i1).toNat < f22 → ZW C 0 0 [wO m 9 [.int (zI (m_status)), .int (zI (m_thrown)), .ref m_sheetSort, .ref m_sheetMany, .ref m_numbers, .int (zI (4)), .int (zI (0)), .int (zI (m_top)), .int (zI (m_round)), .int (zI (0)), .int (zI (0)), .int (zI (0)), .int (zI (0)), .ref m_dx, .ref m_dy, .ref m_weight, .ref m_isBarred, .ref m_walks, .ref m_one, .ref m_two, .ref m_light, .ref m_lightThen, .int (zI (m_family)), .ref m_fromX, .ref m_fromY, .ref m_toX, .ref m_toY, .int (zI (m_ruleMany)), .ref m_rule, .ref m_out, .int (zI (m_outs)), .ref m_grid, .ref m_heap, .ref m_ends, .ref m_power, .ref m_by2, .ref m_product, .ref m_levels, .ref m_row, .ref m_then, .ref m_equations], wI m_isBarred (zK C).2.2.2 3721 mb, wI m_dx (zK C).2.1 8 dx, wI m_dy (zK C).2.1 8 dy, wJ m_one (zK C).2.2.1 450241 oq, wJ m_two (zK C).2.2.1 450241 z1] [(0, .ref m), (1, .int (zI (n))), (2, .int (zI (want))), (3, .long (zL (0))), (5, .int (zI (r))), (6, .int (zI (i1)))] 150 [] := by
                          intro f22
                          induction f22 with
                          | zero => intro _ _ _ _ hf; exact absurd hf (Nat.not_lt_zero _)
                          | succ f22 ih150_21 =>
                            intro i1 z1 vi1 vz1 hf_150
                            refine z_iload hC 5 dX9_turns_150 rfl ?_
                            refine z_aload_n hC 0 dX9_turns_152 rfl rfl ?_
                            refine z_get hC (T := TX9) (N := 41) hinX9 0 19 dX9_turns_153 rfl rfl (by decide) (List.mem_of_getElem? (i := 7) rfl) rfl rfl ?_
                            refine z_alenJ hC 5 dX9_turns_156 rfl ?_
                            show ZW C 0 0 [wO m 9 [.int (zI (m_status)), .int (zI (m_thrown)), .ref m_sheetSort, .ref m_sheetMany, .ref m_numbers, .int (zI (4)), .int (zI (0)), .int (zI (m_top)), .int (zI (m_round)), .int (zI (0)), .int (zI (0)), .int (zI (0)), .int (zI (0)), .ref m_dx, .ref m_dy, .ref m_weight, .ref m_isBarred, .ref m_walks, .ref m_one, .ref m_two, .ref m_light, .ref m_lightThen, .int (zI (m_family)), .ref m_fromX, .ref m_fromY, .ref m_toX, .ref m_toY, .int (zI (m_ruleMany)), .ref m_rule, .ref m_out, .int (zI (m_outs)), .ref m_grid, .ref m_heap, .ref m_ends, .ref m_power, .ref m_by2, .ref m_product, .ref m_levels, .ref m_row, .ref m_then, .ref m_equations], wI m_isBarred (zK C).2.2.2 3721 mb, wI m_dx (zK C).2.1 8 dx, wI m_dy (zK C).2.1 8 dy, wJ m_one (zK C).2.2.1 450241 oq, wJ m_two (zK C).2.2.1 450241 z1] [(0, .ref m), (1, .int (zI (n))), (2, .int (zI (want))), (3, .long (zL (0))), (5, .int (zI (r))), (6, .int (zI (i1)))] 157 [.int (zI (450241)), .int (zI (i1))]
                            refine z_icge hC 174 dX9_turns_157 (by decide) (by omega) (fun c_23 => ?_) (fun c_23 => ?_)
                            · skip
                              refine z_iconst hC dX9_turns_174 ?_
                              refine z_istore hC [(6, .int (zI (0))), (0, .ref m), (1, .int (zI (n))), (2, .int (zI (want))), (3, .long (zL (0))), (5, .int (zI (r)))] dX9_turns_175 (by decide) rfl ?_
                              refine z_lv (lv' := [(0, .ref m), (1, .int (zI (n))), (2, .int (zI (want))), (3, .long (zL (0))), (5, .int (zI (r))), (6, .int (zI (0)))]) [1, 2, 3, 4, 5, 0] rfl ?_
                              have lp177_24 : ∀ (f26 : Nat) (s : Int) (te : Int → Int), (0 ≤ s ∧ s ≤ 3721) → (∀ t e w, 0 ≤ t → t < 3721 → 0 ≤ e → e < 4 → 0 ≤ w → w < 15 → te (120 * t + 15 * e + w) = if dnI s 0 t e = 1 then CL 1 (r.toNat + 1) (t / 61 - 30) (t % 61 - 30) e w else 0) → (3721 - s).toNat < f26 → ZW C 0 0 [wO m 9 [.int (zI (m_status)), .int (zI (m_thrown)), .ref m_sheetSort, .ref m_sheetMany, .ref m_numbers, .int (zI (4)), .int (zI (0)), .int (zI (m_top)), .int (zI (m_round)), .int (zI (0)), .int (zI (0)), .int (zI (0)), .int (zI (0)), .ref m_dx, .ref m_dy, .ref m_weight, .ref m_isBarred, .ref m_walks, .ref m_one, .ref m_two, .ref m_light, .ref m_lightThen, .int (zI (m_family)), .ref m_fromX, .ref m_fromY, .ref m_toX, .ref m_toY, .int (zI (m_ruleMany)), .ref m_rule, .ref m_out, .int (zI (m_outs)), .ref m_grid, .ref m_heap, .ref m_ends, .ref m_power, .ref m_by2, .ref m_product, .ref m_levels, .ref m_row, .ref m_then, .ref m_equations], wI m_isBarred (zK C).2.2.2 3721 mb, wI m_dx (zK C).2.1 8 dx, wI m_dy (zK C).2.1 8 dy, wJ m_one (zK C).2.2.1 450241 oq, wJ m_two (zK C).2.2.1 450241 te] [(0, .ref m), (1, .int (zI (n))), (2, .int (zI (want))), (3, .long (zL (0))), (5, .int (zI (r))), (6, .int (zI (s)))] 177 [] := by
                                intro f26
                                induction f26 with
                                | zero => intro _ _ _ _ hf; exact absurd hf (Nat.not_lt_zero _)
                                | succ f26 ih177_25 =>
                                  intro s te vs ve hf_177
                                  refine z_iload hC 5 dX9_turns_177 rfl ?_
                                  refine z_sipush hC dX9_turns_179 (by decide) ?_
                                  refine z_icge hC 217 dX9_turns_182 (by decide) (by omega) (fun c_27 => ?_) (fun c_27 => ?_)
                                  · skip
                                    refine z_iconst hC dX9_turns_217 ?_
                                    refine z_istore hC [(6, .int (zI (0))), (0, .ref m), (1, .int (zI (n))), (2, .int (zI (want))), (3, .long (zL (0))), (5, .int (zI (r)))] dX9_turns_218 (by decide) rfl ?_
                                    refine z_lv (lv' := [(0, .ref m), (1, .int (zI (n))), (2, .int (zI (want))), (3, .long (zL (0))), (5, .int (zI (r))), (6, .int (zI (0)))]) [1, 2, 3, 4, 5, 0] rfl ?_
                                    have lp220_28 : ∀ (f30 : Nat) (i2 : Int) (cq : Int → Int), (0 ≤ i2 ∧ i2 ≤ 450241) → (∀ j, 0 ≤ j → j < i2 → cq j = te j) → (450241 - i2).toNat < f30 → ZW C 0 0 [wO m 9 [.int (zI (m_status)), .int (zI (m_thrown)), .ref m_sheetSort, .ref m_sheetMany, .ref m_numbers, .int (zI (4)), .int (zI (0)), .int (zI (m_top)), .int (zI (m_round)), .int (zI (0)), .int (zI (0)), .int (zI (0)), .int (zI (0)), .ref m_dx, .ref m_dy, .ref m_weight, .ref m_isBarred, .ref m_walks, .ref m_one, .ref m_two, .ref m_light, .ref m_lightThen, .int (zI (m_family)), .ref m_fromX, .ref m_fromY, .ref m_toX, .ref m_toY, .int (zI (m_ruleMany)), .ref m_rule, .ref m_out, .int (zI (m_outs)), .ref m_grid, .ref m_heap, .ref m_ends, .ref m_power, .ref m_by2, .ref m_product, .ref m_levels, .ref m_row, .ref m_then, .ref m_equations], wI m_isBarred (zK C).2.2.2 3721 mb, wI m_dx (zK C).2.1 8 dx, wI m_dy (zK C).2.1 8 dy, wJ m_one (zK C).2.2.1 450241 cq, wJ m_two (zK C).2.2.1 450241 te] [(0, .ref m), (1, .int (zI (n))), (2, .int (zI (want))), (3, .long (zL (0))), (5, .int (zI (r))), (6, .int (zI (i2)))] 220 [] := by
                                      intro f30
                                      induction f30 with
                                      | zero => intro _ _ _ _ hf; exact absurd hf (Nat.not_lt_zero _)
                                      | succ f30 ih220_29 =>
                                        intro i2 cq vi2 vcp hf_220
                                        refine z_iload hC 5 dX9_turns_220 rfl ?_
                                        refine z_aload_n hC 0 dX9_turns_222 rfl rfl ?_
                                        refine z_get hC (T := TX9) (N := 41) hinX9 0 18 dX9_turns_223 rfl rfl (by decide) (List.mem_of_getElem? (i := 5) rfl) rfl rfl ?_
                                        refine z_alenJ hC 4 dX9_turns_226 rfl ?_
                                        show ZW C 0 0 [wO m 9 [.int (zI (m_status)), .int (zI (m_thrown)), .ref m_sheetSort, .ref m_sheetMany, .ref m_numbers, .int (zI (4)), .int (zI (0)), .int (zI (m_top)), .int (zI (m_round)), .int (zI (0)), .int (zI (0)), .int (zI (0)), .int (zI (0)), .ref m_dx, .ref m_dy, .ref m_weight, .ref m_isBarred, .ref m_walks, .ref m_one, .ref m_two, .ref m_light, .ref m_lightThen, .int (zI (m_family)), .ref m_fromX, .ref m_fromY, .ref m_toX, .ref m_toY, .int (zI (m_ruleMany)), .ref m_rule, .ref m_out, .int (zI (m_outs)), .ref m_grid, .ref m_heap, .ref m_ends, .ref m_power, .ref m_by2, .ref m_product, .ref m_levels, .ref m_row, .ref m_then, .ref m_equations], wI m_isBarred (zK C).2.2.2 3721 mb, wI m_dx (zK C).2.1 8 dx, wI m_dy (zK C).2.1 8 dy, wJ m_one (zK C).2.2.1 450241 cq, wJ m_two (zK C).2.2.1 450241 te] [(0, .ref m), (1, .int (zI (n))), (2, .int (zI (want))), (3, .long (zL (0))), (5, .int (zI (r))), (6, .int (zI (i2)))] 227 [.int (zI (450241)), .int (zI (i2))]
                                        refine z_icge hC 250 dX9_turns_227 (by decide) (by omega) (fun c_31 => ?_) (fun c_31 => ?_)
                                        · skip
                                          refine z_iinc (a := r) (v := 1) (r := r + 1) hC 4 [(5, .int (zI (r + 1))), (0, .ref m), (1, .int (zI (n))), (2, .int (zI (want))), (3, .long (zL (0))), (6, .int (zI (i2)))] dX9_turns_250 rfl rfl (by decide) rfl ?_
                                          refine z_goto hC 141 dX9_turns_253 (by decide) ?_
                                          refine z_lv (lv' := [(0, .ref m), (1, .int (zI (n))), (2, .int (zI (want))), (3, .long (zL (0))), (5, .int (zI (r + 1)))]) [1, 2, 3, 4, 0] rfl ?_
                                          exact ih141_12 (r + 1) cq te (by omega) (by intro t e w a b c d f g; rw [vcp _ (by omega) (by omega), ve t e w a b c d f g, show (r + 1).toNat = r.toNat + 1 by omega]; exact tu_end (by omega) ⟨a, b⟩ (by omega)) (by omega)
                                        · skip
                                          refine z_aload_n hC 0 dX9_turns_230 rfl rfl ?_
                                          refine z_get hC (T := TX9) (N := 41) hinX9 0 18 dX9_turns_231 rfl rfl (by decide) (List.mem_of_getElem? (i := 5) rfl) rfl rfl ?_
                                          refine z_iload hC 5 dX9_turns_234 rfl ?_
                                          refine z_aload_n hC 0 dX9_turns_236 rfl rfl ?_
                                          refine z_get hC (T := TX9) (N := 41) hinX9 0 19 dX9_turns_237 rfl rfl (by decide) (List.mem_of_getElem? (i := 7) rfl) rfl rfl ?_
                                          refine z_iload hC 5 dX9_turns_240 rfl ?_
                                          refine z_lald hC 5 dX9_turns_242 rfl (by omega) ?_
                                          refine z_last hC 4 [wO m 9 [.int (zI (m_status)), .int (zI (m_thrown)), .ref m_sheetSort, .ref m_sheetMany, .ref m_numbers, .int (zI (4)), .int (zI (0)), .int (zI (m_top)), .int (zI (m_round)), .int (zI (0)), .int (zI (0)), .int (zI (0)), .int (zI (0)), .ref m_dx, .ref m_dy, .ref m_weight, .ref m_isBarred, .ref m_walks, .ref m_one, .ref m_two, .ref m_light, .ref m_lightThen, .int (zI (m_family)), .ref m_fromX, .ref m_fromY, .ref m_toX, .ref m_toY, .int (zI (m_ruleMany)), .ref m_rule, .ref m_out, .int (zI (m_outs)), .ref m_grid, .ref m_heap, .ref m_ends, .ref m_power, .ref m_by2, .ref m_product, .ref m_levels, .ref m_row, .ref m_then, .ref m_equations], wI m_isBarred (zK C).2.2.2 3721 mb, wI m_dx (zK C).2.1 8 dx, wI m_dy (zK C).2.1 8 dy, wJ m_one (zK C).2.2.1 450241 (zu cq i2 (te i2)), wJ m_two (zK C).2.2.1 450241 te] dX9_turns_243 rfl (by omega) rfl ?_
                                          refine z_iinc (a := i2) (v := 1) (r := i2 + 1) hC 5 [(6, .int (zI (i2 + 1))), (0, .ref m), (1, .int (zI (n))), (2, .int (zI (want))), (3, .long (zL (0))), (5, .int (zI (r)))] dX9_turns_244 rfl rfl (by decide) rfl ?_
                                          refine z_goto hC 220 dX9_turns_247 (by decide) ?_
                                          refine z_lv (lv' := [(0, .ref m), (1, .int (zI (n))), (2, .int (zI (want))), (3, .long (zL (0))), (5, .int (zI (r))), (6, .int (zI (i2 + 1)))]) [1, 2, 3, 4, 5, 0] rfl ?_
                                          exact ih220_29 (i2 + 1) (zu cq i2 (te i2)) (by omega) (by intro j a b; unfold zu; by_cases e : j = i2; (rw [if_pos e, e]); (rw [if_neg e]; exact vcp j a (by omega))) (by omega)
                                    exact lp220_28 _ 0 oq (by omega) (by intro j a b; omega) (Nat.lt_succ_self _)
                                  · skip
                                    refine z_iconst hC dX9_turns_185 ?_
                                    refine z_istore hC [(7, .int (zI (0))), (0, .ref m), (1, .int (zI (n))), (2, .int (zI (want))), (3, .long (zL (0))), (5, .int (zI (r))), (6, .int (zI (s)))] dX9_turns_186 (by decide) rfl ?_
                                    refine z_lv (lv' := [(0, .ref m), (1, .int (zI (n))), (2, .int (zI (want))), (3, .long (zL (0))), (5, .int (zI (r))), (6, .int (zI (s))), (7, .int (zI (0)))]) [1, 2, 3, 4, 5, 6, 0] rfl ?_
                                    have lp188_32 : ∀ (f34 : Nat) (k : Int) (tf : Int → Int), (0 ≤ k ∧ k ≤ 4) → (∀ t e w, 0 ≤ t → t < 3721 → 0 ≤ e → e < 4 → 0 ≤ w → w < 15 → tf (120 * t + 15 * e + w) = if dnI s k t e = 1 then CL 1 (r.toNat + 1) (t / 61 - 30) (t % 61 - 30) e w else 0) → (4 - k).toNat < f34 → ZW C 0 0 [wO m 9 [.int (zI (m_status)), .int (zI (m_thrown)), .ref m_sheetSort, .ref m_sheetMany, .ref m_numbers, .int (zI (4)), .int (zI (0)), .int (zI (m_top)), .int (zI (m_round)), .int (zI (0)), .int (zI (0)), .int (zI (0)), .int (zI (0)), .ref m_dx, .ref m_dy, .ref m_weight, .ref m_isBarred, .ref m_walks, .ref m_one, .ref m_two, .ref m_light, .ref m_lightThen, .int (zI (m_family)), .ref m_fromX, .ref m_fromY, .ref m_toX, .ref m_toY, .int (zI (m_ruleMany)), .ref m_rule, .ref m_out, .int (zI (m_outs)), .ref m_grid, .ref m_heap, .ref m_ends, .ref m_power, .ref m_by2, .ref m_product, .ref m_levels, .ref m_row, .ref m_then, .ref m_equations], wI m_isBarred (zK C).2.2.2 3721 mb, wI m_dx (zK C).2.1 8 dx, wI m_dy (zK C).2.1 8 dy, wJ m_one (zK C).2.2.1 450241 oq, wJ m_two (zK C).2.2.1 450241 tf] [(0, .ref m), (1, .int (zI (n))), (2, .int (zI (want))), (3, .long (zL (0))), (5, .int (zI (r))), (6, .int (zI (s))), (7, .int (zI (k)))] 188 [] := by
                                      intro f34
                                      induction f34 with
                                      | zero => intro _ _ _ _ hf; exact absurd hf (Nat.not_lt_zero _)
                                      | succ f34 ih188_33 =>
                                        intro k tf vk vf2 hf_188
                                        refine z_iload hC 6 dX9_turns_188 rfl ?_
                                        refine z_aload_n hC 0 dX9_turns_190 rfl rfl ?_
                                        refine z_get hC (T := TX9) (N := 41) hinX9 0 5 dX9_turns_191 rfl rfl (by decide) (List.mem_of_getElem? (i := 6) rfl) rfl rfl ?_
                                        refine z_icge hC 211 dX9_turns_194 (by decide) (by omega) (fun c_35 => ?_) (fun c_35 => ?_)
                                        · skip
                                          refine z_iinc (a := s) (v := 1) (r := s + 1) hC 5 [(6, .int (zI (s + 1))), (0, .ref m), (1, .int (zI (n))), (2, .int (zI (want))), (3, .long (zL (0))), (5, .int (zI (r))), (7, .int (zI (k)))] dX9_turns_211 rfl rfl (by decide) rfl ?_
                                          refine z_goto hC 177 dX9_turns_214 (by decide) ?_
                                          refine z_lv (lv' := [(0, .ref m), (1, .int (zI (n))), (2, .int (zI (want))), (3, .long (zL (0))), (5, .int (zI (r))), (6, .int (zI (s + 1)))]) [1, 2, 3, 4, 5, 0] rfl ?_
                                          exact ih177_25 (s + 1) tf (by omega) (by exact tu_row (by omega) vf2) (by omega)
                                        · skip
                                          refine z_aload_n hC 0 dX9_turns_197 rfl rfl ?_
                                          refine z_iload hC 5 dX9_turns_198 rfl ?_
                                          refine z_iload hC 6 dX9_turns_200 rfl ?_
                                          refine z_callV hC [.int (zI (s)), .int (zI (k))] 2 0 dX9_turns_202 (c_X9_goesOn (zl C) (zD C) (zK C) m m_sheetSort m_sheetMany m_numbers m_dx m_dy m_weight m_isBarred m_walks m_one m_two m_light m_lightThen m_fromX m_fromY m_toX m_toY m_rule m_out m_grid m_heap m_ends m_power m_by2 m_product m_levels m_row m_then m_equations s k m_status m_thrown m_top m_round m_family m_ruleMany m_outs mb dx dy oq tf (by first | assumption | omega) (by first | assumption | omega) (by first | assumption | omega) (by first | assumption | omega) (by first | assumption | omega) (by first | assumption | omega) (by first | assumption | omega)) gX9_turns_X9_goesOn rfl rfl rfl ⟨by decide, by decide, by decide +kernel⟩ ⟨(Nat.le_of_ble_eq_true rfl), (Nat.le_of_ble_eq_true rfl)⟩ rfl rfl rfl rfl [0, 1, 2, 3, 4, 5] [] [] [] rfl rfl rfl rfl rfl (by decide) (Nat.le_of_ble_eq_true rfl) ⟨(Nat.le_of_ble_eq_true rfl), (Nat.le_of_ble_eq_true rfl)⟩ ?_
                                          rintro v_ w_ ⟨tw2_36, rfl, rfl, hgo⟩
                                          show ZW C 0 0 [wO m 9 [.int (zI (m_status)), .int (zI (m_thrown)), .ref m_sheetSort, .ref m_sheetMany, .ref m_numbers, .int (zI (4)), .int (zI (0)), .int (zI (m_top)), .int (zI (m_round)), .int (zI (0)), .int (zI (0)), .int (zI (0)), .int (zI (0)), .ref m_dx, .ref m_dy, .ref m_weight, .ref m_isBarred, .ref m_walks, .ref m_one, .ref m_two, .ref m_light, .ref m_lightThen, .int (zI (m_family)), .ref m_fromX, .ref m_fromY, .ref m_toX, .ref m_toY, .int (zI (m_ruleMany)), .ref m_rule, .ref m_out, .int (zI (m_outs)), .ref m_grid, .ref m_heap, .ref m_ends, .ref m_power, .ref m_by2, .ref m_product, .ref m_levels, .ref m_row, .ref m_then, .ref m_equations], wI m_isBarred (zK C).2.2.2 3721 mb, wI m_dx (zK C).2.1 8 dx, wI m_dy (zK C).2.1 8 dy, wJ m_one (zK C).2.2.1 450241 oq, wJ m_two (zK C).2.2.1 450241 tw2_36] [(0, .ref m), (1, .int (zI (n))), (2, .int (zI (want))), (3, .long (zL (0))), (5, .int (zI (r))), (6, .int (zI (s))), (7, .int (zI (k)))] 205 []
                                          refine z_iinc (a := k) (v := 1) (r := k + 1) hC 6 [(7, .int (zI (k + 1))), (0, .ref m), (1, .int (zI (n))), (2, .int (zI (want))), (3, .long (zL (0))), (5, .int (zI (r))), (6, .int (zI (s)))] dX9_turns_205 rfl rfl (by decide) rfl ?_
                                          refine z_goto hC 188 dX9_turns_208 (by decide) ?_
                                          refine z_lv (lv' := [(0, .ref m), (1, .int (zI (n))), (2, .int (zI (want))), (3, .long (zL (0))), (5, .int (zI (r))), (6, .int (zI (s))), (7, .int (zI (k + 1)))]) [1, 2, 3, 4, 5, 6, 0] rfl ?_
                                          exact ih188_33 (k + 1) tw2_36 (by omega) (by exact tu_step (by omega) (by omega) (by omega) vo vf2 hgo) (by omega)
                                    exact lp188_32 _ 0 te (by omega) (by exact ve) (Nat.lt_succ_self _)
                              exact lp177_24 _ 0 z1 (by omega) (by exact tu_0 (fun j a b => vz1 j a (by omega))) (Nat.lt_succ_self _)
                            · skip
                              refine z_aload_n hC 0 dX9_turns_160 rfl rfl ?_
                              refine z_get hC (T := TX9) (N := 41) hinX9 0 19 dX9_turns_161 rfl rfl (by decide) (List.mem_of_getElem? (i := 7) rfl) rfl rfl ?_
                              refine z_iload hC 5 dX9_turns_164 rfl ?_
                              refine z_lconst (v := 0) hC dX9_turns_166 rfl ?_
                              refine z_last hC 5 [wO m 9 [.int (zI (m_status)), .int (zI (m_thrown)), .ref m_sheetSort, .ref m_sheetMany, .ref m_numbers, .int (zI (4)), .int (zI (0)), .int (zI (m_top)), .int (zI (m_round)), .int (zI (0)), .int (zI (0)), .int (zI (0)), .int (zI (0)), .ref m_dx, .ref m_dy, .ref m_weight, .ref m_isBarred, .ref m_walks, .ref m_one, .ref m_two, .ref m_light, .ref m_lightThen, .int (zI (m_family)), .ref m_fromX, .ref m_fromY, .ref m_toX, .ref m_toY, .int (zI (m_ruleMany)), .ref m_rule, .ref m_out, .int (zI (m_outs)), .ref m_grid, .ref m_heap, .ref m_ends, .ref m_power, .ref m_by2, .ref m_product, .ref m_levels, .ref m_row, .ref m_then, .ref m_equations], wI m_isBarred (zK C).2.2.2 3721 mb, wI m_dx (zK C).2.1 8 dx, wI m_dy (zK C).2.1 8 dy, wJ m_one (zK C).2.2.1 450241 oq, wJ m_two (zK C).2.2.1 450241 (zu z1 i1 0)] dX9_turns_167 rfl (by omega) rfl ?_
                              refine z_iinc (a := i1) (v := 1) (r := i1 + 1) hC 5 [(6, .int (zI (i1 + 1))), (0, .ref m), (1, .int (zI (n))), (2, .int (zI (want))), (3, .long (zL (0))), (5, .int (zI (r)))] dX9_turns_168 rfl rfl (by decide) rfl ?_
                              refine z_goto hC 150 dX9_turns_171 (by decide) ?_
                              refine z_lv (lv' := [(0, .ref m), (1, .int (zI (n))), (2, .int (zI (want))), (3, .long (zL (0))), (5, .int (zI (r))), (6, .int (zI (i1 + 1)))]) [1, 2, 3, 4, 5, 0] rfl ?_
                              exact ih150_21 (i1 + 1) (zu z1 i1 0) (by omega) (by intro j a b; unfold zu; split; rfl; exact vz1 j a (by omega)) (by omega)
                        exact lp150_20 _ 0 tq (by omega) (by intro j a b; omega) (Nat.lt_succ_self _)
                  exact lp141_11 _ 1 f1 two (by omega) (by exact tu_one (by omega) vf) (Nat.lt_succ_self _)
                · skip
                  refine z_aload_n hC 0 dX9_turns_88 rfl rfl ?_
                  refine z_aload_n hC 0 dX9_turns_89 rfl rfl ?_
                  refine z_get hC (T := TX9) (N := 41) hinX9 0 9 dX9_turns_90 rfl rfl (by decide) (List.mem_of_getElem? (i := 1) rfl) rfl rfl ?_
                  refine z_aload_n hC 0 dX9_turns_93 rfl rfl ?_
                  refine z_get hC (T := TX9) (N := 41) hinX9 0 10 dX9_turns_94 rfl rfl (by decide) (List.mem_of_getElem? (i := 2) rfl) rfl rfl ?_
                  refine z_callS hC [.int (zI (0)), .int (zI (0))] 2 dX9_turns_97 (c_X9_squareOf (zl C) (zD C) (zK C) 0 0 ) gX9_turns_X9_squareOf rfl rfl rfl ⟨by decide, by decide, by decide +kernel⟩ ⟨(Nat.le_of_ble_eq_true rfl), (Nat.le_of_ble_eq_true rfl)⟩ rfl [] [0, 1, 2, 3, 4, 5] [wO m 9 [.int (zI (m_status)), .int (zI (m_thrown)), .ref m_sheetSort, .ref m_sheetMany, .ref m_numbers, .int (zI (4)), .int (zI (0)), .int (zI (m_top)), .int (zI (m_round)), .int (zI (0)), .int (zI (0)), .int (zI (0)), .int (zI (0)), .ref m_dx, .ref m_dy, .ref m_weight, .ref m_isBarred, .ref m_walks, .ref m_one, .ref m_two, .ref m_light, .ref m_lightThen, .int (zI (m_family)), .ref m_fromX, .ref m_fromY, .ref m_toX, .ref m_toY, .int (zI (m_ruleMany)), .ref m_rule, .ref m_out, .int (zI (m_outs)), .ref m_grid, .ref m_heap, .ref m_ends, .ref m_power, .ref m_by2, .ref m_product, .ref m_levels, .ref m_row, .ref m_then, .ref m_equations], wI m_isBarred (zK C).2.2.2 3721 mb, wI m_dx (zK C).2.1 8 dx, wI m_dy (zK C).2.1 8 dy, wJ m_one (zK C).2.2.1 450241 f1, wJ m_two (zK C).2.2.1 450241 two] [.ref m] rfl rfl rfl rfl rfl (by decide) (Nat.le_of_ble_eq_true rfl) ⟨(Nat.le_of_ble_eq_true rfl), (Nat.le_of_ble_eq_true rfl)⟩ ?_
                  rintro v_ w_ ⟨rfl, rfl, h_97_37⟩
                  show ZW C 0 0 [wO m 9 [.int (zI (m_status)), .int (zI (m_thrown)), .ref m_sheetSort, .ref m_sheetMany, .ref m_numbers, .int (zI (4)), .int (zI (0)), .int (zI (m_top)), .int (zI (m_round)), .int (zI (0)), .int (zI (0)), .int (zI (0)), .int (zI (0)), .ref m_dx, .ref m_dy, .ref m_weight, .ref m_isBarred, .ref m_walks, .ref m_one, .ref m_two, .ref m_light, .ref m_lightThen, .int (zI (m_family)), .ref m_fromX, .ref m_fromY, .ref m_toX, .ref m_toY, .int (zI (m_ruleMany)), .ref m_rule, .ref m_out, .int (zI (m_outs)), .ref m_grid, .ref m_heap, .ref m_ends, .ref m_power, .ref m_by2, .ref m_product, .ref m_levels, .ref m_row, .ref m_then, .ref m_equations], wI m_isBarred (zK C).2.2.2 3721 mb, wI m_dx (zK C).2.1 8 dx, wI m_dy (zK C).2.1 8 dy, wJ m_one (zK C).2.2.1 450241 f1, wJ m_two (zK C).2.2.1 450241 two] [(0, .ref m), (1, .int (zI (n))), (2, .int (zI (want))), (3, .long (zL (0))), (5, .int (zI (k1)))] 100 [.int (zI (61 * (0 + 30) + 0 + 30)), .ref m]
                  refine z_topi (b := 1860) (by rfl) ?_
                  refine z_iload hC 4 dX9_turns_100 rfl ?_
                  refine z_callV hC [.int (zI (1860)), .int (zI (k1))] 2 0 dX9_turns_102 (c_X9_next (zl C) (zD C) (zK C) m m_sheetSort m_sheetMany m_numbers m_dx m_dy m_weight m_isBarred m_walks m_one m_two m_light m_lightThen m_fromX m_fromY m_toX m_toY m_rule m_out m_grid m_heap m_ends m_power m_by2 m_product m_levels m_row m_then m_equations 1860 k1 m_status m_thrown 4 m_top m_round 0 0 0 0 m_family m_ruleMany m_outs mb dx dy (by first | assumption | omega) (by first | assumption | omega) (by first | assumption | omega) (by first | assumption | omega) (by first | assumption | omega) (by first | assumption | omega) (by first | assumption | omega)) gX9_turns_X9_next rfl rfl rfl ⟨by decide, by decide, by decide +kernel⟩ ⟨(Nat.le_of_ble_eq_true rfl), (Nat.le_of_ble_eq_true rfl)⟩ rfl rfl rfl rfl [0, 1, 2, 3] [4, 5] [wJ m_one (zK C).2.2.1 450241 f1, wJ m_two (zK C).2.2.1 450241 two] [] rfl rfl rfl rfl rfl (by decide) (Nat.le_of_ble_eq_true rfl) ⟨(Nat.le_of_ble_eq_true rfl), (Nat.le_of_ble_eq_true rfl)⟩ ?_
                  rintro v_ w_ ⟨r_38, rfl, rfl, rfl⟩
                  show ZW C 0 0 [wJ m_one (zK C).2.2.1 450241 f1, wJ m_two (zK C).2.2.1 450241 two, wO m 9 [.int (zI (m_status)), .int (zI (m_thrown)), .ref m_sheetSort, .ref m_sheetMany, .ref m_numbers, .int (zI (4)), .int (zI (0)), .int (zI (m_top)), .int (zI (m_round)), .int (zI (0)), .int (zI (0)), .int (zI (0)), .int (zI (0)), .ref m_dx, .ref m_dy, .ref m_weight, .ref m_isBarred, .ref m_walks, .ref m_one, .ref m_two, .ref m_light, .ref m_lightThen, .int (zI (m_family)), .ref m_fromX, .ref m_fromY, .ref m_toX, .ref m_toY, .int (zI (m_ruleMany)), .ref m_rule, .ref m_out, .int (zI (m_outs)), .ref m_grid, .ref m_heap, .ref m_ends, .ref m_power, .ref m_by2, .ref m_product, .ref m_levels, .ref m_row, .ref m_then, .ref m_equations], wI m_isBarred (zK C).2.2.2 3721 mb, wI m_dx (zK C).2.1 8 dx, wI m_dy (zK C).2.1 8 dy] [(0, .ref m), (1, .int (zI (n))), (2, .int (zI (want))), (3, .long (zL (0))), (5, .int (zI (k1)))] 105 [.int (zI (nx0 1860 k1))]
                  have hnm := nx_mid (k := k1)
                  refine z_istore hC [(6, .int (zI (nx0 1860 k1))), (0, .ref m), (1, .int (zI (n))), (2, .int (zI (want))), (3, .long (zL (0))), (5, .int (zI (k1)))] dX9_turns_105 (by decide) rfl ?_
                  refine z_iload hC 0 dX9_turns_107 rfl ?_
                  refine z_iflt hC 132 dX9_turns_109 (by decide) (by omega) (fun c_40 => by exfalso; omega) (fun c_40 => ?_)
                  refine z_aload_n hC 1 dX9_turns_112 rfl rfl ?_
                  refine z_get hC (T := TX9) (N := 41) hinX9 2 18 dX9_turns_113 rfl rfl (by decide) (List.mem_of_getElem? (i := 5) rfl) rfl rfl ?_
                  refine z_bipush hC dX9_turns_116 (by decide) ?_
                  refine z_iload hC 0 dX9_turns_118 rfl ?_
                  refine z_imul hC (120 * (nx0 1860 k1)) dX9_turns_120 rfl ?_
                  refine z_bipush hC dX9_turns_121 (by decide) ?_
                  refine z_iload hC 5 dX9_turns_123 rfl ?_
                  refine z_imul hC (15 * k1) dX9_turns_125 rfl ?_
                  refine z_iadd hC ((120 * (nx0 1860 k1)) + (15 * k1)) dX9_turns_126 rfl ?_
                  refine z_dup2 hC dX9_turns_127 rfl rfl ?_
                  refine z_lald hC 0 dX9_turns_128 rfl (by omega) ?_
                  refine z_lconst (v := 1) hC dX9_turns_129 rfl ?_
                  refine z_ladd hC ((f1 ((120 * (nx0 1860 k1)) + (15 * k1))) + 1) dX9_turns_130 rfl ?_
                  refine z_last hC 0 [wJ m_one (zK C).2.2.1 450241 (zu f1 ((120 * (nx0 1860 k1)) + (15 * k1)) ((f1 ((120 * (nx0 1860 k1)) + (15 * k1))) + 1)), wJ m_two (zK C).2.2.1 450241 two, wO m 9 [.int (zI (m_status)), .int (zI (m_thrown)), .ref m_sheetSort, .ref m_sheetMany, .ref m_numbers, .int (zI (4)), .int (zI (0)), .int (zI (m_top)), .int (zI (m_round)), .int (zI (0)), .int (zI (0)), .int (zI (0)), .int (zI (0)), .ref m_dx, .ref m_dy, .ref m_weight, .ref m_isBarred, .ref m_walks, .ref m_one, .ref m_two, .ref m_light, .ref m_lightThen, .int (zI (m_family)), .ref m_fromX, .ref m_fromY, .ref m_toX, .ref m_toY, .int (zI (m_ruleMany)), .ref m_rule, .ref m_out, .int (zI (m_outs)), .ref m_grid, .ref m_heap, .ref m_ends, .ref m_power, .ref m_by2, .ref m_product, .ref m_levels, .ref m_row, .ref m_then, .ref m_equations], wI m_isBarred (zK C).2.2.2 3721 mb, wI m_dx (zK C).2.1 8 dx, wI m_dy (zK C).2.1 8 dy] dX9_turns_131 rfl (by omega) rfl ?_
                  refine z_iinc (a := k1) (v := 1) (r := k1 + 1) hC 5 [(5, .int (zI (k1 + 1))), (6, .int (zI (nx0 1860 k1))), (0, .ref m), (1, .int (zI (n))), (2, .int (zI (want))), (3, .long (zL (0)))] dX9_turns_132 rfl rfl (by decide) rfl ?_
                  refine z_goto hC 79 dX9_turns_135 (by decide) ?_
                  refine z_lv (lv' := [(0, .ref m), (1, .int (zI (n))), (2, .int (zI (want))), (3, .long (zL (0))), (5, .int (zI (k1 + 1)))]) [2, 3, 4, 5, 0] rfl ?_
                  refine z_ws (ws' := [wO m 9 [.int (zI (m_status)), .int (zI (m_thrown)), .ref m_sheetSort, .ref m_sheetMany, .ref m_numbers, .int (zI (4)), .int (zI (0)), .int (zI (m_top)), .int (zI (m_round)), .int (zI (0)), .int (zI (0)), .int (zI (0)), .int (zI (0)), .ref m_dx, .ref m_dy, .ref m_weight, .ref m_isBarred, .ref m_walks, .ref m_one, .ref m_two, .ref m_light, .ref m_lightThen, .int (zI (m_family)), .ref m_fromX, .ref m_fromY, .ref m_toX, .ref m_toY, .int (zI (m_ruleMany)), .ref m_rule, .ref m_out, .int (zI (m_outs)), .ref m_grid, .ref m_heap, .ref m_ends, .ref m_power, .ref m_by2, .ref m_product, .ref m_levels, .ref m_row, .ref m_then, .ref m_equations], wI m_isBarred (zK C).2.2.2 3721 mb, wI m_dx (zK C).2.1 8 dx, wI m_dy (zK C).2.1 8 dy, wJ m_one (zK C).2.2.1 450241 (zu f1 ((120 * (nx0 1860 k1)) + (15 * k1)) ((f1 ((120 * (nx0 1860 k1)) + (15 * k1))) + 1)), wJ m_two (zK C).2.2.1 450241 two]) [2, 3, 4, 5, 0, 1] rfl rfl ?_
                  exact ih79_8 (k1 + 1) (zu f1 ((120 * (nx0 1860 k1)) + (15 * k1)) ((f1 ((120 * (nx0 1860 k1)) + (15 * k1))) + 1)) (by omega) (by exact tu_first (by omega) vf (by omega) rfl) (by omega)
            exact lp79_7 _ 0 z0 (by omega) (by intro t e w a b c d _ _; rw [vz _ (by omega) (by omega), if_neg (by omega)]) (Nat.lt_succ_self _)
          · skip
            refine z_aload_n hC 0 dX9_turns_62 rfl rfl ?_
            refine z_get hC (T := TX9) (N := 41) hinX9 0 18 dX9_turns_63 rfl rfl (by decide) (List.mem_of_getElem? (i := 5) rfl) rfl rfl ?_
            refine z_iload hC 4 dX9_turns_66 rfl ?_
            refine z_lconst (v := 0) hC dX9_turns_68 rfl ?_
            refine z_last hC 4 [wO m 9 [.int (zI (m_status)), .int (zI (m_thrown)), .ref m_sheetSort, .ref m_sheetMany, .ref m_numbers, .int (zI (4)), .int (zI (0)), .int (zI (m_top)), .int (zI (m_round)), .int (zI (0)), .int (zI (0)), .int (zI (0)), .int (zI (0)), .ref m_dx, .ref m_dy, .ref m_weight, .ref m_isBarred, .ref m_walks, .ref m_one, .ref m_two, .ref m_light, .ref m_lightThen, .int (zI (m_family)), .ref m_fromX, .ref m_fromY, .ref m_toX, .ref m_toY, .int (zI (m_ruleMany)), .ref m_rule, .ref m_out, .int (zI (m_outs)), .ref m_grid, .ref m_heap, .ref m_ends, .ref m_power, .ref m_by2, .ref m_product, .ref m_levels, .ref m_row, .ref m_then, .ref m_equations], wI m_isBarred (zK C).2.2.2 3721 mb, wI m_dx (zK C).2.1 8 dx, wI m_dy (zK C).2.1 8 dy, wJ m_one (zK C).2.2.1 450241 (zu z0 i0 0), wJ m_two (zK C).2.2.1 450241 two] dX9_turns_69 rfl (by omega) rfl ?_
            refine z_iinc (a := i0) (v := 1) (r := i0 + 1) hC 4 [(5, .int (zI (i0 + 1))), (0, .ref m), (1, .int (zI (n))), (2, .int (zI (want))), (3, .long (zL (0)))] dX9_turns_70 rfl rfl (by decide) rfl ?_
            refine z_goto hC 52 dX9_turns_73 (by decide) ?_
            refine z_lv (lv' := [(0, .ref m), (1, .int (zI (n))), (2, .int (zI (want))), (3, .long (zL (0))), (5, .int (zI (i0 + 1)))]) [1, 2, 3, 4, 0] rfl ?_
            exact ih52_4 (i0 + 1) (zu z0 i0 0) (by omega) (by intro j a b; unfold zu; split; rfl; exact vz j a (by omega)) (by omega)
      exact lp52_3 _ 0 one (by omega) (by intro j a b; omega) (Nat.lt_succ_self _)
    · skip
      refine z_lconst (v := 0) hC dX9_turns_45 rfl ?_
      refine z_ws (ws' := []) [] rfl rfl ?_
      exact z_lret hC hR dX9_turns_46 (Nat.le_of_ble_eq_true rfl) (Nat.le_of_ble_eq_true rfl) ⟨0, rfl, rfl, by exact (TT_14 hn (by omega)).symm⟩
  · skip
    refine z_aload_n hC 0 dX9_turns_4 rfl rfl ?_
    refine z_get hC (T := TX9) (N := 41) hinX9 0 9 dX9_turns_5 rfl rfl (by decide) (List.mem_of_getElem? (i := 1) rfl) rfl rfl ?_
    refine z_aload_n hC 0 dX9_turns_8 rfl rfl ?_
    refine z_get hC (T := TX9) (N := 41) hinX9 0 10 dX9_turns_9 rfl rfl (by decide) (List.mem_of_getElem? (i := 2) rfl) rfl rfl ?_
    refine z_callS hC [.int (zI (0)), .int (zI (0))] 2 dX9_turns_12 (c_X9_squareOf (zl C) (zD C) (zK C) 0 0 ) gX9_turns_X9_squareOf rfl rfl rfl ⟨by decide, by decide, by decide +kernel⟩ ⟨(Nat.le_of_ble_eq_true rfl), (Nat.le_of_ble_eq_true rfl)⟩ rfl [] [0, 1, 2, 3, 4, 5] [wO m 9 [.int (zI (m_status)), .int (zI (m_thrown)), .ref m_sheetSort, .ref m_sheetMany, .ref m_numbers, .int (zI (4)), .int (zI (0)), .int (zI (m_top)), .int (zI (m_round)), .int (zI (0)), .int (zI (0)), .int (zI (0)), .int (zI (0)), .ref m_dx, .ref m_dy, .ref m_weight, .ref m_isBarred, .ref m_walks, .ref m_one, .ref m_two, .ref m_light, .ref m_lightThen, .int (zI (m_family)), .ref m_fromX, .ref m_fromY, .ref m_toX, .ref m_toY, .int (zI (m_ruleMany)), .ref m_rule, .ref m_out, .int (zI (m_outs)), .ref m_grid, .ref m_heap, .ref m_ends, .ref m_power, .ref m_by2, .ref m_product, .ref m_levels, .ref m_row, .ref m_then, .ref m_equations], wI m_isBarred (zK C).2.2.2 3721 mb, wI m_dx (zK C).2.1 8 dx, wI m_dy (zK C).2.1 8 dy, wJ m_one (zK C).2.2.1 450241 one, wJ m_two (zK C).2.2.1 450241 two] [] rfl rfl rfl rfl rfl (by decide) (Nat.le_of_ble_eq_true rfl) ⟨(Nat.le_of_ble_eq_true rfl), (Nat.le_of_ble_eq_true rfl)⟩ ?_
    rintro v_ w_ ⟨rfl, rfl, h_12_41⟩
    show ZW C 0 0 [wO m 9 [.int (zI (m_status)), .int (zI (m_thrown)), .ref m_sheetSort, .ref m_sheetMany, .ref m_numbers, .int (zI (4)), .int (zI (0)), .int (zI (m_top)), .int (zI (m_round)), .int (zI (0)), .int (zI (0)), .int (zI (0)), .int (zI (0)), .ref m_dx, .ref m_dy, .ref m_weight, .ref m_isBarred, .ref m_walks, .ref m_one, .ref m_two, .ref m_light, .ref m_lightThen, .int (zI (m_family)), .ref m_fromX, .ref m_fromY, .ref m_toX, .ref m_toY, .int (zI (m_ruleMany)), .ref m_rule, .ref m_out, .int (zI (m_outs)), .ref m_grid, .ref m_heap, .ref m_ends, .ref m_power, .ref m_by2, .ref m_product, .ref m_levels, .ref m_row, .ref m_then, .ref m_equations], wI m_isBarred (zK C).2.2.2 3721 mb, wI m_dx (zK C).2.1 8 dx, wI m_dy (zK C).2.1 8 dy, wJ m_one (zK C).2.2.1 450241 one, wJ m_two (zK C).2.2.1 450241 two] [(0, .ref m), (1, .int (zI (n))), (2, .int (zI (want)))] 15 [.int (zI (61 * (0 + 30) + 0 + 30))]
    refine z_topi (b := 1860) (by rfl) ?_
    refine z_aload_n hC 0 dX9_turns_15 rfl rfl ?_
    refine z_get hC (T := TX9) (N := 41) hinX9 0 11 dX9_turns_16 rfl rfl (by decide) (List.mem_of_getElem? (i := 3) rfl) rfl rfl ?_
    refine z_aload_n hC 0 dX9_turns_19 rfl rfl ?_
    refine z_get hC (T := TX9) (N := 41) hinX9 0 12 dX9_turns_20 rfl rfl (by decide) (List.mem_of_getElem? (i := 4) rfl) rfl rfl ?_
    refine z_callS hC [.int (zI (0)), .int (zI (0))] 2 dX9_turns_23 (c_X9_squareOf (zl C) (zD C) (zK C) 0 0 ) gX9_turns_X9_squareOf rfl rfl rfl ⟨by decide, by decide, by decide +kernel⟩ ⟨(Nat.le_of_ble_eq_true rfl), (Nat.le_of_ble_eq_true rfl)⟩ rfl [] [0, 1, 2, 3, 4, 5] [wO m 9 [.int (zI (m_status)), .int (zI (m_thrown)), .ref m_sheetSort, .ref m_sheetMany, .ref m_numbers, .int (zI (4)), .int (zI (0)), .int (zI (m_top)), .int (zI (m_round)), .int (zI (0)), .int (zI (0)), .int (zI (0)), .int (zI (0)), .ref m_dx, .ref m_dy, .ref m_weight, .ref m_isBarred, .ref m_walks, .ref m_one, .ref m_two, .ref m_light, .ref m_lightThen, .int (zI (m_family)), .ref m_fromX, .ref m_fromY, .ref m_toX, .ref m_toY, .int (zI (m_ruleMany)), .ref m_rule, .ref m_out, .int (zI (m_outs)), .ref m_grid, .ref m_heap, .ref m_ends, .ref m_power, .ref m_by2, .ref m_product, .ref m_levels, .ref m_row, .ref m_then, .ref m_equations], wI m_isBarred (zK C).2.2.2 3721 mb, wI m_dx (zK C).2.1 8 dx, wI m_dy (zK C).2.1 8 dy, wJ m_one (zK C).2.2.1 450241 one, wJ m_two (zK C).2.2.1 450241 two] [.int (zI (1860))] rfl rfl rfl rfl rfl (by decide) (Nat.le_of_ble_eq_true rfl) ⟨(Nat.le_of_ble_eq_true rfl), (Nat.le_of_ble_eq_true rfl)⟩ ?_
    rintro v_ w_ ⟨rfl, rfl, h_23_42⟩
    show ZW C 0 0 [wO m 9 [.int (zI (m_status)), .int (zI (m_thrown)), .ref m_sheetSort, .ref m_sheetMany, .ref m_numbers, .int (zI (4)), .int (zI (0)), .int (zI (m_top)), .int (zI (m_round)), .int (zI (0)), .int (zI (0)), .int (zI (0)), .int (zI (0)), .ref m_dx, .ref m_dy, .ref m_weight, .ref m_isBarred, .ref m_walks, .ref m_one, .ref m_two, .ref m_light, .ref m_lightThen, .int (zI (m_family)), .ref m_fromX, .ref m_fromY, .ref m_toX, .ref m_toY, .int (zI (m_ruleMany)), .ref m_rule, .ref m_out, .int (zI (m_outs)), .ref m_grid, .ref m_heap, .ref m_ends, .ref m_power, .ref m_by2, .ref m_product, .ref m_levels, .ref m_row, .ref m_then, .ref m_equations], wI m_isBarred (zK C).2.2.2 3721 mb, wI m_dx (zK C).2.1 8 dx, wI m_dy (zK C).2.1 8 dy, wJ m_one (zK C).2.2.1 450241 one, wJ m_two (zK C).2.2.1 450241 two] [(0, .ref m), (1, .int (zI (n))), (2, .int (zI (want)))] 26 [.int (zI (61 * (0 + 30) + 0 + 30)), .int (zI (1860))]
    refine z_topi (b := 1860) (by rfl) ?_
    refine z_icne hC 37 dX9_turns_26 (by decide) (by omega) (fun c_43 => by exfalso; omega) (fun c_43 => ?_)
    refine z_iload_n hC 2 dX9_turns_29 rfl rfl ?_
    refine z_ifne hC 37 dX9_turns_30 (by decide) (by omega) (fun c_44 => ?_) (fun c_44 => ?_)
    · skip
      refine z_lconst (v := 0) hC dX9_turns_37 rfl ?_
      refine z_ws (ws' := []) [] rfl rfl ?_
      exact z_lret hC hR dX9_turns_38 (Nat.le_of_ble_eq_true rfl) (Nat.le_of_ble_eq_true rfl) ⟨0, rfl, rfl, by rw [show n = 0 by omega, TT_0]; first | rw [if_pos (by omega)] | rw [if_neg (by omega)]⟩
    · skip
      refine z_lconst (v := 1) hC dX9_turns_33 rfl ?_
      refine z_goto hC 38 dX9_turns_34 (by decide) ?_
      refine z_ws (ws' := []) [] rfl rfl ?_
      exact z_lret hC hR dX9_turns_38 (Nat.le_of_ble_eq_true rfl) (Nat.le_of_ble_eq_true rfl) ⟨1, rfl, rfl, by rw [show n = 0 by omega, TT_0]; first | rw [if_pos (by omega)] | rw [if_neg (by omega)]⟩
