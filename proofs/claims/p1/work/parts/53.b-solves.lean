set_option maxHeartbeats 4000000 in
set_option maxRecDepth 100000 in
theorem c_X9_solvesd0 (l : Launch) (D : va_G) (K : ClassId × ClassId × ClassId × ClassId) (m m_sheetSort m_sheetMany m_numbers m_dx m_dy m_weight m_isBarred m_walks m_one m_two m_light m_lightThen m_fromX m_fromY m_toX m_toY m_rule m_out m_grid m_heap m_ends m_power m_by2 m_product m_levels m_row m_then m_equations : Nat) (m_status m_thrown m_kind m_round m_ax m_bx m_family m_ruleMany m_outs : Int) (le eq0 : Int → Int) (hlev : ∀ j, 0 ≤ j → j < 128 → le j = arL TL j) : zMet l D K yX9_solves wsX9_solves ({ frames := 0, cells := 0, slots := 0, locals := 0 }) 0 0 [.ref m, .int (zI (0))] [wO m 9 [.int (zI (m_status)), .int (zI (m_thrown)), .ref m_sheetSort, .ref m_sheetMany, .ref m_numbers, .int (zI (4)), .int (zI (m_kind)), .int (zI (5)), .int (zI (m_round)), .int (zI (m_ax)), .int (zI (0)), .int (zI (m_bx)), .int (zI (0)), .ref m_dx, .ref m_dy, .ref m_weight, .ref m_isBarred, .ref m_walks, .ref m_one, .ref m_two, .ref m_light, .ref m_lightThen, .int (zI (m_family)), .ref m_fromX, .ref m_fromY, .ref m_toX, .ref m_toY, .int (zI (m_ruleMany)), .ref m_rule, .ref m_out, .int (zI (m_outs)), .ref m_grid, .ref m_heap, .ref m_ends, .ref m_power, .ref m_by2, .ref m_product, .ref m_levels, .ref m_row, .ref m_then, .ref m_equations], wJ m_levels K.2.2.1 128 le, wJ m_equations K.2.2.1 2048 eq0] (fun vr_ wr_ => ∃ (r : Int) (eq2 : Int → Int), vr_ = some (.int (zI (r))) ∧ wr_ = [wO m 9 [.int (zI (m_status)), .int (zI (m_thrown)), .ref m_sheetSort, .ref m_sheetMany, .ref m_numbers, .int (zI (4)), .int (zI (m_kind)), .int (zI (5)), .int (zI (m_round)), .int (zI (m_ax)), .int (zI (0)), .int (zI (m_bx)), .int (zI (0)), .ref m_dx, .ref m_dy, .ref m_weight, .ref m_isBarred, .ref m_walks, .ref m_one, .ref m_two, .ref m_light, .ref m_lightThen, .int (zI (m_family)), .ref m_fromX, .ref m_fromY, .ref m_toX, .ref m_toY, .int (zI (m_ruleMany)), .ref m_rule, .ref m_out, .int (zI (m_outs)), .ref m_grid, .ref m_heap, .ref m_ends, .ref m_power, .ref m_by2, .ref m_product, .ref m_levels, .ref m_row, .ref m_then, .ref m_equations], wJ m_levels K.2.2.1 128 le, wJ m_equations K.2.2.1 2048 eq2] ∧ (r = 0)) := by
  refine zMet_of (cc := cX9_solves) (nL := 7) (ret := (some .boolean)) (by decide) rfl (Nat.le_of_ble_eq_true rfl) ?_
  rintro C rfl rfl rfl hC hR
  have hinX9 : ∀ w ∈ u_ws RX9 TX9 41, w ∈ wsX9_solves := by decide +kernel
  show ZW C 0 0 [wO m 9 [.int (zI (m_status)), .int (zI (m_thrown)), .ref m_sheetSort, .ref m_sheetMany, .ref m_numbers, .int (zI (4)), .int (zI (m_kind)), .int (zI (5)), .int (zI (m_round)), .int (zI (m_ax)), .int (zI (0)), .int (zI (m_bx)), .int (zI (0)), .ref m_dx, .ref m_dy, .ref m_weight, .ref m_isBarred, .ref m_walks, .ref m_one, .ref m_two, .ref m_light, .ref m_lightThen, .int (zI (m_family)), .ref m_fromX, .ref m_fromY, .ref m_toX, .ref m_toY, .int (zI (m_ruleMany)), .ref m_rule, .ref m_out, .int (zI (m_outs)), .ref m_grid, .ref m_heap, .ref m_ends, .ref m_power, .ref m_by2, .ref m_product, .ref m_levels, .ref m_row, .ref m_then, .ref m_equations], wJ m_levels (zK C).2.2.1 128 le, wJ m_equations (zK C).2.2.1 2048 eq0] [(0, .ref m), (1, .int (zI (0)))] 0 []
  refine z_aload_n hC 0 dX9_solves_0 rfl rfl ?_
  refine z_get hC (T := TX9) (N := 41) hinX9 0 7 dX9_solves_1 rfl rfl (by decide) (List.mem_of_getElem? (i := 1) rfl) rfl rfl ?_
  refine z_iconst hC dX9_solves_4 ?_
  refine z_iadd hC (6) dX9_solves_5 (by decide) ?_
  refine z_istore_n hC [(2, .int (zI (6))), (0, .ref m), (1, .int (zI (0)))] dX9_solves_6 rfl (by decide) rfl ?_
  refine z_iload_n hC 2 dX9_solves_7 rfl rfl ?_
  refine z_iconst hC dX9_solves_8 ?_
  refine z_iadd hC (1) dX9_solves_9 (by decide) ?_
  refine z_istore_n hC [(3, .int (zI (1))), (2, .int (zI (6))), (0, .ref m), (1, .int (zI (0)))] dX9_solves_10 rfl (by decide) rfl ?_
  refine z_iconst hC dX9_solves_11 ?_
  refine z_istore hC [(4, .int (zI (0))), (3, .int (zI (1))), (2, .int (zI (6))), (0, .ref m), (1, .int (zI (0)))] dX9_solves_12 (by decide) rfl ?_
  refine z_lv (lv' := [(0, .ref m), (1, .int (zI (0))), (2, .int (zI (6))), (3, .int (zI (1))), (4, .int (zI (0)))]) [3, 4, 2, 1, 0] rfl ?_
  have lp14_1 : ∀ (f3 : Nat) (r : Int) (q : Int → Int), (0 ≤ r ∧ r ≤ 6) → (∀ j, 0 ≤ j → j < r → q j = arL TL j) → (6 - r).toNat < f3 → ZW C 0 0 [wO m 9 [.int (zI (m_status)), .int (zI (m_thrown)), .ref m_sheetSort, .ref m_sheetMany, .ref m_numbers, .int (zI (4)), .int (zI (m_kind)), .int (zI (5)), .int (zI (m_round)), .int (zI (m_ax)), .int (zI (0)), .int (zI (m_bx)), .int (zI (0)), .ref m_dx, .ref m_dy, .ref m_weight, .ref m_isBarred, .ref m_walks, .ref m_one, .ref m_two, .ref m_light, .ref m_lightThen, .int (zI (m_family)), .ref m_fromX, .ref m_fromY, .ref m_toX, .ref m_toY, .int (zI (m_ruleMany)), .ref m_rule, .ref m_out, .int (zI (m_outs)), .ref m_grid, .ref m_heap, .ref m_ends, .ref m_power, .ref m_by2, .ref m_product, .ref m_levels, .ref m_row, .ref m_then, .ref m_equations], wJ m_levels (zK C).2.2.1 128 le, wJ m_equations (zK C).2.2.1 2048 q] [(0, .ref m), (1, .int (zI (0))), (2, .int (zI (6))), (3, .int (zI (1))), (4, .int (zI (r)))] 14 [] := by
    intro f3
    induction f3 with
    | zero => intro _ _ _ _ hf; exact absurd hf (Nat.not_lt_zero _)
    | succ f3 ih14_2 =>
      intro r q vr vq hf_14
      refine z_iload hC 4 dX9_solves_14 rfl ?_
      refine z_iload_n hC 2 dX9_solves_16 rfl rfl ?_
      refine z_icge hC 87 dX9_solves_17 (by decide) (by omega) (fun c_4 => ?_) (fun c_4 => ?_)
      · skip
        refine z_iconst hC dX9_solves_87 ?_
        refine z_istore hC [(4, .int (zI (0))), (0, .ref m), (1, .int (zI (0))), (2, .int (zI (6))), (3, .int (zI (1)))] dX9_solves_88 (by decide) rfl ?_
        refine z_iconst hC dX9_solves_90 ?_
        refine z_istore hC [(5, .int (zI (0))), (4, .int (zI (0))), (0, .ref m), (1, .int (zI (0))), (2, .int (zI (6))), (3, .int (zI (1)))] dX9_solves_91 (by decide) rfl ?_
        refine z_iload hC 0 dX9_solves_93 rfl ?_
        refine z_iload_n hC 3 dX9_solves_95 rfl rfl ?_
        refine z_icge hC 161 dX9_solves_96 (by decide) (by omega) (fun c_5 => ?_) (fun c_5 => by exfalso; omega)
        refine z_iload hC 1 dX9_solves_161 rfl ?_
        refine z_istore hC [(5, .int (zI (0))), (4, .int (zI (0))), (0, .ref m), (1, .int (zI (0))), (2, .int (zI (6))), (3, .int (zI (1)))] dX9_solves_163 (by decide) rfl ?_
        refine z_iload hC 0 dX9_solves_165 rfl ?_
        refine z_iload_n hC 4 dX9_solves_167 rfl rfl ?_
        refine z_icge hC 195 dX9_solves_168 (by decide) (by omega) (fun c_6 => by exfalso; omega) (fun c_6 => ?_)
        refine z_aload_n hC 2 dX9_solves_171 rfl rfl ?_
        refine z_get hC (T := TX9) (N := 41) hinX9 0 40 dX9_solves_172 rfl rfl (by decide) (List.mem_of_getElem? (i := 2) rfl) rfl rfl ?_
        refine z_iload_n hC 5 dX9_solves_175 rfl rfl ?_
        refine z_iload hC 0 dX9_solves_176 rfl ?_
        refine z_imul hC (0) dX9_solves_178 (by decide) ?_
        refine z_iload_n hC 3 dX9_solves_179 rfl rfl ?_
        refine z_iadd hC (0) dX9_solves_180 (by decide) ?_
        refine z_lald hC 2 dX9_solves_181 rfl (by omega) ?_
        refine z_topl (b := 1) (by rw [vq 0 (by omega) (by omega)]; exact TL_0) ?_
        refine z_lconst (v := 0) hC dX9_solves_182 rfl ?_
        refine z_lceq hC 189 dX9_solves_183 dX9_solves_184 (by decide) (by omega) (fun c_7 => by exfalso; omega) (fun c_7 => ?_)
        refine z_iconst hC dX9_solves_187 ?_
        exact z_zret hC hR dX9_solves_188 (by omega) (Nat.le_of_ble_eq_true rfl) (Nat.le_of_ble_eq_true rfl) ⟨0, q, rfl, rfl, by rfl⟩
      · skip
        refine z_iconst hC dX9_solves_20 ?_
        refine z_istore hC [(5, .int (zI (0))), (0, .ref m), (1, .int (zI (0))), (2, .int (zI (6))), (3, .int (zI (1))), (4, .int (zI (r)))] dX9_solves_21 (by decide) rfl ?_
        refine z_iload hC 0 dX9_solves_23 rfl ?_
        refine z_iload_n hC 2 dX9_solves_25 rfl rfl ?_
        refine z_icge hC 61 dX9_solves_26 (by decide) (by omega) (fun c_8 => ?_) (fun c_8 => by exfalso; omega)
        refine z_aload_n hC 1 dX9_solves_61 rfl rfl ?_
        refine z_get hC (T := TX9) (N := 41) hinX9 0 40 dX9_solves_62 rfl rfl (by decide) (List.mem_of_getElem? (i := 2) rfl) rfl rfl ?_
        refine z_iload_n hC 4 dX9_solves_65 rfl rfl ?_
        refine z_iload hC 5 dX9_solves_66 rfl ?_
        refine z_imul hC (r) dX9_solves_68 (by omega) ?_
        refine z_iload_n hC 2 dX9_solves_69 rfl rfl ?_
        refine z_iadd hC (r) dX9_solves_70 (by omega) ?_
        refine z_aload_n hC 1 dX9_solves_71 rfl rfl ?_
        refine z_get hC (T := TX9) (N := 41) hinX9 0 37 dX9_solves_72 rfl rfl (by decide) (List.mem_of_getElem? (i := 3) rfl) rfl rfl ?_
        refine z_iload_n hC 2 dX9_solves_75 rfl rfl ?_
        refine z_iload hC 5 dX9_solves_76 rfl ?_
        refine z_iadd hC (r) dX9_solves_78 (by omega) ?_
        refine z_lald hC 1 dX9_solves_79 rfl (by omega) ?_
        refine z_last hC 2 [wO m 9 [.int (zI (m_status)), .int (zI (m_thrown)), .ref m_sheetSort, .ref m_sheetMany, .ref m_numbers, .int (zI (4)), .int (zI (m_kind)), .int (zI (5)), .int (zI (m_round)), .int (zI (m_ax)), .int (zI (0)), .int (zI (m_bx)), .int (zI (0)), .ref m_dx, .ref m_dy, .ref m_weight, .ref m_isBarred, .ref m_walks, .ref m_one, .ref m_two, .ref m_light, .ref m_lightThen, .int (zI (m_family)), .ref m_fromX, .ref m_fromY, .ref m_toX, .ref m_toY, .int (zI (m_ruleMany)), .ref m_rule, .ref m_out, .int (zI (m_outs)), .ref m_grid, .ref m_heap, .ref m_ends, .ref m_power, .ref m_by2, .ref m_product, .ref m_levels, .ref m_row, .ref m_then, .ref m_equations], wJ m_levels (zK C).2.2.1 128 le, wJ m_equations (zK C).2.2.1 2048 (zu q r (le r))] dX9_solves_80 rfl (by omega) rfl ?_
        refine z_iinc (a := r) (v := 1) (r := r + 1) hC 5 [(4, .int (zI (r + 1))), (5, .int (zI (0))), (0, .ref m), (1, .int (zI (0))), (2, .int (zI (6))), (3, .int (zI (1)))] dX9_solves_81 rfl rfl (by decide) rfl ?_
        refine z_goto hC 14 dX9_solves_84 (by decide) ?_
        refine z_lv (lv' := [(0, .ref m), (1, .int (zI (0))), (2, .int (zI (6))), (3, .int (zI (1))), (4, .int (zI (r + 1)))]) [2, 3, 4, 5, 0] rfl ?_
        exact ih14_2 (r + 1) (zu q r (le r)) (by omega) (by intro j a b; unfold zu; by_cases e : j = r; (rw [if_pos e, e]; exact hlev r (by omega) (by omega)); (rw [if_neg e]; exact vq j a (by omega))) (by omega)
  exact lp14_1 _ 0 eq0 (by omega) (by intro j a b; omega) (Nat.lt_succ_self _)

set_option maxHeartbeats 8000000 in
set_option maxRecDepth 100000 in
theorem c_X9_solvesd1 (l : Launch) (D : va_G) (K : ClassId × ClassId × ClassId × ClassId) (m m_sheetSort m_sheetMany m_numbers m_dx m_dy m_weight m_isBarred m_walks m_one m_two m_light m_lightThen m_fromX m_fromY m_toX m_toY m_rule m_out m_grid m_heap m_ends m_power m_by2 m_product m_levels m_row m_then m_equations : Nat) (m_status m_thrown m_kind m_round m_ax m_bx m_family m_ruleMany m_outs : Int) (le eq0 : Int → Int) (hlev : ∀ j, 0 ≤ j → j < 128 → le j = arL TL j) : zMet l D K yX9_solves wsX9_solves ({ frames := 2, cells := 0, slots := 0, locals := 57 }) 0 0 [.ref m, .int (zI (1))] [wO m 9 [.int (zI (m_status)), .int (zI (m_thrown)), .ref m_sheetSort, .ref m_sheetMany, .ref m_numbers, .int (zI (4)), .int (zI (m_kind)), .int (zI (5)), .int (zI (m_round)), .int (zI (m_ax)), .int (zI (0)), .int (zI (m_bx)), .int (zI (0)), .ref m_dx, .ref m_dy, .ref m_weight, .ref m_isBarred, .ref m_walks, .ref m_one, .ref m_two, .ref m_light, .ref m_lightThen, .int (zI (m_family)), .ref m_fromX, .ref m_fromY, .ref m_toX, .ref m_toY, .int (zI (m_ruleMany)), .ref m_rule, .ref m_out, .int (zI (m_outs)), .ref m_grid, .ref m_heap, .ref m_ends, .ref m_power, .ref m_by2, .ref m_product, .ref m_levels, .ref m_row, .ref m_then, .ref m_equations], wJ m_levels K.2.2.1 128 le, wJ m_equations K.2.2.1 2048 eq0] (fun vr_ wr_ => ∃ (r : Int) (eq2 : Int → Int), vr_ = some (.int (zI (r))) ∧ wr_ = [wO m 9 [.int (zI (m_status)), .int (zI (m_thrown)), .ref m_sheetSort, .ref m_sheetMany, .ref m_numbers, .int (zI (4)), .int (zI (m_kind)), .int (zI (5)), .int (zI (m_round)), .int (zI (m_ax)), .int (zI (0)), .int (zI (m_bx)), .int (zI (0)), .ref m_dx, .ref m_dy, .ref m_weight, .ref m_isBarred, .ref m_walks, .ref m_one, .ref m_two, .ref m_light, .ref m_lightThen, .int (zI (m_family)), .ref m_fromX, .ref m_fromY, .ref m_toX, .ref m_toY, .int (zI (m_ruleMany)), .ref m_rule, .ref m_out, .int (zI (m_outs)), .ref m_grid, .ref m_heap, .ref m_ends, .ref m_power, .ref m_by2, .ref m_product, .ref m_levels, .ref m_row, .ref m_then, .ref m_equations], wJ m_levels K.2.2.1 128 le, wJ m_equations K.2.2.1 2048 eq2] ∧ (r = 0)) := by
  refine zMet_of (cc := cX9_solves) (nL := 7) (ret := (some .boolean)) (by decide) rfl (Nat.le_of_ble_eq_true rfl) ?_
  rintro C rfl rfl rfl hC hR
  have hinX9 : ∀ w ∈ u_ws RX9 TX9 41, w ∈ wsX9_solves := by decide +kernel
  show ZW C 0 0 [wO m 9 [.int (zI (m_status)), .int (zI (m_thrown)), .ref m_sheetSort, .ref m_sheetMany, .ref m_numbers, .int (zI (4)), .int (zI (m_kind)), .int (zI (5)), .int (zI (m_round)), .int (zI (m_ax)), .int (zI (0)), .int (zI (m_bx)), .int (zI (0)), .ref m_dx, .ref m_dy, .ref m_weight, .ref m_isBarred, .ref m_walks, .ref m_one, .ref m_two, .ref m_light, .ref m_lightThen, .int (zI (m_family)), .ref m_fromX, .ref m_fromY, .ref m_toX, .ref m_toY, .int (zI (m_ruleMany)), .ref m_rule, .ref m_out, .int (zI (m_outs)), .ref m_grid, .ref m_heap, .ref m_ends, .ref m_power, .ref m_by2, .ref m_product, .ref m_levels, .ref m_row, .ref m_then, .ref m_equations], wJ m_levels (zK C).2.2.1 128 le, wJ m_equations (zK C).2.2.1 2048 eq0] [(0, .ref m), (1, .int (zI (1)))] 0 []
  refine z_aload_n hC 0 dX9_solves_0 rfl rfl ?_
  refine z_get hC (T := TX9) (N := 41) hinX9 0 7 dX9_solves_1 rfl rfl (by decide) (List.mem_of_getElem? (i := 1) rfl) rfl rfl ?_
  refine z_iconst hC dX9_solves_4 ?_
  refine z_iadd hC (6) dX9_solves_5 (by decide) ?_
  refine z_istore_n hC [(2, .int (zI (6))), (0, .ref m), (1, .int (zI (1)))] dX9_solves_6 rfl (by decide) rfl ?_
  refine z_iload_n hC 2 dX9_solves_7 rfl rfl ?_
  refine z_iconst hC dX9_solves_8 ?_
  refine z_iadd hC (2) dX9_solves_9 (by decide) ?_
  refine z_istore_n hC [(3, .int (zI (2))), (2, .int (zI (6))), (0, .ref m), (1, .int (zI (1)))] dX9_solves_10 rfl (by decide) rfl ?_
  refine z_iconst hC dX9_solves_11 ?_
  refine z_istore hC [(4, .int (zI (0))), (3, .int (zI (2))), (2, .int (zI (6))), (0, .ref m), (1, .int (zI (1)))] dX9_solves_12 (by decide) rfl ?_
  refine z_lv (lv' := [(0, .ref m), (1, .int (zI (1))), (2, .int (zI (6))), (3, .int (zI (2))), (4, .int (zI (0)))]) [3, 4, 2, 1, 0] rfl ?_
  have lp14_1 : ∀ (f3 : Nat) (r : Int) (q : Int → Int), (0 ≤ r ∧ r ≤ 6) → (∀ j, 0 ≤ j → j < 2 * r → q j = arL el1_0 j) → (6 - r).toNat < f3 → ZW C 0 0 [wO m 9 [.int (zI (m_status)), .int (zI (m_thrown)), .ref m_sheetSort, .ref m_sheetMany, .ref m_numbers, .int (zI (4)), .int (zI (m_kind)), .int (zI (5)), .int (zI (m_round)), .int (zI (m_ax)), .int (zI (0)), .int (zI (m_bx)), .int (zI (0)), .ref m_dx, .ref m_dy, .ref m_weight, .ref m_isBarred, .ref m_walks, .ref m_one, .ref m_two, .ref m_light, .ref m_lightThen, .int (zI (m_family)), .ref m_fromX, .ref m_fromY, .ref m_toX, .ref m_toY, .int (zI (m_ruleMany)), .ref m_rule, .ref m_out, .int (zI (m_outs)), .ref m_grid, .ref m_heap, .ref m_ends, .ref m_power, .ref m_by2, .ref m_product, .ref m_levels, .ref m_row, .ref m_then, .ref m_equations], wJ m_levels (zK C).2.2.1 128 le, wJ m_equations (zK C).2.2.1 2048 q] [(0, .ref m), (1, .int (zI (1))), (2, .int (zI (6))), (3, .int (zI (2))), (4, .int (zI (r)))] 14 [] := by
    intro f3
    induction f3 with
    | zero => intro _ _ _ _ hf; exact absurd hf (Nat.not_lt_zero _)
    | succ f3 ih14_2 =>
      intro r q vr vq hf_14
      refine z_iload hC 4 dX9_solves_14 rfl ?_
      refine z_iload_n hC 2 dX9_solves_16 rfl rfl ?_
      refine z_icge hC 87 dX9_solves_17 (by decide) (by omega) (fun c_4 => ?_) (fun c_4 => ?_)
      · skip
        refine z_iconst hC dX9_solves_87 ?_
        refine z_istore hC [(4, .int (zI (0))), (0, .ref m), (1, .int (zI (1))), (2, .int (zI (6))), (3, .int (zI (2)))] dX9_solves_88 (by decide) rfl ?_
        refine z_iconst hC dX9_solves_90 ?_
        refine z_istore hC [(5, .int (zI (0))), (4, .int (zI (0))), (0, .ref m), (1, .int (zI (1))), (2, .int (zI (6))), (3, .int (zI (2)))] dX9_solves_91 (by decide) rfl ?_
        refine z_iload hC 0 dX9_solves_93 rfl ?_
        refine z_iload_n hC 3 dX9_solves_95 rfl rfl ?_
        refine z_icge hC 161 dX9_solves_96 (by decide) (by omega) (fun c_5 => by exfalso; omega) (fun c_5 => ?_)
        refine z_iload hC 1 dX9_solves_99 rfl ?_
        refine z_istore hC [(6, .int (zI (0))), (5, .int (zI (0))), (4, .int (zI (0))), (0, .ref m), (1, .int (zI (1))), (2, .int (zI (6))), (3, .int (zI (2)))] dX9_solves_101 (by decide) rfl ?_
        refine z_iload hC 0 dX9_solves_103 rfl ?_
        refine z_iload_n hC 5 dX9_solves_105 rfl rfl ?_
        refine z_icge hC 132 dX9_solves_106 (by decide) (by omega) (fun c_6 => by exfalso; omega) (fun c_6 => ?_)
        refine z_aload_n hC 3 dX9_solves_109 rfl rfl ?_
        refine z_get hC (T := TX9) (N := 41) hinX9 0 40 dX9_solves_110 rfl rfl (by decide) (List.mem_of_getElem? (i := 2) rfl) rfl rfl ?_
        refine z_iload_n hC 6 dX9_solves_113 rfl rfl ?_
        refine z_iload hC 0 dX9_solves_114 rfl ?_
        refine z_imul hC (0) dX9_solves_116 (by decide) ?_
        refine z_iload hC 1 dX9_solves_117 rfl ?_
        refine z_iadd hC (0) dX9_solves_119 (by decide) ?_
        refine z_lald hC 2 dX9_solves_120 rfl (by omega) ?_
        refine z_topl (b := 1) (by rw [vq 0 (by omega) (by omega)]; exact elv1_0) ?_
        refine z_lconst (v := 0) hC dX9_solves_121 rfl ?_
        refine z_lcne hC 132 dX9_solves_122 dX9_solves_123 (by decide) (by omega) (fun c_7 => ?_) (fun c_7 => by exfalso; omega)
        refine z_iload hC 0 dX9_solves_132 rfl ?_
        refine z_iload_n hC 5 dX9_solves_134 rfl rfl ?_
        refine z_icne hC 140 dX9_solves_135 (by decide) (by omega) (fun c_8 => ?_) (fun c_8 => by exfalso; omega)
        refine z_aload_n hC 3 dX9_solves_140 rfl rfl ?_
        refine z_iload hC 2 dX9_solves_141 rfl ?_
        refine z_iload hC 0 dX9_solves_143 rfl ?_
        refine z_iload hC 1 dX9_solves_145 rfl ?_
        refine z_iload_n hC 6 dX9_solves_147 rfl rfl ?_
        refine z_iload_n hC 5 dX9_solves_148 rfl rfl ?_
        refine z_callV hC [.int (zI (0)), .int (zI (0)), .int (zI (0)), .int (zI (2)), .int (zI (6))] 5 0 dX9_solves_149 (c_X9_clearsw2 (zl C) (zD C) (zK C) m m_sheetSort m_sheetMany m_numbers m_dx m_dy m_weight m_isBarred m_walks m_one m_two m_light m_lightThen m_fromX m_fromY m_toX m_toY m_rule m_out m_grid m_heap m_ends m_power m_by2 m_product m_levels m_row m_then m_equations 0 m_status m_thrown 4 m_kind 5 m_round m_ax 0 m_bx 0 m_family m_ruleMany m_outs q el1_0 (by first | assumption | omega) (by intro j a b; exact vq j a (by omega)) (by exact elr1_0)) gX9_solves_X9_clears rfl rfl rfl ⟨by decide, by decide, by decide +kernel⟩ ⟨(Nat.le_of_ble_eq_true rfl), (Nat.le_of_ble_eq_true rfl)⟩ rfl rfl rfl rfl [0, 2] [1] [wJ m_levels (zK C).2.2.1 128 le] [] rfl rfl rfl rfl rfl (by decide) (Nat.le_of_ble_eq_true rfl) ⟨(Nat.le_of_ble_eq_true rfl), (Nat.le_of_ble_eq_true rfl)⟩ ?_
        rintro v_ w_ ⟨g2_9, rfl, rfl, hcl0⟩
        show ZW C 0 0 [wJ m_levels (zK C).2.2.1 128 le, wO m 9 [.int (zI (m_status)), .int (zI (m_thrown)), .ref m_sheetSort, .ref m_sheetMany, .ref m_numbers, .int (zI (4)), .int (zI (m_kind)), .int (zI (5)), .int (zI (m_round)), .int (zI (m_ax)), .int (zI (0)), .int (zI (m_bx)), .int (zI (0)), .ref m_dx, .ref m_dy, .ref m_weight, .ref m_isBarred, .ref m_walks, .ref m_one, .ref m_two, .ref m_light, .ref m_lightThen, .int (zI (m_family)), .ref m_fromX, .ref m_fromY, .ref m_toX, .ref m_toY, .int (zI (m_ruleMany)), .ref m_rule, .ref m_out, .int (zI (m_outs)), .ref m_grid, .ref m_heap, .ref m_ends, .ref m_power, .ref m_by2, .ref m_product, .ref m_levels, .ref m_row, .ref m_then, .ref m_equations], wJ m_equations (zK C).2.2.1 2048 g2_9] [(6, .int (zI (0))), (5, .int (zI (0))), (4, .int (zI (0))), (0, .ref m), (1, .int (zI (1))), (2, .int (zI (6))), (3, .int (zI (2)))] 152 []
        refine z_iinc (a := 0) (v := 1) (r := 1) hC 2 [(4, .int (zI (1))), (6, .int (zI (0))), (5, .int (zI (0))), (0, .ref m), (1, .int (zI (1))), (2, .int (zI (6))), (3, .int (zI (2)))] dX9_solves_152 rfl (by decide) (by decide) rfl ?_
        refine z_iinc (a := 0) (v := 1) (r := 1) hC 2 [(5, .int (zI (1))), (4, .int (zI (1))), (6, .int (zI (0))), (0, .ref m), (1, .int (zI (1))), (2, .int (zI (6))), (3, .int (zI (2)))] dX9_solves_155 rfl (by decide) (by decide) rfl ?_
        refine z_goto hC 93 dX9_solves_158 (by decide) ?_
        refine z_iload hC 0 dX9_solves_93 rfl ?_
        refine z_iload_n hC 4 dX9_solves_95 rfl rfl ?_
        refine z_icge hC 161 dX9_solves_96 (by decide) (by omega) (fun c_10 => ?_) (fun c_10 => by exfalso; omega)
        refine z_iload hC 1 dX9_solves_161 rfl ?_
        refine z_istore hC [(5, .int (zI (1))), (4, .int (zI (1))), (6, .int (zI (0))), (0, .ref m), (1, .int (zI (1))), (2, .int (zI (6))), (3, .int (zI (2)))] dX9_solves_163 (by decide) rfl ?_
        refine z_iload hC 0 dX9_solves_165 rfl ?_
        refine z_iload_n hC 5 dX9_solves_167 rfl rfl ?_
        refine z_icge hC 195 dX9_solves_168 (by decide) (by omega) (fun c_11 => by exfalso; omega) (fun c_11 => ?_)
        refine z_aload_n hC 3 dX9_solves_171 rfl rfl ?_
        refine z_get hC (T := TX9) (N := 41) hinX9 1 40 dX9_solves_172 rfl rfl (by decide) (List.mem_of_getElem? (i := 2) rfl) rfl rfl ?_
        refine z_iload_n hC 6 dX9_solves_175 rfl rfl ?_
        refine z_iload hC 0 dX9_solves_176 rfl ?_
        refine z_imul hC (2) dX9_solves_178 (by decide) ?_
        refine z_iload_n hC 4 dX9_solves_179 rfl rfl ?_
        refine z_iadd hC (3) dX9_solves_180 (by decide) ?_
        refine z_lald hC 2 dX9_solves_181 rfl (by omega) ?_
        refine z_topl (b := 1) (by rw [hcl0 3 (by omega) (by omega)]; exact elz1) ?_
        refine z_lconst (v := 0) hC dX9_solves_182 rfl ?_
        refine z_lceq hC 189 dX9_solves_183 dX9_solves_184 (by decide) (by omega) (fun c_12 => by exfalso; omega) (fun c_12 => ?_)
        refine z_iconst hC dX9_solves_187 ?_
        refine z_ws (ws' := [wO m 9 [.int (zI (m_status)), .int (zI (m_thrown)), .ref m_sheetSort, .ref m_sheetMany, .ref m_numbers, .int (zI (4)), .int (zI (m_kind)), .int (zI (5)), .int (zI (m_round)), .int (zI (m_ax)), .int (zI (0)), .int (zI (m_bx)), .int (zI (0)), .ref m_dx, .ref m_dy, .ref m_weight, .ref m_isBarred, .ref m_walks, .ref m_one, .ref m_two, .ref m_light, .ref m_lightThen, .int (zI (m_family)), .ref m_fromX, .ref m_fromY, .ref m_toX, .ref m_toY, .int (zI (m_ruleMany)), .ref m_rule, .ref m_out, .int (zI (m_outs)), .ref m_grid, .ref m_heap, .ref m_ends, .ref m_power, .ref m_by2, .ref m_product, .ref m_levels, .ref m_row, .ref m_then, .ref m_equations], wJ m_levels (zK C).2.2.1 128 le, wJ m_equations (zK C).2.2.1 2048 g2_9]) [1, 0, 2] rfl rfl ?_
        exact z_zret hC hR dX9_solves_188 (by omega) (Nat.le_of_ble_eq_true rfl) (Nat.le_of_ble_eq_true rfl) ⟨0, g2_9, rfl, rfl, by rfl⟩
      · skip
        refine z_iconst hC dX9_solves_20 ?_
        refine z_istore hC [(5, .int (zI (0))), (0, .ref m), (1, .int (zI (1))), (2, .int (zI (6))), (3, .int (zI (2))), (4, .int (zI (r)))] dX9_solves_21 (by decide) rfl ?_
        refine z_lv (lv' := [(0, .ref m), (1, .int (zI (1))), (2, .int (zI (6))), (3, .int (zI (2))), (4, .int (zI (r))), (5, .int (zI (0)))]) [1, 2, 3, 4, 5, 0] rfl ?_
        have lp23_13 : ∀ (f15 : Nat) (i : Int) (q2 : Int → Int), (0 ≤ i ∧ i ≤ 1) → (∀ j, 0 ≤ j → j < 2 * r + i → q2 j = arL el1_0 j) → (1 - i).toNat < f15 → ZW C 0 0 [wO m 9 [.int (zI (m_status)), .int (zI (m_thrown)), .ref m_sheetSort, .ref m_sheetMany, .ref m_numbers, .int (zI (4)), .int (zI (m_kind)), .int (zI (5)), .int (zI (m_round)), .int (zI (m_ax)), .int (zI (0)), .int (zI (m_bx)), .int (zI (0)), .ref m_dx, .ref m_dy, .ref m_weight, .ref m_isBarred, .ref m_walks, .ref m_one, .ref m_two, .ref m_light, .ref m_lightThen, .int (zI (m_family)), .ref m_fromX, .ref m_fromY, .ref m_toX, .ref m_toY, .int (zI (m_ruleMany)), .ref m_rule, .ref m_out, .int (zI (m_outs)), .ref m_grid, .ref m_heap, .ref m_ends, .ref m_power, .ref m_by2, .ref m_product, .ref m_levels, .ref m_row, .ref m_then, .ref m_equations], wJ m_levels (zK C).2.2.1 128 le, wJ m_equations (zK C).2.2.1 2048 q2] [(0, .ref m), (1, .int (zI (1))), (2, .int (zI (6))), (3, .int (zI (2))), (4, .int (zI (r))), (5, .int (zI (i)))] 23 [] := by
          intro f15
          induction f15 with
          | zero => intro _ _ _ _ hf; exact absurd hf (Nat.not_lt_zero _)
          | succ f15 ih23_14 =>
            intro i q2 vi vq2 hf_23
            refine z_iload hC 5 dX9_solves_23 rfl ?_
            refine z_iload_n hC 1 dX9_solves_25 rfl rfl ?_
            refine z_icge hC 61 dX9_solves_26 (by decide) (by omega) (fun c_16 => ?_) (fun c_16 => ?_)
            · skip
              refine z_aload_n hC 0 dX9_solves_61 rfl rfl ?_
              refine z_get hC (T := TX9) (N := 41) hinX9 0 40 dX9_solves_62 rfl rfl (by decide) (List.mem_of_getElem? (i := 2) rfl) rfl rfl ?_
              refine z_iload_n hC 3 dX9_solves_65 rfl rfl ?_
              refine z_iload hC 4 dX9_solves_66 rfl ?_
              refine z_imul hC (2 * r) dX9_solves_68 rfl ?_
              refine z_iload_n hC 1 dX9_solves_69 rfl rfl ?_
              refine z_iadd hC ((2 * r) + 1) dX9_solves_70 rfl ?_
              refine z_aload_n hC 0 dX9_solves_71 rfl rfl ?_
              refine z_get hC (T := TX9) (N := 41) hinX9 0 37 dX9_solves_72 rfl rfl (by decide) (List.mem_of_getElem? (i := 3) rfl) rfl rfl ?_
              refine z_iload_n hC 1 dX9_solves_75 rfl rfl ?_
              refine z_iload hC 4 dX9_solves_76 rfl ?_
              refine z_iadd hC (1 + r) dX9_solves_78 rfl ?_
              refine z_lald hC 1 dX9_solves_79 rfl (by omega) ?_
              refine z_last hC 2 [wO m 9 [.int (zI (m_status)), .int (zI (m_thrown)), .ref m_sheetSort, .ref m_sheetMany, .ref m_numbers, .int (zI (4)), .int (zI (m_kind)), .int (zI (5)), .int (zI (m_round)), .int (zI (m_ax)), .int (zI (0)), .int (zI (m_bx)), .int (zI (0)), .ref m_dx, .ref m_dy, .ref m_weight, .ref m_isBarred, .ref m_walks, .ref m_one, .ref m_two, .ref m_light, .ref m_lightThen, .int (zI (m_family)), .ref m_fromX, .ref m_fromY, .ref m_toX, .ref m_toY, .int (zI (m_ruleMany)), .ref m_rule, .ref m_out, .int (zI (m_outs)), .ref m_grid, .ref m_heap, .ref m_ends, .ref m_power, .ref m_by2, .ref m_product, .ref m_levels, .ref m_row, .ref m_then, .ref m_equations], wJ m_levels (zK C).2.2.1 128 le, wJ m_equations (zK C).2.2.1 2048 (zu q2 ((2 * r) + 1) (le (1 + r)))] dX9_solves_80 rfl (by omega) rfl ?_
              refine z_iinc (a := r) (v := 1) (r := r + 1) hC 4 [(4, .int (zI (r + 1))), (0, .ref m), (1, .int (zI (1))), (2, .int (zI (6))), (3, .int (zI (2))), (5, .int (zI (i)))] dX9_solves_81 rfl rfl (by decide) rfl ?_
              refine z_goto hC 14 dX9_solves_84 (by decide) ?_
              refine z_lv (lv' := [(0, .ref m), (1, .int (zI (1))), (2, .int (zI (6))), (3, .int (zI (2))), (4, .int (zI (r + 1)))]) [1, 2, 3, 4, 0] rfl ?_
              exact ih14_2 (r + 1) (zu q2 ((2 * r) + 1) (le (1 + r))) (by omega) (by intro j a b; unfold zu; by_cases e : j = 2 * r + 1; (rw [if_pos e, e, hlev _ (by omega) (by omega)]; show _ = arL (eqI 1 2) _; rw [eqI_at (by omega) (by omega), if_neg (by omega)]; congr 1; omega); (rw [if_neg e]; exact vq2 j a (by omega))) (by omega)
            · skip
              refine z_aload_n hC 0 dX9_solves_29 rfl rfl ?_
              refine z_get hC (T := TX9) (N := 41) hinX9 0 40 dX9_solves_30 rfl rfl (by decide) (List.mem_of_getElem? (i := 2) rfl) rfl rfl ?_
              refine z_iload_n hC 3 dX9_solves_33 rfl rfl ?_
              refine z_iload hC 4 dX9_solves_34 rfl ?_
              refine z_imul hC (2 * r) dX9_solves_36 rfl ?_
              refine z_iload hC 5 dX9_solves_37 rfl ?_
              refine z_iadd hC ((2 * r) + i) dX9_solves_39 rfl ?_
              refine z_aload_n hC 0 dX9_solves_40 rfl rfl ?_
              refine z_get hC (T := TX9) (N := 41) hinX9 0 37 dX9_solves_41 rfl rfl (by decide) (List.mem_of_getElem? (i := 3) rfl) rfl rfl ?_
              refine z_iload_n hC 1 dX9_solves_44 rfl rfl ?_
              refine z_iload hC 4 dX9_solves_45 rfl ?_
              refine z_iadd hC (1 + r) dX9_solves_47 rfl ?_
              refine z_iconst hC dX9_solves_48 ?_
              refine z_isub hC ((1 + r) - 1) dX9_solves_49 rfl ?_
              refine z_iload hC 5 dX9_solves_50 rfl ?_
              refine z_isub hC (((1 + r) - 1) - i) dX9_solves_52 rfl ?_
              refine z_lald hC 1 dX9_solves_53 rfl (by omega) ?_
              refine z_last hC 2 [wO m 9 [.int (zI (m_status)), .int (zI (m_thrown)), .ref m_sheetSort, .ref m_sheetMany, .ref m_numbers, .int (zI (4)), .int (zI (m_kind)), .int (zI (5)), .int (zI (m_round)), .int (zI (m_ax)), .int (zI (0)), .int (zI (m_bx)), .int (zI (0)), .ref m_dx, .ref m_dy, .ref m_weight, .ref m_isBarred, .ref m_walks, .ref m_one, .ref m_two, .ref m_light, .ref m_lightThen, .int (zI (m_family)), .ref m_fromX, .ref m_fromY, .ref m_toX, .ref m_toY, .int (zI (m_ruleMany)), .ref m_rule, .ref m_out, .int (zI (m_outs)), .ref m_grid, .ref m_heap, .ref m_ends, .ref m_power, .ref m_by2, .ref m_product, .ref m_levels, .ref m_row, .ref m_then, .ref m_equations], wJ m_levels (zK C).2.2.1 128 le, wJ m_equations (zK C).2.2.1 2048 (zu q2 ((2 * r) + i) (le (((1 + r) - 1) - i)))] dX9_solves_54 rfl (by omega) rfl ?_
              refine z_iinc (a := i) (v := 1) (r := i + 1) hC 5 [(5, .int (zI (i + 1))), (0, .ref m), (1, .int (zI (1))), (2, .int (zI (6))), (3, .int (zI (2))), (4, .int (zI (r)))] dX9_solves_55 rfl rfl (by decide) rfl ?_
              refine z_goto hC 23 dX9_solves_58 (by decide) ?_
              refine z_lv (lv' := [(0, .ref m), (1, .int (zI (1))), (2, .int (zI (6))), (3, .int (zI (2))), (4, .int (zI (r))), (5, .int (zI (i + 1)))]) [1, 2, 3, 4, 5, 0] rfl ?_
              exact ih23_14 (i + 1) (zu q2 ((2 * r) + i) (le (((1 + r) - 1) - i))) (by omega) (by intro j a b; unfold zu; by_cases e : j = 2 * r + i; (rw [if_pos e, e, hlev _ (by omega) (by omega)]; show _ = arL (eqI 1 2) _; rw [eqI_at (by omega) (by omega), if_pos (by omega)]; congr 1; omega); (rw [if_neg e]; exact vq2 j a (by omega))) (by omega)
        exact lp23_13 _ 0 q (by omega) (by intro j a b; exact vq j a (by omega)) (Nat.lt_succ_self _)
  exact lp14_1 _ 0 eq0 (by omega) (by intro j a b; omega) (Nat.lt_succ_self _)

set_option maxHeartbeats 8000000 in
set_option maxRecDepth 100000 in
theorem c_X9_solvesd2 (l : Launch) (D : va_G) (K : ClassId × ClassId × ClassId × ClassId) (m m_sheetSort m_sheetMany m_numbers m_dx m_dy m_weight m_isBarred m_walks m_one m_two m_light m_lightThen m_fromX m_fromY m_toX m_toY m_rule m_out m_grid m_heap m_ends m_power m_by2 m_product m_levels m_row m_then m_equations : Nat) (m_status m_thrown m_kind m_round m_ax m_bx m_family m_ruleMany m_outs : Int) (le eq0 : Int → Int) (hlev : ∀ j, 0 ≤ j → j < 128 → le j = arL TL j) : zMet l D K yX9_solves wsX9_solves ({ frames := 2, cells := 0, slots := 0, locals := 57 }) 0 0 [.ref m, .int (zI (2))] [wO m 9 [.int (zI (m_status)), .int (zI (m_thrown)), .ref m_sheetSort, .ref m_sheetMany, .ref m_numbers, .int (zI (4)), .int (zI (m_kind)), .int (zI (5)), .int (zI (m_round)), .int (zI (m_ax)), .int (zI (0)), .int (zI (m_bx)), .int (zI (0)), .ref m_dx, .ref m_dy, .ref m_weight, .ref m_isBarred, .ref m_walks, .ref m_one, .ref m_two, .ref m_light, .ref m_lightThen, .int (zI (m_family)), .ref m_fromX, .ref m_fromY, .ref m_toX, .ref m_toY, .int (zI (m_ruleMany)), .ref m_rule, .ref m_out, .int (zI (m_outs)), .ref m_grid, .ref m_heap, .ref m_ends, .ref m_power, .ref m_by2, .ref m_product, .ref m_levels, .ref m_row, .ref m_then, .ref m_equations], wJ m_levels K.2.2.1 128 le, wJ m_equations K.2.2.1 2048 eq0] (fun vr_ wr_ => ∃ (r : Int) (eq2 : Int → Int), vr_ = some (.int (zI (r))) ∧ wr_ = [wO m 9 [.int (zI (m_status)), .int (zI (m_thrown)), .ref m_sheetSort, .ref m_sheetMany, .ref m_numbers, .int (zI (4)), .int (zI (m_kind)), .int (zI (5)), .int (zI (m_round)), .int (zI (m_ax)), .int (zI (0)), .int (zI (m_bx)), .int (zI (0)), .ref m_dx, .ref m_dy, .ref m_weight, .ref m_isBarred, .ref m_walks, .ref m_one, .ref m_two, .ref m_light, .ref m_lightThen, .int (zI (m_family)), .ref m_fromX, .ref m_fromY, .ref m_toX, .ref m_toY, .int (zI (m_ruleMany)), .ref m_rule, .ref m_out, .int (zI (m_outs)), .ref m_grid, .ref m_heap, .ref m_ends, .ref m_power, .ref m_by2, .ref m_product, .ref m_levels, .ref m_row, .ref m_then, .ref m_equations], wJ m_levels K.2.2.1 128 le, wJ m_equations K.2.2.1 2048 eq2] ∧ (r = 0)) := by
  refine zMet_of (cc := cX9_solves) (nL := 7) (ret := (some .boolean)) (by decide) rfl (Nat.le_of_ble_eq_true rfl) ?_
  rintro C rfl rfl rfl hC hR
  have hinX9 : ∀ w ∈ u_ws RX9 TX9 41, w ∈ wsX9_solves := by decide +kernel
  show ZW C 0 0 [wO m 9 [.int (zI (m_status)), .int (zI (m_thrown)), .ref m_sheetSort, .ref m_sheetMany, .ref m_numbers, .int (zI (4)), .int (zI (m_kind)), .int (zI (5)), .int (zI (m_round)), .int (zI (m_ax)), .int (zI (0)), .int (zI (m_bx)), .int (zI (0)), .ref m_dx, .ref m_dy, .ref m_weight, .ref m_isBarred, .ref m_walks, .ref m_one, .ref m_two, .ref m_light, .ref m_lightThen, .int (zI (m_family)), .ref m_fromX, .ref m_fromY, .ref m_toX, .ref m_toY, .int (zI (m_ruleMany)), .ref m_rule, .ref m_out, .int (zI (m_outs)), .ref m_grid, .ref m_heap, .ref m_ends, .ref m_power, .ref m_by2, .ref m_product, .ref m_levels, .ref m_row, .ref m_then, .ref m_equations], wJ m_levels (zK C).2.2.1 128 le, wJ m_equations (zK C).2.2.1 2048 eq0] [(0, .ref m), (1, .int (zI (2)))] 0 []
  refine z_aload_n hC 0 dX9_solves_0 rfl rfl ?_
  refine z_get hC (T := TX9) (N := 41) hinX9 0 7 dX9_solves_1 rfl rfl (by decide) (List.mem_of_getElem? (i := 1) rfl) rfl rfl ?_
  refine z_iconst hC dX9_solves_4 ?_
  refine z_iadd hC (6) dX9_solves_5 (by decide) ?_
  refine z_istore_n hC [(2, .int (zI (6))), (0, .ref m), (1, .int (zI (2)))] dX9_solves_6 rfl (by decide) rfl ?_
  refine z_iload_n hC 2 dX9_solves_7 rfl rfl ?_
  refine z_iconst hC dX9_solves_8 ?_
  refine z_iadd hC (3) dX9_solves_9 (by decide) ?_
  refine z_istore_n hC [(3, .int (zI (3))), (2, .int (zI (6))), (0, .ref m), (1, .int (zI (2)))] dX9_solves_10 rfl (by decide) rfl ?_
  refine z_iconst hC dX9_solves_11 ?_
  refine z_istore hC [(4, .int (zI (0))), (3, .int (zI (3))), (2, .int (zI (6))), (0, .ref m), (1, .int (zI (2)))] dX9_solves_12 (by decide) rfl ?_
  refine z_lv (lv' := [(0, .ref m), (1, .int (zI (2))), (2, .int (zI (6))), (3, .int (zI (3))), (4, .int (zI (0)))]) [3, 4, 2, 1, 0] rfl ?_
  have lp14_1 : ∀ (f3 : Nat) (r : Int) (q : Int → Int), (0 ≤ r ∧ r ≤ 6) → (∀ j, 0 ≤ j → j < 3 * r → q j = arL el2_0 j) → (6 - r).toNat < f3 → ZW C 0 0 [wO m 9 [.int (zI (m_status)), .int (zI (m_thrown)), .ref m_sheetSort, .ref m_sheetMany, .ref m_numbers, .int (zI (4)), .int (zI (m_kind)), .int (zI (5)), .int (zI (m_round)), .int (zI (m_ax)), .int (zI (0)), .int (zI (m_bx)), .int (zI (0)), .ref m_dx, .ref m_dy, .ref m_weight, .ref m_isBarred, .ref m_walks, .ref m_one, .ref m_two, .ref m_light, .ref m_lightThen, .int (zI (m_family)), .ref m_fromX, .ref m_fromY, .ref m_toX, .ref m_toY, .int (zI (m_ruleMany)), .ref m_rule, .ref m_out, .int (zI (m_outs)), .ref m_grid, .ref m_heap, .ref m_ends, .ref m_power, .ref m_by2, .ref m_product, .ref m_levels, .ref m_row, .ref m_then, .ref m_equations], wJ m_levels (zK C).2.2.1 128 le, wJ m_equations (zK C).2.2.1 2048 q] [(0, .ref m), (1, .int (zI (2))), (2, .int (zI (6))), (3, .int (zI (3))), (4, .int (zI (r)))] 14 [] := by
    intro f3
    induction f3 with
    | zero => intro _ _ _ _ hf; exact absurd hf (Nat.not_lt_zero _)
    | succ f3 ih14_2 =>
      intro r q vr vq hf_14
      refine z_iload hC 4 dX9_solves_14 rfl ?_
      refine z_iload_n hC 2 dX9_solves_16 rfl rfl ?_
      refine z_icge hC 87 dX9_solves_17 (by decide) (by omega) (fun c_4 => ?_) (fun c_4 => ?_)
      · skip
        refine z_iconst hC dX9_solves_87 ?_
        refine z_istore hC [(4, .int (zI (0))), (0, .ref m), (1, .int (zI (2))), (2, .int (zI (6))), (3, .int (zI (3)))] dX9_solves_88 (by decide) rfl ?_
        refine z_iconst hC dX9_solves_90 ?_
        refine z_istore hC [(5, .int (zI (0))), (4, .int (zI (0))), (0, .ref m), (1, .int (zI (2))), (2, .int (zI (6))), (3, .int (zI (3)))] dX9_solves_91 (by decide) rfl ?_
        refine z_iload hC 0 dX9_solves_93 rfl ?_
        refine z_iload_n hC 3 dX9_solves_95 rfl rfl ?_
        refine z_icge hC 161 dX9_solves_96 (by decide) (by omega) (fun c_5 => by exfalso; omega) (fun c_5 => ?_)
        refine z_iload hC 1 dX9_solves_99 rfl ?_
        refine z_istore hC [(6, .int (zI (0))), (5, .int (zI (0))), (4, .int (zI (0))), (0, .ref m), (1, .int (zI (2))), (2, .int (zI (6))), (3, .int (zI (3)))] dX9_solves_101 (by decide) rfl ?_
        refine z_iload hC 0 dX9_solves_103 rfl ?_
        refine z_iload_n hC 5 dX9_solves_105 rfl rfl ?_
        refine z_icge hC 132 dX9_solves_106 (by decide) (by omega) (fun c_6 => by exfalso; omega) (fun c_6 => ?_)
        refine z_aload_n hC 3 dX9_solves_109 rfl rfl ?_
        refine z_get hC (T := TX9) (N := 41) hinX9 0 40 dX9_solves_110 rfl rfl (by decide) (List.mem_of_getElem? (i := 2) rfl) rfl rfl ?_
        refine z_iload_n hC 6 dX9_solves_113 rfl rfl ?_
        refine z_iload hC 0 dX9_solves_114 rfl ?_
        refine z_imul hC (0) dX9_solves_116 (by decide) ?_
        refine z_iload hC 1 dX9_solves_117 rfl ?_
        refine z_iadd hC (0) dX9_solves_119 (by decide) ?_
        refine z_lald hC 2 dX9_solves_120 rfl (by omega) ?_
        refine z_topl (b := 2) (by rw [vq 0 (by omega) (by omega)]; exact elv2_0) ?_
        refine z_lconst (v := 0) hC dX9_solves_121 rfl ?_
        refine z_lcne hC 132 dX9_solves_122 dX9_solves_123 (by decide) (by omega) (fun c_7 => ?_) (fun c_7 => by exfalso; omega)
        refine z_iload hC 0 dX9_solves_132 rfl ?_
        refine z_iload_n hC 5 dX9_solves_134 rfl rfl ?_
        refine z_icne hC 140 dX9_solves_135 (by decide) (by omega) (fun c_8 => ?_) (fun c_8 => by exfalso; omega)
        refine z_aload_n hC 3 dX9_solves_140 rfl rfl ?_
        refine z_iload hC 2 dX9_solves_141 rfl ?_
        refine z_iload hC 0 dX9_solves_143 rfl ?_
        refine z_iload hC 1 dX9_solves_145 rfl ?_
        refine z_iload_n hC 6 dX9_solves_147 rfl rfl ?_
        refine z_iload_n hC 5 dX9_solves_148 rfl rfl ?_
        refine z_callV hC [.int (zI (0)), .int (zI (0)), .int (zI (0)), .int (zI (3)), .int (zI (6))] 5 0 dX9_solves_149 (c_X9_clearsw3 (zl C) (zD C) (zK C) m m_sheetSort m_sheetMany m_numbers m_dx m_dy m_weight m_isBarred m_walks m_one m_two m_light m_lightThen m_fromX m_fromY m_toX m_toY m_rule m_out m_grid m_heap m_ends m_power m_by2 m_product m_levels m_row m_then m_equations 0 m_status m_thrown 4 m_kind 5 m_round m_ax 0 m_bx 0 m_family m_ruleMany m_outs q el2_0 (by first | assumption | omega) (by intro j a b; exact vq j a (by omega)) (by exact elr2_0)) gX9_solves_X9_clears rfl rfl rfl ⟨by decide, by decide, by decide +kernel⟩ ⟨(Nat.le_of_ble_eq_true rfl), (Nat.le_of_ble_eq_true rfl)⟩ rfl rfl rfl rfl [0, 2] [1] [wJ m_levels (zK C).2.2.1 128 le] [] rfl rfl rfl rfl rfl (by decide) (Nat.le_of_ble_eq_true rfl) ⟨(Nat.le_of_ble_eq_true rfl), (Nat.le_of_ble_eq_true rfl)⟩ ?_
        rintro v_ w_ ⟨g2_9, rfl, rfl, hcl0⟩
        show ZW C 0 0 [wJ m_levels (zK C).2.2.1 128 le, wO m 9 [.int (zI (m_status)), .int (zI (m_thrown)), .ref m_sheetSort, .ref m_sheetMany, .ref m_numbers, .int (zI (4)), .int (zI (m_kind)), .int (zI (5)), .int (zI (m_round)), .int (zI (m_ax)), .int (zI (0)), .int (zI (m_bx)), .int (zI (0)), .ref m_dx, .ref m_dy, .ref m_weight, .ref m_isBarred, .ref m_walks, .ref m_one, .ref m_two, .ref m_light, .ref m_lightThen, .int (zI (m_family)), .ref m_fromX, .ref m_fromY, .ref m_toX, .ref m_toY, .int (zI (m_ruleMany)), .ref m_rule, .ref m_out, .int (zI (m_outs)), .ref m_grid, .ref m_heap, .ref m_ends, .ref m_power, .ref m_by2, .ref m_product, .ref m_levels, .ref m_row, .ref m_then, .ref m_equations], wJ m_equations (zK C).2.2.1 2048 g2_9] [(6, .int (zI (0))), (5, .int (zI (0))), (4, .int (zI (0))), (0, .ref m), (1, .int (zI (2))), (2, .int (zI (6))), (3, .int (zI (3)))] 152 []
        refine z_iinc (a := 0) (v := 1) (r := 1) hC 2 [(4, .int (zI (1))), (6, .int (zI (0))), (5, .int (zI (0))), (0, .ref m), (1, .int (zI (2))), (2, .int (zI (6))), (3, .int (zI (3)))] dX9_solves_152 rfl (by decide) (by decide) rfl ?_
        refine z_iinc (a := 0) (v := 1) (r := 1) hC 2 [(5, .int (zI (1))), (4, .int (zI (1))), (6, .int (zI (0))), (0, .ref m), (1, .int (zI (2))), (2, .int (zI (6))), (3, .int (zI (3)))] dX9_solves_155 rfl (by decide) (by decide) rfl ?_
        refine z_goto hC 93 dX9_solves_158 (by decide) ?_
        refine z_iload hC 0 dX9_solves_93 rfl ?_
        refine z_iload_n hC 4 dX9_solves_95 rfl rfl ?_
        refine z_icge hC 161 dX9_solves_96 (by decide) (by omega) (fun c_10 => by exfalso; omega) (fun c_10 => ?_)
        refine z_iload hC 1 dX9_solves_99 rfl ?_
        refine z_istore hC [(6, .int (zI (1))), (5, .int (zI (1))), (4, .int (zI (1))), (0, .ref m), (1, .int (zI (2))), (2, .int (zI (6))), (3, .int (zI (3)))] dX9_solves_101 (by decide) rfl ?_
        refine z_iload hC 0 dX9_solves_103 rfl ?_
        refine z_iload_n hC 5 dX9_solves_105 rfl rfl ?_
        refine z_icge hC 132 dX9_solves_106 (by decide) (by omega) (fun c_11 => by exfalso; omega) (fun c_11 => ?_)
        refine z_aload_n hC 3 dX9_solves_109 rfl rfl ?_
        refine z_get hC (T := TX9) (N := 41) hinX9 1 40 dX9_solves_110 rfl rfl (by decide) (List.mem_of_getElem? (i := 2) rfl) rfl rfl ?_
        refine z_iload_n hC 6 dX9_solves_113 rfl rfl ?_
        refine z_iload hC 0 dX9_solves_114 rfl ?_
        refine z_imul hC (3) dX9_solves_116 (by decide) ?_
        refine z_iload hC 1 dX9_solves_117 rfl ?_
        refine z_iadd hC (4) dX9_solves_119 (by decide) ?_
        refine z_lald hC 2 dX9_solves_120 rfl (by omega) ?_
        refine z_topl (b := 499122176) (by rw [hcl0 4 (by omega) (by omega)]; exact elv2_1) ?_
        refine z_lconst (v := 0) hC dX9_solves_121 rfl ?_
        refine z_lcne hC 132 dX9_solves_122 dX9_solves_123 (by decide) (by omega) (fun c_12 => ?_) (fun c_12 => by exfalso; omega)
        refine z_iload hC 0 dX9_solves_132 rfl ?_
        refine z_iload_n hC 5 dX9_solves_134 rfl rfl ?_
        refine z_icne hC 140 dX9_solves_135 (by decide) (by omega) (fun c_13 => ?_) (fun c_13 => by exfalso; omega)
        refine z_aload_n hC 3 dX9_solves_140 rfl rfl ?_
        refine z_iload hC 2 dX9_solves_141 rfl ?_
        refine z_iload hC 0 dX9_solves_143 rfl ?_
        refine z_iload hC 1 dX9_solves_145 rfl ?_
        refine z_iload_n hC 6 dX9_solves_147 rfl rfl ?_
        refine z_iload_n hC 5 dX9_solves_148 rfl rfl ?_
        refine z_callV hC [.int (zI (1)), .int (zI (1)), .int (zI (1)), .int (zI (3)), .int (zI (6))] 5 0 dX9_solves_149 (c_X9_clearsw3 (zl C) (zD C) (zK C) m m_sheetSort m_sheetMany m_numbers m_dx m_dy m_weight m_isBarred m_walks m_one m_two m_light m_lightThen m_fromX m_fromY m_toX m_toY m_rule m_out m_grid m_heap m_ends m_power m_by2 m_product m_levels m_row m_then m_equations 1 m_status m_thrown 4 m_kind 5 m_round m_ax 0 m_bx 0 m_family m_ruleMany m_outs g2_9 el2_1 (by first | assumption | omega) (by intro j a b; exact hcl0 j a (by omega)) (by exact elr2_1)) gX9_solves_X9_clears rfl rfl rfl ⟨by decide, by decide, by decide +kernel⟩ ⟨(Nat.le_of_ble_eq_true rfl), (Nat.le_of_ble_eq_true rfl)⟩ rfl rfl rfl rfl [1, 2] [0] [wJ m_levels (zK C).2.2.1 128 le] [] rfl rfl rfl rfl rfl (by decide) (Nat.le_of_ble_eq_true rfl) ⟨(Nat.le_of_ble_eq_true rfl), (Nat.le_of_ble_eq_true rfl)⟩ ?_
        rintro v_ w_ ⟨g2_14, rfl, rfl, hcl1⟩
        show ZW C 0 0 [wJ m_levels (zK C).2.2.1 128 le, wO m 9 [.int (zI (m_status)), .int (zI (m_thrown)), .ref m_sheetSort, .ref m_sheetMany, .ref m_numbers, .int (zI (4)), .int (zI (m_kind)), .int (zI (5)), .int (zI (m_round)), .int (zI (m_ax)), .int (zI (0)), .int (zI (m_bx)), .int (zI (0)), .ref m_dx, .ref m_dy, .ref m_weight, .ref m_isBarred, .ref m_walks, .ref m_one, .ref m_two, .ref m_light, .ref m_lightThen, .int (zI (m_family)), .ref m_fromX, .ref m_fromY, .ref m_toX, .ref m_toY, .int (zI (m_ruleMany)), .ref m_rule, .ref m_out, .int (zI (m_outs)), .ref m_grid, .ref m_heap, .ref m_ends, .ref m_power, .ref m_by2, .ref m_product, .ref m_levels, .ref m_row, .ref m_then, .ref m_equations], wJ m_equations (zK C).2.2.1 2048 g2_14] [(6, .int (zI (1))), (5, .int (zI (1))), (4, .int (zI (1))), (0, .ref m), (1, .int (zI (2))), (2, .int (zI (6))), (3, .int (zI (3)))] 152 []
        refine z_iinc (a := 1) (v := 1) (r := 2) hC 2 [(4, .int (zI (2))), (6, .int (zI (1))), (5, .int (zI (1))), (0, .ref m), (1, .int (zI (2))), (2, .int (zI (6))), (3, .int (zI (3)))] dX9_solves_152 rfl (by decide) (by decide) rfl ?_
        refine z_iinc (a := 1) (v := 1) (r := 2) hC 2 [(5, .int (zI (2))), (4, .int (zI (2))), (6, .int (zI (1))), (0, .ref m), (1, .int (zI (2))), (2, .int (zI (6))), (3, .int (zI (3)))] dX9_solves_155 rfl (by decide) (by decide) rfl ?_
        refine z_goto hC 93 dX9_solves_158 (by decide) ?_
        refine z_iload hC 0 dX9_solves_93 rfl ?_
        refine z_iload_n hC 4 dX9_solves_95 rfl rfl ?_
        refine z_icge hC 161 dX9_solves_96 (by decide) (by omega) (fun c_15 => ?_) (fun c_15 => by exfalso; omega)
        refine z_iload hC 1 dX9_solves_161 rfl ?_
        refine z_istore hC [(5, .int (zI (2))), (4, .int (zI (2))), (6, .int (zI (1))), (0, .ref m), (1, .int (zI (2))), (2, .int (zI (6))), (3, .int (zI (3)))] dX9_solves_163 (by decide) rfl ?_
        refine z_iload hC 0 dX9_solves_165 rfl ?_
        refine z_iload_n hC 5 dX9_solves_167 rfl rfl ?_
        refine z_icge hC 195 dX9_solves_168 (by decide) (by omega) (fun c_16 => by exfalso; omega) (fun c_16 => ?_)
        refine z_aload_n hC 3 dX9_solves_171 rfl rfl ?_
        refine z_get hC (T := TX9) (N := 41) hinX9 1 40 dX9_solves_172 rfl rfl (by decide) (List.mem_of_getElem? (i := 2) rfl) rfl rfl ?_
        refine z_iload_n hC 6 dX9_solves_175 rfl rfl ?_
        refine z_iload hC 0 dX9_solves_176 rfl ?_
        refine z_imul hC (6) dX9_solves_178 (by decide) ?_
        refine z_iload_n hC 4 dX9_solves_179 rfl rfl ?_
        refine z_iadd hC (8) dX9_solves_180 (by decide) ?_
        refine z_lald hC 2 dX9_solves_181 rfl (by omega) ?_
        refine z_topl (b := 1) (by rw [hcl1 8 (by omega) (by omega)]; exact elz2) ?_
        refine z_lconst (v := 0) hC dX9_solves_182 rfl ?_
        refine z_lceq hC 189 dX9_solves_183 dX9_solves_184 (by decide) (by omega) (fun c_17 => by exfalso; omega) (fun c_17 => ?_)
        refine z_iconst hC dX9_solves_187 ?_
        refine z_ws (ws' := [wO m 9 [.int (zI (m_status)), .int (zI (m_thrown)), .ref m_sheetSort, .ref m_sheetMany, .ref m_numbers, .int (zI (4)), .int (zI (m_kind)), .int (zI (5)), .int (zI (m_round)), .int (zI (m_ax)), .int (zI (0)), .int (zI (m_bx)), .int (zI (0)), .ref m_dx, .ref m_dy, .ref m_weight, .ref m_isBarred, .ref m_walks, .ref m_one, .ref m_two, .ref m_light, .ref m_lightThen, .int (zI (m_family)), .ref m_fromX, .ref m_fromY, .ref m_toX, .ref m_toY, .int (zI (m_ruleMany)), .ref m_rule, .ref m_out, .int (zI (m_outs)), .ref m_grid, .ref m_heap, .ref m_ends, .ref m_power, .ref m_by2, .ref m_product, .ref m_levels, .ref m_row, .ref m_then, .ref m_equations], wJ m_levels (zK C).2.2.1 128 le, wJ m_equations (zK C).2.2.1 2048 g2_14]) [1, 0, 2] rfl rfl ?_
        exact z_zret hC hR dX9_solves_188 (by omega) (Nat.le_of_ble_eq_true rfl) (Nat.le_of_ble_eq_true rfl) ⟨0, g2_14, rfl, rfl, by rfl⟩
      · skip
        refine z_iconst hC dX9_solves_20 ?_
        refine z_istore hC [(5, .int (zI (0))), (0, .ref m), (1, .int (zI (2))), (2, .int (zI (6))), (3, .int (zI (3))), (4, .int (zI (r)))] dX9_solves_21 (by decide) rfl ?_
        refine z_lv (lv' := [(0, .ref m), (1, .int (zI (2))), (2, .int (zI (6))), (3, .int (zI (3))), (4, .int (zI (r))), (5, .int (zI (0)))]) [1, 2, 3, 4, 5, 0] rfl ?_
        have lp23_18 : ∀ (f20 : Nat) (i : Int) (q2 : Int → Int), (0 ≤ i ∧ i ≤ 2) → (∀ j, 0 ≤ j → j < 3 * r + i → q2 j = arL el2_0 j) → (2 - i).toNat < f20 → ZW C 0 0 [wO m 9 [.int (zI (m_status)), .int (zI (m_thrown)), .ref m_sheetSort, .ref m_sheetMany, .ref m_numbers, .int (zI (4)), .int (zI (m_kind)), .int (zI (5)), .int (zI (m_round)), .int (zI (m_ax)), .int (zI (0)), .int (zI (m_bx)), .int (zI (0)), .ref m_dx, .ref m_dy, .ref m_weight, .ref m_isBarred, .ref m_walks, .ref m_one, .ref m_two, .ref m_light, .ref m_lightThen, .int (zI (m_family)), .ref m_fromX, .ref m_fromY, .ref m_toX, .ref m_toY, .int (zI (m_ruleMany)), .ref m_rule, .ref m_out, .int (zI (m_outs)), .ref m_grid, .ref m_heap, .ref m_ends, .ref m_power, .ref m_by2, .ref m_product, .ref m_levels, .ref m_row, .ref m_then, .ref m_equations], wJ m_levels (zK C).2.2.1 128 le, wJ m_equations (zK C).2.2.1 2048 q2] [(0, .ref m), (1, .int (zI (2))), (2, .int (zI (6))), (3, .int (zI (3))), (4, .int (zI (r))), (5, .int (zI (i)))] 23 [] := by
          intro f20
          induction f20 with
          | zero => intro _ _ _ _ hf; exact absurd hf (Nat.not_lt_zero _)
          | succ f20 ih23_19 =>
            intro i q2 vi vq2 hf_23
            refine z_iload hC 5 dX9_solves_23 rfl ?_
            refine z_iload_n hC 1 dX9_solves_25 rfl rfl ?_
            refine z_icge hC 61 dX9_solves_26 (by decide) (by omega) (fun c_21 => ?_) (fun c_21 => ?_)
            · skip
              refine z_aload_n hC 0 dX9_solves_61 rfl rfl ?_
              refine z_get hC (T := TX9) (N := 41) hinX9 0 40 dX9_solves_62 rfl rfl (by decide) (List.mem_of_getElem? (i := 2) rfl) rfl rfl ?_
              refine z_iload_n hC 3 dX9_solves_65 rfl rfl ?_
              refine z_iload hC 4 dX9_solves_66 rfl ?_
              refine z_imul hC (3 * r) dX9_solves_68 rfl ?_
              refine z_iload_n hC 1 dX9_solves_69 rfl rfl ?_
              refine z_iadd hC ((3 * r) + 2) dX9_solves_70 rfl ?_
              refine z_aload_n hC 0 dX9_solves_71 rfl rfl ?_
              refine z_get hC (T := TX9) (N := 41) hinX9 0 37 dX9_solves_72 rfl rfl (by decide) (List.mem_of_getElem? (i := 3) rfl) rfl rfl ?_
              refine z_iload_n hC 1 dX9_solves_75 rfl rfl ?_
              refine z_iload hC 4 dX9_solves_76 rfl ?_
              refine z_iadd hC (2 + r) dX9_solves_78 rfl ?_
              refine z_lald hC 1 dX9_solves_79 rfl (by omega) ?_
              refine z_last hC 2 [wO m 9 [.int (zI (m_status)), .int (zI (m_thrown)), .ref m_sheetSort, .ref m_sheetMany, .ref m_numbers, .int (zI (4)), .int (zI (m_kind)), .int (zI (5)), .int (zI (m_round)), .int (zI (m_ax)), .int (zI (0)), .int (zI (m_bx)), .int (zI (0)), .ref m_dx, .ref m_dy, .ref m_weight, .ref m_isBarred, .ref m_walks, .ref m_one, .ref m_two, .ref m_light, .ref m_lightThen, .int (zI (m_family)), .ref m_fromX, .ref m_fromY, .ref m_toX, .ref m_toY, .int (zI (m_ruleMany)), .ref m_rule, .ref m_out, .int (zI (m_outs)), .ref m_grid, .ref m_heap, .ref m_ends, .ref m_power, .ref m_by2, .ref m_product, .ref m_levels, .ref m_row, .ref m_then, .ref m_equations], wJ m_levels (zK C).2.2.1 128 le, wJ m_equations (zK C).2.2.1 2048 (zu q2 ((3 * r) + 2) (le (2 + r)))] dX9_solves_80 rfl (by omega) rfl ?_
              refine z_iinc (a := r) (v := 1) (r := r + 1) hC 4 [(4, .int (zI (r + 1))), (0, .ref m), (1, .int (zI (2))), (2, .int (zI (6))), (3, .int (zI (3))), (5, .int (zI (i)))] dX9_solves_81 rfl rfl (by decide) rfl ?_
              refine z_goto hC 14 dX9_solves_84 (by decide) ?_
              refine z_lv (lv' := [(0, .ref m), (1, .int (zI (2))), (2, .int (zI (6))), (3, .int (zI (3))), (4, .int (zI (r + 1)))]) [1, 2, 3, 4, 0] rfl ?_
              exact ih14_2 (r + 1) (zu q2 ((3 * r) + 2) (le (2 + r))) (by omega) (by intro j a b; unfold zu; by_cases e : j = 3 * r + 2; (rw [if_pos e, e, hlev _ (by omega) (by omega)]; show _ = arL (eqI 2 3) _; rw [eqI_at (by omega) (by omega), if_neg (by omega)]; congr 1; omega); (rw [if_neg e]; exact vq2 j a (by omega))) (by omega)
            · skip
              refine z_aload_n hC 0 dX9_solves_29 rfl rfl ?_
              refine z_get hC (T := TX9) (N := 41) hinX9 0 40 dX9_solves_30 rfl rfl (by decide) (List.mem_of_getElem? (i := 2) rfl) rfl rfl ?_
              refine z_iload_n hC 3 dX9_solves_33 rfl rfl ?_
              refine z_iload hC 4 dX9_solves_34 rfl ?_
              refine z_imul hC (3 * r) dX9_solves_36 rfl ?_
              refine z_iload hC 5 dX9_solves_37 rfl ?_
              refine z_iadd hC ((3 * r) + i) dX9_solves_39 rfl ?_
              refine z_aload_n hC 0 dX9_solves_40 rfl rfl ?_
              refine z_get hC (T := TX9) (N := 41) hinX9 0 37 dX9_solves_41 rfl rfl (by decide) (List.mem_of_getElem? (i := 3) rfl) rfl rfl ?_
              refine z_iload_n hC 1 dX9_solves_44 rfl rfl ?_
              refine z_iload hC 4 dX9_solves_45 rfl ?_
              refine z_iadd hC (2 + r) dX9_solves_47 rfl ?_
              refine z_iconst hC dX9_solves_48 ?_
              refine z_isub hC ((2 + r) - 1) dX9_solves_49 rfl ?_
              refine z_iload hC 5 dX9_solves_50 rfl ?_
              refine z_isub hC (((2 + r) - 1) - i) dX9_solves_52 rfl ?_
              refine z_lald hC 1 dX9_solves_53 rfl (by omega) ?_
              refine z_last hC 2 [wO m 9 [.int (zI (m_status)), .int (zI (m_thrown)), .ref m_sheetSort, .ref m_sheetMany, .ref m_numbers, .int (zI (4)), .int (zI (m_kind)), .int (zI (5)), .int (zI (m_round)), .int (zI (m_ax)), .int (zI (0)), .int (zI (m_bx)), .int (zI (0)), .ref m_dx, .ref m_dy, .ref m_weight, .ref m_isBarred, .ref m_walks, .ref m_one, .ref m_two, .ref m_light, .ref m_lightThen, .int (zI (m_family)), .ref m_fromX, .ref m_fromY, .ref m_toX, .ref m_toY, .int (zI (m_ruleMany)), .ref m_rule, .ref m_out, .int (zI (m_outs)), .ref m_grid, .ref m_heap, .ref m_ends, .ref m_power, .ref m_by2, .ref m_product, .ref m_levels, .ref m_row, .ref m_then, .ref m_equations], wJ m_levels (zK C).2.2.1 128 le, wJ m_equations (zK C).2.2.1 2048 (zu q2 ((3 * r) + i) (le (((2 + r) - 1) - i)))] dX9_solves_54 rfl (by omega) rfl ?_
              refine z_iinc (a := i) (v := 1) (r := i + 1) hC 5 [(5, .int (zI (i + 1))), (0, .ref m), (1, .int (zI (2))), (2, .int (zI (6))), (3, .int (zI (3))), (4, .int (zI (r)))] dX9_solves_55 rfl rfl (by decide) rfl ?_
              refine z_goto hC 23 dX9_solves_58 (by decide) ?_
              refine z_lv (lv' := [(0, .ref m), (1, .int (zI (2))), (2, .int (zI (6))), (3, .int (zI (3))), (4, .int (zI (r))), (5, .int (zI (i + 1)))]) [1, 2, 3, 4, 5, 0] rfl ?_
              exact ih23_19 (i + 1) (zu q2 ((3 * r) + i) (le (((2 + r) - 1) - i))) (by omega) (by intro j a b; unfold zu; by_cases e : j = 3 * r + i; (rw [if_pos e, e, hlev _ (by omega) (by omega)]; show _ = arL (eqI 2 3) _; rw [eqI_at (by omega) (by omega), if_pos (by omega)]; congr 1; omega); (rw [if_neg e]; exact vq2 j a (by omega))) (by omega)
        exact lp23_18 _ 0 q (by omega) (by intro j a b; exact vq j a (by omega)) (Nat.lt_succ_self _)
  exact lp14_1 _ 0 eq0 (by omega) (by intro j a b; omega) (Nat.lt_succ_self _)

set_option maxHeartbeats 8000000 in
set_option maxRecDepth 100000 in
theorem c_X9_solvesd3 (l : Launch) (D : va_G) (K : ClassId × ClassId × ClassId × ClassId) (m m_sheetSort m_sheetMany m_numbers m_dx m_dy m_weight m_isBarred m_walks m_one m_two m_light m_lightThen m_fromX m_fromY m_toX m_toY m_rule m_out m_grid m_heap m_ends m_power m_by2 m_product m_levels m_row m_then m_equations : Nat) (m_status m_thrown m_kind m_round m_ax m_bx m_family m_ruleMany m_outs : Int) (le eq0 : Int → Int) (hlev : ∀ j, 0 ≤ j → j < 128 → le j = arL TL j) : zMet l D K yX9_solves wsX9_solves ({ frames := 2, cells := 0, slots := 0, locals := 57 }) 0 0 [.ref m, .int (zI (3))] [wO m 9 [.int (zI (m_status)), .int (zI (m_thrown)), .ref m_sheetSort, .ref m_sheetMany, .ref m_numbers, .int (zI (4)), .int (zI (m_kind)), .int (zI (5)), .int (zI (m_round)), .int (zI (m_ax)), .int (zI (0)), .int (zI (m_bx)), .int (zI (0)), .ref m_dx, .ref m_dy, .ref m_weight, .ref m_isBarred, .ref m_walks, .ref m_one, .ref m_two, .ref m_light, .ref m_lightThen, .int (zI (m_family)), .ref m_fromX, .ref m_fromY, .ref m_toX, .ref m_toY, .int (zI (m_ruleMany)), .ref m_rule, .ref m_out, .int (zI (m_outs)), .ref m_grid, .ref m_heap, .ref m_ends, .ref m_power, .ref m_by2, .ref m_product, .ref m_levels, .ref m_row, .ref m_then, .ref m_equations], wJ m_levels K.2.2.1 128 le, wJ m_equations K.2.2.1 2048 eq0] (fun vr_ wr_ => ∃ (r : Int) (eq2 : Int → Int), vr_ = some (.int (zI (r))) ∧ wr_ = [wO m 9 [.int (zI (m_status)), .int (zI (m_thrown)), .ref m_sheetSort, .ref m_sheetMany, .ref m_numbers, .int (zI (4)), .int (zI (m_kind)), .int (zI (5)), .int (zI (m_round)), .int (zI (m_ax)), .int (zI (0)), .int (zI (m_bx)), .int (zI (0)), .ref m_dx, .ref m_dy, .ref m_weight, .ref m_isBarred, .ref m_walks, .ref m_one, .ref m_two, .ref m_light, .ref m_lightThen, .int (zI (m_family)), .ref m_fromX, .ref m_fromY, .ref m_toX, .ref m_toY, .int (zI (m_ruleMany)), .ref m_rule, .ref m_out, .int (zI (m_outs)), .ref m_grid, .ref m_heap, .ref m_ends, .ref m_power, .ref m_by2, .ref m_product, .ref m_levels, .ref m_row, .ref m_then, .ref m_equations], wJ m_levels K.2.2.1 128 le, wJ m_equations K.2.2.1 2048 eq2] ∧ (r = 0)) := by
  refine zMet_of (cc := cX9_solves) (nL := 7) (ret := (some .boolean)) (by decide) rfl (Nat.le_of_ble_eq_true rfl) ?_
  rintro C rfl rfl rfl hC hR
  have hinX9 : ∀ w ∈ u_ws RX9 TX9 41, w ∈ wsX9_solves := by decide +kernel
  show ZW C 0 0 [wO m 9 [.int (zI (m_status)), .int (zI (m_thrown)), .ref m_sheetSort, .ref m_sheetMany, .ref m_numbers, .int (zI (4)), .int (zI (m_kind)), .int (zI (5)), .int (zI (m_round)), .int (zI (m_ax)), .int (zI (0)), .int (zI (m_bx)), .int (zI (0)), .ref m_dx, .ref m_dy, .ref m_weight, .ref m_isBarred, .ref m_walks, .ref m_one, .ref m_two, .ref m_light, .ref m_lightThen, .int (zI (m_family)), .ref m_fromX, .ref m_fromY, .ref m_toX, .ref m_toY, .int (zI (m_ruleMany)), .ref m_rule, .ref m_out, .int (zI (m_outs)), .ref m_grid, .ref m_heap, .ref m_ends, .ref m_power, .ref m_by2, .ref m_product, .ref m_levels, .ref m_row, .ref m_then, .ref m_equations], wJ m_levels (zK C).2.2.1 128 le, wJ m_equations (zK C).2.2.1 2048 eq0] [(0, .ref m), (1, .int (zI (3)))] 0 []
  refine z_aload_n hC 0 dX9_solves_0 rfl rfl ?_
  refine z_get hC (T := TX9) (N := 41) hinX9 0 7 dX9_solves_1 rfl rfl (by decide) (List.mem_of_getElem? (i := 1) rfl) rfl rfl ?_
  refine z_iconst hC dX9_solves_4 ?_
  refine z_iadd hC (6) dX9_solves_5 (by decide) ?_
  refine z_istore_n hC [(2, .int (zI (6))), (0, .ref m), (1, .int (zI (3)))] dX9_solves_6 rfl (by decide) rfl ?_
  refine z_iload_n hC 2 dX9_solves_7 rfl rfl ?_
  refine z_iconst hC dX9_solves_8 ?_
  refine z_iadd hC (4) dX9_solves_9 (by decide) ?_
  refine z_istore_n hC [(3, .int (zI (4))), (2, .int (zI (6))), (0, .ref m), (1, .int (zI (3)))] dX9_solves_10 rfl (by decide) rfl ?_
  refine z_iconst hC dX9_solves_11 ?_
  refine z_istore hC [(4, .int (zI (0))), (3, .int (zI (4))), (2, .int (zI (6))), (0, .ref m), (1, .int (zI (3)))] dX9_solves_12 (by decide) rfl ?_
  refine z_lv (lv' := [(0, .ref m), (1, .int (zI (3))), (2, .int (zI (6))), (3, .int (zI (4))), (4, .int (zI (0)))]) [3, 4, 2, 1, 0] rfl ?_
  have lp14_1 : ∀ (f3 : Nat) (r : Int) (q : Int → Int), (0 ≤ r ∧ r ≤ 6) → (∀ j, 0 ≤ j → j < 4 * r → q j = arL el3_0 j) → (6 - r).toNat < f3 → ZW C 0 0 [wO m 9 [.int (zI (m_status)), .int (zI (m_thrown)), .ref m_sheetSort, .ref m_sheetMany, .ref m_numbers, .int (zI (4)), .int (zI (m_kind)), .int (zI (5)), .int (zI (m_round)), .int (zI (m_ax)), .int (zI (0)), .int (zI (m_bx)), .int (zI (0)), .ref m_dx, .ref m_dy, .ref m_weight, .ref m_isBarred, .ref m_walks, .ref m_one, .ref m_two, .ref m_light, .ref m_lightThen, .int (zI (m_family)), .ref m_fromX, .ref m_fromY, .ref m_toX, .ref m_toY, .int (zI (m_ruleMany)), .ref m_rule, .ref m_out, .int (zI (m_outs)), .ref m_grid, .ref m_heap, .ref m_ends, .ref m_power, .ref m_by2, .ref m_product, .ref m_levels, .ref m_row, .ref m_then, .ref m_equations], wJ m_levels (zK C).2.2.1 128 le, wJ m_equations (zK C).2.2.1 2048 q] [(0, .ref m), (1, .int (zI (3))), (2, .int (zI (6))), (3, .int (zI (4))), (4, .int (zI (r)))] 14 [] := by
    intro f3
    induction f3 with
    | zero => intro _ _ _ _ hf; exact absurd hf (Nat.not_lt_zero _)
    | succ f3 ih14_2 =>
      intro r q vr vq hf_14
      refine z_iload hC 4 dX9_solves_14 rfl ?_
      refine z_iload_n hC 2 dX9_solves_16 rfl rfl ?_
      refine z_icge hC 87 dX9_solves_17 (by decide) (by omega) (fun c_4 => ?_) (fun c_4 => ?_)
      · skip
        refine z_iconst hC dX9_solves_87 ?_
        refine z_istore hC [(4, .int (zI (0))), (0, .ref m), (1, .int (zI (3))), (2, .int (zI (6))), (3, .int (zI (4)))] dX9_solves_88 (by decide) rfl ?_
        refine z_iconst hC dX9_solves_90 ?_
        refine z_istore hC [(5, .int (zI (0))), (4, .int (zI (0))), (0, .ref m), (1, .int (zI (3))), (2, .int (zI (6))), (3, .int (zI (4)))] dX9_solves_91 (by decide) rfl ?_
        refine z_iload hC 0 dX9_solves_93 rfl ?_
        refine z_iload_n hC 3 dX9_solves_95 rfl rfl ?_
        refine z_icge hC 161 dX9_solves_96 (by decide) (by omega) (fun c_5 => by exfalso; omega) (fun c_5 => ?_)
        refine z_iload hC 1 dX9_solves_99 rfl ?_
        refine z_istore hC [(6, .int (zI (0))), (5, .int (zI (0))), (4, .int (zI (0))), (0, .ref m), (1, .int (zI (3))), (2, .int (zI (6))), (3, .int (zI (4)))] dX9_solves_101 (by decide) rfl ?_
        refine z_iload hC 0 dX9_solves_103 rfl ?_
        refine z_iload_n hC 5 dX9_solves_105 rfl rfl ?_
        refine z_icge hC 132 dX9_solves_106 (by decide) (by omega) (fun c_6 => by exfalso; omega) (fun c_6 => ?_)
        refine z_aload_n hC 3 dX9_solves_109 rfl rfl ?_
        refine z_get hC (T := TX9) (N := 41) hinX9 0 40 dX9_solves_110 rfl rfl (by decide) (List.mem_of_getElem? (i := 2) rfl) rfl rfl ?_
        refine z_iload_n hC 6 dX9_solves_113 rfl rfl ?_
        refine z_iload hC 0 dX9_solves_114 rfl ?_
        refine z_imul hC (0) dX9_solves_116 (by decide) ?_
        refine z_iload hC 1 dX9_solves_117 rfl ?_
        refine z_iadd hC (0) dX9_solves_119 (by decide) ?_
        refine z_lald hC 2 dX9_solves_120 rfl (by omega) ?_
        refine z_topl (b := 5) (by rw [vq 0 (by omega) (by omega)]; exact elv3_0) ?_
        refine z_lconst (v := 0) hC dX9_solves_121 rfl ?_
        refine z_lcne hC 132 dX9_solves_122 dX9_solves_123 (by decide) (by omega) (fun c_7 => ?_) (fun c_7 => by exfalso; omega)
        refine z_iload hC 0 dX9_solves_132 rfl ?_
        refine z_iload_n hC 5 dX9_solves_134 rfl rfl ?_
        refine z_icne hC 140 dX9_solves_135 (by decide) (by omega) (fun c_8 => ?_) (fun c_8 => by exfalso; omega)
        refine z_aload_n hC 3 dX9_solves_140 rfl rfl ?_
        refine z_iload hC 2 dX9_solves_141 rfl ?_
        refine z_iload hC 0 dX9_solves_143 rfl ?_
        refine z_iload hC 1 dX9_solves_145 rfl ?_
        refine z_iload_n hC 6 dX9_solves_147 rfl rfl ?_
        refine z_iload_n hC 5 dX9_solves_148 rfl rfl ?_
        refine z_callV hC [.int (zI (0)), .int (zI (0)), .int (zI (0)), .int (zI (4)), .int (zI (6))] 5 0 dX9_solves_149 (c_X9_clearsw4 (zl C) (zD C) (zK C) m m_sheetSort m_sheetMany m_numbers m_dx m_dy m_weight m_isBarred m_walks m_one m_two m_light m_lightThen m_fromX m_fromY m_toX m_toY m_rule m_out m_grid m_heap m_ends m_power m_by2 m_product m_levels m_row m_then m_equations 0 m_status m_thrown 4 m_kind 5 m_round m_ax 0 m_bx 0 m_family m_ruleMany m_outs q el3_0 (by first | assumption | omega) (by intro j a b; exact vq j a (by omega)) (by exact elr3_0)) gX9_solves_X9_clears rfl rfl rfl ⟨by decide, by decide, by decide +kernel⟩ ⟨(Nat.le_of_ble_eq_true rfl), (Nat.le_of_ble_eq_true rfl)⟩ rfl rfl rfl rfl [0, 2] [1] [wJ m_levels (zK C).2.2.1 128 le] [] rfl rfl rfl rfl rfl (by decide) (Nat.le_of_ble_eq_true rfl) ⟨(Nat.le_of_ble_eq_true rfl), (Nat.le_of_ble_eq_true rfl)⟩ ?_
        rintro v_ w_ ⟨g2_9, rfl, rfl, hcl0⟩
        show ZW C 0 0 [wJ m_levels (zK C).2.2.1 128 le, wO m 9 [.int (zI (m_status)), .int (zI (m_thrown)), .ref m_sheetSort, .ref m_sheetMany, .ref m_numbers, .int (zI (4)), .int (zI (m_kind)), .int (zI (5)), .int (zI (m_round)), .int (zI (m_ax)), .int (zI (0)), .int (zI (m_bx)), .int (zI (0)), .ref m_dx, .ref m_dy, .ref m_weight, .ref m_isBarred, .ref m_walks, .ref m_one, .ref m_two, .ref m_light, .ref m_lightThen, .int (zI (m_family)), .ref m_fromX, .ref m_fromY, .ref m_toX, .ref m_toY, .int (zI (m_ruleMany)), .ref m_rule, .ref m_out, .int (zI (m_outs)), .ref m_grid, .ref m_heap, .ref m_ends, .ref m_power, .ref m_by2, .ref m_product, .ref m_levels, .ref m_row, .ref m_then, .ref m_equations], wJ m_equations (zK C).2.2.1 2048 g2_9] [(6, .int (zI (0))), (5, .int (zI (0))), (4, .int (zI (0))), (0, .ref m), (1, .int (zI (3))), (2, .int (zI (6))), (3, .int (zI (4)))] 152 []
        refine z_iinc (a := 0) (v := 1) (r := 1) hC 2 [(4, .int (zI (1))), (6, .int (zI (0))), (5, .int (zI (0))), (0, .ref m), (1, .int (zI (3))), (2, .int (zI (6))), (3, .int (zI (4)))] dX9_solves_152 rfl (by decide) (by decide) rfl ?_
        refine z_iinc (a := 0) (v := 1) (r := 1) hC 2 [(5, .int (zI (1))), (4, .int (zI (1))), (6, .int (zI (0))), (0, .ref m), (1, .int (zI (3))), (2, .int (zI (6))), (3, .int (zI (4)))] dX9_solves_155 rfl (by decide) (by decide) rfl ?_
        refine z_goto hC 93 dX9_solves_158 (by decide) ?_
        refine z_iload hC 0 dX9_solves_93 rfl ?_
        refine z_iload_n hC 4 dX9_solves_95 rfl rfl ?_
        refine z_icge hC 161 dX9_solves_96 (by decide) (by omega) (fun c_10 => by exfalso; omega) (fun c_10 => ?_)
        refine z_iload hC 1 dX9_solves_99 rfl ?_
        refine z_istore hC [(6, .int (zI (1))), (5, .int (zI (1))), (4, .int (zI (1))), (0, .ref m), (1, .int (zI (3))), (2, .int (zI (6))), (3, .int (zI (4)))] dX9_solves_101 (by decide) rfl ?_
        refine z_iload hC 0 dX9_solves_103 rfl ?_
        refine z_iload_n hC 5 dX9_solves_105 rfl rfl ?_
        refine z_icge hC 132 dX9_solves_106 (by decide) (by omega) (fun c_11 => by exfalso; omega) (fun c_11 => ?_)
        refine z_aload_n hC 3 dX9_solves_109 rfl rfl ?_
        refine z_get hC (T := TX9) (N := 41) hinX9 1 40 dX9_solves_110 rfl rfl (by decide) (List.mem_of_getElem? (i := 2) rfl) rfl rfl ?_
        refine z_iload_n hC 6 dX9_solves_113 rfl rfl ?_
        refine z_iload hC 0 dX9_solves_114 rfl ?_
        refine z_imul hC (4) dX9_solves_116 (by decide) ?_
        refine z_iload hC 1 dX9_solves_117 rfl ?_
        refine z_iadd hC (5) dX9_solves_119 (by decide) ?_
        refine z_lald hC 2 dX9_solves_120 rfl (by omega) ?_
        refine z_topl (b := 199648870) (by rw [hcl0 5 (by omega) (by omega)]; exact elv3_1) ?_
        refine z_lconst (v := 0) hC dX9_solves_121 rfl ?_
        refine z_lcne hC 132 dX9_solves_122 dX9_solves_123 (by decide) (by omega) (fun c_12 => ?_) (fun c_12 => by exfalso; omega)
        refine z_iload hC 0 dX9_solves_132 rfl ?_
        refine z_iload_n hC 5 dX9_solves_134 rfl rfl ?_
        refine z_icne hC 140 dX9_solves_135 (by decide) (by omega) (fun c_13 => ?_) (fun c_13 => by exfalso; omega)
        refine z_aload_n hC 3 dX9_solves_140 rfl rfl ?_
        refine z_iload hC 2 dX9_solves_141 rfl ?_
        refine z_iload hC 0 dX9_solves_143 rfl ?_
        refine z_iload hC 1 dX9_solves_145 rfl ?_
        refine z_iload_n hC 6 dX9_solves_147 rfl rfl ?_
        refine z_iload_n hC 5 dX9_solves_148 rfl rfl ?_
        refine z_callV hC [.int (zI (1)), .int (zI (1)), .int (zI (1)), .int (zI (4)), .int (zI (6))] 5 0 dX9_solves_149 (c_X9_clearsw4 (zl C) (zD C) (zK C) m m_sheetSort m_sheetMany m_numbers m_dx m_dy m_weight m_isBarred m_walks m_one m_two m_light m_lightThen m_fromX m_fromY m_toX m_toY m_rule m_out m_grid m_heap m_ends m_power m_by2 m_product m_levels m_row m_then m_equations 1 m_status m_thrown 4 m_kind 5 m_round m_ax 0 m_bx 0 m_family m_ruleMany m_outs g2_9 el3_1 (by first | assumption | omega) (by intro j a b; exact hcl0 j a (by omega)) (by exact elr3_1)) gX9_solves_X9_clears rfl rfl rfl ⟨by decide, by decide, by decide +kernel⟩ ⟨(Nat.le_of_ble_eq_true rfl), (Nat.le_of_ble_eq_true rfl)⟩ rfl rfl rfl rfl [1, 2] [0] [wJ m_levels (zK C).2.2.1 128 le] [] rfl rfl rfl rfl rfl (by decide) (Nat.le_of_ble_eq_true rfl) ⟨(Nat.le_of_ble_eq_true rfl), (Nat.le_of_ble_eq_true rfl)⟩ ?_
        rintro v_ w_ ⟨g2_14, rfl, rfl, hcl1⟩
        show ZW C 0 0 [wJ m_levels (zK C).2.2.1 128 le, wO m 9 [.int (zI (m_status)), .int (zI (m_thrown)), .ref m_sheetSort, .ref m_sheetMany, .ref m_numbers, .int (zI (4)), .int (zI (m_kind)), .int (zI (5)), .int (zI (m_round)), .int (zI (m_ax)), .int (zI (0)), .int (zI (m_bx)), .int (zI (0)), .ref m_dx, .ref m_dy, .ref m_weight, .ref m_isBarred, .ref m_walks, .ref m_one, .ref m_two, .ref m_light, .ref m_lightThen, .int (zI (m_family)), .ref m_fromX, .ref m_fromY, .ref m_toX, .ref m_toY, .int (zI (m_ruleMany)), .ref m_rule, .ref m_out, .int (zI (m_outs)), .ref m_grid, .ref m_heap, .ref m_ends, .ref m_power, .ref m_by2, .ref m_product, .ref m_levels, .ref m_row, .ref m_then, .ref m_equations], wJ m_equations (zK C).2.2.1 2048 g2_14] [(6, .int (zI (1))), (5, .int (zI (1))), (4, .int (zI (1))), (0, .ref m), (1, .int (zI (3))), (2, .int (zI (6))), (3, .int (zI (4)))] 152 []
        refine z_iinc (a := 1) (v := 1) (r := 2) hC 2 [(4, .int (zI (2))), (6, .int (zI (1))), (5, .int (zI (1))), (0, .ref m), (1, .int (zI (3))), (2, .int (zI (6))), (3, .int (zI (4)))] dX9_solves_152 rfl (by decide) (by decide) rfl ?_
        refine z_iinc (a := 1) (v := 1) (r := 2) hC 2 [(5, .int (zI (2))), (4, .int (zI (2))), (6, .int (zI (1))), (0, .ref m), (1, .int (zI (3))), (2, .int (zI (6))), (3, .int (zI (4)))] dX9_solves_155 rfl (by decide) (by decide) rfl ?_
        refine z_goto hC 93 dX9_solves_158 (by decide) ?_
        refine z_iload hC 0 dX9_solves_93 rfl ?_
        refine z_iload_n hC 4 dX9_solves_95 rfl rfl ?_
        refine z_icge hC 161 dX9_solves_96 (by decide) (by omega) (fun c_15 => by exfalso; omega) (fun c_15 => ?_)
        refine z_iload hC 1 dX9_solves_99 rfl ?_
        refine z_istore hC [(6, .int (zI (2))), (5, .int (zI (2))), (4, .int (zI (2))), (0, .ref m), (1, .int (zI (3))), (2, .int (zI (6))), (3, .int (zI (4)))] dX9_solves_101 (by decide) rfl ?_
        refine z_iload hC 0 dX9_solves_103 rfl ?_
        refine z_iload_n hC 5 dX9_solves_105 rfl rfl ?_
        refine z_icge hC 132 dX9_solves_106 (by decide) (by omega) (fun c_16 => by exfalso; omega) (fun c_16 => ?_)
        refine z_aload_n hC 3 dX9_solves_109 rfl rfl ?_
        refine z_get hC (T := TX9) (N := 41) hinX9 1 40 dX9_solves_110 rfl rfl (by decide) (List.mem_of_getElem? (i := 2) rfl) rfl rfl ?_
        refine z_iload_n hC 6 dX9_solves_113 rfl rfl ?_
        refine z_iload hC 0 dX9_solves_114 rfl ?_
        refine z_imul hC (8) dX9_solves_116 (by decide) ?_
        refine z_iload hC 1 dX9_solves_117 rfl ?_
        refine z_iadd hC (10) dX9_solves_119 (by decide) ?_
        refine z_lald hC 2 dX9_solves_120 rfl (by omega) ?_
        refine z_topl (b := 332748118) (by rw [hcl1 10 (by omega) (by omega)]; exact elv3_2) ?_
        refine z_lconst (v := 0) hC dX9_solves_121 rfl ?_
        refine z_lcne hC 132 dX9_solves_122 dX9_solves_123 (by decide) (by omega) (fun c_17 => ?_) (fun c_17 => by exfalso; omega)
        refine z_iload hC 0 dX9_solves_132 rfl ?_
        refine z_iload_n hC 5 dX9_solves_134 rfl rfl ?_
        refine z_icne hC 140 dX9_solves_135 (by decide) (by omega) (fun c_18 => ?_) (fun c_18 => by exfalso; omega)
        refine z_aload_n hC 3 dX9_solves_140 rfl rfl ?_
        refine z_iload hC 2 dX9_solves_141 rfl ?_
        refine z_iload hC 0 dX9_solves_143 rfl ?_
        refine z_iload hC 1 dX9_solves_145 rfl ?_
        refine z_iload_n hC 6 dX9_solves_147 rfl rfl ?_
        refine z_iload_n hC 5 dX9_solves_148 rfl rfl ?_
        refine z_callV hC [.int (zI (2)), .int (zI (2)), .int (zI (2)), .int (zI (4)), .int (zI (6))] 5 0 dX9_solves_149 (c_X9_clearsw4 (zl C) (zD C) (zK C) m m_sheetSort m_sheetMany m_numbers m_dx m_dy m_weight m_isBarred m_walks m_one m_two m_light m_lightThen m_fromX m_fromY m_toX m_toY m_rule m_out m_grid m_heap m_ends m_power m_by2 m_product m_levels m_row m_then m_equations 2 m_status m_thrown 4 m_kind 5 m_round m_ax 0 m_bx 0 m_family m_ruleMany m_outs g2_14 el3_2 (by first | assumption | omega) (by intro j a b; exact hcl1 j a (by omega)) (by exact elr3_2)) gX9_solves_X9_clears rfl rfl rfl ⟨by decide, by decide, by decide +kernel⟩ ⟨(Nat.le_of_ble_eq_true rfl), (Nat.le_of_ble_eq_true rfl)⟩ rfl rfl rfl rfl [1, 2] [0] [wJ m_levels (zK C).2.2.1 128 le] [] rfl rfl rfl rfl rfl (by decide) (Nat.le_of_ble_eq_true rfl) ⟨(Nat.le_of_ble_eq_true rfl), (Nat.le_of_ble_eq_true rfl)⟩ ?_
        rintro v_ w_ ⟨g2_19, rfl, rfl, hcl2⟩
        show ZW C 0 0 [wJ m_levels (zK C).2.2.1 128 le, wO m 9 [.int (zI (m_status)), .int (zI (m_thrown)), .ref m_sheetSort, .ref m_sheetMany, .ref m_numbers, .int (zI (4)), .int (zI (m_kind)), .int (zI (5)), .int (zI (m_round)), .int (zI (m_ax)), .int (zI (0)), .int (zI (m_bx)), .int (zI (0)), .ref m_dx, .ref m_dy, .ref m_weight, .ref m_isBarred, .ref m_walks, .ref m_one, .ref m_two, .ref m_light, .ref m_lightThen, .int (zI (m_family)), .ref m_fromX, .ref m_fromY, .ref m_toX, .ref m_toY, .int (zI (m_ruleMany)), .ref m_rule, .ref m_out, .int (zI (m_outs)), .ref m_grid, .ref m_heap, .ref m_ends, .ref m_power, .ref m_by2, .ref m_product, .ref m_levels, .ref m_row, .ref m_then, .ref m_equations], wJ m_equations (zK C).2.2.1 2048 g2_19] [(6, .int (zI (2))), (5, .int (zI (2))), (4, .int (zI (2))), (0, .ref m), (1, .int (zI (3))), (2, .int (zI (6))), (3, .int (zI (4)))] 152 []
        refine z_iinc (a := 2) (v := 1) (r := 3) hC 2 [(4, .int (zI (3))), (6, .int (zI (2))), (5, .int (zI (2))), (0, .ref m), (1, .int (zI (3))), (2, .int (zI (6))), (3, .int (zI (4)))] dX9_solves_152 rfl (by decide) (by decide) rfl ?_
        refine z_iinc (a := 2) (v := 1) (r := 3) hC 2 [(5, .int (zI (3))), (4, .int (zI (3))), (6, .int (zI (2))), (0, .ref m), (1, .int (zI (3))), (2, .int (zI (6))), (3, .int (zI (4)))] dX9_solves_155 rfl (by decide) (by decide) rfl ?_
        refine z_goto hC 93 dX9_solves_158 (by decide) ?_
        refine z_iload hC 0 dX9_solves_93 rfl ?_
        refine z_iload_n hC 4 dX9_solves_95 rfl rfl ?_
        refine z_icge hC 161 dX9_solves_96 (by decide) (by omega) (fun c_20 => ?_) (fun c_20 => by exfalso; omega)
        refine z_iload hC 1 dX9_solves_161 rfl ?_
        refine z_istore hC [(5, .int (zI (3))), (4, .int (zI (3))), (6, .int (zI (2))), (0, .ref m), (1, .int (zI (3))), (2, .int (zI (6))), (3, .int (zI (4)))] dX9_solves_163 (by decide) rfl ?_
        refine z_iload hC 0 dX9_solves_165 rfl ?_
        refine z_iload_n hC 5 dX9_solves_167 rfl rfl ?_
        refine z_icge hC 195 dX9_solves_168 (by decide) (by omega) (fun c_21 => by exfalso; omega) (fun c_21 => ?_)
        refine z_aload_n hC 3 dX9_solves_171 rfl rfl ?_
        refine z_get hC (T := TX9) (N := 41) hinX9 1 40 dX9_solves_172 rfl rfl (by decide) (List.mem_of_getElem? (i := 2) rfl) rfl rfl ?_
        refine z_iload_n hC 6 dX9_solves_175 rfl rfl ?_
        refine z_iload hC 0 dX9_solves_176 rfl ?_
        refine z_imul hC (12) dX9_solves_178 (by decide) ?_
        refine z_iload_n hC 4 dX9_solves_179 rfl rfl ?_
        refine z_iadd hC (15) dX9_solves_180 (by decide) ?_
        refine z_lald hC 2 dX9_solves_181 rfl (by omega) ?_
        refine z_topl (b := 1) (by rw [hcl2 15 (by omega) (by omega)]; exact elz3) ?_
        refine z_lconst (v := 0) hC dX9_solves_182 rfl ?_
        refine z_lceq hC 189 dX9_solves_183 dX9_solves_184 (by decide) (by omega) (fun c_22 => by exfalso; omega) (fun c_22 => ?_)
        refine z_iconst hC dX9_solves_187 ?_
        refine z_ws (ws' := [wO m 9 [.int (zI (m_status)), .int (zI (m_thrown)), .ref m_sheetSort, .ref m_sheetMany, .ref m_numbers, .int (zI (4)), .int (zI (m_kind)), .int (zI (5)), .int (zI (m_round)), .int (zI (m_ax)), .int (zI (0)), .int (zI (m_bx)), .int (zI (0)), .ref m_dx, .ref m_dy, .ref m_weight, .ref m_isBarred, .ref m_walks, .ref m_one, .ref m_two, .ref m_light, .ref m_lightThen, .int (zI (m_family)), .ref m_fromX, .ref m_fromY, .ref m_toX, .ref m_toY, .int (zI (m_ruleMany)), .ref m_rule, .ref m_out, .int (zI (m_outs)), .ref m_grid, .ref m_heap, .ref m_ends, .ref m_power, .ref m_by2, .ref m_product, .ref m_levels, .ref m_row, .ref m_then, .ref m_equations], wJ m_levels (zK C).2.2.1 128 le, wJ m_equations (zK C).2.2.1 2048 g2_19]) [1, 0, 2] rfl rfl ?_
        exact z_zret hC hR dX9_solves_188 (by omega) (Nat.le_of_ble_eq_true rfl) (Nat.le_of_ble_eq_true rfl) ⟨0, g2_19, rfl, rfl, by rfl⟩
      · skip
        refine z_iconst hC dX9_solves_20 ?_
        refine z_istore hC [(5, .int (zI (0))), (0, .ref m), (1, .int (zI (3))), (2, .int (zI (6))), (3, .int (zI (4))), (4, .int (zI (r)))] dX9_solves_21 (by decide) rfl ?_
        refine z_lv (lv' := [(0, .ref m), (1, .int (zI (3))), (2, .int (zI (6))), (3, .int (zI (4))), (4, .int (zI (r))), (5, .int (zI (0)))]) [1, 2, 3, 4, 5, 0] rfl ?_
        have lp23_23 : ∀ (f25 : Nat) (i : Int) (q2 : Int → Int), (0 ≤ i ∧ i ≤ 3) → (∀ j, 0 ≤ j → j < 4 * r + i → q2 j = arL el3_0 j) → (3 - i).toNat < f25 → ZW C 0 0 [wO m 9 [.int (zI (m_status)), .int (zI (m_thrown)), .ref m_sheetSort, .ref m_sheetMany, .ref m_numbers, .int (zI (4)), .int (zI (m_kind)), .int (zI (5)), .int (zI (m_round)), .int (zI (m_ax)), .int (zI (0)), .int (zI (m_bx)), .int (zI (0)), .ref m_dx, .ref m_dy, .ref m_weight, .ref m_isBarred, .ref m_walks, .ref m_one, .ref m_two, .ref m_light, .ref m_lightThen, .int (zI (m_family)), .ref m_fromX, .ref m_fromY, .ref m_toX, .ref m_toY, .int (zI (m_ruleMany)), .ref m_rule, .ref m_out, .int (zI (m_outs)), .ref m_grid, .ref m_heap, .ref m_ends, .ref m_power, .ref m_by2, .ref m_product, .ref m_levels, .ref m_row, .ref m_then, .ref m_equations], wJ m_levels (zK C).2.2.1 128 le, wJ m_equations (zK C).2.2.1 2048 q2] [(0, .ref m), (1, .int (zI (3))), (2, .int (zI (6))), (3, .int (zI (4))), (4, .int (zI (r))), (5, .int (zI (i)))] 23 [] := by
          intro f25
          induction f25 with
          | zero => intro _ _ _ _ hf; exact absurd hf (Nat.not_lt_zero _)
          | succ f25 ih23_24 =>
            intro i q2 vi vq2 hf_23
            refine z_iload hC 5 dX9_solves_23 rfl ?_
            refine z_iload_n hC 1 dX9_solves_25 rfl rfl ?_
            refine z_icge hC 61 dX9_solves_26 (by decide) (by omega) (fun c_26 => ?_) (fun c_26 => ?_)
            · skip
              refine z_aload_n hC 0 dX9_solves_61 rfl rfl ?_
              refine z_get hC (T := TX9) (N := 41) hinX9 0 40 dX9_solves_62 rfl rfl (by decide) (List.mem_of_getElem? (i := 2) rfl) rfl rfl ?_
              refine z_iload_n hC 3 dX9_solves_65 rfl rfl ?_
              refine z_iload hC 4 dX9_solves_66 rfl ?_
              refine z_imul hC (4 * r) dX9_solves_68 rfl ?_
              refine z_iload_n hC 1 dX9_solves_69 rfl rfl ?_
              refine z_iadd hC ((4 * r) + 3) dX9_solves_70 rfl ?_
              refine z_aload_n hC 0 dX9_solves_71 rfl rfl ?_
              refine z_get hC (T := TX9) (N := 41) hinX9 0 37 dX9_solves_72 rfl rfl (by decide) (List.mem_of_getElem? (i := 3) rfl) rfl rfl ?_
              refine z_iload_n hC 1 dX9_solves_75 rfl rfl ?_
              refine z_iload hC 4 dX9_solves_76 rfl ?_
              refine z_iadd hC (3 + r) dX9_solves_78 rfl ?_
              refine z_lald hC 1 dX9_solves_79 rfl (by omega) ?_
              refine z_last hC 2 [wO m 9 [.int (zI (m_status)), .int (zI (m_thrown)), .ref m_sheetSort, .ref m_sheetMany, .ref m_numbers, .int (zI (4)), .int (zI (m_kind)), .int (zI (5)), .int (zI (m_round)), .int (zI (m_ax)), .int (zI (0)), .int (zI (m_bx)), .int (zI (0)), .ref m_dx, .ref m_dy, .ref m_weight, .ref m_isBarred, .ref m_walks, .ref m_one, .ref m_two, .ref m_light, .ref m_lightThen, .int (zI (m_family)), .ref m_fromX, .ref m_fromY, .ref m_toX, .ref m_toY, .int (zI (m_ruleMany)), .ref m_rule, .ref m_out, .int (zI (m_outs)), .ref m_grid, .ref m_heap, .ref m_ends, .ref m_power, .ref m_by2, .ref m_product, .ref m_levels, .ref m_row, .ref m_then, .ref m_equations], wJ m_levels (zK C).2.2.1 128 le, wJ m_equations (zK C).2.2.1 2048 (zu q2 ((4 * r) + 3) (le (3 + r)))] dX9_solves_80 rfl (by omega) rfl ?_
              refine z_iinc (a := r) (v := 1) (r := r + 1) hC 4 [(4, .int (zI (r + 1))), (0, .ref m), (1, .int (zI (3))), (2, .int (zI (6))), (3, .int (zI (4))), (5, .int (zI (i)))] dX9_solves_81 rfl rfl (by decide) rfl ?_
              refine z_goto hC 14 dX9_solves_84 (by decide) ?_
              refine z_lv (lv' := [(0, .ref m), (1, .int (zI (3))), (2, .int (zI (6))), (3, .int (zI (4))), (4, .int (zI (r + 1)))]) [1, 2, 3, 4, 0] rfl ?_
              exact ih14_2 (r + 1) (zu q2 ((4 * r) + 3) (le (3 + r))) (by omega) (by intro j a b; unfold zu; by_cases e : j = 4 * r + 3; (rw [if_pos e, e, hlev _ (by omega) (by omega)]; show _ = arL (eqI 3 4) _; rw [eqI_at (by omega) (by omega), if_neg (by omega)]; congr 1; omega); (rw [if_neg e]; exact vq2 j a (by omega))) (by omega)
            · skip
              refine z_aload_n hC 0 dX9_solves_29 rfl rfl ?_
              refine z_get hC (T := TX9) (N := 41) hinX9 0 40 dX9_solves_30 rfl rfl (by decide) (List.mem_of_getElem? (i := 2) rfl) rfl rfl ?_
              refine z_iload_n hC 3 dX9_solves_33 rfl rfl ?_
              refine z_iload hC 4 dX9_solves_34 rfl ?_
              refine z_imul hC (4 * r) dX9_solves_36 rfl ?_
              refine z_iload hC 5 dX9_solves_37 rfl ?_
              refine z_iadd hC ((4 * r) + i) dX9_solves_39 rfl ?_
              refine z_aload_n hC 0 dX9_solves_40 rfl rfl ?_
              refine z_get hC (T := TX9) (N := 41) hinX9 0 37 dX9_solves_41 rfl rfl (by decide) (List.mem_of_getElem? (i := 3) rfl) rfl rfl ?_
              refine z_iload_n hC 1 dX9_solves_44 rfl rfl ?_
              refine z_iload hC 4 dX9_solves_45 rfl ?_
              refine z_iadd hC (3 + r) dX9_solves_47 rfl ?_
              refine z_iconst hC dX9_solves_48 ?_
              refine z_isub hC ((3 + r) - 1) dX9_solves_49 rfl ?_
              refine z_iload hC 5 dX9_solves_50 rfl ?_
              refine z_isub hC (((3 + r) - 1) - i) dX9_solves_52 rfl ?_
              refine z_lald hC 1 dX9_solves_53 rfl (by omega) ?_
              refine z_last hC 2 [wO m 9 [.int (zI (m_status)), .int (zI (m_thrown)), .ref m_sheetSort, .ref m_sheetMany, .ref m_numbers, .int (zI (4)), .int (zI (m_kind)), .int (zI (5)), .int (zI (m_round)), .int (zI (m_ax)), .int (zI (0)), .int (zI (m_bx)), .int (zI (0)), .ref m_dx, .ref m_dy, .ref m_weight, .ref m_isBarred, .ref m_walks, .ref m_one, .ref m_two, .ref m_light, .ref m_lightThen, .int (zI (m_family)), .ref m_fromX, .ref m_fromY, .ref m_toX, .ref m_toY, .int (zI (m_ruleMany)), .ref m_rule, .ref m_out, .int (zI (m_outs)), .ref m_grid, .ref m_heap, .ref m_ends, .ref m_power, .ref m_by2, .ref m_product, .ref m_levels, .ref m_row, .ref m_then, .ref m_equations], wJ m_levels (zK C).2.2.1 128 le, wJ m_equations (zK C).2.2.1 2048 (zu q2 ((4 * r) + i) (le (((3 + r) - 1) - i)))] dX9_solves_54 rfl (by omega) rfl ?_
              refine z_iinc (a := i) (v := 1) (r := i + 1) hC 5 [(5, .int (zI (i + 1))), (0, .ref m), (1, .int (zI (3))), (2, .int (zI (6))), (3, .int (zI (4))), (4, .int (zI (r)))] dX9_solves_55 rfl rfl (by decide) rfl ?_
              refine z_goto hC 23 dX9_solves_58 (by decide) ?_
              refine z_lv (lv' := [(0, .ref m), (1, .int (zI (3))), (2, .int (zI (6))), (3, .int (zI (4))), (4, .int (zI (r))), (5, .int (zI (i + 1)))]) [1, 2, 3, 4, 5, 0] rfl ?_
              exact ih23_24 (i + 1) (zu q2 ((4 * r) + i) (le (((3 + r) - 1) - i))) (by omega) (by intro j a b; unfold zu; by_cases e : j = 4 * r + i; (rw [if_pos e, e, hlev _ (by omega) (by omega)]; show _ = arL (eqI 3 4) _; rw [eqI_at (by omega) (by omega), if_pos (by omega)]; congr 1; omega); (rw [if_neg e]; exact vq2 j a (by omega))) (by omega)
        exact lp23_23 _ 0 q (by omega) (by intro j a b; exact vq j a (by omega)) (Nat.lt_succ_self _)
  exact lp14_1 _ 0 eq0 (by omega) (by intro j a b; omega) (Nat.lt_succ_self _)

set_option maxHeartbeats 8000000 in
set_option maxRecDepth 100000 in
theorem c_X9_solvesd4 (l : Launch) (D : va_G) (K : ClassId × ClassId × ClassId × ClassId) (m m_sheetSort m_sheetMany m_numbers m_dx m_dy m_weight m_isBarred m_walks m_one m_two m_light m_lightThen m_fromX m_fromY m_toX m_toY m_rule m_out m_grid m_heap m_ends m_power m_by2 m_product m_levels m_row m_then m_equations : Nat) (m_status m_thrown m_kind m_round m_ax m_bx m_family m_ruleMany m_outs : Int) (le eq0 : Int → Int) (hlev : ∀ j, 0 ≤ j → j < 128 → le j = arL TL j) : zMet l D K yX9_solves wsX9_solves ({ frames := 2, cells := 0, slots := 0, locals := 57 }) 0 0 [.ref m, .int (zI (4))] [wO m 9 [.int (zI (m_status)), .int (zI (m_thrown)), .ref m_sheetSort, .ref m_sheetMany, .ref m_numbers, .int (zI (4)), .int (zI (m_kind)), .int (zI (5)), .int (zI (m_round)), .int (zI (m_ax)), .int (zI (0)), .int (zI (m_bx)), .int (zI (0)), .ref m_dx, .ref m_dy, .ref m_weight, .ref m_isBarred, .ref m_walks, .ref m_one, .ref m_two, .ref m_light, .ref m_lightThen, .int (zI (m_family)), .ref m_fromX, .ref m_fromY, .ref m_toX, .ref m_toY, .int (zI (m_ruleMany)), .ref m_rule, .ref m_out, .int (zI (m_outs)), .ref m_grid, .ref m_heap, .ref m_ends, .ref m_power, .ref m_by2, .ref m_product, .ref m_levels, .ref m_row, .ref m_then, .ref m_equations], wJ m_levels K.2.2.1 128 le, wJ m_equations K.2.2.1 2048 eq0] (fun vr_ wr_ => ∃ (r : Int) (eq2 : Int → Int), vr_ = some (.int (zI (r))) ∧ wr_ = [wO m 9 [.int (zI (m_status)), .int (zI (m_thrown)), .ref m_sheetSort, .ref m_sheetMany, .ref m_numbers, .int (zI (4)), .int (zI (m_kind)), .int (zI (5)), .int (zI (m_round)), .int (zI (m_ax)), .int (zI (0)), .int (zI (m_bx)), .int (zI (0)), .ref m_dx, .ref m_dy, .ref m_weight, .ref m_isBarred, .ref m_walks, .ref m_one, .ref m_two, .ref m_light, .ref m_lightThen, .int (zI (m_family)), .ref m_fromX, .ref m_fromY, .ref m_toX, .ref m_toY, .int (zI (m_ruleMany)), .ref m_rule, .ref m_out, .int (zI (m_outs)), .ref m_grid, .ref m_heap, .ref m_ends, .ref m_power, .ref m_by2, .ref m_product, .ref m_levels, .ref m_row, .ref m_then, .ref m_equations], wJ m_levels K.2.2.1 128 le, wJ m_equations K.2.2.1 2048 eq2] ∧ (r = 0)) := by
  refine zMet_of (cc := cX9_solves) (nL := 7) (ret := (some .boolean)) (by decide) rfl (Nat.le_of_ble_eq_true rfl) ?_
  rintro C rfl rfl rfl hC hR
  have hinX9 : ∀ w ∈ u_ws RX9 TX9 41, w ∈ wsX9_solves := by decide +kernel
  show ZW C 0 0 [wO m 9 [.int (zI (m_status)), .int (zI (m_thrown)), .ref m_sheetSort, .ref m_sheetMany, .ref m_numbers, .int (zI (4)), .int (zI (m_kind)), .int (zI (5)), .int (zI (m_round)), .int (zI (m_ax)), .int (zI (0)), .int (zI (m_bx)), .int (zI (0)), .ref m_dx, .ref m_dy, .ref m_weight, .ref m_isBarred, .ref m_walks, .ref m_one, .ref m_two, .ref m_light, .ref m_lightThen, .int (zI (m_family)), .ref m_fromX, .ref m_fromY, .ref m_toX, .ref m_toY, .int (zI (m_ruleMany)), .ref m_rule, .ref m_out, .int (zI (m_outs)), .ref m_grid, .ref m_heap, .ref m_ends, .ref m_power, .ref m_by2, .ref m_product, .ref m_levels, .ref m_row, .ref m_then, .ref m_equations], wJ m_levels (zK C).2.2.1 128 le, wJ m_equations (zK C).2.2.1 2048 eq0] [(0, .ref m), (1, .int (zI (4)))] 0 []
  refine z_aload_n hC 0 dX9_solves_0 rfl rfl ?_
  refine z_get hC (T := TX9) (N := 41) hinX9 0 7 dX9_solves_1 rfl rfl (by decide) (List.mem_of_getElem? (i := 1) rfl) rfl rfl ?_
  refine z_iconst hC dX9_solves_4 ?_
  refine z_iadd hC (6) dX9_solves_5 (by decide) ?_
  refine z_istore_n hC [(2, .int (zI (6))), (0, .ref m), (1, .int (zI (4)))] dX9_solves_6 rfl (by decide) rfl ?_
  refine z_iload_n hC 2 dX9_solves_7 rfl rfl ?_
  refine z_iconst hC dX9_solves_8 ?_
  refine z_iadd hC (5) dX9_solves_9 (by decide) ?_
  refine z_istore_n hC [(3, .int (zI (5))), (2, .int (zI (6))), (0, .ref m), (1, .int (zI (4)))] dX9_solves_10 rfl (by decide) rfl ?_
  refine z_iconst hC dX9_solves_11 ?_
  refine z_istore hC [(4, .int (zI (0))), (3, .int (zI (5))), (2, .int (zI (6))), (0, .ref m), (1, .int (zI (4)))] dX9_solves_12 (by decide) rfl ?_
  refine z_lv (lv' := [(0, .ref m), (1, .int (zI (4))), (2, .int (zI (6))), (3, .int (zI (5))), (4, .int (zI (0)))]) [3, 4, 2, 1, 0] rfl ?_
  have lp14_1 : ∀ (f3 : Nat) (r : Int) (q : Int → Int), (0 ≤ r ∧ r ≤ 6) → (∀ j, 0 ≤ j → j < 5 * r → q j = arL el4_0 j) → (6 - r).toNat < f3 → ZW C 0 0 [wO m 9 [.int (zI (m_status)), .int (zI (m_thrown)), .ref m_sheetSort, .ref m_sheetMany, .ref m_numbers, .int (zI (4)), .int (zI (m_kind)), .int (zI (5)), .int (zI (m_round)), .int (zI (m_ax)), .int (zI (0)), .int (zI (m_bx)), .int (zI (0)), .ref m_dx, .ref m_dy, .ref m_weight, .ref m_isBarred, .ref m_walks, .ref m_one, .ref m_two, .ref m_light, .ref m_lightThen, .int (zI (m_family)), .ref m_fromX, .ref m_fromY, .ref m_toX, .ref m_toY, .int (zI (m_ruleMany)), .ref m_rule, .ref m_out, .int (zI (m_outs)), .ref m_grid, .ref m_heap, .ref m_ends, .ref m_power, .ref m_by2, .ref m_product, .ref m_levels, .ref m_row, .ref m_then, .ref m_equations], wJ m_levels (zK C).2.2.1 128 le, wJ m_equations (zK C).2.2.1 2048 q] [(0, .ref m), (1, .int (zI (4))), (2, .int (zI (6))), (3, .int (zI (5))), (4, .int (zI (r)))] 14 [] := by
    intro f3
    induction f3 with
    | zero => intro _ _ _ _ hf; exact absurd hf (Nat.not_lt_zero _)
    | succ f3 ih14_2 =>
      intro r q vr vq hf_14
      refine z_iload hC 4 dX9_solves_14 rfl ?_
      refine z_iload_n hC 2 dX9_solves_16 rfl rfl ?_
      refine z_icge hC 87 dX9_solves_17 (by decide) (by omega) (fun c_4 => ?_) (fun c_4 => ?_)
      · skip
        refine z_iconst hC dX9_solves_87 ?_
        refine z_istore hC [(4, .int (zI (0))), (0, .ref m), (1, .int (zI (4))), (2, .int (zI (6))), (3, .int (zI (5)))] dX9_solves_88 (by decide) rfl ?_
        refine z_iconst hC dX9_solves_90 ?_
        refine z_istore hC [(5, .int (zI (0))), (4, .int (zI (0))), (0, .ref m), (1, .int (zI (4))), (2, .int (zI (6))), (3, .int (zI (5)))] dX9_solves_91 (by decide) rfl ?_
        refine z_iload hC 0 dX9_solves_93 rfl ?_
        refine z_iload_n hC 3 dX9_solves_95 rfl rfl ?_
        refine z_icge hC 161 dX9_solves_96 (by decide) (by omega) (fun c_5 => by exfalso; omega) (fun c_5 => ?_)
        refine z_iload hC 1 dX9_solves_99 rfl ?_
        refine z_istore hC [(6, .int (zI (0))), (5, .int (zI (0))), (4, .int (zI (0))), (0, .ref m), (1, .int (zI (4))), (2, .int (zI (6))), (3, .int (zI (5)))] dX9_solves_101 (by decide) rfl ?_
        refine z_iload hC 0 dX9_solves_103 rfl ?_
        refine z_iload_n hC 5 dX9_solves_105 rfl rfl ?_
        refine z_icge hC 132 dX9_solves_106 (by decide) (by omega) (fun c_6 => by exfalso; omega) (fun c_6 => ?_)
        refine z_aload_n hC 3 dX9_solves_109 rfl rfl ?_
        refine z_get hC (T := TX9) (N := 41) hinX9 0 40 dX9_solves_110 rfl rfl (by decide) (List.mem_of_getElem? (i := 2) rfl) rfl rfl ?_
        refine z_iload_n hC 6 dX9_solves_113 rfl rfl ?_
        refine z_iload hC 0 dX9_solves_114 rfl ?_
        refine z_imul hC (0) dX9_solves_116 (by decide) ?_
        refine z_iload hC 1 dX9_solves_117 rfl ?_
        refine z_iadd hC (0) dX9_solves_119 (by decide) ?_
        refine z_lald hC 2 dX9_solves_120 rfl (by omega) ?_
        refine z_topl (b := 14) (by rw [vq 0 (by omega) (by omega)]; exact elv4_0) ?_
        refine z_lconst (v := 0) hC dX9_solves_121 rfl ?_
        refine z_lcne hC 132 dX9_solves_122 dX9_solves_123 (by decide) (by omega) (fun c_7 => ?_) (fun c_7 => by exfalso; omega)
        refine z_iload hC 0 dX9_solves_132 rfl ?_
        refine z_iload_n hC 5 dX9_solves_134 rfl rfl ?_
        refine z_icne hC 140 dX9_solves_135 (by decide) (by omega) (fun c_8 => ?_) (fun c_8 => by exfalso; omega)
        refine z_aload_n hC 3 dX9_solves_140 rfl rfl ?_
        refine z_iload hC 2 dX9_solves_141 rfl ?_
        refine z_iload hC 0 dX9_solves_143 rfl ?_
        refine z_iload hC 1 dX9_solves_145 rfl ?_
        refine z_iload_n hC 6 dX9_solves_147 rfl rfl ?_
        refine z_iload_n hC 5 dX9_solves_148 rfl rfl ?_
        refine z_callV hC [.int (zI (0)), .int (zI (0)), .int (zI (0)), .int (zI (5)), .int (zI (6))] 5 0 dX9_solves_149 (c_X9_clearsw5 (zl C) (zD C) (zK C) m m_sheetSort m_sheetMany m_numbers m_dx m_dy m_weight m_isBarred m_walks m_one m_two m_light m_lightThen m_fromX m_fromY m_toX m_toY m_rule m_out m_grid m_heap m_ends m_power m_by2 m_product m_levels m_row m_then m_equations 0 m_status m_thrown 4 m_kind 5 m_round m_ax 0 m_bx 0 m_family m_ruleMany m_outs q el4_0 (by first | assumption | omega) (by intro j a b; exact vq j a (by omega)) (by exact elr4_0)) gX9_solves_X9_clears rfl rfl rfl ⟨by decide, by decide, by decide +kernel⟩ ⟨(Nat.le_of_ble_eq_true rfl), (Nat.le_of_ble_eq_true rfl)⟩ rfl rfl rfl rfl [0, 2] [1] [wJ m_levels (zK C).2.2.1 128 le] [] rfl rfl rfl rfl rfl (by decide) (Nat.le_of_ble_eq_true rfl) ⟨(Nat.le_of_ble_eq_true rfl), (Nat.le_of_ble_eq_true rfl)⟩ ?_
        rintro v_ w_ ⟨g2_9, rfl, rfl, hcl0⟩
        show ZW C 0 0 [wJ m_levels (zK C).2.2.1 128 le, wO m 9 [.int (zI (m_status)), .int (zI (m_thrown)), .ref m_sheetSort, .ref m_sheetMany, .ref m_numbers, .int (zI (4)), .int (zI (m_kind)), .int (zI (5)), .int (zI (m_round)), .int (zI (m_ax)), .int (zI (0)), .int (zI (m_bx)), .int (zI (0)), .ref m_dx, .ref m_dy, .ref m_weight, .ref m_isBarred, .ref m_walks, .ref m_one, .ref m_two, .ref m_light, .ref m_lightThen, .int (zI (m_family)), .ref m_fromX, .ref m_fromY, .ref m_toX, .ref m_toY, .int (zI (m_ruleMany)), .ref m_rule, .ref m_out, .int (zI (m_outs)), .ref m_grid, .ref m_heap, .ref m_ends, .ref m_power, .ref m_by2, .ref m_product, .ref m_levels, .ref m_row, .ref m_then, .ref m_equations], wJ m_equations (zK C).2.2.1 2048 g2_9] [(6, .int (zI (0))), (5, .int (zI (0))), (4, .int (zI (0))), (0, .ref m), (1, .int (zI (4))), (2, .int (zI (6))), (3, .int (zI (5)))] 152 []
        refine z_iinc (a := 0) (v := 1) (r := 1) hC 2 [(4, .int (zI (1))), (6, .int (zI (0))), (5, .int (zI (0))), (0, .ref m), (1, .int (zI (4))), (2, .int (zI (6))), (3, .int (zI (5)))] dX9_solves_152 rfl (by decide) (by decide) rfl ?_
        refine z_iinc (a := 0) (v := 1) (r := 1) hC 2 [(5, .int (zI (1))), (4, .int (zI (1))), (6, .int (zI (0))), (0, .ref m), (1, .int (zI (4))), (2, .int (zI (6))), (3, .int (zI (5)))] dX9_solves_155 rfl (by decide) (by decide) rfl ?_
        refine z_goto hC 93 dX9_solves_158 (by decide) ?_
        refine z_iload hC 0 dX9_solves_93 rfl ?_
        refine z_iload_n hC 4 dX9_solves_95 rfl rfl ?_
        refine z_icge hC 161 dX9_solves_96 (by decide) (by omega) (fun c_10 => by exfalso; omega) (fun c_10 => ?_)
        refine z_iload hC 1 dX9_solves_99 rfl ?_
        refine z_istore hC [(6, .int (zI (1))), (5, .int (zI (1))), (4, .int (zI (1))), (0, .ref m), (1, .int (zI (4))), (2, .int (zI (6))), (3, .int (zI (5)))] dX9_solves_101 (by decide) rfl ?_
        refine z_iload hC 0 dX9_solves_103 rfl ?_
        refine z_iload_n hC 5 dX9_solves_105 rfl rfl ?_
        refine z_icge hC 132 dX9_solves_106 (by decide) (by omega) (fun c_11 => by exfalso; omega) (fun c_11 => ?_)
        refine z_aload_n hC 3 dX9_solves_109 rfl rfl ?_
        refine z_get hC (T := TX9) (N := 41) hinX9 1 40 dX9_solves_110 rfl rfl (by decide) (List.mem_of_getElem? (i := 2) rfl) rfl rfl ?_
        refine z_iload_n hC 6 dX9_solves_113 rfl rfl ?_
        refine z_iload hC 0 dX9_solves_114 rfl ?_
        refine z_imul hC (5) dX9_solves_116 (by decide) ?_
        refine z_iload hC 1 dX9_solves_117 rfl ?_
        refine z_iadd hC (6) dX9_solves_119 (by decide) ?_
        refine z_lald hC 2 dX9_solves_120 rfl (by omega) ?_
        refine z_topl (b := 998244352) (by rw [hcl0 6 (by omega) (by omega)]; exact elv4_1) ?_
        refine z_lconst (v := 0) hC dX9_solves_121 rfl ?_
        refine z_lcne hC 132 dX9_solves_122 dX9_solves_123 (by decide) (by omega) (fun c_12 => ?_) (fun c_12 => by exfalso; omega)
        refine z_iload hC 0 dX9_solves_132 rfl ?_
        refine z_iload_n hC 5 dX9_solves_134 rfl rfl ?_
        refine z_icne hC 140 dX9_solves_135 (by decide) (by omega) (fun c_13 => ?_) (fun c_13 => by exfalso; omega)
        refine z_aload_n hC 3 dX9_solves_140 rfl rfl ?_
        refine z_iload hC 2 dX9_solves_141 rfl ?_
        refine z_iload hC 0 dX9_solves_143 rfl ?_
        refine z_iload hC 1 dX9_solves_145 rfl ?_
        refine z_iload_n hC 6 dX9_solves_147 rfl rfl ?_
        refine z_iload_n hC 5 dX9_solves_148 rfl rfl ?_
        refine z_callV hC [.int (zI (1)), .int (zI (1)), .int (zI (1)), .int (zI (5)), .int (zI (6))] 5 0 dX9_solves_149 (c_X9_clearsw5 (zl C) (zD C) (zK C) m m_sheetSort m_sheetMany m_numbers m_dx m_dy m_weight m_isBarred m_walks m_one m_two m_light m_lightThen m_fromX m_fromY m_toX m_toY m_rule m_out m_grid m_heap m_ends m_power m_by2 m_product m_levels m_row m_then m_equations 1 m_status m_thrown 4 m_kind 5 m_round m_ax 0 m_bx 0 m_family m_ruleMany m_outs g2_9 el4_1 (by first | assumption | omega) (by intro j a b; exact hcl0 j a (by omega)) (by exact elr4_1)) gX9_solves_X9_clears rfl rfl rfl ⟨by decide, by decide, by decide +kernel⟩ ⟨(Nat.le_of_ble_eq_true rfl), (Nat.le_of_ble_eq_true rfl)⟩ rfl rfl rfl rfl [1, 2] [0] [wJ m_levels (zK C).2.2.1 128 le] [] rfl rfl rfl rfl rfl (by decide) (Nat.le_of_ble_eq_true rfl) ⟨(Nat.le_of_ble_eq_true rfl), (Nat.le_of_ble_eq_true rfl)⟩ ?_
        rintro v_ w_ ⟨g2_14, rfl, rfl, hcl1⟩
        show ZW C 0 0 [wJ m_levels (zK C).2.2.1 128 le, wO m 9 [.int (zI (m_status)), .int (zI (m_thrown)), .ref m_sheetSort, .ref m_sheetMany, .ref m_numbers, .int (zI (4)), .int (zI (m_kind)), .int (zI (5)), .int (zI (m_round)), .int (zI (m_ax)), .int (zI (0)), .int (zI (m_bx)), .int (zI (0)), .ref m_dx, .ref m_dy, .ref m_weight, .ref m_isBarred, .ref m_walks, .ref m_one, .ref m_two, .ref m_light, .ref m_lightThen, .int (zI (m_family)), .ref m_fromX, .ref m_fromY, .ref m_toX, .ref m_toY, .int (zI (m_ruleMany)), .ref m_rule, .ref m_out, .int (zI (m_outs)), .ref m_grid, .ref m_heap, .ref m_ends, .ref m_power, .ref m_by2, .ref m_product, .ref m_levels, .ref m_row, .ref m_then, .ref m_equations], wJ m_equations (zK C).2.2.1 2048 g2_14] [(6, .int (zI (1))), (5, .int (zI (1))), (4, .int (zI (1))), (0, .ref m), (1, .int (zI (4))), (2, .int (zI (6))), (3, .int (zI (5)))] 152 []
        refine z_iinc (a := 1) (v := 1) (r := 2) hC 2 [(4, .int (zI (2))), (6, .int (zI (1))), (5, .int (zI (1))), (0, .ref m), (1, .int (zI (4))), (2, .int (zI (6))), (3, .int (zI (5)))] dX9_solves_152 rfl (by decide) (by decide) rfl ?_
        refine z_iinc (a := 1) (v := 1) (r := 2) hC 2 [(5, .int (zI (2))), (4, .int (zI (2))), (6, .int (zI (1))), (0, .ref m), (1, .int (zI (4))), (2, .int (zI (6))), (3, .int (zI (5)))] dX9_solves_155 rfl (by decide) (by decide) rfl ?_
        refine z_goto hC 93 dX9_solves_158 (by decide) ?_
        refine z_iload hC 0 dX9_solves_93 rfl ?_
        refine z_iload_n hC 4 dX9_solves_95 rfl rfl ?_
        refine z_icge hC 161 dX9_solves_96 (by decide) (by omega) (fun c_15 => by exfalso; omega) (fun c_15 => ?_)
        refine z_iload hC 1 dX9_solves_99 rfl ?_
        refine z_istore hC [(6, .int (zI (2))), (5, .int (zI (2))), (4, .int (zI (2))), (0, .ref m), (1, .int (zI (4))), (2, .int (zI (6))), (3, .int (zI (5)))] dX9_solves_101 (by decide) rfl ?_
        refine z_iload hC 0 dX9_solves_103 rfl ?_
        refine z_iload_n hC 5 dX9_solves_105 rfl rfl ?_
        refine z_icge hC 132 dX9_solves_106 (by decide) (by omega) (fun c_16 => by exfalso; omega) (fun c_16 => ?_)
        refine z_aload_n hC 3 dX9_solves_109 rfl rfl ?_
        refine z_get hC (T := TX9) (N := 41) hinX9 1 40 dX9_solves_110 rfl rfl (by decide) (List.mem_of_getElem? (i := 2) rfl) rfl rfl ?_
        refine z_iload_n hC 6 dX9_solves_113 rfl rfl ?_
        refine z_iload hC 0 dX9_solves_114 rfl ?_
        refine z_imul hC (10) dX9_solves_116 (by decide) ?_
        refine z_iload hC 1 dX9_solves_117 rfl ?_
        refine z_iadd hC (12) dX9_solves_119 (by decide) ?_
        refine z_lald hC 2 dX9_solves_120 rfl (by omega) ?_
        refine z_topl (b := 713031681) (by rw [hcl1 12 (by omega) (by omega)]; exact elv4_2) ?_
        refine z_lconst (v := 0) hC dX9_solves_121 rfl ?_
        refine z_lcne hC 132 dX9_solves_122 dX9_solves_123 (by decide) (by omega) (fun c_17 => ?_) (fun c_17 => by exfalso; omega)
        refine z_iload hC 0 dX9_solves_132 rfl ?_
        refine z_iload_n hC 5 dX9_solves_134 rfl rfl ?_
        refine z_icne hC 140 dX9_solves_135 (by decide) (by omega) (fun c_18 => ?_) (fun c_18 => by exfalso; omega)
        refine z_aload_n hC 3 dX9_solves_140 rfl rfl ?_
        refine z_iload hC 2 dX9_solves_141 rfl ?_
        refine z_iload hC 0 dX9_solves_143 rfl ?_
        refine z_iload hC 1 dX9_solves_145 rfl ?_
        refine z_iload_n hC 6 dX9_solves_147 rfl rfl ?_
        refine z_iload_n hC 5 dX9_solves_148 rfl rfl ?_
        refine z_callV hC [.int (zI (2)), .int (zI (2)), .int (zI (2)), .int (zI (5)), .int (zI (6))] 5 0 dX9_solves_149 (c_X9_clearsw5 (zl C) (zD C) (zK C) m m_sheetSort m_sheetMany m_numbers m_dx m_dy m_weight m_isBarred m_walks m_one m_two m_light m_lightThen m_fromX m_fromY m_toX m_toY m_rule m_out m_grid m_heap m_ends m_power m_by2 m_product m_levels m_row m_then m_equations 2 m_status m_thrown 4 m_kind 5 m_round m_ax 0 m_bx 0 m_family m_ruleMany m_outs g2_14 el4_2 (by first | assumption | omega) (by intro j a b; exact hcl1 j a (by omega)) (by exact elr4_2)) gX9_solves_X9_clears rfl rfl rfl ⟨by decide, by decide, by decide +kernel⟩ ⟨(Nat.le_of_ble_eq_true rfl), (Nat.le_of_ble_eq_true rfl)⟩ rfl rfl rfl rfl [1, 2] [0] [wJ m_levels (zK C).2.2.1 128 le] [] rfl rfl rfl rfl rfl (by decide) (Nat.le_of_ble_eq_true rfl) ⟨(Nat.le_of_ble_eq_true rfl), (Nat.le_of_ble_eq_true rfl)⟩ ?_
        rintro v_ w_ ⟨g2_19, rfl, rfl, hcl2⟩
        show ZW C 0 0 [wJ m_levels (zK C).2.2.1 128 le, wO m 9 [.int (zI (m_status)), .int (zI (m_thrown)), .ref m_sheetSort, .ref m_sheetMany, .ref m_numbers, .int (zI (4)), .int (zI (m_kind)), .int (zI (5)), .int (zI (m_round)), .int (zI (m_ax)), .int (zI (0)), .int (zI (m_bx)), .int (zI (0)), .ref m_dx, .ref m_dy, .ref m_weight, .ref m_isBarred, .ref m_walks, .ref m_one, .ref m_two, .ref m_light, .ref m_lightThen, .int (zI (m_family)), .ref m_fromX, .ref m_fromY, .ref m_toX, .ref m_toY, .int (zI (m_ruleMany)), .ref m_rule, .ref m_out, .int (zI (m_outs)), .ref m_grid, .ref m_heap, .ref m_ends, .ref m_power, .ref m_by2, .ref m_product, .ref m_levels, .ref m_row, .ref m_then, .ref m_equations], wJ m_equations (zK C).2.2.1 2048 g2_19] [(6, .int (zI (2))), (5, .int (zI (2))), (4, .int (zI (2))), (0, .ref m), (1, .int (zI (4))), (2, .int (zI (6))), (3, .int (zI (5)))] 152 []
        refine z_iinc (a := 2) (v := 1) (r := 3) hC 2 [(4, .int (zI (3))), (6, .int (zI (2))), (5, .int (zI (2))), (0, .ref m), (1, .int (zI (4))), (2, .int (zI (6))), (3, .int (zI (5)))] dX9_solves_152 rfl (by decide) (by decide) rfl ?_
        refine z_iinc (a := 2) (v := 1) (r := 3) hC 2 [(5, .int (zI (3))), (4, .int (zI (3))), (6, .int (zI (2))), (0, .ref m), (1, .int (zI (4))), (2, .int (zI (6))), (3, .int (zI (5)))] dX9_solves_155 rfl (by decide) (by decide) rfl ?_
        refine z_goto hC 93 dX9_solves_158 (by decide) ?_
        refine z_iload hC 0 dX9_solves_93 rfl ?_
        refine z_iload_n hC 4 dX9_solves_95 rfl rfl ?_
        refine z_icge hC 161 dX9_solves_96 (by decide) (by omega) (fun c_20 => by exfalso; omega) (fun c_20 => ?_)
        refine z_iload hC 1 dX9_solves_99 rfl ?_
        refine z_istore hC [(6, .int (zI (3))), (5, .int (zI (3))), (4, .int (zI (3))), (0, .ref m), (1, .int (zI (4))), (2, .int (zI (6))), (3, .int (zI (5)))] dX9_solves_101 (by decide) rfl ?_
        refine z_iload hC 0 dX9_solves_103 rfl ?_
        refine z_iload_n hC 5 dX9_solves_105 rfl rfl ?_
        refine z_icge hC 132 dX9_solves_106 (by decide) (by omega) (fun c_21 => by exfalso; omega) (fun c_21 => ?_)
        refine z_aload_n hC 3 dX9_solves_109 rfl rfl ?_
        refine z_get hC (T := TX9) (N := 41) hinX9 1 40 dX9_solves_110 rfl rfl (by decide) (List.mem_of_getElem? (i := 2) rfl) rfl rfl ?_
        refine z_iload_n hC 6 dX9_solves_113 rfl rfl ?_
        refine z_iload hC 0 dX9_solves_114 rfl ?_
        refine z_imul hC (15) dX9_solves_116 (by decide) ?_
        refine z_iload hC 1 dX9_solves_117 rfl ?_
        refine z_iadd hC (18) dX9_solves_119 (by decide) ?_
        refine z_lald hC 2 dX9_solves_120 rfl (by omega) ?_
        refine z_topl (b := 249561088) (by rw [hcl2 18 (by omega) (by omega)]; exact elv4_3) ?_
        refine z_lconst (v := 0) hC dX9_solves_121 rfl ?_
        refine z_lcne hC 132 dX9_solves_122 dX9_solves_123 (by decide) (by omega) (fun c_22 => ?_) (fun c_22 => by exfalso; omega)
        refine z_iload hC 0 dX9_solves_132 rfl ?_
        refine z_iload_n hC 5 dX9_solves_134 rfl rfl ?_
        refine z_icne hC 140 dX9_solves_135 (by decide) (by omega) (fun c_23 => ?_) (fun c_23 => by exfalso; omega)
        refine z_aload_n hC 3 dX9_solves_140 rfl rfl ?_
        refine z_iload hC 2 dX9_solves_141 rfl ?_
        refine z_iload hC 0 dX9_solves_143 rfl ?_
        refine z_iload hC 1 dX9_solves_145 rfl ?_
        refine z_iload_n hC 6 dX9_solves_147 rfl rfl ?_
        refine z_iload_n hC 5 dX9_solves_148 rfl rfl ?_
        refine z_callV hC [.int (zI (3)), .int (zI (3)), .int (zI (3)), .int (zI (5)), .int (zI (6))] 5 0 dX9_solves_149 (c_X9_clearsw5 (zl C) (zD C) (zK C) m m_sheetSort m_sheetMany m_numbers m_dx m_dy m_weight m_isBarred m_walks m_one m_two m_light m_lightThen m_fromX m_fromY m_toX m_toY m_rule m_out m_grid m_heap m_ends m_power m_by2 m_product m_levels m_row m_then m_equations 3 m_status m_thrown 4 m_kind 5 m_round m_ax 0 m_bx 0 m_family m_ruleMany m_outs g2_19 el4_3 (by first | assumption | omega) (by intro j a b; exact hcl2 j a (by omega)) (by exact elr4_3)) gX9_solves_X9_clears rfl rfl rfl ⟨by decide, by decide, by decide +kernel⟩ ⟨(Nat.le_of_ble_eq_true rfl), (Nat.le_of_ble_eq_true rfl)⟩ rfl rfl rfl rfl [1, 2] [0] [wJ m_levels (zK C).2.2.1 128 le] [] rfl rfl rfl rfl rfl (by decide) (Nat.le_of_ble_eq_true rfl) ⟨(Nat.le_of_ble_eq_true rfl), (Nat.le_of_ble_eq_true rfl)⟩ ?_
        rintro v_ w_ ⟨g2_24, rfl, rfl, hcl3⟩
        show ZW C 0 0 [wJ m_levels (zK C).2.2.1 128 le, wO m 9 [.int (zI (m_status)), .int (zI (m_thrown)), .ref m_sheetSort, .ref m_sheetMany, .ref m_numbers, .int (zI (4)), .int (zI (m_kind)), .int (zI (5)), .int (zI (m_round)), .int (zI (m_ax)), .int (zI (0)), .int (zI (m_bx)), .int (zI (0)), .ref m_dx, .ref m_dy, .ref m_weight, .ref m_isBarred, .ref m_walks, .ref m_one, .ref m_two, .ref m_light, .ref m_lightThen, .int (zI (m_family)), .ref m_fromX, .ref m_fromY, .ref m_toX, .ref m_toY, .int (zI (m_ruleMany)), .ref m_rule, .ref m_out, .int (zI (m_outs)), .ref m_grid, .ref m_heap, .ref m_ends, .ref m_power, .ref m_by2, .ref m_product, .ref m_levels, .ref m_row, .ref m_then, .ref m_equations], wJ m_equations (zK C).2.2.1 2048 g2_24] [(6, .int (zI (3))), (5, .int (zI (3))), (4, .int (zI (3))), (0, .ref m), (1, .int (zI (4))), (2, .int (zI (6))), (3, .int (zI (5)))] 152 []
        refine z_iinc (a := 3) (v := 1) (r := 4) hC 2 [(4, .int (zI (4))), (6, .int (zI (3))), (5, .int (zI (3))), (0, .ref m), (1, .int (zI (4))), (2, .int (zI (6))), (3, .int (zI (5)))] dX9_solves_152 rfl (by decide) (by decide) rfl ?_
        refine z_iinc (a := 3) (v := 1) (r := 4) hC 2 [(5, .int (zI (4))), (4, .int (zI (4))), (6, .int (zI (3))), (0, .ref m), (1, .int (zI (4))), (2, .int (zI (6))), (3, .int (zI (5)))] dX9_solves_155 rfl (by decide) (by decide) rfl ?_
        refine z_goto hC 93 dX9_solves_158 (by decide) ?_
        refine z_iload hC 0 dX9_solves_93 rfl ?_
        refine z_iload_n hC 4 dX9_solves_95 rfl rfl ?_
        refine z_icge hC 161 dX9_solves_96 (by decide) (by omega) (fun c_25 => ?_) (fun c_25 => by exfalso; omega)
        refine z_iload hC 1 dX9_solves_161 rfl ?_
        refine z_istore hC [(5, .int (zI (4))), (4, .int (zI (4))), (6, .int (zI (3))), (0, .ref m), (1, .int (zI (4))), (2, .int (zI (6))), (3, .int (zI (5)))] dX9_solves_163 (by decide) rfl ?_
        refine z_iload hC 0 dX9_solves_165 rfl ?_
        refine z_iload_n hC 5 dX9_solves_167 rfl rfl ?_
        refine z_icge hC 195 dX9_solves_168 (by decide) (by omega) (fun c_26 => by exfalso; omega) (fun c_26 => ?_)
        refine z_aload_n hC 3 dX9_solves_171 rfl rfl ?_
        refine z_get hC (T := TX9) (N := 41) hinX9 1 40 dX9_solves_172 rfl rfl (by decide) (List.mem_of_getElem? (i := 2) rfl) rfl rfl ?_
        refine z_iload_n hC 6 dX9_solves_175 rfl rfl ?_
        refine z_iload hC 0 dX9_solves_176 rfl ?_
        refine z_imul hC (20) dX9_solves_178 (by decide) ?_
        refine z_iload_n hC 4 dX9_solves_179 rfl rfl ?_
        refine z_iadd hC (24) dX9_solves_180 (by decide) ?_
        refine z_lald hC 2 dX9_solves_181 rfl (by omega) ?_
        refine z_topl (b := 1) (by rw [hcl3 24 (by omega) (by omega)]; exact elz4) ?_
        refine z_lconst (v := 0) hC dX9_solves_182 rfl ?_
        refine z_lceq hC 189 dX9_solves_183 dX9_solves_184 (by decide) (by omega) (fun c_27 => by exfalso; omega) (fun c_27 => ?_)
        refine z_iconst hC dX9_solves_187 ?_
        refine z_ws (ws' := [wO m 9 [.int (zI (m_status)), .int (zI (m_thrown)), .ref m_sheetSort, .ref m_sheetMany, .ref m_numbers, .int (zI (4)), .int (zI (m_kind)), .int (zI (5)), .int (zI (m_round)), .int (zI (m_ax)), .int (zI (0)), .int (zI (m_bx)), .int (zI (0)), .ref m_dx, .ref m_dy, .ref m_weight, .ref m_isBarred, .ref m_walks, .ref m_one, .ref m_two, .ref m_light, .ref m_lightThen, .int (zI (m_family)), .ref m_fromX, .ref m_fromY, .ref m_toX, .ref m_toY, .int (zI (m_ruleMany)), .ref m_rule, .ref m_out, .int (zI (m_outs)), .ref m_grid, .ref m_heap, .ref m_ends, .ref m_power, .ref m_by2, .ref m_product, .ref m_levels, .ref m_row, .ref m_then, .ref m_equations], wJ m_levels (zK C).2.2.1 128 le, wJ m_equations (zK C).2.2.1 2048 g2_24]) [1, 0, 2] rfl rfl ?_
        exact z_zret hC hR dX9_solves_188 (by omega) (Nat.le_of_ble_eq_true rfl) (Nat.le_of_ble_eq_true rfl) ⟨0, g2_24, rfl, rfl, by rfl⟩
      · skip
        refine z_iconst hC dX9_solves_20 ?_
        refine z_istore hC [(5, .int (zI (0))), (0, .ref m), (1, .int (zI (4))), (2, .int (zI (6))), (3, .int (zI (5))), (4, .int (zI (r)))] dX9_solves_21 (by decide) rfl ?_
        refine z_lv (lv' := [(0, .ref m), (1, .int (zI (4))), (2, .int (zI (6))), (3, .int (zI (5))), (4, .int (zI (r))), (5, .int (zI (0)))]) [1, 2, 3, 4, 5, 0] rfl ?_
        have lp23_28 : ∀ (f30 : Nat) (i : Int) (q2 : Int → Int), (0 ≤ i ∧ i ≤ 4) → (∀ j, 0 ≤ j → j < 5 * r + i → q2 j = arL el4_0 j) → (4 - i).toNat < f30 → ZW C 0 0 [wO m 9 [.int (zI (m_status)), .int (zI (m_thrown)), .ref m_sheetSort, .ref m_sheetMany, .ref m_numbers, .int (zI (4)), .int (zI (m_kind)), .int (zI (5)), .int (zI (m_round)), .int (zI (m_ax)), .int (zI (0)), .int (zI (m_bx)), .int (zI (0)), .ref m_dx, .ref m_dy, .ref m_weight, .ref m_isBarred, .ref m_walks, .ref m_one, .ref m_two, .ref m_light, .ref m_lightThen, .int (zI (m_family)), .ref m_fromX, .ref m_fromY, .ref m_toX, .ref m_toY, .int (zI (m_ruleMany)), .ref m_rule, .ref m_out, .int (zI (m_outs)), .ref m_grid, .ref m_heap, .ref m_ends, .ref m_power, .ref m_by2, .ref m_product, .ref m_levels, .ref m_row, .ref m_then, .ref m_equations], wJ m_levels (zK C).2.2.1 128 le, wJ m_equations (zK C).2.2.1 2048 q2] [(0, .ref m), (1, .int (zI (4))), (2, .int (zI (6))), (3, .int (zI (5))), (4, .int (zI (r))), (5, .int (zI (i)))] 23 [] := by
          intro f30
          induction f30 with
          | zero => intro _ _ _ _ hf; exact absurd hf (Nat.not_lt_zero _)
          | succ f30 ih23_29 =>
            intro i q2 vi vq2 hf_23
            refine z_iload hC 5 dX9_solves_23 rfl ?_
            refine z_iload_n hC 1 dX9_solves_25 rfl rfl ?_
            refine z_icge hC 61 dX9_solves_26 (by decide) (by omega) (fun c_31 => ?_) (fun c_31 => ?_)
            · skip
              refine z_aload_n hC 0 dX9_solves_61 rfl rfl ?_
              refine z_get hC (T := TX9) (N := 41) hinX9 0 40 dX9_solves_62 rfl rfl (by decide) (List.mem_of_getElem? (i := 2) rfl) rfl rfl ?_
              refine z_iload_n hC 3 dX9_solves_65 rfl rfl ?_
              refine z_iload hC 4 dX9_solves_66 rfl ?_
              refine z_imul hC (5 * r) dX9_solves_68 rfl ?_
              refine z_iload_n hC 1 dX9_solves_69 rfl rfl ?_
              refine z_iadd hC ((5 * r) + 4) dX9_solves_70 rfl ?_
              refine z_aload_n hC 0 dX9_solves_71 rfl rfl ?_
              refine z_get hC (T := TX9) (N := 41) hinX9 0 37 dX9_solves_72 rfl rfl (by decide) (List.mem_of_getElem? (i := 3) rfl) rfl rfl ?_
              refine z_iload_n hC 1 dX9_solves_75 rfl rfl ?_
              refine z_iload hC 4 dX9_solves_76 rfl ?_
              refine z_iadd hC (4 + r) dX9_solves_78 rfl ?_
              refine z_lald hC 1 dX9_solves_79 rfl (by omega) ?_
              refine z_last hC 2 [wO m 9 [.int (zI (m_status)), .int (zI (m_thrown)), .ref m_sheetSort, .ref m_sheetMany, .ref m_numbers, .int (zI (4)), .int (zI (m_kind)), .int (zI (5)), .int (zI (m_round)), .int (zI (m_ax)), .int (zI (0)), .int (zI (m_bx)), .int (zI (0)), .ref m_dx, .ref m_dy, .ref m_weight, .ref m_isBarred, .ref m_walks, .ref m_one, .ref m_two, .ref m_light, .ref m_lightThen, .int (zI (m_family)), .ref m_fromX, .ref m_fromY, .ref m_toX, .ref m_toY, .int (zI (m_ruleMany)), .ref m_rule, .ref m_out, .int (zI (m_outs)), .ref m_grid, .ref m_heap, .ref m_ends, .ref m_power, .ref m_by2, .ref m_product, .ref m_levels, .ref m_row, .ref m_then, .ref m_equations], wJ m_levels (zK C).2.2.1 128 le, wJ m_equations (zK C).2.2.1 2048 (zu q2 ((5 * r) + 4) (le (4 + r)))] dX9_solves_80 rfl (by omega) rfl ?_
              refine z_iinc (a := r) (v := 1) (r := r + 1) hC 4 [(4, .int (zI (r + 1))), (0, .ref m), (1, .int (zI (4))), (2, .int (zI (6))), (3, .int (zI (5))), (5, .int (zI (i)))] dX9_solves_81 rfl rfl (by decide) rfl ?_
              refine z_goto hC 14 dX9_solves_84 (by decide) ?_
              refine z_lv (lv' := [(0, .ref m), (1, .int (zI (4))), (2, .int (zI (6))), (3, .int (zI (5))), (4, .int (zI (r + 1)))]) [1, 2, 3, 4, 0] rfl ?_
              exact ih14_2 (r + 1) (zu q2 ((5 * r) + 4) (le (4 + r))) (by omega) (by intro j a b; unfold zu; by_cases e : j = 5 * r + 4; (rw [if_pos e, e, hlev _ (by omega) (by omega)]; show _ = arL (eqI 4 5) _; rw [eqI_at (by omega) (by omega), if_neg (by omega)]; congr 1; omega); (rw [if_neg e]; exact vq2 j a (by omega))) (by omega)
            · skip
              refine z_aload_n hC 0 dX9_solves_29 rfl rfl ?_
              refine z_get hC (T := TX9) (N := 41) hinX9 0 40 dX9_solves_30 rfl rfl (by decide) (List.mem_of_getElem? (i := 2) rfl) rfl rfl ?_
              refine z_iload_n hC 3 dX9_solves_33 rfl rfl ?_
              refine z_iload hC 4 dX9_solves_34 rfl ?_
              refine z_imul hC (5 * r) dX9_solves_36 rfl ?_
              refine z_iload hC 5 dX9_solves_37 rfl ?_
              refine z_iadd hC ((5 * r) + i) dX9_solves_39 rfl ?_
              refine z_aload_n hC 0 dX9_solves_40 rfl rfl ?_
              refine z_get hC (T := TX9) (N := 41) hinX9 0 37 dX9_solves_41 rfl rfl (by decide) (List.mem_of_getElem? (i := 3) rfl) rfl rfl ?_
              refine z_iload_n hC 1 dX9_solves_44 rfl rfl ?_
              refine z_iload hC 4 dX9_solves_45 rfl ?_
              refine z_iadd hC (4 + r) dX9_solves_47 rfl ?_
              refine z_iconst hC dX9_solves_48 ?_
              refine z_isub hC ((4 + r) - 1) dX9_solves_49 rfl ?_
              refine z_iload hC 5 dX9_solves_50 rfl ?_
              refine z_isub hC (((4 + r) - 1) - i) dX9_solves_52 rfl ?_
              refine z_lald hC 1 dX9_solves_53 rfl (by omega) ?_
              refine z_last hC 2 [wO m 9 [.int (zI (m_status)), .int (zI (m_thrown)), .ref m_sheetSort, .ref m_sheetMany, .ref m_numbers, .int (zI (4)), .int (zI (m_kind)), .int (zI (5)), .int (zI (m_round)), .int (zI (m_ax)), .int (zI (0)), .int (zI (m_bx)), .int (zI (0)), .ref m_dx, .ref m_dy, .ref m_weight, .ref m_isBarred, .ref m_walks, .ref m_one, .ref m_two, .ref m_light, .ref m_lightThen, .int (zI (m_family)), .ref m_fromX, .ref m_fromY, .ref m_toX, .ref m_toY, .int (zI (m_ruleMany)), .ref m_rule, .ref m_out, .int (zI (m_outs)), .ref m_grid, .ref m_heap, .ref m_ends, .ref m_power, .ref m_by2, .ref m_product, .ref m_levels, .ref m_row, .ref m_then, .ref m_equations], wJ m_levels (zK C).2.2.1 128 le, wJ m_equations (zK C).2.2.1 2048 (zu q2 ((5 * r) + i) (le (((4 + r) - 1) - i)))] dX9_solves_54 rfl (by omega) rfl ?_
              refine z_iinc (a := i) (v := 1) (r := i + 1) hC 5 [(5, .int (zI (i + 1))), (0, .ref m), (1, .int (zI (4))), (2, .int (zI (6))), (3, .int (zI (5))), (4, .int (zI (r)))] dX9_solves_55 rfl rfl (by decide) rfl ?_
              refine z_goto hC 23 dX9_solves_58 (by decide) ?_
              refine z_lv (lv' := [(0, .ref m), (1, .int (zI (4))), (2, .int (zI (6))), (3, .int (zI (5))), (4, .int (zI (r))), (5, .int (zI (i + 1)))]) [1, 2, 3, 4, 5, 0] rfl ?_
              exact ih23_29 (i + 1) (zu q2 ((5 * r) + i) (le (((4 + r) - 1) - i))) (by omega) (by intro j a b; unfold zu; by_cases e : j = 5 * r + i; (rw [if_pos e, e, hlev _ (by omega) (by omega)]; show _ = arL (eqI 4 5) _; rw [eqI_at (by omega) (by omega), if_pos (by omega)]; congr 1; omega); (rw [if_neg e]; exact vq2 j a (by omega))) (by omega)
        exact lp23_28 _ 0 q (by omega) (by intro j a b; exact vq j a (by omega)) (Nat.lt_succ_self _)
  exact lp14_1 _ 0 eq0 (by omega) (by intro j a b; omega) (Nat.lt_succ_self _)

set_option maxHeartbeats 8000000 in
set_option maxRecDepth 100000 in
theorem c_X9_solvesd5 (l : Launch) (D : va_G) (K : ClassId × ClassId × ClassId × ClassId) (m m_sheetSort m_sheetMany m_numbers m_dx m_dy m_weight m_isBarred m_walks m_one m_two m_light m_lightThen m_fromX m_fromY m_toX m_toY m_rule m_out m_grid m_heap m_ends m_power m_by2 m_product m_levels m_row m_then m_equations : Nat) (m_status m_thrown m_kind m_round m_ax m_bx m_family m_ruleMany m_outs : Int) (le eq0 : Int → Int) (hlev : ∀ j, 0 ≤ j → j < 128 → le j = arL TL j) : zMet l D K yX9_solves wsX9_solves ({ frames := 2, cells := 0, slots := 0, locals := 57 }) 0 0 [.ref m, .int (zI (5))] [wO m 9 [.int (zI (m_status)), .int (zI (m_thrown)), .ref m_sheetSort, .ref m_sheetMany, .ref m_numbers, .int (zI (4)), .int (zI (m_kind)), .int (zI (5)), .int (zI (m_round)), .int (zI (m_ax)), .int (zI (0)), .int (zI (m_bx)), .int (zI (0)), .ref m_dx, .ref m_dy, .ref m_weight, .ref m_isBarred, .ref m_walks, .ref m_one, .ref m_two, .ref m_light, .ref m_lightThen, .int (zI (m_family)), .ref m_fromX, .ref m_fromY, .ref m_toX, .ref m_toY, .int (zI (m_ruleMany)), .ref m_rule, .ref m_out, .int (zI (m_outs)), .ref m_grid, .ref m_heap, .ref m_ends, .ref m_power, .ref m_by2, .ref m_product, .ref m_levels, .ref m_row, .ref m_then, .ref m_equations], wJ m_levels K.2.2.1 128 le, wJ m_equations K.2.2.1 2048 eq0] (fun vr_ wr_ => ∃ (r : Int) (eq2 : Int → Int), vr_ = some (.int (zI (r))) ∧ wr_ = [wO m 9 [.int (zI (m_status)), .int (zI (m_thrown)), .ref m_sheetSort, .ref m_sheetMany, .ref m_numbers, .int (zI (4)), .int (zI (m_kind)), .int (zI (5)), .int (zI (m_round)), .int (zI (m_ax)), .int (zI (0)), .int (zI (m_bx)), .int (zI (0)), .ref m_dx, .ref m_dy, .ref m_weight, .ref m_isBarred, .ref m_walks, .ref m_one, .ref m_two, .ref m_light, .ref m_lightThen, .int (zI (m_family)), .ref m_fromX, .ref m_fromY, .ref m_toX, .ref m_toY, .int (zI (m_ruleMany)), .ref m_rule, .ref m_out, .int (zI (m_outs)), .ref m_grid, .ref m_heap, .ref m_ends, .ref m_power, .ref m_by2, .ref m_product, .ref m_levels, .ref m_row, .ref m_then, .ref m_equations], wJ m_levels K.2.2.1 128 le, wJ m_equations K.2.2.1 2048 eq2] ∧ (r = 0)) := by
  refine zMet_of (cc := cX9_solves) (nL := 7) (ret := (some .boolean)) (by decide) rfl (Nat.le_of_ble_eq_true rfl) ?_
  rintro C rfl rfl rfl hC hR
  have hinX9 : ∀ w ∈ u_ws RX9 TX9 41, w ∈ wsX9_solves := by decide +kernel
  show ZW C 0 0 [wO m 9 [.int (zI (m_status)), .int (zI (m_thrown)), .ref m_sheetSort, .ref m_sheetMany, .ref m_numbers, .int (zI (4)), .int (zI (m_kind)), .int (zI (5)), .int (zI (m_round)), .int (zI (m_ax)), .int (zI (0)), .int (zI (m_bx)), .int (zI (0)), .ref m_dx, .ref m_dy, .ref m_weight, .ref m_isBarred, .ref m_walks, .ref m_one, .ref m_two, .ref m_light, .ref m_lightThen, .int (zI (m_family)), .ref m_fromX, .ref m_fromY, .ref m_toX, .ref m_toY, .int (zI (m_ruleMany)), .ref m_rule, .ref m_out, .int (zI (m_outs)), .ref m_grid, .ref m_heap, .ref m_ends, .ref m_power, .ref m_by2, .ref m_product, .ref m_levels, .ref m_row, .ref m_then, .ref m_equations], wJ m_levels (zK C).2.2.1 128 le, wJ m_equations (zK C).2.2.1 2048 eq0] [(0, .ref m), (1, .int (zI (5)))] 0 []
  refine z_aload_n hC 0 dX9_solves_0 rfl rfl ?_
  refine z_get hC (T := TX9) (N := 41) hinX9 0 7 dX9_solves_1 rfl rfl (by decide) (List.mem_of_getElem? (i := 1) rfl) rfl rfl ?_
  refine z_iconst hC dX9_solves_4 ?_
  refine z_iadd hC (6) dX9_solves_5 (by decide) ?_
  refine z_istore_n hC [(2, .int (zI (6))), (0, .ref m), (1, .int (zI (5)))] dX9_solves_6 rfl (by decide) rfl ?_
  refine z_iload_n hC 2 dX9_solves_7 rfl rfl ?_
  refine z_iconst hC dX9_solves_8 ?_
  refine z_iadd hC (6) dX9_solves_9 (by decide) ?_
  refine z_istore_n hC [(3, .int (zI (6))), (2, .int (zI (6))), (0, .ref m), (1, .int (zI (5)))] dX9_solves_10 rfl (by decide) rfl ?_
  refine z_iconst hC dX9_solves_11 ?_
  refine z_istore hC [(4, .int (zI (0))), (3, .int (zI (6))), (2, .int (zI (6))), (0, .ref m), (1, .int (zI (5)))] dX9_solves_12 (by decide) rfl ?_
  refine z_lv (lv' := [(0, .ref m), (1, .int (zI (5))), (2, .int (zI (6))), (3, .int (zI (6))), (4, .int (zI (0)))]) [3, 4, 2, 1, 0] rfl ?_
  have lp14_1 : ∀ (f3 : Nat) (r : Int) (q : Int → Int), (0 ≤ r ∧ r ≤ 6) → (∀ j, 0 ≤ j → j < 6 * r → q j = arL el5_0 j) → (6 - r).toNat < f3 → ZW C 0 0 [wO m 9 [.int (zI (m_status)), .int (zI (m_thrown)), .ref m_sheetSort, .ref m_sheetMany, .ref m_numbers, .int (zI (4)), .int (zI (m_kind)), .int (zI (5)), .int (zI (m_round)), .int (zI (m_ax)), .int (zI (0)), .int (zI (m_bx)), .int (zI (0)), .ref m_dx, .ref m_dy, .ref m_weight, .ref m_isBarred, .ref m_walks, .ref m_one, .ref m_two, .ref m_light, .ref m_lightThen, .int (zI (m_family)), .ref m_fromX, .ref m_fromY, .ref m_toX, .ref m_toY, .int (zI (m_ruleMany)), .ref m_rule, .ref m_out, .int (zI (m_outs)), .ref m_grid, .ref m_heap, .ref m_ends, .ref m_power, .ref m_by2, .ref m_product, .ref m_levels, .ref m_row, .ref m_then, .ref m_equations], wJ m_levels (zK C).2.2.1 128 le, wJ m_equations (zK C).2.2.1 2048 q] [(0, .ref m), (1, .int (zI (5))), (2, .int (zI (6))), (3, .int (zI (6))), (4, .int (zI (r)))] 14 [] := by
    intro f3
    induction f3 with
    | zero => intro _ _ _ _ hf; exact absurd hf (Nat.not_lt_zero _)
    | succ f3 ih14_2 =>
      intro r q vr vq hf_14
      refine z_iload hC 4 dX9_solves_14 rfl ?_
      refine z_iload_n hC 2 dX9_solves_16 rfl rfl ?_
      refine z_icge hC 87 dX9_solves_17 (by decide) (by omega) (fun c_4 => ?_) (fun c_4 => ?_)
      · skip
        refine z_iconst hC dX9_solves_87 ?_
        refine z_istore hC [(4, .int (zI (0))), (0, .ref m), (1, .int (zI (5))), (2, .int (zI (6))), (3, .int (zI (6)))] dX9_solves_88 (by decide) rfl ?_
        refine z_iconst hC dX9_solves_90 ?_
        refine z_istore hC [(5, .int (zI (0))), (4, .int (zI (0))), (0, .ref m), (1, .int (zI (5))), (2, .int (zI (6))), (3, .int (zI (6)))] dX9_solves_91 (by decide) rfl ?_
        refine z_iload hC 0 dX9_solves_93 rfl ?_
        refine z_iload_n hC 3 dX9_solves_95 rfl rfl ?_
        refine z_icge hC 161 dX9_solves_96 (by decide) (by omega) (fun c_5 => by exfalso; omega) (fun c_5 => ?_)
        refine z_iload hC 1 dX9_solves_99 rfl ?_
        refine z_istore hC [(6, .int (zI (0))), (5, .int (zI (0))), (4, .int (zI (0))), (0, .ref m), (1, .int (zI (5))), (2, .int (zI (6))), (3, .int (zI (6)))] dX9_solves_101 (by decide) rfl ?_
        refine z_iload hC 0 dX9_solves_103 rfl ?_
        refine z_iload_n hC 5 dX9_solves_105 rfl rfl ?_
        refine z_icge hC 132 dX9_solves_106 (by decide) (by omega) (fun c_6 => by exfalso; omega) (fun c_6 => ?_)
        refine z_aload_n hC 3 dX9_solves_109 rfl rfl ?_
        refine z_get hC (T := TX9) (N := 41) hinX9 0 40 dX9_solves_110 rfl rfl (by decide) (List.mem_of_getElem? (i := 2) rfl) rfl rfl ?_
        refine z_iload_n hC 6 dX9_solves_113 rfl rfl ?_
        refine z_iload hC 0 dX9_solves_114 rfl ?_
        refine z_imul hC (0) dX9_solves_116 (by decide) ?_
        refine z_iload hC 1 dX9_solves_117 rfl ?_
        refine z_iadd hC (0) dX9_solves_119 (by decide) ?_
        refine z_lald hC 2 dX9_solves_120 rfl (by omega) ?_
        refine z_topl (b := 42) (by rw [vq 0 (by omega) (by omega)]; exact elv5_0) ?_
        refine z_lconst (v := 0) hC dX9_solves_121 rfl ?_
        refine z_lcne hC 132 dX9_solves_122 dX9_solves_123 (by decide) (by omega) (fun c_7 => ?_) (fun c_7 => by exfalso; omega)
        refine z_iload hC 0 dX9_solves_132 rfl ?_
        refine z_iload_n hC 5 dX9_solves_134 rfl rfl ?_
        refine z_icne hC 140 dX9_solves_135 (by decide) (by omega) (fun c_8 => ?_) (fun c_8 => by exfalso; omega)
        refine z_aload_n hC 3 dX9_solves_140 rfl rfl ?_
        refine z_iload hC 2 dX9_solves_141 rfl ?_
        refine z_iload hC 0 dX9_solves_143 rfl ?_
        refine z_iload hC 1 dX9_solves_145 rfl ?_
        refine z_iload_n hC 6 dX9_solves_147 rfl rfl ?_
        refine z_iload_n hC 5 dX9_solves_148 rfl rfl ?_
        refine z_callV hC [.int (zI (0)), .int (zI (0)), .int (zI (0)), .int (zI (6)), .int (zI (6))] 5 0 dX9_solves_149 (c_X9_clearsw6 (zl C) (zD C) (zK C) m m_sheetSort m_sheetMany m_numbers m_dx m_dy m_weight m_isBarred m_walks m_one m_two m_light m_lightThen m_fromX m_fromY m_toX m_toY m_rule m_out m_grid m_heap m_ends m_power m_by2 m_product m_levels m_row m_then m_equations 0 m_status m_thrown 4 m_kind 5 m_round m_ax 0 m_bx 0 m_family m_ruleMany m_outs q el5_0 (by first | assumption | omega) (by intro j a b; exact vq j a (by omega)) (by exact elr5_0)) gX9_solves_X9_clears rfl rfl rfl ⟨by decide, by decide, by decide +kernel⟩ ⟨(Nat.le_of_ble_eq_true rfl), (Nat.le_of_ble_eq_true rfl)⟩ rfl rfl rfl rfl [0, 2] [1] [wJ m_levels (zK C).2.2.1 128 le] [] rfl rfl rfl rfl rfl (by decide) (Nat.le_of_ble_eq_true rfl) ⟨(Nat.le_of_ble_eq_true rfl), (Nat.le_of_ble_eq_true rfl)⟩ ?_
        rintro v_ w_ ⟨g2_9, rfl, rfl, hcl0⟩
        show ZW C 0 0 [wJ m_levels (zK C).2.2.1 128 le, wO m 9 [.int (zI (m_status)), .int (zI (m_thrown)), .ref m_sheetSort, .ref m_sheetMany, .ref m_numbers, .int (zI (4)), .int (zI (m_kind)), .int (zI (5)), .int (zI (m_round)), .int (zI (m_ax)), .int (zI (0)), .int (zI (m_bx)), .int (zI (0)), .ref m_dx, .ref m_dy, .ref m_weight, .ref m_isBarred, .ref m_walks, .ref m_one, .ref m_two, .ref m_light, .ref m_lightThen, .int (zI (m_family)), .ref m_fromX, .ref m_fromY, .ref m_toX, .ref m_toY, .int (zI (m_ruleMany)), .ref m_rule, .ref m_out, .int (zI (m_outs)), .ref m_grid, .ref m_heap, .ref m_ends, .ref m_power, .ref m_by2, .ref m_product, .ref m_levels, .ref m_row, .ref m_then, .ref m_equations], wJ m_equations (zK C).2.2.1 2048 g2_9] [(6, .int (zI (0))), (5, .int (zI (0))), (4, .int (zI (0))), (0, .ref m), (1, .int (zI (5))), (2, .int (zI (6))), (3, .int (zI (6)))] 152 []
        refine z_iinc (a := 0) (v := 1) (r := 1) hC 2 [(4, .int (zI (1))), (6, .int (zI (0))), (5, .int (zI (0))), (0, .ref m), (1, .int (zI (5))), (2, .int (zI (6))), (3, .int (zI (6)))] dX9_solves_152 rfl (by decide) (by decide) rfl ?_
        refine z_iinc (a := 0) (v := 1) (r := 1) hC 2 [(5, .int (zI (1))), (4, .int (zI (1))), (6, .int (zI (0))), (0, .ref m), (1, .int (zI (5))), (2, .int (zI (6))), (3, .int (zI (6)))] dX9_solves_155 rfl (by decide) (by decide) rfl ?_
        refine z_goto hC 93 dX9_solves_158 (by decide) ?_
        refine z_iload hC 0 dX9_solves_93 rfl ?_
        refine z_iload_n hC 4 dX9_solves_95 rfl rfl ?_
        refine z_icge hC 161 dX9_solves_96 (by decide) (by omega) (fun c_10 => by exfalso; omega) (fun c_10 => ?_)
        refine z_iload hC 1 dX9_solves_99 rfl ?_
        refine z_istore hC [(6, .int (zI (1))), (5, .int (zI (1))), (4, .int (zI (1))), (0, .ref m), (1, .int (zI (5))), (2, .int (zI (6))), (3, .int (zI (6)))] dX9_solves_101 (by decide) rfl ?_
        refine z_iload hC 0 dX9_solves_103 rfl ?_
        refine z_iload_n hC 5 dX9_solves_105 rfl rfl ?_
        refine z_icge hC 132 dX9_solves_106 (by decide) (by omega) (fun c_11 => by exfalso; omega) (fun c_11 => ?_)
        refine z_aload_n hC 3 dX9_solves_109 rfl rfl ?_
        refine z_get hC (T := TX9) (N := 41) hinX9 1 40 dX9_solves_110 rfl rfl (by decide) (List.mem_of_getElem? (i := 2) rfl) rfl rfl ?_
        refine z_iload_n hC 6 dX9_solves_113 rfl rfl ?_
        refine z_iload hC 0 dX9_solves_114 rfl ?_
        refine z_imul hC (6) dX9_solves_116 (by decide) ?_
        refine z_iload hC 1 dX9_solves_117 rfl ?_
        refine z_iadd hC (7) dX9_solves_119 (by decide) ?_
        refine z_lald hC 2 dX9_solves_120 rfl (by omega) ?_
        refine z_topl (b := 998244351) (by rw [hcl0 7 (by omega) (by omega)]; exact elv5_1) ?_
        refine z_lconst (v := 0) hC dX9_solves_121 rfl ?_
        refine z_lcne hC 132 dX9_solves_122 dX9_solves_123 (by decide) (by omega) (fun c_12 => ?_) (fun c_12 => by exfalso; omega)
        refine z_iload hC 0 dX9_solves_132 rfl ?_
        refine z_iload_n hC 5 dX9_solves_134 rfl rfl ?_
        refine z_icne hC 140 dX9_solves_135 (by decide) (by omega) (fun c_13 => ?_) (fun c_13 => by exfalso; omega)
        refine z_aload_n hC 3 dX9_solves_140 rfl rfl ?_
        refine z_iload hC 2 dX9_solves_141 rfl ?_
        refine z_iload hC 0 dX9_solves_143 rfl ?_
        refine z_iload hC 1 dX9_solves_145 rfl ?_
        refine z_iload_n hC 6 dX9_solves_147 rfl rfl ?_
        refine z_iload_n hC 5 dX9_solves_148 rfl rfl ?_
        refine z_callV hC [.int (zI (1)), .int (zI (1)), .int (zI (1)), .int (zI (6)), .int (zI (6))] 5 0 dX9_solves_149 (c_X9_clearsw6 (zl C) (zD C) (zK C) m m_sheetSort m_sheetMany m_numbers m_dx m_dy m_weight m_isBarred m_walks m_one m_two m_light m_lightThen m_fromX m_fromY m_toX m_toY m_rule m_out m_grid m_heap m_ends m_power m_by2 m_product m_levels m_row m_then m_equations 1 m_status m_thrown 4 m_kind 5 m_round m_ax 0 m_bx 0 m_family m_ruleMany m_outs g2_9 el5_1 (by first | assumption | omega) (by intro j a b; exact hcl0 j a (by omega)) (by exact elr5_1)) gX9_solves_X9_clears rfl rfl rfl ⟨by decide, by decide, by decide +kernel⟩ ⟨(Nat.le_of_ble_eq_true rfl), (Nat.le_of_ble_eq_true rfl)⟩ rfl rfl rfl rfl [1, 2] [0] [wJ m_levels (zK C).2.2.1 128 le] [] rfl rfl rfl rfl rfl (by decide) (Nat.le_of_ble_eq_true rfl) ⟨(Nat.le_of_ble_eq_true rfl), (Nat.le_of_ble_eq_true rfl)⟩ ?_
        rintro v_ w_ ⟨g2_14, rfl, rfl, hcl1⟩
        show ZW C 0 0 [wJ m_levels (zK C).2.2.1 128 le, wO m 9 [.int (zI (m_status)), .int (zI (m_thrown)), .ref m_sheetSort, .ref m_sheetMany, .ref m_numbers, .int (zI (4)), .int (zI (m_kind)), .int (zI (5)), .int (zI (m_round)), .int (zI (m_ax)), .int (zI (0)), .int (zI (m_bx)), .int (zI (0)), .ref m_dx, .ref m_dy, .ref m_weight, .ref m_isBarred, .ref m_walks, .ref m_one, .ref m_two, .ref m_light, .ref m_lightThen, .int (zI (m_family)), .ref m_fromX, .ref m_fromY, .ref m_toX, .ref m_toY, .int (zI (m_ruleMany)), .ref m_rule, .ref m_out, .int (zI (m_outs)), .ref m_grid, .ref m_heap, .ref m_ends, .ref m_power, .ref m_by2, .ref m_product, .ref m_levels, .ref m_row, .ref m_then, .ref m_equations], wJ m_equations (zK C).2.2.1 2048 g2_14] [(6, .int (zI (1))), (5, .int (zI (1))), (4, .int (zI (1))), (0, .ref m), (1, .int (zI (5))), (2, .int (zI (6))), (3, .int (zI (6)))] 152 []
        refine z_iinc (a := 1) (v := 1) (r := 2) hC 2 [(4, .int (zI (2))), (6, .int (zI (1))), (5, .int (zI (1))), (0, .ref m), (1, .int (zI (5))), (2, .int (zI (6))), (3, .int (zI (6)))] dX9_solves_152 rfl (by decide) (by decide) rfl ?_
        refine z_iinc (a := 1) (v := 1) (r := 2) hC 2 [(5, .int (zI (2))), (4, .int (zI (2))), (6, .int (zI (1))), (0, .ref m), (1, .int (zI (5))), (2, .int (zI (6))), (3, .int (zI (6)))] dX9_solves_155 rfl (by decide) (by decide) rfl ?_
        refine z_goto hC 93 dX9_solves_158 (by decide) ?_
        refine z_iload hC 0 dX9_solves_93 rfl ?_
        refine z_iload_n hC 4 dX9_solves_95 rfl rfl ?_
        refine z_icge hC 161 dX9_solves_96 (by decide) (by omega) (fun c_15 => by exfalso; omega) (fun c_15 => ?_)
        refine z_iload hC 1 dX9_solves_99 rfl ?_
        refine z_istore hC [(6, .int (zI (2))), (5, .int (zI (2))), (4, .int (zI (2))), (0, .ref m), (1, .int (zI (5))), (2, .int (zI (6))), (3, .int (zI (6)))] dX9_solves_101 (by decide) rfl ?_
        refine z_iload hC 0 dX9_solves_103 rfl ?_
        refine z_iload_n hC 5 dX9_solves_105 rfl rfl ?_
        refine z_icge hC 132 dX9_solves_106 (by decide) (by omega) (fun c_16 => by exfalso; omega) (fun c_16 => ?_)
        refine z_aload_n hC 3 dX9_solves_109 rfl rfl ?_
        refine z_get hC (T := TX9) (N := 41) hinX9 1 40 dX9_solves_110 rfl rfl (by decide) (List.mem_of_getElem? (i := 2) rfl) rfl rfl ?_
        refine z_iload_n hC 6 dX9_solves_113 rfl rfl ?_
        refine z_iload hC 0 dX9_solves_114 rfl ?_
        refine z_imul hC (12) dX9_solves_116 (by decide) ?_
        refine z_iload hC 1 dX9_solves_117 rfl ?_
        refine z_iadd hC (14) dX9_solves_119 (by decide) ?_
        refine z_lald hC 2 dX9_solves_120 rfl (by omega) ?_
        refine z_topl (b := 641728513) (by rw [hcl1 14 (by omega) (by omega)]; exact elv5_2) ?_
        refine z_lconst (v := 0) hC dX9_solves_121 rfl ?_
        refine z_lcne hC 132 dX9_solves_122 dX9_solves_123 (by decide) (by omega) (fun c_17 => ?_) (fun c_17 => by exfalso; omega)
        refine z_iload hC 0 dX9_solves_132 rfl ?_
        refine z_iload_n hC 5 dX9_solves_134 rfl rfl ?_
        refine z_icne hC 140 dX9_solves_135 (by decide) (by omega) (fun c_18 => ?_) (fun c_18 => by exfalso; omega)
        refine z_aload_n hC 3 dX9_solves_140 rfl rfl ?_
        refine z_iload hC 2 dX9_solves_141 rfl ?_
        refine z_iload hC 0 dX9_solves_143 rfl ?_
        refine z_iload hC 1 dX9_solves_145 rfl ?_
        refine z_iload_n hC 6 dX9_solves_147 rfl rfl ?_
        refine z_iload_n hC 5 dX9_solves_148 rfl rfl ?_
        refine z_callV hC [.int (zI (2)), .int (zI (2)), .int (zI (2)), .int (zI (6)), .int (zI (6))] 5 0 dX9_solves_149 (c_X9_clearsw6 (zl C) (zD C) (zK C) m m_sheetSort m_sheetMany m_numbers m_dx m_dy m_weight m_isBarred m_walks m_one m_two m_light m_lightThen m_fromX m_fromY m_toX m_toY m_rule m_out m_grid m_heap m_ends m_power m_by2 m_product m_levels m_row m_then m_equations 2 m_status m_thrown 4 m_kind 5 m_round m_ax 0 m_bx 0 m_family m_ruleMany m_outs g2_14 el5_2 (by first | assumption | omega) (by intro j a b; exact hcl1 j a (by omega)) (by exact elr5_2)) gX9_solves_X9_clears rfl rfl rfl ⟨by decide, by decide, by decide +kernel⟩ ⟨(Nat.le_of_ble_eq_true rfl), (Nat.le_of_ble_eq_true rfl)⟩ rfl rfl rfl rfl [1, 2] [0] [wJ m_levels (zK C).2.2.1 128 le] [] rfl rfl rfl rfl rfl (by decide) (Nat.le_of_ble_eq_true rfl) ⟨(Nat.le_of_ble_eq_true rfl), (Nat.le_of_ble_eq_true rfl)⟩ ?_
        rintro v_ w_ ⟨g2_19, rfl, rfl, hcl2⟩
        show ZW C 0 0 [wJ m_levels (zK C).2.2.1 128 le, wO m 9 [.int (zI (m_status)), .int (zI (m_thrown)), .ref m_sheetSort, .ref m_sheetMany, .ref m_numbers, .int (zI (4)), .int (zI (m_kind)), .int (zI (5)), .int (zI (m_round)), .int (zI (m_ax)), .int (zI (0)), .int (zI (m_bx)), .int (zI (0)), .ref m_dx, .ref m_dy, .ref m_weight, .ref m_isBarred, .ref m_walks, .ref m_one, .ref m_two, .ref m_light, .ref m_lightThen, .int (zI (m_family)), .ref m_fromX, .ref m_fromY, .ref m_toX, .ref m_toY, .int (zI (m_ruleMany)), .ref m_rule, .ref m_out, .int (zI (m_outs)), .ref m_grid, .ref m_heap, .ref m_ends, .ref m_power, .ref m_by2, .ref m_product, .ref m_levels, .ref m_row, .ref m_then, .ref m_equations], wJ m_equations (zK C).2.2.1 2048 g2_19] [(6, .int (zI (2))), (5, .int (zI (2))), (4, .int (zI (2))), (0, .ref m), (1, .int (zI (5))), (2, .int (zI (6))), (3, .int (zI (6)))] 152 []
        refine z_iinc (a := 2) (v := 1) (r := 3) hC 2 [(4, .int (zI (3))), (6, .int (zI (2))), (5, .int (zI (2))), (0, .ref m), (1, .int (zI (5))), (2, .int (zI (6))), (3, .int (zI (6)))] dX9_solves_152 rfl (by decide) (by decide) rfl ?_
        refine z_iinc (a := 2) (v := 1) (r := 3) hC 2 [(5, .int (zI (3))), (4, .int (zI (3))), (6, .int (zI (2))), (0, .ref m), (1, .int (zI (5))), (2, .int (zI (6))), (3, .int (zI (6)))] dX9_solves_155 rfl (by decide) (by decide) rfl ?_
        refine z_goto hC 93 dX9_solves_158 (by decide) ?_
        refine z_iload hC 0 dX9_solves_93 rfl ?_
        refine z_iload_n hC 4 dX9_solves_95 rfl rfl ?_
        refine z_icge hC 161 dX9_solves_96 (by decide) (by omega) (fun c_20 => by exfalso; omega) (fun c_20 => ?_)
        refine z_iload hC 1 dX9_solves_99 rfl ?_
        refine z_istore hC [(6, .int (zI (3))), (5, .int (zI (3))), (4, .int (zI (3))), (0, .ref m), (1, .int (zI (5))), (2, .int (zI (6))), (3, .int (zI (6)))] dX9_solves_101 (by decide) rfl ?_
        refine z_iload hC 0 dX9_solves_103 rfl ?_
        refine z_iload_n hC 5 dX9_solves_105 rfl rfl ?_
        refine z_icge hC 132 dX9_solves_106 (by decide) (by omega) (fun c_21 => by exfalso; omega) (fun c_21 => ?_)
        refine z_aload_n hC 3 dX9_solves_109 rfl rfl ?_
        refine z_get hC (T := TX9) (N := 41) hinX9 1 40 dX9_solves_110 rfl rfl (by decide) (List.mem_of_getElem? (i := 2) rfl) rfl rfl ?_
        refine z_iload_n hC 6 dX9_solves_113 rfl rfl ?_
        refine z_iload hC 0 dX9_solves_114 rfl ?_
        refine z_imul hC (18) dX9_solves_116 (by decide) ?_
        refine z_iload hC 1 dX9_solves_117 rfl ?_
        refine z_iadd hC (21) dX9_solves_119 (by decide) ?_
        refine z_lald hC 2 dX9_solves_120 rfl (by omega) ?_
        refine z_topl (b := 831870294) (by rw [hcl2 21 (by omega) (by omega)]; exact elv5_3) ?_
        refine z_lconst (v := 0) hC dX9_solves_121 rfl ?_
        refine z_lcne hC 132 dX9_solves_122 dX9_solves_123 (by decide) (by omega) (fun c_22 => ?_) (fun c_22 => by exfalso; omega)
        refine z_iload hC 0 dX9_solves_132 rfl ?_
        refine z_iload_n hC 5 dX9_solves_134 rfl rfl ?_
        refine z_icne hC 140 dX9_solves_135 (by decide) (by omega) (fun c_23 => ?_) (fun c_23 => by exfalso; omega)
        refine z_aload_n hC 3 dX9_solves_140 rfl rfl ?_
        refine z_iload hC 2 dX9_solves_141 rfl ?_
        refine z_iload hC 0 dX9_solves_143 rfl ?_
        refine z_iload hC 1 dX9_solves_145 rfl ?_
        refine z_iload_n hC 6 dX9_solves_147 rfl rfl ?_
        refine z_iload_n hC 5 dX9_solves_148 rfl rfl ?_
        refine z_callV hC [.int (zI (3)), .int (zI (3)), .int (zI (3)), .int (zI (6)), .int (zI (6))] 5 0 dX9_solves_149 (c_X9_clearsw6 (zl C) (zD C) (zK C) m m_sheetSort m_sheetMany m_numbers m_dx m_dy m_weight m_isBarred m_walks m_one m_two m_light m_lightThen m_fromX m_fromY m_toX m_toY m_rule m_out m_grid m_heap m_ends m_power m_by2 m_product m_levels m_row m_then m_equations 3 m_status m_thrown 4 m_kind 5 m_round m_ax 0 m_bx 0 m_family m_ruleMany m_outs g2_19 el5_3 (by first | assumption | omega) (by intro j a b; exact hcl2 j a (by omega)) (by exact elr5_3)) gX9_solves_X9_clears rfl rfl rfl ⟨by decide, by decide, by decide +kernel⟩ ⟨(Nat.le_of_ble_eq_true rfl), (Nat.le_of_ble_eq_true rfl)⟩ rfl rfl rfl rfl [1, 2] [0] [wJ m_levels (zK C).2.2.1 128 le] [] rfl rfl rfl rfl rfl (by decide) (Nat.le_of_ble_eq_true rfl) ⟨(Nat.le_of_ble_eq_true rfl), (Nat.le_of_ble_eq_true rfl)⟩ ?_
        rintro v_ w_ ⟨g2_24, rfl, rfl, hcl3⟩
        show ZW C 0 0 [wJ m_levels (zK C).2.2.1 128 le, wO m 9 [.int (zI (m_status)), .int (zI (m_thrown)), .ref m_sheetSort, .ref m_sheetMany, .ref m_numbers, .int (zI (4)), .int (zI (m_kind)), .int (zI (5)), .int (zI (m_round)), .int (zI (m_ax)), .int (zI (0)), .int (zI (m_bx)), .int (zI (0)), .ref m_dx, .ref m_dy, .ref m_weight, .ref m_isBarred, .ref m_walks, .ref m_one, .ref m_two, .ref m_light, .ref m_lightThen, .int (zI (m_family)), .ref m_fromX, .ref m_fromY, .ref m_toX, .ref m_toY, .int (zI (m_ruleMany)), .ref m_rule, .ref m_out, .int (zI (m_outs)), .ref m_grid, .ref m_heap, .ref m_ends, .ref m_power, .ref m_by2, .ref m_product, .ref m_levels, .ref m_row, .ref m_then, .ref m_equations], wJ m_equations (zK C).2.2.1 2048 g2_24] [(6, .int (zI (3))), (5, .int (zI (3))), (4, .int (zI (3))), (0, .ref m), (1, .int (zI (5))), (2, .int (zI (6))), (3, .int (zI (6)))] 152 []
        refine z_iinc (a := 3) (v := 1) (r := 4) hC 2 [(4, .int (zI (4))), (6, .int (zI (3))), (5, .int (zI (3))), (0, .ref m), (1, .int (zI (5))), (2, .int (zI (6))), (3, .int (zI (6)))] dX9_solves_152 rfl (by decide) (by decide) rfl ?_
        refine z_iinc (a := 3) (v := 1) (r := 4) hC 2 [(5, .int (zI (4))), (4, .int (zI (4))), (6, .int (zI (3))), (0, .ref m), (1, .int (zI (5))), (2, .int (zI (6))), (3, .int (zI (6)))] dX9_solves_155 rfl (by decide) (by decide) rfl ?_
        refine z_goto hC 93 dX9_solves_158 (by decide) ?_
        refine z_iload hC 0 dX9_solves_93 rfl ?_
        refine z_iload_n hC 4 dX9_solves_95 rfl rfl ?_
        refine z_icge hC 161 dX9_solves_96 (by decide) (by omega) (fun c_25 => by exfalso; omega) (fun c_25 => ?_)
        refine z_iload hC 1 dX9_solves_99 rfl ?_
        refine z_istore hC [(6, .int (zI (4))), (5, .int (zI (4))), (4, .int (zI (4))), (0, .ref m), (1, .int (zI (5))), (2, .int (zI (6))), (3, .int (zI (6)))] dX9_solves_101 (by decide) rfl ?_
        refine z_iload hC 0 dX9_solves_103 rfl ?_
        refine z_iload_n hC 5 dX9_solves_105 rfl rfl ?_
        refine z_icge hC 132 dX9_solves_106 (by decide) (by omega) (fun c_26 => by exfalso; omega) (fun c_26 => ?_)
        refine z_aload_n hC 3 dX9_solves_109 rfl rfl ?_
        refine z_get hC (T := TX9) (N := 41) hinX9 1 40 dX9_solves_110 rfl rfl (by decide) (List.mem_of_getElem? (i := 2) rfl) rfl rfl ?_
        refine z_iload_n hC 6 dX9_solves_113 rfl rfl ?_
        refine z_iload hC 0 dX9_solves_114 rfl ?_
        refine z_imul hC (24) dX9_solves_116 (by decide) ?_
        refine z_iload hC 1 dX9_solves_117 rfl ?_
        refine z_iadd hC (28) dX9_solves_119 (by decide) ?_
        refine z_lald hC 2 dX9_solves_120 rfl (by omega) ?_
        refine z_topl (b := 598946612) (by rw [hcl3 28 (by omega) (by omega)]; exact elv5_4) ?_
        refine z_lconst (v := 0) hC dX9_solves_121 rfl ?_
        refine z_lcne hC 132 dX9_solves_122 dX9_solves_123 (by decide) (by omega) (fun c_27 => ?_) (fun c_27 => by exfalso; omega)
        refine z_iload hC 0 dX9_solves_132 rfl ?_
        refine z_iload_n hC 5 dX9_solves_134 rfl rfl ?_
        refine z_icne hC 140 dX9_solves_135 (by decide) (by omega) (fun c_28 => ?_) (fun c_28 => by exfalso; omega)
        refine z_aload_n hC 3 dX9_solves_140 rfl rfl ?_
        refine z_iload hC 2 dX9_solves_141 rfl ?_
        refine z_iload hC 0 dX9_solves_143 rfl ?_
        refine z_iload hC 1 dX9_solves_145 rfl ?_
        refine z_iload_n hC 6 dX9_solves_147 rfl rfl ?_
        refine z_iload_n hC 5 dX9_solves_148 rfl rfl ?_
        refine z_callV hC [.int (zI (4)), .int (zI (4)), .int (zI (4)), .int (zI (6)), .int (zI (6))] 5 0 dX9_solves_149 (c_X9_clearsw6 (zl C) (zD C) (zK C) m m_sheetSort m_sheetMany m_numbers m_dx m_dy m_weight m_isBarred m_walks m_one m_two m_light m_lightThen m_fromX m_fromY m_toX m_toY m_rule m_out m_grid m_heap m_ends m_power m_by2 m_product m_levels m_row m_then m_equations 4 m_status m_thrown 4 m_kind 5 m_round m_ax 0 m_bx 0 m_family m_ruleMany m_outs g2_24 el5_4 (by first | assumption | omega) (by intro j a b; exact hcl3 j a (by omega)) (by exact elr5_4)) gX9_solves_X9_clears rfl rfl rfl ⟨by decide, by decide, by decide +kernel⟩ ⟨(Nat.le_of_ble_eq_true rfl), (Nat.le_of_ble_eq_true rfl)⟩ rfl rfl rfl rfl [1, 2] [0] [wJ m_levels (zK C).2.2.1 128 le] [] rfl rfl rfl rfl rfl (by decide) (Nat.le_of_ble_eq_true rfl) ⟨(Nat.le_of_ble_eq_true rfl), (Nat.le_of_ble_eq_true rfl)⟩ ?_
        rintro v_ w_ ⟨g2_29, rfl, rfl, hcl4⟩
        show ZW C 0 0 [wJ m_levels (zK C).2.2.1 128 le, wO m 9 [.int (zI (m_status)), .int (zI (m_thrown)), .ref m_sheetSort, .ref m_sheetMany, .ref m_numbers, .int (zI (4)), .int (zI (m_kind)), .int (zI (5)), .int (zI (m_round)), .int (zI (m_ax)), .int (zI (0)), .int (zI (m_bx)), .int (zI (0)), .ref m_dx, .ref m_dy, .ref m_weight, .ref m_isBarred, .ref m_walks, .ref m_one, .ref m_two, .ref m_light, .ref m_lightThen, .int (zI (m_family)), .ref m_fromX, .ref m_fromY, .ref m_toX, .ref m_toY, .int (zI (m_ruleMany)), .ref m_rule, .ref m_out, .int (zI (m_outs)), .ref m_grid, .ref m_heap, .ref m_ends, .ref m_power, .ref m_by2, .ref m_product, .ref m_levels, .ref m_row, .ref m_then, .ref m_equations], wJ m_equations (zK C).2.2.1 2048 g2_29] [(6, .int (zI (4))), (5, .int (zI (4))), (4, .int (zI (4))), (0, .ref m), (1, .int (zI (5))), (2, .int (zI (6))), (3, .int (zI (6)))] 152 []
        refine z_iinc (a := 4) (v := 1) (r := 5) hC 2 [(4, .int (zI (5))), (6, .int (zI (4))), (5, .int (zI (4))), (0, .ref m), (1, .int (zI (5))), (2, .int (zI (6))), (3, .int (zI (6)))] dX9_solves_152 rfl (by decide) (by decide) rfl ?_
        refine z_iinc (a := 4) (v := 1) (r := 5) hC 2 [(5, .int (zI (5))), (4, .int (zI (5))), (6, .int (zI (4))), (0, .ref m), (1, .int (zI (5))), (2, .int (zI (6))), (3, .int (zI (6)))] dX9_solves_155 rfl (by decide) (by decide) rfl ?_
        refine z_goto hC 93 dX9_solves_158 (by decide) ?_
        refine z_iload hC 0 dX9_solves_93 rfl ?_
        refine z_iload_n hC 4 dX9_solves_95 rfl rfl ?_
        refine z_icge hC 161 dX9_solves_96 (by decide) (by omega) (fun c_30 => ?_) (fun c_30 => by exfalso; omega)
        refine z_iload hC 1 dX9_solves_161 rfl ?_
        refine z_istore hC [(5, .int (zI (5))), (4, .int (zI (5))), (6, .int (zI (4))), (0, .ref m), (1, .int (zI (5))), (2, .int (zI (6))), (3, .int (zI (6)))] dX9_solves_163 (by decide) rfl ?_
        refine z_iload hC 0 dX9_solves_165 rfl ?_
        refine z_iload_n hC 5 dX9_solves_167 rfl rfl ?_
        refine z_icge hC 195 dX9_solves_168 (by decide) (by omega) (fun c_31 => by exfalso; omega) (fun c_31 => ?_)
        refine z_aload_n hC 3 dX9_solves_171 rfl rfl ?_
        refine z_get hC (T := TX9) (N := 41) hinX9 1 40 dX9_solves_172 rfl rfl (by decide) (List.mem_of_getElem? (i := 2) rfl) rfl rfl ?_
        refine z_iload_n hC 6 dX9_solves_175 rfl rfl ?_
        refine z_iload hC 0 dX9_solves_176 rfl ?_
        refine z_imul hC (30) dX9_solves_178 (by decide) ?_
        refine z_iload_n hC 4 dX9_solves_179 rfl rfl ?_
        refine z_iadd hC (35) dX9_solves_180 (by decide) ?_
        refine z_lald hC 2 dX9_solves_181 rfl (by omega) ?_
        refine z_topl (b := 1) (by rw [hcl4 35 (by omega) (by omega)]; exact elz5) ?_
        refine z_lconst (v := 0) hC dX9_solves_182 rfl ?_
        refine z_lceq hC 189 dX9_solves_183 dX9_solves_184 (by decide) (by omega) (fun c_32 => by exfalso; omega) (fun c_32 => ?_)
        refine z_iconst hC dX9_solves_187 ?_
        refine z_ws (ws' := [wO m 9 [.int (zI (m_status)), .int (zI (m_thrown)), .ref m_sheetSort, .ref m_sheetMany, .ref m_numbers, .int (zI (4)), .int (zI (m_kind)), .int (zI (5)), .int (zI (m_round)), .int (zI (m_ax)), .int (zI (0)), .int (zI (m_bx)), .int (zI (0)), .ref m_dx, .ref m_dy, .ref m_weight, .ref m_isBarred, .ref m_walks, .ref m_one, .ref m_two, .ref m_light, .ref m_lightThen, .int (zI (m_family)), .ref m_fromX, .ref m_fromY, .ref m_toX, .ref m_toY, .int (zI (m_ruleMany)), .ref m_rule, .ref m_out, .int (zI (m_outs)), .ref m_grid, .ref m_heap, .ref m_ends, .ref m_power, .ref m_by2, .ref m_product, .ref m_levels, .ref m_row, .ref m_then, .ref m_equations], wJ m_levels (zK C).2.2.1 128 le, wJ m_equations (zK C).2.2.1 2048 g2_29]) [1, 0, 2] rfl rfl ?_
        exact z_zret hC hR dX9_solves_188 (by omega) (Nat.le_of_ble_eq_true rfl) (Nat.le_of_ble_eq_true rfl) ⟨0, g2_29, rfl, rfl, by rfl⟩
      · skip
        refine z_iconst hC dX9_solves_20 ?_
        refine z_istore hC [(5, .int (zI (0))), (0, .ref m), (1, .int (zI (5))), (2, .int (zI (6))), (3, .int (zI (6))), (4, .int (zI (r)))] dX9_solves_21 (by decide) rfl ?_
        refine z_lv (lv' := [(0, .ref m), (1, .int (zI (5))), (2, .int (zI (6))), (3, .int (zI (6))), (4, .int (zI (r))), (5, .int (zI (0)))]) [1, 2, 3, 4, 5, 0] rfl ?_
        have lp23_33 : ∀ (f35 : Nat) (i : Int) (q2 : Int → Int), (0 ≤ i ∧ i ≤ 5) → (∀ j, 0 ≤ j → j < 6 * r + i → q2 j = arL el5_0 j) → (5 - i).toNat < f35 → ZW C 0 0 [wO m 9 [.int (zI (m_status)), .int (zI (m_thrown)), .ref m_sheetSort, .ref m_sheetMany, .ref m_numbers, .int (zI (4)), .int (zI (m_kind)), .int (zI (5)), .int (zI (m_round)), .int (zI (m_ax)), .int (zI (0)), .int (zI (m_bx)), .int (zI (0)), .ref m_dx, .ref m_dy, .ref m_weight, .ref m_isBarred, .ref m_walks, .ref m_one, .ref m_two, .ref m_light, .ref m_lightThen, .int (zI (m_family)), .ref m_fromX, .ref m_fromY, .ref m_toX, .ref m_toY, .int (zI (m_ruleMany)), .ref m_rule, .ref m_out, .int (zI (m_outs)), .ref m_grid, .ref m_heap, .ref m_ends, .ref m_power, .ref m_by2, .ref m_product, .ref m_levels, .ref m_row, .ref m_then, .ref m_equations], wJ m_levels (zK C).2.2.1 128 le, wJ m_equations (zK C).2.2.1 2048 q2] [(0, .ref m), (1, .int (zI (5))), (2, .int (zI (6))), (3, .int (zI (6))), (4, .int (zI (r))), (5, .int (zI (i)))] 23 [] := by
          intro f35
          induction f35 with
          | zero => intro _ _ _ _ hf; exact absurd hf (Nat.not_lt_zero _)
          | succ f35 ih23_34 =>
            intro i q2 vi vq2 hf_23
            refine z_iload hC 5 dX9_solves_23 rfl ?_
            refine z_iload_n hC 1 dX9_solves_25 rfl rfl ?_
            refine z_icge hC 61 dX9_solves_26 (by decide) (by omega) (fun c_36 => ?_) (fun c_36 => ?_)
            · skip
              refine z_aload_n hC 0 dX9_solves_61 rfl rfl ?_
              refine z_get hC (T := TX9) (N := 41) hinX9 0 40 dX9_solves_62 rfl rfl (by decide) (List.mem_of_getElem? (i := 2) rfl) rfl rfl ?_
              refine z_iload_n hC 3 dX9_solves_65 rfl rfl ?_
              refine z_iload hC 4 dX9_solves_66 rfl ?_
              refine z_imul hC (6 * r) dX9_solves_68 rfl ?_
              refine z_iload_n hC 1 dX9_solves_69 rfl rfl ?_
              refine z_iadd hC ((6 * r) + 5) dX9_solves_70 rfl ?_
              refine z_aload_n hC 0 dX9_solves_71 rfl rfl ?_
              refine z_get hC (T := TX9) (N := 41) hinX9 0 37 dX9_solves_72 rfl rfl (by decide) (List.mem_of_getElem? (i := 3) rfl) rfl rfl ?_
              refine z_iload_n hC 1 dX9_solves_75 rfl rfl ?_
              refine z_iload hC 4 dX9_solves_76 rfl ?_
              refine z_iadd hC (5 + r) dX9_solves_78 rfl ?_
              refine z_lald hC 1 dX9_solves_79 rfl (by omega) ?_
              refine z_last hC 2 [wO m 9 [.int (zI (m_status)), .int (zI (m_thrown)), .ref m_sheetSort, .ref m_sheetMany, .ref m_numbers, .int (zI (4)), .int (zI (m_kind)), .int (zI (5)), .int (zI (m_round)), .int (zI (m_ax)), .int (zI (0)), .int (zI (m_bx)), .int (zI (0)), .ref m_dx, .ref m_dy, .ref m_weight, .ref m_isBarred, .ref m_walks, .ref m_one, .ref m_two, .ref m_light, .ref m_lightThen, .int (zI (m_family)), .ref m_fromX, .ref m_fromY, .ref m_toX, .ref m_toY, .int (zI (m_ruleMany)), .ref m_rule, .ref m_out, .int (zI (m_outs)), .ref m_grid, .ref m_heap, .ref m_ends, .ref m_power, .ref m_by2, .ref m_product, .ref m_levels, .ref m_row, .ref m_then, .ref m_equations], wJ m_levels (zK C).2.2.1 128 le, wJ m_equations (zK C).2.2.1 2048 (zu q2 ((6 * r) + 5) (le (5 + r)))] dX9_solves_80 rfl (by omega) rfl ?_
              refine z_iinc (a := r) (v := 1) (r := r + 1) hC 4 [(4, .int (zI (r + 1))), (0, .ref m), (1, .int (zI (5))), (2, .int (zI (6))), (3, .int (zI (6))), (5, .int (zI (i)))] dX9_solves_81 rfl rfl (by decide) rfl ?_
              refine z_goto hC 14 dX9_solves_84 (by decide) ?_
              refine z_lv (lv' := [(0, .ref m), (1, .int (zI (5))), (2, .int (zI (6))), (3, .int (zI (6))), (4, .int (zI (r + 1)))]) [1, 2, 3, 4, 0] rfl ?_
              exact ih14_2 (r + 1) (zu q2 ((6 * r) + 5) (le (5 + r))) (by omega) (by intro j a b; unfold zu; by_cases e : j = 6 * r + 5; (rw [if_pos e, e, hlev _ (by omega) (by omega)]; show _ = arL (eqI 5 6) _; rw [eqI_at (by omega) (by omega), if_neg (by omega)]; congr 1; omega); (rw [if_neg e]; exact vq2 j a (by omega))) (by omega)
            · skip
              refine z_aload_n hC 0 dX9_solves_29 rfl rfl ?_
              refine z_get hC (T := TX9) (N := 41) hinX9 0 40 dX9_solves_30 rfl rfl (by decide) (List.mem_of_getElem? (i := 2) rfl) rfl rfl ?_
              refine z_iload_n hC 3 dX9_solves_33 rfl rfl ?_
              refine z_iload hC 4 dX9_solves_34 rfl ?_
              refine z_imul hC (6 * r) dX9_solves_36 rfl ?_
              refine z_iload hC 5 dX9_solves_37 rfl ?_
              refine z_iadd hC ((6 * r) + i) dX9_solves_39 rfl ?_
              refine z_aload_n hC 0 dX9_solves_40 rfl rfl ?_
              refine z_get hC (T := TX9) (N := 41) hinX9 0 37 dX9_solves_41 rfl rfl (by decide) (List.mem_of_getElem? (i := 3) rfl) rfl rfl ?_
              refine z_iload_n hC 1 dX9_solves_44 rfl rfl ?_
              refine z_iload hC 4 dX9_solves_45 rfl ?_
              refine z_iadd hC (5 + r) dX9_solves_47 rfl ?_
              refine z_iconst hC dX9_solves_48 ?_
              refine z_isub hC ((5 + r) - 1) dX9_solves_49 rfl ?_
              refine z_iload hC 5 dX9_solves_50 rfl ?_
              refine z_isub hC (((5 + r) - 1) - i) dX9_solves_52 rfl ?_
              refine z_lald hC 1 dX9_solves_53 rfl (by omega) ?_
              refine z_last hC 2 [wO m 9 [.int (zI (m_status)), .int (zI (m_thrown)), .ref m_sheetSort, .ref m_sheetMany, .ref m_numbers, .int (zI (4)), .int (zI (m_kind)), .int (zI (5)), .int (zI (m_round)), .int (zI (m_ax)), .int (zI (0)), .int (zI (m_bx)), .int (zI (0)), .ref m_dx, .ref m_dy, .ref m_weight, .ref m_isBarred, .ref m_walks, .ref m_one, .ref m_two, .ref m_light, .ref m_lightThen, .int (zI (m_family)), .ref m_fromX, .ref m_fromY, .ref m_toX, .ref m_toY, .int (zI (m_ruleMany)), .ref m_rule, .ref m_out, .int (zI (m_outs)), .ref m_grid, .ref m_heap, .ref m_ends, .ref m_power, .ref m_by2, .ref m_product, .ref m_levels, .ref m_row, .ref m_then, .ref m_equations], wJ m_levels (zK C).2.2.1 128 le, wJ m_equations (zK C).2.2.1 2048 (zu q2 ((6 * r) + i) (le (((5 + r) - 1) - i)))] dX9_solves_54 rfl (by omega) rfl ?_
              refine z_iinc (a := i) (v := 1) (r := i + 1) hC 5 [(5, .int (zI (i + 1))), (0, .ref m), (1, .int (zI (5))), (2, .int (zI (6))), (3, .int (zI (6))), (4, .int (zI (r)))] dX9_solves_55 rfl rfl (by decide) rfl ?_
              refine z_goto hC 23 dX9_solves_58 (by decide) ?_
              refine z_lv (lv' := [(0, .ref m), (1, .int (zI (5))), (2, .int (zI (6))), (3, .int (zI (6))), (4, .int (zI (r))), (5, .int (zI (i + 1)))]) [1, 2, 3, 4, 5, 0] rfl ?_
              exact ih23_34 (i + 1) (zu q2 ((6 * r) + i) (le (((5 + r) - 1) - i))) (by omega) (by intro j a b; unfold zu; by_cases e : j = 6 * r + i; (rw [if_pos e, e, hlev _ (by omega) (by omega)]; show _ = arL (eqI 5 6) _; rw [eqI_at (by omega) (by omega), if_pos (by omega)]; congr 1; omega); (rw [if_neg e]; exact vq2 j a (by omega))) (by omega)
        exact lp23_33 _ 0 q (by omega) (by intro j a b; exact vq j a (by omega)) (Nat.lt_succ_self _)
  exact lp14_1 _ 0 eq0 (by omega) (by intro j a b; omega) (Nat.lt_succ_self _)

set_option maxHeartbeats 8000000 in
set_option maxRecDepth 100000 in
theorem c_X9_solvesd6 (l : Launch) (D : va_G) (K : ClassId × ClassId × ClassId × ClassId) (m m_sheetSort m_sheetMany m_numbers m_dx m_dy m_weight m_isBarred m_walks m_one m_two m_light m_lightThen m_fromX m_fromY m_toX m_toY m_rule m_out m_grid m_heap m_ends m_power m_by2 m_product m_levels m_row m_then m_equations : Nat) (m_status m_thrown m_kind m_round m_ax m_bx m_family m_ruleMany m_outs : Int) (le eq0 ru : Int → Int) (hlev : ∀ j, 0 ≤ j → j < 128 → le j = arL TL j) : zMet l D K yX9_solves wsX9_solves ({ frames := 2, cells := 0, slots := 0, locals := 57 }) 0 0 [.ref m, .int (zI (6))] [wO m 9 [.int (zI (m_status)), .int (zI (m_thrown)), .ref m_sheetSort, .ref m_sheetMany, .ref m_numbers, .int (zI (4)), .int (zI (m_kind)), .int (zI (5)), .int (zI (m_round)), .int (zI (m_ax)), .int (zI (0)), .int (zI (m_bx)), .int (zI (0)), .ref m_dx, .ref m_dy, .ref m_weight, .ref m_isBarred, .ref m_walks, .ref m_one, .ref m_two, .ref m_light, .ref m_lightThen, .int (zI (m_family)), .ref m_fromX, .ref m_fromY, .ref m_toX, .ref m_toY, .int (zI (m_ruleMany)), .ref m_rule, .ref m_out, .int (zI (m_outs)), .ref m_grid, .ref m_heap, .ref m_ends, .ref m_power, .ref m_by2, .ref m_product, .ref m_levels, .ref m_row, .ref m_then, .ref m_equations], wJ m_levels K.2.2.1 128 le, wJ m_equations K.2.2.1 2048 eq0, wJ m_rule K.2.2.1 64 ru] (fun vr_ wr_ => ∃ (r : Int), vr_ = some (.int (zI (r))) ∧ wr_ = [] ∧ (r = 1)) := by
  refine zMet_of (cc := cX9_solves) (nL := 7) (ret := (some .boolean)) (by decide) rfl (Nat.le_of_ble_eq_true rfl) ?_
  rintro C rfl rfl rfl hC hR
  have hinX9 : ∀ w ∈ u_ws RX9 TX9 41, w ∈ wsX9_solves := by decide +kernel
  show ZW C 0 0 [wO m 9 [.int (zI (m_status)), .int (zI (m_thrown)), .ref m_sheetSort, .ref m_sheetMany, .ref m_numbers, .int (zI (4)), .int (zI (m_kind)), .int (zI (5)), .int (zI (m_round)), .int (zI (m_ax)), .int (zI (0)), .int (zI (m_bx)), .int (zI (0)), .ref m_dx, .ref m_dy, .ref m_weight, .ref m_isBarred, .ref m_walks, .ref m_one, .ref m_two, .ref m_light, .ref m_lightThen, .int (zI (m_family)), .ref m_fromX, .ref m_fromY, .ref m_toX, .ref m_toY, .int (zI (m_ruleMany)), .ref m_rule, .ref m_out, .int (zI (m_outs)), .ref m_grid, .ref m_heap, .ref m_ends, .ref m_power, .ref m_by2, .ref m_product, .ref m_levels, .ref m_row, .ref m_then, .ref m_equations], wJ m_levels (zK C).2.2.1 128 le, wJ m_equations (zK C).2.2.1 2048 eq0, wJ m_rule (zK C).2.2.1 64 ru] [(0, .ref m), (1, .int (zI (6)))] 0 []
  refine z_aload_n hC 0 dX9_solves_0 rfl rfl ?_
  refine z_get hC (T := TX9) (N := 41) hinX9 0 7 dX9_solves_1 rfl rfl (by decide) (List.mem_of_getElem? (i := 1) rfl) rfl rfl ?_
  refine z_iconst hC dX9_solves_4 ?_
  refine z_iadd hC (6) dX9_solves_5 (by decide) ?_
  refine z_istore_n hC [(2, .int (zI (6))), (0, .ref m), (1, .int (zI (6)))] dX9_solves_6 rfl (by decide) rfl ?_
  refine z_iload_n hC 2 dX9_solves_7 rfl rfl ?_
  refine z_iconst hC dX9_solves_8 ?_
  refine z_iadd hC (7) dX9_solves_9 (by decide) ?_
  refine z_istore_n hC [(3, .int (zI (7))), (2, .int (zI (6))), (0, .ref m), (1, .int (zI (6)))] dX9_solves_10 rfl (by decide) rfl ?_
  refine z_iconst hC dX9_solves_11 ?_
  refine z_istore hC [(4, .int (zI (0))), (3, .int (zI (7))), (2, .int (zI (6))), (0, .ref m), (1, .int (zI (6)))] dX9_solves_12 (by decide) rfl ?_
  refine z_lv (lv' := [(0, .ref m), (1, .int (zI (6))), (2, .int (zI (6))), (3, .int (zI (7))), (4, .int (zI (0)))]) [3, 4, 2, 1, 0] rfl ?_
  have lp14_1 : ∀ (f3 : Nat) (r : Int) (q : Int → Int), (0 ≤ r ∧ r ≤ 6) → (∀ j, 0 ≤ j → j < 7 * r → q j = arL el6_0 j) → (6 - r).toNat < f3 → ZW C 0 0 [wO m 9 [.int (zI (m_status)), .int (zI (m_thrown)), .ref m_sheetSort, .ref m_sheetMany, .ref m_numbers, .int (zI (4)), .int (zI (m_kind)), .int (zI (5)), .int (zI (m_round)), .int (zI (m_ax)), .int (zI (0)), .int (zI (m_bx)), .int (zI (0)), .ref m_dx, .ref m_dy, .ref m_weight, .ref m_isBarred, .ref m_walks, .ref m_one, .ref m_two, .ref m_light, .ref m_lightThen, .int (zI (m_family)), .ref m_fromX, .ref m_fromY, .ref m_toX, .ref m_toY, .int (zI (m_ruleMany)), .ref m_rule, .ref m_out, .int (zI (m_outs)), .ref m_grid, .ref m_heap, .ref m_ends, .ref m_power, .ref m_by2, .ref m_product, .ref m_levels, .ref m_row, .ref m_then, .ref m_equations], wJ m_levels (zK C).2.2.1 128 le, wJ m_equations (zK C).2.2.1 2048 q, wJ m_rule (zK C).2.2.1 64 ru] [(0, .ref m), (1, .int (zI (6))), (2, .int (zI (6))), (3, .int (zI (7))), (4, .int (zI (r)))] 14 [] := by
    intro f3
    induction f3 with
    | zero => intro _ _ _ _ hf; exact absurd hf (Nat.not_lt_zero _)
    | succ f3 ih14_2 =>
      intro r q vr vq hf_14
      refine z_iload hC 4 dX9_solves_14 rfl ?_
      refine z_iload_n hC 2 dX9_solves_16 rfl rfl ?_
      refine z_icge hC 87 dX9_solves_17 (by decide) (by omega) (fun c_4 => ?_) (fun c_4 => ?_)
      · skip
        refine z_iconst hC dX9_solves_87 ?_
        refine z_istore hC [(4, .int (zI (0))), (0, .ref m), (1, .int (zI (6))), (2, .int (zI (6))), (3, .int (zI (7)))] dX9_solves_88 (by decide) rfl ?_
        refine z_iconst hC dX9_solves_90 ?_
        refine z_istore hC [(5, .int (zI (0))), (4, .int (zI (0))), (0, .ref m), (1, .int (zI (6))), (2, .int (zI (6))), (3, .int (zI (7)))] dX9_solves_91 (by decide) rfl ?_
        refine z_iload hC 0 dX9_solves_93 rfl ?_
        refine z_iload_n hC 3 dX9_solves_95 rfl rfl ?_
        refine z_icge hC 161 dX9_solves_96 (by decide) (by omega) (fun c_5 => by exfalso; omega) (fun c_5 => ?_)
        refine z_iload hC 1 dX9_solves_99 rfl ?_
        refine z_istore hC [(6, .int (zI (0))), (5, .int (zI (0))), (4, .int (zI (0))), (0, .ref m), (1, .int (zI (6))), (2, .int (zI (6))), (3, .int (zI (7)))] dX9_solves_101 (by decide) rfl ?_
        refine z_iload hC 0 dX9_solves_103 rfl ?_
        refine z_iload_n hC 5 dX9_solves_105 rfl rfl ?_
        refine z_icge hC 132 dX9_solves_106 (by decide) (by omega) (fun c_6 => by exfalso; omega) (fun c_6 => ?_)
        refine z_aload_n hC 3 dX9_solves_109 rfl rfl ?_
        refine z_get hC (T := TX9) (N := 41) hinX9 0 40 dX9_solves_110 rfl rfl (by decide) (List.mem_of_getElem? (i := 2) rfl) rfl rfl ?_
        refine z_iload_n hC 6 dX9_solves_113 rfl rfl ?_
        refine z_iload hC 0 dX9_solves_114 rfl ?_
        refine z_imul hC (0) dX9_solves_116 (by decide) ?_
        refine z_iload hC 1 dX9_solves_117 rfl ?_
        refine z_iadd hC (0) dX9_solves_119 (by decide) ?_
        refine z_lald hC 2 dX9_solves_120 rfl (by omega) ?_
        refine z_topl (b := 132) (by rw [vq 0 (by omega) (by omega)]; exact elv6_0) ?_
        refine z_lconst (v := 0) hC dX9_solves_121 rfl ?_
        refine z_lcne hC 132 dX9_solves_122 dX9_solves_123 (by decide) (by omega) (fun c_7 => ?_) (fun c_7 => by exfalso; omega)
        refine z_iload hC 0 dX9_solves_132 rfl ?_
        refine z_iload_n hC 5 dX9_solves_134 rfl rfl ?_
        refine z_icne hC 140 dX9_solves_135 (by decide) (by omega) (fun c_8 => ?_) (fun c_8 => by exfalso; omega)
        refine z_aload_n hC 3 dX9_solves_140 rfl rfl ?_
        refine z_iload hC 2 dX9_solves_141 rfl ?_
        refine z_iload hC 0 dX9_solves_143 rfl ?_
        refine z_iload hC 1 dX9_solves_145 rfl ?_
        refine z_iload_n hC 6 dX9_solves_147 rfl rfl ?_
        refine z_iload_n hC 5 dX9_solves_148 rfl rfl ?_
        refine z_callV hC [.int (zI (0)), .int (zI (0)), .int (zI (0)), .int (zI (7)), .int (zI (6))] 5 0 dX9_solves_149 (c_X9_clearsw7 (zl C) (zD C) (zK C) m m_sheetSort m_sheetMany m_numbers m_dx m_dy m_weight m_isBarred m_walks m_one m_two m_light m_lightThen m_fromX m_fromY m_toX m_toY m_rule m_out m_grid m_heap m_ends m_power m_by2 m_product m_levels m_row m_then m_equations 0 m_status m_thrown 4 m_kind 5 m_round m_ax 0 m_bx 0 m_family m_ruleMany m_outs q el6_0 (by first | assumption | omega) (by intro j a b; exact vq j a (by omega)) (by exact elr6_0)) gX9_solves_X9_clears rfl rfl rfl ⟨by decide, by decide, by decide +kernel⟩ ⟨(Nat.le_of_ble_eq_true rfl), (Nat.le_of_ble_eq_true rfl)⟩ rfl rfl rfl rfl [0, 2] [1, 3] [wJ m_levels (zK C).2.2.1 128 le, wJ m_rule (zK C).2.2.1 64 ru] [] rfl rfl rfl rfl rfl (by decide) (Nat.le_of_ble_eq_true rfl) ⟨(Nat.le_of_ble_eq_true rfl), (Nat.le_of_ble_eq_true rfl)⟩ ?_
        rintro v_ w_ ⟨g2_9, rfl, rfl, hcl0⟩
        show ZW C 0 0 [wJ m_levels (zK C).2.2.1 128 le, wJ m_rule (zK C).2.2.1 64 ru, wO m 9 [.int (zI (m_status)), .int (zI (m_thrown)), .ref m_sheetSort, .ref m_sheetMany, .ref m_numbers, .int (zI (4)), .int (zI (m_kind)), .int (zI (5)), .int (zI (m_round)), .int (zI (m_ax)), .int (zI (0)), .int (zI (m_bx)), .int (zI (0)), .ref m_dx, .ref m_dy, .ref m_weight, .ref m_isBarred, .ref m_walks, .ref m_one, .ref m_two, .ref m_light, .ref m_lightThen, .int (zI (m_family)), .ref m_fromX, .ref m_fromY, .ref m_toX, .ref m_toY, .int (zI (m_ruleMany)), .ref m_rule, .ref m_out, .int (zI (m_outs)), .ref m_grid, .ref m_heap, .ref m_ends, .ref m_power, .ref m_by2, .ref m_product, .ref m_levels, .ref m_row, .ref m_then, .ref m_equations], wJ m_equations (zK C).2.2.1 2048 g2_9] [(6, .int (zI (0))), (5, .int (zI (0))), (4, .int (zI (0))), (0, .ref m), (1, .int (zI (6))), (2, .int (zI (6))), (3, .int (zI (7)))] 152 []
        refine z_iinc (a := 0) (v := 1) (r := 1) hC 2 [(4, .int (zI (1))), (6, .int (zI (0))), (5, .int (zI (0))), (0, .ref m), (1, .int (zI (6))), (2, .int (zI (6))), (3, .int (zI (7)))] dX9_solves_152 rfl (by decide) (by decide) rfl ?_
        refine z_iinc (a := 0) (v := 1) (r := 1) hC 2 [(5, .int (zI (1))), (4, .int (zI (1))), (6, .int (zI (0))), (0, .ref m), (1, .int (zI (6))), (2, .int (zI (6))), (3, .int (zI (7)))] dX9_solves_155 rfl (by decide) (by decide) rfl ?_
        refine z_goto hC 93 dX9_solves_158 (by decide) ?_
        refine z_iload hC 0 dX9_solves_93 rfl ?_
        refine z_iload_n hC 4 dX9_solves_95 rfl rfl ?_
        refine z_icge hC 161 dX9_solves_96 (by decide) (by omega) (fun c_10 => by exfalso; omega) (fun c_10 => ?_)
        refine z_iload hC 1 dX9_solves_99 rfl ?_
        refine z_istore hC [(6, .int (zI (1))), (5, .int (zI (1))), (4, .int (zI (1))), (0, .ref m), (1, .int (zI (6))), (2, .int (zI (6))), (3, .int (zI (7)))] dX9_solves_101 (by decide) rfl ?_
        refine z_iload hC 0 dX9_solves_103 rfl ?_
        refine z_iload_n hC 5 dX9_solves_105 rfl rfl ?_
        refine z_icge hC 132 dX9_solves_106 (by decide) (by omega) (fun c_11 => by exfalso; omega) (fun c_11 => ?_)
        refine z_aload_n hC 3 dX9_solves_109 rfl rfl ?_
        refine z_get hC (T := TX9) (N := 41) hinX9 2 40 dX9_solves_110 rfl rfl (by decide) (List.mem_of_getElem? (i := 2) rfl) rfl rfl ?_
        refine z_iload_n hC 6 dX9_solves_113 rfl rfl ?_
        refine z_iload hC 0 dX9_solves_114 rfl ?_
        refine z_imul hC (7) dX9_solves_116 (by decide) ?_
        refine z_iload hC 1 dX9_solves_117 rfl ?_
        refine z_iadd hC (8) dX9_solves_119 (by decide) ?_
        refine z_lald hC 3 dX9_solves_120 rfl (by omega) ?_
        refine z_topl (b := 499122172) (by rw [hcl0 8 (by omega) (by omega)]; exact elv6_1) ?_
        refine z_lconst (v := 0) hC dX9_solves_121 rfl ?_
        refine z_lcne hC 132 dX9_solves_122 dX9_solves_123 (by decide) (by omega) (fun c_12 => ?_) (fun c_12 => by exfalso; omega)
        refine z_iload hC 0 dX9_solves_132 rfl ?_
        refine z_iload_n hC 5 dX9_solves_134 rfl rfl ?_
        refine z_icne hC 140 dX9_solves_135 (by decide) (by omega) (fun c_13 => ?_) (fun c_13 => by exfalso; omega)
        refine z_aload_n hC 3 dX9_solves_140 rfl rfl ?_
        refine z_iload hC 2 dX9_solves_141 rfl ?_
        refine z_iload hC 0 dX9_solves_143 rfl ?_
        refine z_iload hC 1 dX9_solves_145 rfl ?_
        refine z_iload_n hC 6 dX9_solves_147 rfl rfl ?_
        refine z_iload_n hC 5 dX9_solves_148 rfl rfl ?_
        refine z_callV hC [.int (zI (1)), .int (zI (1)), .int (zI (1)), .int (zI (7)), .int (zI (6))] 5 0 dX9_solves_149 (c_X9_clearsw7 (zl C) (zD C) (zK C) m m_sheetSort m_sheetMany m_numbers m_dx m_dy m_weight m_isBarred m_walks m_one m_two m_light m_lightThen m_fromX m_fromY m_toX m_toY m_rule m_out m_grid m_heap m_ends m_power m_by2 m_product m_levels m_row m_then m_equations 1 m_status m_thrown 4 m_kind 5 m_round m_ax 0 m_bx 0 m_family m_ruleMany m_outs g2_9 el6_1 (by first | assumption | omega) (by intro j a b; exact hcl0 j a (by omega)) (by exact elr6_1)) gX9_solves_X9_clears rfl rfl rfl ⟨by decide, by decide, by decide +kernel⟩ ⟨(Nat.le_of_ble_eq_true rfl), (Nat.le_of_ble_eq_true rfl)⟩ rfl rfl rfl rfl [2, 3] [0, 1] [wJ m_levels (zK C).2.2.1 128 le, wJ m_rule (zK C).2.2.1 64 ru] [] rfl rfl rfl rfl rfl (by decide) (Nat.le_of_ble_eq_true rfl) ⟨(Nat.le_of_ble_eq_true rfl), (Nat.le_of_ble_eq_true rfl)⟩ ?_
        rintro v_ w_ ⟨g2_14, rfl, rfl, hcl1⟩
        show ZW C 0 0 [wJ m_levels (zK C).2.2.1 128 le, wJ m_rule (zK C).2.2.1 64 ru, wO m 9 [.int (zI (m_status)), .int (zI (m_thrown)), .ref m_sheetSort, .ref m_sheetMany, .ref m_numbers, .int (zI (4)), .int (zI (m_kind)), .int (zI (5)), .int (zI (m_round)), .int (zI (m_ax)), .int (zI (0)), .int (zI (m_bx)), .int (zI (0)), .ref m_dx, .ref m_dy, .ref m_weight, .ref m_isBarred, .ref m_walks, .ref m_one, .ref m_two, .ref m_light, .ref m_lightThen, .int (zI (m_family)), .ref m_fromX, .ref m_fromY, .ref m_toX, .ref m_toY, .int (zI (m_ruleMany)), .ref m_rule, .ref m_out, .int (zI (m_outs)), .ref m_grid, .ref m_heap, .ref m_ends, .ref m_power, .ref m_by2, .ref m_product, .ref m_levels, .ref m_row, .ref m_then, .ref m_equations], wJ m_equations (zK C).2.2.1 2048 g2_14] [(6, .int (zI (1))), (5, .int (zI (1))), (4, .int (zI (1))), (0, .ref m), (1, .int (zI (6))), (2, .int (zI (6))), (3, .int (zI (7)))] 152 []
        refine z_iinc (a := 1) (v := 1) (r := 2) hC 2 [(4, .int (zI (2))), (6, .int (zI (1))), (5, .int (zI (1))), (0, .ref m), (1, .int (zI (6))), (2, .int (zI (6))), (3, .int (zI (7)))] dX9_solves_152 rfl (by decide) (by decide) rfl ?_
        refine z_iinc (a := 1) (v := 1) (r := 2) hC 2 [(5, .int (zI (2))), (4, .int (zI (2))), (6, .int (zI (1))), (0, .ref m), (1, .int (zI (6))), (2, .int (zI (6))), (3, .int (zI (7)))] dX9_solves_155 rfl (by decide) (by decide) rfl ?_
        refine z_goto hC 93 dX9_solves_158 (by decide) ?_
        refine z_iload hC 0 dX9_solves_93 rfl ?_
        refine z_iload_n hC 4 dX9_solves_95 rfl rfl ?_
        refine z_icge hC 161 dX9_solves_96 (by decide) (by omega) (fun c_15 => by exfalso; omega) (fun c_15 => ?_)
        refine z_iload hC 1 dX9_solves_99 rfl ?_
        refine z_istore hC [(6, .int (zI (2))), (5, .int (zI (2))), (4, .int (zI (2))), (0, .ref m), (1, .int (zI (6))), (2, .int (zI (6))), (3, .int (zI (7)))] dX9_solves_101 (by decide) rfl ?_
        refine z_iload hC 0 dX9_solves_103 rfl ?_
        refine z_iload_n hC 5 dX9_solves_105 rfl rfl ?_
        refine z_icge hC 132 dX9_solves_106 (by decide) (by omega) (fun c_16 => by exfalso; omega) (fun c_16 => ?_)
        refine z_aload_n hC 3 dX9_solves_109 rfl rfl ?_
        refine z_get hC (T := TX9) (N := 41) hinX9 2 40 dX9_solves_110 rfl rfl (by decide) (List.mem_of_getElem? (i := 2) rfl) rfl rfl ?_
        refine z_iload_n hC 6 dX9_solves_113 rfl rfl ?_
        refine z_iload hC 0 dX9_solves_114 rfl ?_
        refine z_imul hC (14) dX9_solves_116 (by decide) ?_
        refine z_iload hC 1 dX9_solves_117 rfl ?_
        refine z_iadd hC (16) dX9_solves_119 (by decide) ?_
        refine z_lald hC 3 dX9_solves_120 rfl (by omega) ?_
        refine z_topl (b := 221832079) (by rw [hcl1 16 (by omega) (by omega)]; exact elv6_2) ?_
        refine z_lconst (v := 0) hC dX9_solves_121 rfl ?_
        refine z_lcne hC 132 dX9_solves_122 dX9_solves_123 (by decide) (by omega) (fun c_17 => ?_) (fun c_17 => by exfalso; omega)
        refine z_iload hC 0 dX9_solves_132 rfl ?_
        refine z_iload_n hC 5 dX9_solves_134 rfl rfl ?_
        refine z_icne hC 140 dX9_solves_135 (by decide) (by omega) (fun c_18 => ?_) (fun c_18 => by exfalso; omega)
        refine z_aload_n hC 3 dX9_solves_140 rfl rfl ?_
        refine z_iload hC 2 dX9_solves_141 rfl ?_
        refine z_iload hC 0 dX9_solves_143 rfl ?_
        refine z_iload hC 1 dX9_solves_145 rfl ?_
        refine z_iload_n hC 6 dX9_solves_147 rfl rfl ?_
        refine z_iload_n hC 5 dX9_solves_148 rfl rfl ?_
        refine z_callV hC [.int (zI (2)), .int (zI (2)), .int (zI (2)), .int (zI (7)), .int (zI (6))] 5 0 dX9_solves_149 (c_X9_clearsw7 (zl C) (zD C) (zK C) m m_sheetSort m_sheetMany m_numbers m_dx m_dy m_weight m_isBarred m_walks m_one m_two m_light m_lightThen m_fromX m_fromY m_toX m_toY m_rule m_out m_grid m_heap m_ends m_power m_by2 m_product m_levels m_row m_then m_equations 2 m_status m_thrown 4 m_kind 5 m_round m_ax 0 m_bx 0 m_family m_ruleMany m_outs g2_14 el6_2 (by first | assumption | omega) (by intro j a b; exact hcl1 j a (by omega)) (by exact elr6_2)) gX9_solves_X9_clears rfl rfl rfl ⟨by decide, by decide, by decide +kernel⟩ ⟨(Nat.le_of_ble_eq_true rfl), (Nat.le_of_ble_eq_true rfl)⟩ rfl rfl rfl rfl [2, 3] [0, 1] [wJ m_levels (zK C).2.2.1 128 le, wJ m_rule (zK C).2.2.1 64 ru] [] rfl rfl rfl rfl rfl (by decide) (Nat.le_of_ble_eq_true rfl) ⟨(Nat.le_of_ble_eq_true rfl), (Nat.le_of_ble_eq_true rfl)⟩ ?_
        rintro v_ w_ ⟨g2_19, rfl, rfl, hcl2⟩
        show ZW C 0 0 [wJ m_levels (zK C).2.2.1 128 le, wJ m_rule (zK C).2.2.1 64 ru, wO m 9 [.int (zI (m_status)), .int (zI (m_thrown)), .ref m_sheetSort, .ref m_sheetMany, .ref m_numbers, .int (zI (4)), .int (zI (m_kind)), .int (zI (5)), .int (zI (m_round)), .int (zI (m_ax)), .int (zI (0)), .int (zI (m_bx)), .int (zI (0)), .ref m_dx, .ref m_dy, .ref m_weight, .ref m_isBarred, .ref m_walks, .ref m_one, .ref m_two, .ref m_light, .ref m_lightThen, .int (zI (m_family)), .ref m_fromX, .ref m_fromY, .ref m_toX, .ref m_toY, .int (zI (m_ruleMany)), .ref m_rule, .ref m_out, .int (zI (m_outs)), .ref m_grid, .ref m_heap, .ref m_ends, .ref m_power, .ref m_by2, .ref m_product, .ref m_levels, .ref m_row, .ref m_then, .ref m_equations], wJ m_equations (zK C).2.2.1 2048 g2_19] [(6, .int (zI (2))), (5, .int (zI (2))), (4, .int (zI (2))), (0, .ref m), (1, .int (zI (6))), (2, .int (zI (6))), (3, .int (zI (7)))] 152 []
        refine z_iinc (a := 2) (v := 1) (r := 3) hC 2 [(4, .int (zI (3))), (6, .int (zI (2))), (5, .int (zI (2))), (0, .ref m), (1, .int (zI (6))), (2, .int (zI (6))), (3, .int (zI (7)))] dX9_solves_152 rfl (by decide) (by decide) rfl ?_
        refine z_iinc (a := 2) (v := 1) (r := 3) hC 2 [(5, .int (zI (3))), (4, .int (zI (3))), (6, .int (zI (2))), (0, .ref m), (1, .int (zI (6))), (2, .int (zI (6))), (3, .int (zI (7)))] dX9_solves_155 rfl (by decide) (by decide) rfl ?_
        refine z_goto hC 93 dX9_solves_158 (by decide) ?_
        refine z_iload hC 0 dX9_solves_93 rfl ?_
        refine z_iload_n hC 4 dX9_solves_95 rfl rfl ?_
        refine z_icge hC 161 dX9_solves_96 (by decide) (by omega) (fun c_20 => by exfalso; omega) (fun c_20 => ?_)
        refine z_iload hC 1 dX9_solves_99 rfl ?_
        refine z_istore hC [(6, .int (zI (3))), (5, .int (zI (3))), (4, .int (zI (3))), (0, .ref m), (1, .int (zI (6))), (2, .int (zI (6))), (3, .int (zI (7)))] dX9_solves_101 (by decide) rfl ?_
        refine z_iload hC 0 dX9_solves_103 rfl ?_
        refine z_iload_n hC 5 dX9_solves_105 rfl rfl ?_
        refine z_icge hC 132 dX9_solves_106 (by decide) (by omega) (fun c_21 => by exfalso; omega) (fun c_21 => ?_)
        refine z_aload_n hC 3 dX9_solves_109 rfl rfl ?_
        refine z_get hC (T := TX9) (N := 41) hinX9 2 40 dX9_solves_110 rfl rfl (by decide) (List.mem_of_getElem? (i := 2) rfl) rfl rfl ?_
        refine z_iload_n hC 6 dX9_solves_113 rfl rfl ?_
        refine z_iload hC 0 dX9_solves_114 rfl ?_
        refine z_imul hC (21) dX9_solves_116 (by decide) ?_
        refine z_iload hC 1 dX9_solves_117 rfl ?_
        refine z_iadd hC (24) dX9_solves_119 (by decide) ?_
        refine z_lald hC 3 dX9_solves_120 rfl (by omega) ?_
        refine z_topl (b := 831870294) (by rw [hcl2 24 (by omega) (by omega)]; exact elv6_3) ?_
        refine z_lconst (v := 0) hC dX9_solves_121 rfl ?_
        refine z_lcne hC 132 dX9_solves_122 dX9_solves_123 (by decide) (by omega) (fun c_22 => ?_) (fun c_22 => by exfalso; omega)
        refine z_iload hC 0 dX9_solves_132 rfl ?_
        refine z_iload_n hC 5 dX9_solves_134 rfl rfl ?_
        refine z_icne hC 140 dX9_solves_135 (by decide) (by omega) (fun c_23 => ?_) (fun c_23 => by exfalso; omega)
        refine z_aload_n hC 3 dX9_solves_140 rfl rfl ?_
        refine z_iload hC 2 dX9_solves_141 rfl ?_
        refine z_iload hC 0 dX9_solves_143 rfl ?_
        refine z_iload hC 1 dX9_solves_145 rfl ?_
        refine z_iload_n hC 6 dX9_solves_147 rfl rfl ?_
        refine z_iload_n hC 5 dX9_solves_148 rfl rfl ?_
        refine z_callV hC [.int (zI (3)), .int (zI (3)), .int (zI (3)), .int (zI (7)), .int (zI (6))] 5 0 dX9_solves_149 (c_X9_clearsw7 (zl C) (zD C) (zK C) m m_sheetSort m_sheetMany m_numbers m_dx m_dy m_weight m_isBarred m_walks m_one m_two m_light m_lightThen m_fromX m_fromY m_toX m_toY m_rule m_out m_grid m_heap m_ends m_power m_by2 m_product m_levels m_row m_then m_equations 3 m_status m_thrown 4 m_kind 5 m_round m_ax 0 m_bx 0 m_family m_ruleMany m_outs g2_19 el6_3 (by first | assumption | omega) (by intro j a b; exact hcl2 j a (by omega)) (by exact elr6_3)) gX9_solves_X9_clears rfl rfl rfl ⟨by decide, by decide, by decide +kernel⟩ ⟨(Nat.le_of_ble_eq_true rfl), (Nat.le_of_ble_eq_true rfl)⟩ rfl rfl rfl rfl [2, 3] [0, 1] [wJ m_levels (zK C).2.2.1 128 le, wJ m_rule (zK C).2.2.1 64 ru] [] rfl rfl rfl rfl rfl (by decide) (Nat.le_of_ble_eq_true rfl) ⟨(Nat.le_of_ble_eq_true rfl), (Nat.le_of_ble_eq_true rfl)⟩ ?_
        rintro v_ w_ ⟨g2_24, rfl, rfl, hcl3⟩
        show ZW C 0 0 [wJ m_levels (zK C).2.2.1 128 le, wJ m_rule (zK C).2.2.1 64 ru, wO m 9 [.int (zI (m_status)), .int (zI (m_thrown)), .ref m_sheetSort, .ref m_sheetMany, .ref m_numbers, .int (zI (4)), .int (zI (m_kind)), .int (zI (5)), .int (zI (m_round)), .int (zI (m_ax)), .int (zI (0)), .int (zI (m_bx)), .int (zI (0)), .ref m_dx, .ref m_dy, .ref m_weight, .ref m_isBarred, .ref m_walks, .ref m_one, .ref m_two, .ref m_light, .ref m_lightThen, .int (zI (m_family)), .ref m_fromX, .ref m_fromY, .ref m_toX, .ref m_toY, .int (zI (m_ruleMany)), .ref m_rule, .ref m_out, .int (zI (m_outs)), .ref m_grid, .ref m_heap, .ref m_ends, .ref m_power, .ref m_by2, .ref m_product, .ref m_levels, .ref m_row, .ref m_then, .ref m_equations], wJ m_equations (zK C).2.2.1 2048 g2_24] [(6, .int (zI (3))), (5, .int (zI (3))), (4, .int (zI (3))), (0, .ref m), (1, .int (zI (6))), (2, .int (zI (6))), (3, .int (zI (7)))] 152 []
        refine z_iinc (a := 3) (v := 1) (r := 4) hC 2 [(4, .int (zI (4))), (6, .int (zI (3))), (5, .int (zI (3))), (0, .ref m), (1, .int (zI (6))), (2, .int (zI (6))), (3, .int (zI (7)))] dX9_solves_152 rfl (by decide) (by decide) rfl ?_
        refine z_iinc (a := 3) (v := 1) (r := 4) hC 2 [(5, .int (zI (4))), (4, .int (zI (4))), (6, .int (zI (3))), (0, .ref m), (1, .int (zI (6))), (2, .int (zI (6))), (3, .int (zI (7)))] dX9_solves_155 rfl (by decide) (by decide) rfl ?_
        refine z_goto hC 93 dX9_solves_158 (by decide) ?_
        refine z_iload hC 0 dX9_solves_93 rfl ?_
        refine z_iload_n hC 4 dX9_solves_95 rfl rfl ?_
        refine z_icge hC 161 dX9_solves_96 (by decide) (by omega) (fun c_25 => by exfalso; omega) (fun c_25 => ?_)
        refine z_iload hC 1 dX9_solves_99 rfl ?_
        refine z_istore hC [(6, .int (zI (4))), (5, .int (zI (4))), (4, .int (zI (4))), (0, .ref m), (1, .int (zI (6))), (2, .int (zI (6))), (3, .int (zI (7)))] dX9_solves_101 (by decide) rfl ?_
        refine z_iload hC 0 dX9_solves_103 rfl ?_
        refine z_iload_n hC 5 dX9_solves_105 rfl rfl ?_
        refine z_icge hC 132 dX9_solves_106 (by decide) (by omega) (fun c_26 => by exfalso; omega) (fun c_26 => ?_)
        refine z_aload_n hC 3 dX9_solves_109 rfl rfl ?_
        refine z_get hC (T := TX9) (N := 41) hinX9 2 40 dX9_solves_110 rfl rfl (by decide) (List.mem_of_getElem? (i := 2) rfl) rfl rfl ?_
        refine z_iload_n hC 6 dX9_solves_113 rfl rfl ?_
        refine z_iload hC 0 dX9_solves_114 rfl ?_
        refine z_imul hC (28) dX9_solves_116 (by decide) ?_
        refine z_iload hC 1 dX9_solves_117 rfl ?_
        refine z_iadd hC (32) dX9_solves_119 (by decide) ?_
        refine z_lald hC 3 dX9_solves_120 rfl (by omega) ?_
        refine z_topl (b := 326698152) (by rw [hcl3 32 (by omega) (by omega)]; exact elv6_4) ?_
        refine z_lconst (v := 0) hC dX9_solves_121 rfl ?_
        refine z_lcne hC 132 dX9_solves_122 dX9_solves_123 (by decide) (by omega) (fun c_27 => ?_) (fun c_27 => by exfalso; omega)
        refine z_iload hC 0 dX9_solves_132 rfl ?_
        refine z_iload_n hC 5 dX9_solves_134 rfl rfl ?_
        refine z_icne hC 140 dX9_solves_135 (by decide) (by omega) (fun c_28 => ?_) (fun c_28 => by exfalso; omega)
        refine z_aload_n hC 3 dX9_solves_140 rfl rfl ?_
        refine z_iload hC 2 dX9_solves_141 rfl ?_
        refine z_iload hC 0 dX9_solves_143 rfl ?_
        refine z_iload hC 1 dX9_solves_145 rfl ?_
        refine z_iload_n hC 6 dX9_solves_147 rfl rfl ?_
        refine z_iload_n hC 5 dX9_solves_148 rfl rfl ?_
        refine z_callV hC [.int (zI (4)), .int (zI (4)), .int (zI (4)), .int (zI (7)), .int (zI (6))] 5 0 dX9_solves_149 (c_X9_clearsw7 (zl C) (zD C) (zK C) m m_sheetSort m_sheetMany m_numbers m_dx m_dy m_weight m_isBarred m_walks m_one m_two m_light m_lightThen m_fromX m_fromY m_toX m_toY m_rule m_out m_grid m_heap m_ends m_power m_by2 m_product m_levels m_row m_then m_equations 4 m_status m_thrown 4 m_kind 5 m_round m_ax 0 m_bx 0 m_family m_ruleMany m_outs g2_24 el6_4 (by first | assumption | omega) (by intro j a b; exact hcl3 j a (by omega)) (by exact elr6_4)) gX9_solves_X9_clears rfl rfl rfl ⟨by decide, by decide, by decide +kernel⟩ ⟨(Nat.le_of_ble_eq_true rfl), (Nat.le_of_ble_eq_true rfl)⟩ rfl rfl rfl rfl [2, 3] [0, 1] [wJ m_levels (zK C).2.2.1 128 le, wJ m_rule (zK C).2.2.1 64 ru] [] rfl rfl rfl rfl rfl (by decide) (Nat.le_of_ble_eq_true rfl) ⟨(Nat.le_of_ble_eq_true rfl), (Nat.le_of_ble_eq_true rfl)⟩ ?_
        rintro v_ w_ ⟨g2_29, rfl, rfl, hcl4⟩
        show ZW C 0 0 [wJ m_levels (zK C).2.2.1 128 le, wJ m_rule (zK C).2.2.1 64 ru, wO m 9 [.int (zI (m_status)), .int (zI (m_thrown)), .ref m_sheetSort, .ref m_sheetMany, .ref m_numbers, .int (zI (4)), .int (zI (m_kind)), .int (zI (5)), .int (zI (m_round)), .int (zI (m_ax)), .int (zI (0)), .int (zI (m_bx)), .int (zI (0)), .ref m_dx, .ref m_dy, .ref m_weight, .ref m_isBarred, .ref m_walks, .ref m_one, .ref m_two, .ref m_light, .ref m_lightThen, .int (zI (m_family)), .ref m_fromX, .ref m_fromY, .ref m_toX, .ref m_toY, .int (zI (m_ruleMany)), .ref m_rule, .ref m_out, .int (zI (m_outs)), .ref m_grid, .ref m_heap, .ref m_ends, .ref m_power, .ref m_by2, .ref m_product, .ref m_levels, .ref m_row, .ref m_then, .ref m_equations], wJ m_equations (zK C).2.2.1 2048 g2_29] [(6, .int (zI (4))), (5, .int (zI (4))), (4, .int (zI (4))), (0, .ref m), (1, .int (zI (6))), (2, .int (zI (6))), (3, .int (zI (7)))] 152 []
        refine z_iinc (a := 4) (v := 1) (r := 5) hC 2 [(4, .int (zI (5))), (6, .int (zI (4))), (5, .int (zI (4))), (0, .ref m), (1, .int (zI (6))), (2, .int (zI (6))), (3, .int (zI (7)))] dX9_solves_152 rfl (by decide) (by decide) rfl ?_
        refine z_iinc (a := 4) (v := 1) (r := 5) hC 2 [(5, .int (zI (5))), (4, .int (zI (5))), (6, .int (zI (4))), (0, .ref m), (1, .int (zI (6))), (2, .int (zI (6))), (3, .int (zI (7)))] dX9_solves_155 rfl (by decide) (by decide) rfl ?_
        refine z_goto hC 93 dX9_solves_158 (by decide) ?_
        refine z_iload hC 0 dX9_solves_93 rfl ?_
        refine z_iload_n hC 4 dX9_solves_95 rfl rfl ?_
        refine z_icge hC 161 dX9_solves_96 (by decide) (by omega) (fun c_30 => by exfalso; omega) (fun c_30 => ?_)
        refine z_iload hC 1 dX9_solves_99 rfl ?_
        refine z_istore hC [(6, .int (zI (5))), (5, .int (zI (5))), (4, .int (zI (5))), (0, .ref m), (1, .int (zI (6))), (2, .int (zI (6))), (3, .int (zI (7)))] dX9_solves_101 (by decide) rfl ?_
        refine z_iload hC 0 dX9_solves_103 rfl ?_
        refine z_iload_n hC 5 dX9_solves_105 rfl rfl ?_
        refine z_icge hC 132 dX9_solves_106 (by decide) (by omega) (fun c_31 => by exfalso; omega) (fun c_31 => ?_)
        refine z_aload_n hC 3 dX9_solves_109 rfl rfl ?_
        refine z_get hC (T := TX9) (N := 41) hinX9 2 40 dX9_solves_110 rfl rfl (by decide) (List.mem_of_getElem? (i := 2) rfl) rfl rfl ?_
        refine z_iload_n hC 6 dX9_solves_113 rfl rfl ?_
        refine z_iload hC 0 dX9_solves_114 rfl ?_
        refine z_imul hC (35) dX9_solves_116 (by decide) ?_
        refine z_iload hC 1 dX9_solves_117 rfl ?_
        refine z_iadd hC (40) dX9_solves_119 (by decide) ?_
        refine z_lald hC 3 dX9_solves_120 rfl (by omega) ?_
        refine z_topl (b := 831870294) (by rw [hcl4 40 (by omega) (by omega)]; exact elv6_5) ?_
        refine z_lconst (v := 0) hC dX9_solves_121 rfl ?_
        refine z_lcne hC 132 dX9_solves_122 dX9_solves_123 (by decide) (by omega) (fun c_32 => ?_) (fun c_32 => by exfalso; omega)
        refine z_iload hC 0 dX9_solves_132 rfl ?_
        refine z_iload_n hC 5 dX9_solves_134 rfl rfl ?_
        refine z_icne hC 140 dX9_solves_135 (by decide) (by omega) (fun c_33 => ?_) (fun c_33 => by exfalso; omega)
        refine z_aload_n hC 3 dX9_solves_140 rfl rfl ?_
        refine z_iload hC 2 dX9_solves_141 rfl ?_
        refine z_iload hC 0 dX9_solves_143 rfl ?_
        refine z_iload hC 1 dX9_solves_145 rfl ?_
        refine z_iload_n hC 6 dX9_solves_147 rfl rfl ?_
        refine z_iload_n hC 5 dX9_solves_148 rfl rfl ?_
        refine z_callV hC [.int (zI (5)), .int (zI (5)), .int (zI (5)), .int (zI (7)), .int (zI (6))] 5 0 dX9_solves_149 (c_X9_clearsw7 (zl C) (zD C) (zK C) m m_sheetSort m_sheetMany m_numbers m_dx m_dy m_weight m_isBarred m_walks m_one m_two m_light m_lightThen m_fromX m_fromY m_toX m_toY m_rule m_out m_grid m_heap m_ends m_power m_by2 m_product m_levels m_row m_then m_equations 5 m_status m_thrown 4 m_kind 5 m_round m_ax 0 m_bx 0 m_family m_ruleMany m_outs g2_29 el6_5 (by first | assumption | omega) (by intro j a b; exact hcl4 j a (by omega)) (by exact elr6_5)) gX9_solves_X9_clears rfl rfl rfl ⟨by decide, by decide, by decide +kernel⟩ ⟨(Nat.le_of_ble_eq_true rfl), (Nat.le_of_ble_eq_true rfl)⟩ rfl rfl rfl rfl [2, 3] [0, 1] [wJ m_levels (zK C).2.2.1 128 le, wJ m_rule (zK C).2.2.1 64 ru] [] rfl rfl rfl rfl rfl (by decide) (Nat.le_of_ble_eq_true rfl) ⟨(Nat.le_of_ble_eq_true rfl), (Nat.le_of_ble_eq_true rfl)⟩ ?_
        rintro v_ w_ ⟨g2_34, rfl, rfl, hcl5⟩
        show ZW C 0 0 [wJ m_levels (zK C).2.2.1 128 le, wJ m_rule (zK C).2.2.1 64 ru, wO m 9 [.int (zI (m_status)), .int (zI (m_thrown)), .ref m_sheetSort, .ref m_sheetMany, .ref m_numbers, .int (zI (4)), .int (zI (m_kind)), .int (zI (5)), .int (zI (m_round)), .int (zI (m_ax)), .int (zI (0)), .int (zI (m_bx)), .int (zI (0)), .ref m_dx, .ref m_dy, .ref m_weight, .ref m_isBarred, .ref m_walks, .ref m_one, .ref m_two, .ref m_light, .ref m_lightThen, .int (zI (m_family)), .ref m_fromX, .ref m_fromY, .ref m_toX, .ref m_toY, .int (zI (m_ruleMany)), .ref m_rule, .ref m_out, .int (zI (m_outs)), .ref m_grid, .ref m_heap, .ref m_ends, .ref m_power, .ref m_by2, .ref m_product, .ref m_levels, .ref m_row, .ref m_then, .ref m_equations], wJ m_equations (zK C).2.2.1 2048 g2_34] [(6, .int (zI (5))), (5, .int (zI (5))), (4, .int (zI (5))), (0, .ref m), (1, .int (zI (6))), (2, .int (zI (6))), (3, .int (zI (7)))] 152 []
        refine z_iinc (a := 5) (v := 1) (r := 6) hC 2 [(4, .int (zI (6))), (6, .int (zI (5))), (5, .int (zI (5))), (0, .ref m), (1, .int (zI (6))), (2, .int (zI (6))), (3, .int (zI (7)))] dX9_solves_152 rfl (by decide) (by decide) rfl ?_
        refine z_iinc (a := 5) (v := 1) (r := 6) hC 2 [(5, .int (zI (6))), (4, .int (zI (6))), (6, .int (zI (5))), (0, .ref m), (1, .int (zI (6))), (2, .int (zI (6))), (3, .int (zI (7)))] dX9_solves_155 rfl (by decide) (by decide) rfl ?_
        refine z_goto hC 93 dX9_solves_158 (by decide) ?_
        refine z_iload hC 0 dX9_solves_93 rfl ?_
        refine z_iload_n hC 4 dX9_solves_95 rfl rfl ?_
        refine z_icge hC 161 dX9_solves_96 (by decide) (by omega) (fun c_35 => ?_) (fun c_35 => by exfalso; omega)
        refine z_iload hC 1 dX9_solves_161 rfl ?_
        refine z_istore hC [(5, .int (zI (6))), (4, .int (zI (6))), (6, .int (zI (5))), (0, .ref m), (1, .int (zI (6))), (2, .int (zI (6))), (3, .int (zI (7)))] dX9_solves_163 (by decide) rfl ?_
        refine z_iload hC 0 dX9_solves_165 rfl ?_
        refine z_iload_n hC 5 dX9_solves_167 rfl rfl ?_
        refine z_icge hC 195 dX9_solves_168 (by decide) (by omega) (fun c_36 => ?_) (fun c_36 => by exfalso; omega)
        refine z_aload_n hC 3 dX9_solves_195 rfl rfl ?_
        refine z_iload_n hC 4 dX9_solves_196 rfl rfl ?_
        refine z_put hC (T := TX9) (N := 41) hinX9 tyX9_ok nmX9 2 27 [wJ m_levels (zK C).2.2.1 128 le, wJ m_rule (zK C).2.2.1 64 ru, wO m 9 [.int (zI (m_status)), .int (zI (m_thrown)), .ref m_sheetSort, .ref m_sheetMany, .ref m_numbers, .int (zI (4)), .int (zI (m_kind)), .int (zI (5)), .int (zI (m_round)), .int (zI (m_ax)), .int (zI (0)), .int (zI (m_bx)), .int (zI (0)), .ref m_dx, .ref m_dy, .ref m_weight, .ref m_isBarred, .ref m_walks, .ref m_one, .ref m_two, .ref m_light, .ref m_lightThen, .int (zI (m_family)), .ref m_fromX, .ref m_fromY, .ref m_toX, .ref m_toY, .int (zI (6)), .ref m_rule, .ref m_out, .int (zI (m_outs)), .ref m_grid, .ref m_heap, .ref m_ends, .ref m_power, .ref m_by2, .ref m_product, .ref m_levels, .ref m_row, .ref m_then, .ref m_equations], wJ m_equations (zK C).2.2.1 2048 g2_34] dX9_solves_197 rfl rfl (by decide) (List.mem_of_getElem? (i := 4) rfl) rfl rfl rfl rfl (Nat.le_of_ble_eq_true rfl) rfl ?_
        refine z_iconst hC dX9_solves_200 ?_
        refine z_istore hC [(5, .int (zI (0))), (4, .int (zI (6))), (6, .int (zI (5))), (0, .ref m), (1, .int (zI (6))), (2, .int (zI (6))), (3, .int (zI (7)))] dX9_solves_201 (by decide) rfl ?_
        refine z_lv (lv' := [(0, .ref m), (1, .int (zI (6))), (2, .int (zI (6))), (3, .int (zI (7))), (4, .int (zI (6))), (5, .int (zI (0))), (6, .int (zI (5)))]) [3, 4, 5, 6, 1, 0, 2] rfl ?_
        have lp203_37 : ∀ (f39 : Nat) (i3 : Int) (ru2 : Int → Int), (0 ≤ i3 ∧ i3 ≤ 6) → (6 - i3).toNat < f39 → ZW C 0 0 [wJ m_levels (zK C).2.2.1 128 le, wJ m_rule (zK C).2.2.1 64 ru2, wO m 9 [.int (zI (m_status)), .int (zI (m_thrown)), .ref m_sheetSort, .ref m_sheetMany, .ref m_numbers, .int (zI (4)), .int (zI (m_kind)), .int (zI (5)), .int (zI (m_round)), .int (zI (m_ax)), .int (zI (0)), .int (zI (m_bx)), .int (zI (0)), .ref m_dx, .ref m_dy, .ref m_weight, .ref m_isBarred, .ref m_walks, .ref m_one, .ref m_two, .ref m_light, .ref m_lightThen, .int (zI (m_family)), .ref m_fromX, .ref m_fromY, .ref m_toX, .ref m_toY, .int (zI (6)), .ref m_rule, .ref m_out, .int (zI (m_outs)), .ref m_grid, .ref m_heap, .ref m_ends, .ref m_power, .ref m_by2, .ref m_product, .ref m_levels, .ref m_row, .ref m_then, .ref m_equations], wJ m_equations (zK C).2.2.1 2048 g2_34] [(0, .ref m), (1, .int (zI (6))), (2, .int (zI (6))), (3, .int (zI (7))), (4, .int (zI (6))), (5, .int (zI (i3))), (6, .int (zI (5)))] 203 [] := by
          intro f39
          induction f39 with
          | zero => intro _ _ _ hf; exact absurd hf (Nat.not_lt_zero _)
          | succ f39 ih203_38 =>
            intro i3 ru2 vi3 hf_203
            refine z_iload hC 5 dX9_solves_203 rfl ?_
            refine z_iload_n hC 1 dX9_solves_205 rfl rfl ?_
            refine z_icge hC 233 dX9_solves_206 (by decide) (by omega) (fun c_40 => ?_) (fun c_40 => ?_)
            · skip
              refine z_iconst hC dX9_solves_233 ?_
              refine z_ws (ws' := []) [] rfl rfl ?_
              exact z_zret hC hR dX9_solves_234 (by omega) (Nat.le_of_ble_eq_true rfl) (Nat.le_of_ble_eq_true rfl) ⟨1, rfl, rfl, by rfl⟩
            · skip
              refine z_aload_n hC 0 dX9_solves_209 rfl rfl ?_
              refine z_get hC (T := TX9) (N := 41) hinX9 2 28 dX9_solves_210 rfl rfl (by decide) (List.mem_of_getElem? (i := 5) rfl) rfl rfl ?_
              refine z_iload hC 5 dX9_solves_213 rfl ?_
              refine z_aload_n hC 0 dX9_solves_215 rfl rfl ?_
              refine z_get hC (T := TX9) (N := 41) hinX9 2 40 dX9_solves_216 rfl rfl (by decide) (List.mem_of_getElem? (i := 2) rfl) rfl rfl ?_
              refine z_iload_n hC 3 dX9_solves_219 rfl rfl ?_
              refine z_iload hC 5 dX9_solves_220 rfl ?_
              refine z_imul hC (7 * i3) dX9_solves_222 rfl ?_
              refine z_iload_n hC 1 dX9_solves_223 rfl rfl ?_
              refine z_iadd hC ((7 * i3) + 6) dX9_solves_224 rfl ?_
              refine z_lald hC 3 dX9_solves_225 rfl (by omega) ?_
              refine z_last hC 1 [wJ m_levels (zK C).2.2.1 128 le, wJ m_rule (zK C).2.2.1 64 (zu ru2 i3 (g2_34 ((7 * i3) + 6))), wO m 9 [.int (zI (m_status)), .int (zI (m_thrown)), .ref m_sheetSort, .ref m_sheetMany, .ref m_numbers, .int (zI (4)), .int (zI (m_kind)), .int (zI (5)), .int (zI (m_round)), .int (zI (m_ax)), .int (zI (0)), .int (zI (m_bx)), .int (zI (0)), .ref m_dx, .ref m_dy, .ref m_weight, .ref m_isBarred, .ref m_walks, .ref m_one, .ref m_two, .ref m_light, .ref m_lightThen, .int (zI (m_family)), .ref m_fromX, .ref m_fromY, .ref m_toX, .ref m_toY, .int (zI (6)), .ref m_rule, .ref m_out, .int (zI (m_outs)), .ref m_grid, .ref m_heap, .ref m_ends, .ref m_power, .ref m_by2, .ref m_product, .ref m_levels, .ref m_row, .ref m_then, .ref m_equations], wJ m_equations (zK C).2.2.1 2048 g2_34] dX9_solves_226 rfl (by omega) rfl ?_
              refine z_iinc (a := i3) (v := 1) (r := i3 + 1) hC 5 [(5, .int (zI (i3 + 1))), (0, .ref m), (1, .int (zI (6))), (2, .int (zI (6))), (3, .int (zI (7))), (4, .int (zI (6))), (6, .int (zI (5)))] dX9_solves_227 rfl rfl (by decide) rfl ?_
              refine z_goto hC 203 dX9_solves_230 (by decide) ?_
              refine z_lv (lv' := [(0, .ref m), (1, .int (zI (6))), (2, .int (zI (6))), (3, .int (zI (7))), (4, .int (zI (6))), (5, .int (zI (i3 + 1))), (6, .int (zI (5)))]) [1, 2, 3, 4, 5, 0, 6] rfl ?_
              exact ih203_38 (i3 + 1) (zu ru2 i3 (g2_34 ((7 * i3) + 6))) (by omega) (by omega)
        exact lp203_37 _ 0 ru (by omega) (Nat.lt_succ_self _)
      · skip
        refine z_iconst hC dX9_solves_20 ?_
        refine z_istore hC [(5, .int (zI (0))), (0, .ref m), (1, .int (zI (6))), (2, .int (zI (6))), (3, .int (zI (7))), (4, .int (zI (r)))] dX9_solves_21 (by decide) rfl ?_
        refine z_lv (lv' := [(0, .ref m), (1, .int (zI (6))), (2, .int (zI (6))), (3, .int (zI (7))), (4, .int (zI (r))), (5, .int (zI (0)))]) [1, 2, 3, 4, 5, 0] rfl ?_
        have lp23_41 : ∀ (f43 : Nat) (i : Int) (q2 : Int → Int), (0 ≤ i ∧ i ≤ 6) → (∀ j, 0 ≤ j → j < 7 * r + i → q2 j = arL el6_0 j) → (6 - i).toNat < f43 → ZW C 0 0 [wO m 9 [.int (zI (m_status)), .int (zI (m_thrown)), .ref m_sheetSort, .ref m_sheetMany, .ref m_numbers, .int (zI (4)), .int (zI (m_kind)), .int (zI (5)), .int (zI (m_round)), .int (zI (m_ax)), .int (zI (0)), .int (zI (m_bx)), .int (zI (0)), .ref m_dx, .ref m_dy, .ref m_weight, .ref m_isBarred, .ref m_walks, .ref m_one, .ref m_two, .ref m_light, .ref m_lightThen, .int (zI (m_family)), .ref m_fromX, .ref m_fromY, .ref m_toX, .ref m_toY, .int (zI (m_ruleMany)), .ref m_rule, .ref m_out, .int (zI (m_outs)), .ref m_grid, .ref m_heap, .ref m_ends, .ref m_power, .ref m_by2, .ref m_product, .ref m_levels, .ref m_row, .ref m_then, .ref m_equations], wJ m_levels (zK C).2.2.1 128 le, wJ m_equations (zK C).2.2.1 2048 q2, wJ m_rule (zK C).2.2.1 64 ru] [(0, .ref m), (1, .int (zI (6))), (2, .int (zI (6))), (3, .int (zI (7))), (4, .int (zI (r))), (5, .int (zI (i)))] 23 [] := by
          intro f43
          induction f43 with
          | zero => intro _ _ _ _ hf; exact absurd hf (Nat.not_lt_zero _)
          | succ f43 ih23_42 =>
            intro i q2 vi vq2 hf_23
            refine z_iload hC 5 dX9_solves_23 rfl ?_
            refine z_iload_n hC 1 dX9_solves_25 rfl rfl ?_
            refine z_icge hC 61 dX9_solves_26 (by decide) (by omega) (fun c_44 => ?_) (fun c_44 => ?_)
            · skip
              refine z_aload_n hC 0 dX9_solves_61 rfl rfl ?_
              refine z_get hC (T := TX9) (N := 41) hinX9 0 40 dX9_solves_62 rfl rfl (by decide) (List.mem_of_getElem? (i := 2) rfl) rfl rfl ?_
              refine z_iload_n hC 3 dX9_solves_65 rfl rfl ?_
              refine z_iload hC 4 dX9_solves_66 rfl ?_
              refine z_imul hC (7 * r) dX9_solves_68 rfl ?_
              refine z_iload_n hC 1 dX9_solves_69 rfl rfl ?_
              refine z_iadd hC ((7 * r) + 6) dX9_solves_70 rfl ?_
              refine z_aload_n hC 0 dX9_solves_71 rfl rfl ?_
              refine z_get hC (T := TX9) (N := 41) hinX9 0 37 dX9_solves_72 rfl rfl (by decide) (List.mem_of_getElem? (i := 3) rfl) rfl rfl ?_
              refine z_iload_n hC 1 dX9_solves_75 rfl rfl ?_
              refine z_iload hC 4 dX9_solves_76 rfl ?_
              refine z_iadd hC (6 + r) dX9_solves_78 rfl ?_
              refine z_lald hC 1 dX9_solves_79 rfl (by omega) ?_
              refine z_last hC 2 [wO m 9 [.int (zI (m_status)), .int (zI (m_thrown)), .ref m_sheetSort, .ref m_sheetMany, .ref m_numbers, .int (zI (4)), .int (zI (m_kind)), .int (zI (5)), .int (zI (m_round)), .int (zI (m_ax)), .int (zI (0)), .int (zI (m_bx)), .int (zI (0)), .ref m_dx, .ref m_dy, .ref m_weight, .ref m_isBarred, .ref m_walks, .ref m_one, .ref m_two, .ref m_light, .ref m_lightThen, .int (zI (m_family)), .ref m_fromX, .ref m_fromY, .ref m_toX, .ref m_toY, .int (zI (m_ruleMany)), .ref m_rule, .ref m_out, .int (zI (m_outs)), .ref m_grid, .ref m_heap, .ref m_ends, .ref m_power, .ref m_by2, .ref m_product, .ref m_levels, .ref m_row, .ref m_then, .ref m_equations], wJ m_levels (zK C).2.2.1 128 le, wJ m_equations (zK C).2.2.1 2048 (zu q2 ((7 * r) + 6) (le (6 + r))), wJ m_rule (zK C).2.2.1 64 ru] dX9_solves_80 rfl (by omega) rfl ?_
              refine z_iinc (a := r) (v := 1) (r := r + 1) hC 4 [(4, .int (zI (r + 1))), (0, .ref m), (1, .int (zI (6))), (2, .int (zI (6))), (3, .int (zI (7))), (5, .int (zI (i)))] dX9_solves_81 rfl rfl (by decide) rfl ?_
              refine z_goto hC 14 dX9_solves_84 (by decide) ?_
              refine z_lv (lv' := [(0, .ref m), (1, .int (zI (6))), (2, .int (zI (6))), (3, .int (zI (7))), (4, .int (zI (r + 1)))]) [1, 2, 3, 4, 0] rfl ?_
              exact ih14_2 (r + 1) (zu q2 ((7 * r) + 6) (le (6 + r))) (by omega) (by intro j a b; unfold zu; by_cases e : j = 7 * r + 6; (rw [if_pos e, e, hlev _ (by omega) (by omega)]; show _ = arL (eqI 6 7) _; rw [eqI_at (by omega) (by omega), if_neg (by omega)]; congr 1; omega); (rw [if_neg e]; exact vq2 j a (by omega))) (by omega)
            · skip
              refine z_aload_n hC 0 dX9_solves_29 rfl rfl ?_
              refine z_get hC (T := TX9) (N := 41) hinX9 0 40 dX9_solves_30 rfl rfl (by decide) (List.mem_of_getElem? (i := 2) rfl) rfl rfl ?_
              refine z_iload_n hC 3 dX9_solves_33 rfl rfl ?_
              refine z_iload hC 4 dX9_solves_34 rfl ?_
              refine z_imul hC (7 * r) dX9_solves_36 rfl ?_
              refine z_iload hC 5 dX9_solves_37 rfl ?_
              refine z_iadd hC ((7 * r) + i) dX9_solves_39 rfl ?_
              refine z_aload_n hC 0 dX9_solves_40 rfl rfl ?_
              refine z_get hC (T := TX9) (N := 41) hinX9 0 37 dX9_solves_41 rfl rfl (by decide) (List.mem_of_getElem? (i := 3) rfl) rfl rfl ?_
              refine z_iload_n hC 1 dX9_solves_44 rfl rfl ?_
              refine z_iload hC 4 dX9_solves_45 rfl ?_
              refine z_iadd hC (6 + r) dX9_solves_47 rfl ?_
              refine z_iconst hC dX9_solves_48 ?_
              refine z_isub hC ((6 + r) - 1) dX9_solves_49 rfl ?_
              refine z_iload hC 5 dX9_solves_50 rfl ?_
              refine z_isub hC (((6 + r) - 1) - i) dX9_solves_52 rfl ?_
              refine z_lald hC 1 dX9_solves_53 rfl (by omega) ?_
              refine z_last hC 2 [wO m 9 [.int (zI (m_status)), .int (zI (m_thrown)), .ref m_sheetSort, .ref m_sheetMany, .ref m_numbers, .int (zI (4)), .int (zI (m_kind)), .int (zI (5)), .int (zI (m_round)), .int (zI (m_ax)), .int (zI (0)), .int (zI (m_bx)), .int (zI (0)), .ref m_dx, .ref m_dy, .ref m_weight, .ref m_isBarred, .ref m_walks, .ref m_one, .ref m_two, .ref m_light, .ref m_lightThen, .int (zI (m_family)), .ref m_fromX, .ref m_fromY, .ref m_toX, .ref m_toY, .int (zI (m_ruleMany)), .ref m_rule, .ref m_out, .int (zI (m_outs)), .ref m_grid, .ref m_heap, .ref m_ends, .ref m_power, .ref m_by2, .ref m_product, .ref m_levels, .ref m_row, .ref m_then, .ref m_equations], wJ m_levels (zK C).2.2.1 128 le, wJ m_equations (zK C).2.2.1 2048 (zu q2 ((7 * r) + i) (le (((6 + r) - 1) - i))), wJ m_rule (zK C).2.2.1 64 ru] dX9_solves_54 rfl (by omega) rfl ?_
              refine z_iinc (a := i) (v := 1) (r := i + 1) hC 5 [(5, .int (zI (i + 1))), (0, .ref m), (1, .int (zI (6))), (2, .int (zI (6))), (3, .int (zI (7))), (4, .int (zI (r)))] dX9_solves_55 rfl rfl (by decide) rfl ?_
              refine z_goto hC 23 dX9_solves_58 (by decide) ?_
              refine z_lv (lv' := [(0, .ref m), (1, .int (zI (6))), (2, .int (zI (6))), (3, .int (zI (7))), (4, .int (zI (r))), (5, .int (zI (i + 1)))]) [1, 2, 3, 4, 5, 0] rfl ?_
              exact ih23_42 (i + 1) (zu q2 ((7 * r) + i) (le (((6 + r) - 1) - i))) (by omega) (by intro j a b; unfold zu; by_cases e : j = 7 * r + i; (rw [if_pos e, e, hlev _ (by omega) (by omega)]; show _ = arL (eqI 6 7) _; rw [eqI_at (by omega) (by omega), if_pos (by omega)]; congr 1; omega); (rw [if_neg e]; exact vq2 j a (by omega))) (by omega)
        exact lp23_41 _ 0 q (by omega) (by intro j a b; exact vq j a (by omega)) (Nat.lt_succ_self _)
  exact lp14_1 _ 0 eq0 (by omega) (by intro j a b; omega) (Nat.lt_succ_self _)
