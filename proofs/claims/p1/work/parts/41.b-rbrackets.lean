theorem ends_v {q : Int → Int} {l o eA eB : Int} (hl : 1 ≤ l) (ho : 0 ≤ o ∧ o ≤ l ∧ l ≤ 60) (vt : ∀ p d, 0 ≤ p → p < l → 0 ≤ d → d ≤ 61 → q (62 * p + d) = bE p.toNat d) (hA : ((o + 1 < 0 ∨ 61 < o + 1) ∧ eA = 0) ∨ (0 ≤ o + 1 ∧ o + 1 ≤ 61 ∧ eA = q (62 * (l - 1) + (o + 1)))) (hB : ((o - 1 < 0 ∨ 61 < o - 1) ∧ eB = 0) ∨ (0 ≤ o - 1 ∧ o - 1 ≤ 61 ∧ eB = q (62 * (l - 1) + (o - 1)))) : eA + eB = bE l.toNat o := by
  rw [bE_s hl (by omega)]
  have h1 : eA = bE (l - 1).toNat (o + 1) := by
    rcases hA with ⟨a, b⟩ | ⟨a, b, c⟩
    · omega
    · rw [c]; exact vt (l - 1) (o + 1) (by omega) (by omega) a b
  have h2 : eB = bE (l - 1).toNat (o - 1) := by
    rcases hB with ⟨a, b⟩ | ⟨a, b, c⟩
    · rw [b, bE_far _ _ (by omega)]
    · rw [c]; exact vt (l - 1) (o - 1) (by omega) (by omega) a b
  omega
theorem ends_r {q : Int → Int} {sg left op r : Int} (hf : ∀ l d, 0 ≤ l → l ≤ sg → 0 ≤ d → d ≤ 61 → q (62 * l + d) = bE l.toNat d) (h : ((op < 0 ∨ 61 < op) ∧ r = 0) ∨ (0 ≤ op ∧ op ≤ 61 ∧ r = q (62 * left + op))) (hl : 0 ≤ left ∧ left ≤ sg) (hs : sg ≤ 60) : 0 ≤ r ∧ r ≤ 1152921504606846976 := by
  rcases h with ⟨a, b⟩ | ⟨a, b, c⟩
  · omega
  · rw [c, hf left op hl.1 hl.2 a b]
    exact bE_r (by omega) op
set_option maxHeartbeats 4000000 in
set_option maxRecDepth 100000 in
theorem c_X9_endsOf (l : Launch) (D : va_G) (K : ClassId × ClassId × ClassId × ClassId) (m m_sheetSort m_sheetMany m_numbers m_dx m_dy m_weight m_isBarred m_walks m_one m_two m_light m_lightThen m_fromX m_fromY m_toX m_toY m_rule m_out m_grid m_heap m_ends m_power m_by2 m_product m_levels m_row m_then m_equations : Nat) (left op m_status m_thrown m_steps m_kind m_top m_round m_ax m_ay m_bx m_by m_family m_ruleMany m_outs : Int) (g : Int → Int) (hop : zR op) (hl : 0 ≤ left ∧ left ≤ 60) : zMet l D K yX9_endsOf wsX9_endsOf ({ frames := 0, cells := 0, slots := 0, locals := 0 }) 0 0 [.ref m, .int (zI (left)), .int (zI (op))] [wO m 9 [.int (zI (m_status)), .int (zI (m_thrown)), .ref m_sheetSort, .ref m_sheetMany, .ref m_numbers, .int (zI (m_steps)), .int (zI (m_kind)), .int (zI (m_top)), .int (zI (m_round)), .int (zI (m_ax)), .int (zI (m_ay)), .int (zI (m_bx)), .int (zI (m_by)), .ref m_dx, .ref m_dy, .ref m_weight, .ref m_isBarred, .ref m_walks, .ref m_one, .ref m_two, .ref m_light, .ref m_lightThen, .int (zI (m_family)), .ref m_fromX, .ref m_fromY, .ref m_toX, .ref m_toY, .int (zI (m_ruleMany)), .ref m_rule, .ref m_out, .int (zI (m_outs)), .ref m_grid, .ref m_heap, .ref m_ends, .ref m_power, .ref m_by2, .ref m_product, .ref m_levels, .ref m_row, .ref m_then, .ref m_equations], wJ m_ends K.2.2.1 3782 g] (fun vr_ wr_ => ∃ (r : Int), vr_ = some (.long (zL (r))) ∧ wr_ = [wO m 9 [.int (zI (m_status)), .int (zI (m_thrown)), .ref m_sheetSort, .ref m_sheetMany, .ref m_numbers, .int (zI (m_steps)), .int (zI (m_kind)), .int (zI (m_top)), .int (zI (m_round)), .int (zI (m_ax)), .int (zI (m_ay)), .int (zI (m_bx)), .int (zI (m_by)), .ref m_dx, .ref m_dy, .ref m_weight, .ref m_isBarred, .ref m_walks, .ref m_one, .ref m_two, .ref m_light, .ref m_lightThen, .int (zI (m_family)), .ref m_fromX, .ref m_fromY, .ref m_toX, .ref m_toY, .int (zI (m_ruleMany)), .ref m_rule, .ref m_out, .int (zI (m_outs)), .ref m_grid, .ref m_heap, .ref m_ends, .ref m_power, .ref m_by2, .ref m_product, .ref m_levels, .ref m_row, .ref m_then, .ref m_equations], wJ m_ends K.2.2.1 3782 g] ∧ (((op < 0 ∨ 61 < op) ∧ r = 0) ∨ (0 ≤ op ∧ op ≤ 61 ∧ r = g (62 * left + op)))) := by
  refine zMet_of (cc := cX9_endsOf) (nL := 3) (ret := (some .long)) (by decide) rfl (Nat.le_of_ble_eq_true rfl) ?_
  rintro C rfl rfl rfl hC hR
  have hinX9 : ∀ w ∈ u_ws RX9 TX9 41, w ∈ wsX9_endsOf := by decide +kernel
  show ZW C 0 0 [wO m 9 [.int (zI (m_status)), .int (zI (m_thrown)), .ref m_sheetSort, .ref m_sheetMany, .ref m_numbers, .int (zI (m_steps)), .int (zI (m_kind)), .int (zI (m_top)), .int (zI (m_round)), .int (zI (m_ax)), .int (zI (m_ay)), .int (zI (m_bx)), .int (zI (m_by)), .ref m_dx, .ref m_dy, .ref m_weight, .ref m_isBarred, .ref m_walks, .ref m_one, .ref m_two, .ref m_light, .ref m_lightThen, .int (zI (m_family)), .ref m_fromX, .ref m_fromY, .ref m_toX, .ref m_toY, .int (zI (m_ruleMany)), .ref m_rule, .ref m_out, .int (zI (m_outs)), .ref m_grid, .ref m_heap, .ref m_ends, .ref m_power, .ref m_by2, .ref m_product, .ref m_levels, .ref m_row, .ref m_then, .ref m_equations], wJ m_ends (zK C).2.2.1 3782 g] [(0, .ref m), (1, .int (zI (left))), (2, .int (zI (op)))] 0 []
  refine z_iload_n hC 2 dX9_endsOf_0 rfl rfl ?_
  refine z_iflt hC 10 dX9_endsOf_1 (by decide) (by omega) (fun c_1 => ?_) (fun c_1 => ?_)
  · skip
    refine z_lconst (v := 0) hC dX9_endsOf_10 rfl ?_
    refine z_goto hC 25 dX9_endsOf_11 (by decide) ?_
    exact z_lret hC hR dX9_endsOf_25 (Nat.le_of_ble_eq_true rfl) (Nat.le_of_ble_eq_true rfl) ⟨0, rfl, rfl, by omega⟩
  · skip
    refine z_iload_n hC 2 dX9_endsOf_4 rfl rfl ?_
    refine z_bipush hC dX9_endsOf_5 (by decide) ?_
    refine z_icle hC 14 dX9_endsOf_7 (by decide) (by omega) (fun c_2 => ?_) (fun c_2 => ?_)
    · skip
      refine z_aload_n hC 0 dX9_endsOf_14 rfl rfl ?_
      refine z_get hC (T := TX9) (N := 41) hinX9 0 33 dX9_endsOf_15 rfl rfl (by decide) (List.mem_of_getElem? (i := 1) rfl) rfl rfl ?_
      refine z_bipush hC dX9_endsOf_18 (by decide) ?_
      refine z_iload_n hC 1 dX9_endsOf_20 rfl rfl ?_
      refine z_imul hC (62 * left) dX9_endsOf_21 rfl ?_
      refine z_iload_n hC 2 dX9_endsOf_22 rfl rfl ?_
      refine z_iadd hC ((62 * left) + op) dX9_endsOf_23 rfl ?_
      refine z_lald hC 1 dX9_endsOf_24 rfl (by omega) ?_
      exact z_lret hC hR dX9_endsOf_25 (Nat.le_of_ble_eq_true rfl) (Nat.le_of_ble_eq_true rfl) ⟨g ((62 * left) + op), rfl, rfl, by omega⟩
    · skip
      refine z_lconst (v := 0) hC dX9_endsOf_10 rfl ?_
      refine z_goto hC 25 dX9_endsOf_11 (by decide) ?_
      exact z_lret hC hR dX9_endsOf_25 (Nat.le_of_ble_eq_true rfl) (Nat.le_of_ble_eq_true rfl) ⟨0, rfl, rfl, by omega⟩

set_option maxHeartbeats 4000000 in
set_option maxRecDepth 100000 in
theorem c_X9_fillEnds (l : Launch) (D : va_G) (K : ClassId × ClassId × ClassId × ClassId) (m m_sheetSort m_sheetMany m_numbers m_dx m_dy m_weight m_isBarred m_walks m_one m_two m_light m_lightThen m_fromX m_fromY m_toX m_toY m_rule m_out m_grid m_heap m_ends m_power m_by2 m_product m_levels m_row m_then m_equations : Nat) (sg m_status m_thrown m_steps m_kind m_top m_round m_ax m_ay m_bx m_by m_family m_ruleMany m_outs : Int) (g : Int → Int) (hs : 0 ≤ sg ∧ sg ≤ 60) : zMet l D K yX9_fillEnds wsX9_fillEnds ({ frames := 1, cells := 0, slots := 0, locals := 22 }) 0 0 [.ref m, .int (zI (sg))] [wO m 9 [.int (zI (m_status)), .int (zI (m_thrown)), .ref m_sheetSort, .ref m_sheetMany, .ref m_numbers, .int (zI (m_steps)), .int (zI (m_kind)), .int (zI (m_top)), .int (zI (m_round)), .int (zI (m_ax)), .int (zI (m_ay)), .int (zI (m_bx)), .int (zI (m_by)), .ref m_dx, .ref m_dy, .ref m_weight, .ref m_isBarred, .ref m_walks, .ref m_one, .ref m_two, .ref m_light, .ref m_lightThen, .int (zI (m_family)), .ref m_fromX, .ref m_fromY, .ref m_toX, .ref m_toY, .int (zI (m_ruleMany)), .ref m_rule, .ref m_out, .int (zI (m_outs)), .ref m_grid, .ref m_heap, .ref m_ends, .ref m_power, .ref m_by2, .ref m_product, .ref m_levels, .ref m_row, .ref m_then, .ref m_equations], wJ m_ends K.2.2.1 3782 g] (fun vr_ wr_ => ∃ (g2 : Int → Int), vr_ = none ∧ wr_ = [wO m 9 [.int (zI (m_status)), .int (zI (m_thrown)), .ref m_sheetSort, .ref m_sheetMany, .ref m_numbers, .int (zI (m_steps)), .int (zI (m_kind)), .int (zI (m_top)), .int (zI (m_round)), .int (zI (m_ax)), .int (zI (m_ay)), .int (zI (m_bx)), .int (zI (m_by)), .ref m_dx, .ref m_dy, .ref m_weight, .ref m_isBarred, .ref m_walks, .ref m_one, .ref m_two, .ref m_light, .ref m_lightThen, .int (zI (m_family)), .ref m_fromX, .ref m_fromY, .ref m_toX, .ref m_toY, .int (zI (m_ruleMany)), .ref m_rule, .ref m_out, .int (zI (m_outs)), .ref m_grid, .ref m_heap, .ref m_ends, .ref m_power, .ref m_by2, .ref m_product, .ref m_levels, .ref m_row, .ref m_then, .ref m_equations], wJ m_ends K.2.2.1 3782 g2] ∧ (∀ l d, 0 ≤ l → l ≤ sg → 0 ≤ d → d ≤ 61 → g2 (62 * l + d) = bE l.toNat d)) := by
  refine zMet_of (cc := cX9_fillEnds) (nL := 4) (ret := none) (by decide) rfl (Nat.le_of_ble_eq_true rfl) ?_
  rintro C rfl rfl rfl hC hR
  have hinX9 : ∀ w ∈ u_ws RX9 TX9 41, w ∈ wsX9_fillEnds := by decide +kernel
  show ZW C 0 0 [wO m 9 [.int (zI (m_status)), .int (zI (m_thrown)), .ref m_sheetSort, .ref m_sheetMany, .ref m_numbers, .int (zI (m_steps)), .int (zI (m_kind)), .int (zI (m_top)), .int (zI (m_round)), .int (zI (m_ax)), .int (zI (m_ay)), .int (zI (m_bx)), .int (zI (m_by)), .ref m_dx, .ref m_dy, .ref m_weight, .ref m_isBarred, .ref m_walks, .ref m_one, .ref m_two, .ref m_light, .ref m_lightThen, .int (zI (m_family)), .ref m_fromX, .ref m_fromY, .ref m_toX, .ref m_toY, .int (zI (m_ruleMany)), .ref m_rule, .ref m_out, .int (zI (m_outs)), .ref m_grid, .ref m_heap, .ref m_ends, .ref m_power, .ref m_by2, .ref m_product, .ref m_levels, .ref m_row, .ref m_then, .ref m_equations], wJ m_ends (zK C).2.2.1 3782 g] [(0, .ref m), (1, .int (zI (sg)))] 0 []
  refine z_iconst hC dX9_fillEnds_0 ?_
  refine z_istore_n hC [(2, .int (zI (0))), (0, .ref m), (1, .int (zI (sg)))] dX9_fillEnds_1 rfl (by decide) rfl ?_
  refine z_lv (lv' := [(0, .ref m), (1, .int (zI (sg))), (2, .int (zI (0)))]) [1, 2, 0] rfl ?_
  have lp2_1 : ∀ (f3 : Nat) (o : Int) (q : Int → Int), (0 ≤ o ∧ o ≤ 62) → (∀ d, 0 ≤ d → d < o → q d = bE 0 d) → (62 - o).toNat < f3 → ZW C 0 0 [wO m 9 [.int (zI (m_status)), .int (zI (m_thrown)), .ref m_sheetSort, .ref m_sheetMany, .ref m_numbers, .int (zI (m_steps)), .int (zI (m_kind)), .int (zI (m_top)), .int (zI (m_round)), .int (zI (m_ax)), .int (zI (m_ay)), .int (zI (m_bx)), .int (zI (m_by)), .ref m_dx, .ref m_dy, .ref m_weight, .ref m_isBarred, .ref m_walks, .ref m_one, .ref m_two, .ref m_light, .ref m_lightThen, .int (zI (m_family)), .ref m_fromX, .ref m_fromY, .ref m_toX, .ref m_toY, .int (zI (m_ruleMany)), .ref m_rule, .ref m_out, .int (zI (m_outs)), .ref m_grid, .ref m_heap, .ref m_ends, .ref m_power, .ref m_by2, .ref m_product, .ref m_levels, .ref m_row, .ref m_then, .ref m_equations], wJ m_ends (zK C).2.2.1 3782 q] [(0, .ref m), (1, .int (zI (sg))), (2, .int (zI (o)))] 2 [] := by
    intro f3
    induction f3 with
    | zero => intro _ _ _ _ hf; exact absurd hf (Nat.not_lt_zero _)
    | succ f3 ih2_2 =>
      intro o q vo vq hf_2
      refine z_iload_n hC 2 dX9_fillEnds_2 rfl rfl ?_
      refine z_bipush hC dX9_fillEnds_3 (by decide) ?_
      refine z_icge hC 29 dX9_fillEnds_5 (by decide) (by omega) (fun c_4 => ?_) (fun c_4 => ?_)
      · skip
        refine z_iconst hC dX9_fillEnds_29 ?_
        refine z_istore_n hC [(2, .int (zI (1))), (0, .ref m), (1, .int (zI (sg)))] dX9_fillEnds_30 rfl (by decide) rfl ?_
        refine z_lv (lv' := [(0, .ref m), (1, .int (zI (sg))), (2, .int (zI (1)))]) [1, 2, 0] rfl ?_
        have lp31_5 : ∀ (f7 : Nat) (l : Int) (q2 : Int → Int), (1 ≤ l ∧ l ≤ sg + 1) → (∀ p d, 0 ≤ p → p < l → 0 ≤ d → d ≤ 61 → q2 (62 * p + d) = bE p.toNat d) → (sg + 1 - l).toNat < f7 → ZW C 0 0 [wO m 9 [.int (zI (m_status)), .int (zI (m_thrown)), .ref m_sheetSort, .ref m_sheetMany, .ref m_numbers, .int (zI (m_steps)), .int (zI (m_kind)), .int (zI (m_top)), .int (zI (m_round)), .int (zI (m_ax)), .int (zI (m_ay)), .int (zI (m_bx)), .int (zI (m_by)), .ref m_dx, .ref m_dy, .ref m_weight, .ref m_isBarred, .ref m_walks, .ref m_one, .ref m_two, .ref m_light, .ref m_lightThen, .int (zI (m_family)), .ref m_fromX, .ref m_fromY, .ref m_toX, .ref m_toY, .int (zI (m_ruleMany)), .ref m_rule, .ref m_out, .int (zI (m_outs)), .ref m_grid, .ref m_heap, .ref m_ends, .ref m_power, .ref m_by2, .ref m_product, .ref m_levels, .ref m_row, .ref m_then, .ref m_equations], wJ m_ends (zK C).2.2.1 3782 q2] [(0, .ref m), (1, .int (zI (sg))), (2, .int (zI (l)))] 31 [] := by
          intro f7
          induction f7 with
          | zero => intro _ _ _ _ hf; exact absurd hf (Nat.not_lt_zero _)
          | succ f7 ih31_6 =>
            intro l q2 vl vt hf_31
            refine z_iload_n hC 2 dX9_fillEnds_31 rfl rfl ?_
            refine z_iload_n hC 1 dX9_fillEnds_32 rfl rfl ?_
            refine z_icgt hC 97 dX9_fillEnds_33 (by decide) (by omega) (fun c_8 => ?_) (fun c_8 => ?_)
            · skip
              exact z_vret hC hR dX9_fillEnds_97 (Nat.le_of_ble_eq_true rfl) (Nat.le_of_ble_eq_true rfl) ⟨q2, rfl, rfl, by intro p d p0 p1 d0 d1; exact vt p d p0 (by omega) d0 d1⟩
            · skip
              refine z_iconst hC dX9_fillEnds_36 ?_
              refine z_istore_n hC [(3, .int (zI (0))), (0, .ref m), (1, .int (zI (sg))), (2, .int (zI (l)))] dX9_fillEnds_37 rfl (by decide) rfl ?_
              refine z_lv (lv' := [(0, .ref m), (1, .int (zI (sg))), (2, .int (zI (l))), (3, .int (zI (0)))]) [1, 2, 3, 0] rfl ?_
              have lp38_9 : ∀ (f11 : Nat) (o2 : Int) (q3 : Int → Int), (0 ≤ o2 ∧ o2 ≤ 62) → (∀ p d, 0 ≤ p → p < l → 0 ≤ d → d ≤ 61 → q3 (62 * p + d) = bE p.toNat d) → (∀ d, 0 ≤ d → d < o2 → q3 (62 * l + d) = bE l.toNat d) → (62 - o2).toNat < f11 → ZW C 0 0 [wO m 9 [.int (zI (m_status)), .int (zI (m_thrown)), .ref m_sheetSort, .ref m_sheetMany, .ref m_numbers, .int (zI (m_steps)), .int (zI (m_kind)), .int (zI (m_top)), .int (zI (m_round)), .int (zI (m_ax)), .int (zI (m_ay)), .int (zI (m_bx)), .int (zI (m_by)), .ref m_dx, .ref m_dy, .ref m_weight, .ref m_isBarred, .ref m_walks, .ref m_one, .ref m_two, .ref m_light, .ref m_lightThen, .int (zI (m_family)), .ref m_fromX, .ref m_fromY, .ref m_toX, .ref m_toY, .int (zI (m_ruleMany)), .ref m_rule, .ref m_out, .int (zI (m_outs)), .ref m_grid, .ref m_heap, .ref m_ends, .ref m_power, .ref m_by2, .ref m_product, .ref m_levels, .ref m_row, .ref m_then, .ref m_equations], wJ m_ends (zK C).2.2.1 3782 q3] [(0, .ref m), (1, .int (zI (sg))), (2, .int (zI (l))), (3, .int (zI (o2)))] 38 [] := by
                intro f11
                induction f11 with
                | zero => intro _ _ _ _ _ hf; exact absurd hf (Nat.not_lt_zero _)
                | succ f11 ih38_10 =>
                  intro o2 q3 vo2 vt2 vw hf_38
                  refine z_iload_n hC 3 dX9_fillEnds_38 rfl rfl ?_
                  refine z_bipush hC dX9_fillEnds_39 (by decide) ?_
                  refine z_icge hC 91 dX9_fillEnds_41 (by decide) (by omega) (fun c_12 => ?_) (fun c_12 => ?_)
                  · skip
                    refine z_iinc (a := l) (v := 1) (r := l + 1) hC 2 [(2, .int (zI (l + 1))), (0, .ref m), (1, .int (zI (sg))), (3, .int (zI (o2)))] dX9_fillEnds_91 rfl rfl (by decide) rfl ?_
                    refine z_goto hC 31 dX9_fillEnds_94 (by decide) ?_
                    refine z_lv (lv' := [(0, .ref m), (1, .int (zI (sg))), (2, .int (zI (l + 1)))]) [1, 2, 0] rfl ?_
                    exact ih31_6 (l + 1) q3 (by omega) (by intro p d p0 p1 d0 d1; by_cases e : p = l; (rw [e]; exact vw d d0 (by omega)); exact vt2 p d p0 (by omega) d0 d1) (by omega)
                  · skip
                    refine z_aload_n hC 0 dX9_fillEnds_44 rfl rfl ?_
                    refine z_get hC (T := TX9) (N := 41) hinX9 0 33 dX9_fillEnds_45 rfl rfl (by decide) (List.mem_of_getElem? (i := 1) rfl) rfl rfl ?_
                    refine z_bipush hC dX9_fillEnds_48 (by decide) ?_
                    refine z_iload_n hC 2 dX9_fillEnds_50 rfl rfl ?_
                    refine z_imul hC (62 * l) dX9_fillEnds_51 rfl ?_
                    refine z_iload_n hC 3 dX9_fillEnds_52 rfl rfl ?_
                    refine z_iadd hC ((62 * l) + o2) dX9_fillEnds_53 rfl ?_
                    refine z_iload_n hC 3 dX9_fillEnds_54 rfl rfl ?_
                    refine z_iload_n hC 2 dX9_fillEnds_55 rfl rfl ?_
                    refine z_icle hC 63 dX9_fillEnds_56 (by decide) (by omega) (fun c_13 => ?_) (fun c_13 => ?_)
                    · skip
                      refine z_aload_n hC 0 dX9_fillEnds_63 rfl rfl ?_
                      refine z_iload_n hC 2 dX9_fillEnds_64 rfl rfl ?_
                      refine z_iconst hC dX9_fillEnds_65 ?_
                      refine z_isub hC (l - 1) dX9_fillEnds_66 rfl ?_
                      refine z_iload_n hC 3 dX9_fillEnds_67 rfl rfl ?_
                      refine z_iconst hC dX9_fillEnds_68 ?_
                      refine z_iadd hC (o2 + 1) dX9_fillEnds_69 rfl ?_
                      refine z_callV hC [.int (zI (l - 1)), .int (zI (o2 + 1))] 2 0 dX9_fillEnds_70 (c_X9_endsOf (zl C) (zD C) (zK C) m m_sheetSort m_sheetMany m_numbers m_dx m_dy m_weight m_isBarred m_walks m_one m_two m_light m_lightThen m_fromX m_fromY m_toX m_toY m_rule m_out m_grid m_heap m_ends m_power m_by2 m_product m_levels m_row m_then m_equations (l - 1) (o2 + 1) m_status m_thrown m_steps m_kind m_top m_round m_ax m_ay m_bx m_by m_family m_ruleMany m_outs q3 (by first | assumption | omega) (by first | assumption | omega)) gX9_fillEnds_X9_endsOf rfl rfl rfl ⟨by decide, by decide, by decide +kernel⟩ ⟨(Nat.le_of_ble_eq_true rfl), (Nat.le_of_ble_eq_true rfl)⟩ rfl rfl rfl rfl [0, 1] [] [] [.int (zI ((62 * l) + o2)), .ref m_ends] rfl rfl rfl rfl rfl (by decide) (Nat.le_of_ble_eq_true rfl) ⟨(Nat.le_of_ble_eq_true rfl), (Nat.le_of_ble_eq_true rfl)⟩ ?_
                      rintro v_ w_ ⟨eA, rfl, rfl, hA⟩
                      show ZW C 0 0 [wO m 9 [.int (zI (m_status)), .int (zI (m_thrown)), .ref m_sheetSort, .ref m_sheetMany, .ref m_numbers, .int (zI (m_steps)), .int (zI (m_kind)), .int (zI (m_top)), .int (zI (m_round)), .int (zI (m_ax)), .int (zI (m_ay)), .int (zI (m_bx)), .int (zI (m_by)), .ref m_dx, .ref m_dy, .ref m_weight, .ref m_isBarred, .ref m_walks, .ref m_one, .ref m_two, .ref m_light, .ref m_lightThen, .int (zI (m_family)), .ref m_fromX, .ref m_fromY, .ref m_toX, .ref m_toY, .int (zI (m_ruleMany)), .ref m_rule, .ref m_out, .int (zI (m_outs)), .ref m_grid, .ref m_heap, .ref m_ends, .ref m_power, .ref m_by2, .ref m_product, .ref m_levels, .ref m_row, .ref m_then, .ref m_equations], wJ m_ends (zK C).2.2.1 3782 q3] [(0, .ref m), (1, .int (zI (sg))), (2, .int (zI (l))), (3, .int (zI (o2)))] 73 [.long (zL (eA)), .int (zI ((62 * l) + o2)), .ref m_ends]
                      refine z_aload_n hC 0 dX9_fillEnds_73 rfl rfl ?_
                      refine z_iload_n hC 2 dX9_fillEnds_74 rfl rfl ?_
                      refine z_iconst hC dX9_fillEnds_75 ?_
                      refine z_isub hC (l - 1) dX9_fillEnds_76 rfl ?_
                      refine z_iload_n hC 3 dX9_fillEnds_77 rfl rfl ?_
                      refine z_iconst hC dX9_fillEnds_78 ?_
                      refine z_isub hC (o2 - 1) dX9_fillEnds_79 rfl ?_
                      refine z_callV hC [.int (zI (l - 1)), .int (zI (o2 - 1))] 2 0 dX9_fillEnds_80 (c_X9_endsOf (zl C) (zD C) (zK C) m m_sheetSort m_sheetMany m_numbers m_dx m_dy m_weight m_isBarred m_walks m_one m_two m_light m_lightThen m_fromX m_fromY m_toX m_toY m_rule m_out m_grid m_heap m_ends m_power m_by2 m_product m_levels m_row m_then m_equations (l - 1) (o2 - 1) m_status m_thrown m_steps m_kind m_top m_round m_ax m_ay m_bx m_by m_family m_ruleMany m_outs q3 (by first | assumption | omega) (by first | assumption | omega)) gX9_fillEnds_X9_endsOf rfl rfl rfl ⟨by decide, by decide, by decide +kernel⟩ ⟨(Nat.le_of_ble_eq_true rfl), (Nat.le_of_ble_eq_true rfl)⟩ rfl rfl rfl rfl [0, 1] [] [] [.long (zL (eA)), .int (zI ((62 * l) + o2)), .ref m_ends] rfl rfl rfl rfl rfl (by decide) (Nat.le_of_ble_eq_true rfl) ⟨(Nat.le_of_ble_eq_true rfl), (Nat.le_of_ble_eq_true rfl)⟩ ?_
                      rintro v_ w_ ⟨eB, rfl, rfl, hB⟩
                      show ZW C 0 0 [wO m 9 [.int (zI (m_status)), .int (zI (m_thrown)), .ref m_sheetSort, .ref m_sheetMany, .ref m_numbers, .int (zI (m_steps)), .int (zI (m_kind)), .int (zI (m_top)), .int (zI (m_round)), .int (zI (m_ax)), .int (zI (m_ay)), .int (zI (m_bx)), .int (zI (m_by)), .ref m_dx, .ref m_dy, .ref m_weight, .ref m_isBarred, .ref m_walks, .ref m_one, .ref m_two, .ref m_light, .ref m_lightThen, .int (zI (m_family)), .ref m_fromX, .ref m_fromY, .ref m_toX, .ref m_toY, .int (zI (m_ruleMany)), .ref m_rule, .ref m_out, .int (zI (m_outs)), .ref m_grid, .ref m_heap, .ref m_ends, .ref m_power, .ref m_by2, .ref m_product, .ref m_levels, .ref m_row, .ref m_then, .ref m_equations], wJ m_ends (zK C).2.2.1 3782 q3] [(0, .ref m), (1, .int (zI (sg))), (2, .int (zI (l))), (3, .int (zI (o2)))] 83 [.long (zL (eB)), .long (zL (eA)), .int (zI ((62 * l) + o2)), .ref m_ends]
                      refine z_ladd hC (eA + eB) dX9_fillEnds_83 rfl ?_
                      refine z_last hC 1 [wO m 9 [.int (zI (m_status)), .int (zI (m_thrown)), .ref m_sheetSort, .ref m_sheetMany, .ref m_numbers, .int (zI (m_steps)), .int (zI (m_kind)), .int (zI (m_top)), .int (zI (m_round)), .int (zI (m_ax)), .int (zI (m_ay)), .int (zI (m_bx)), .int (zI (m_by)), .ref m_dx, .ref m_dy, .ref m_weight, .ref m_isBarred, .ref m_walks, .ref m_one, .ref m_two, .ref m_light, .ref m_lightThen, .int (zI (m_family)), .ref m_fromX, .ref m_fromY, .ref m_toX, .ref m_toY, .int (zI (m_ruleMany)), .ref m_rule, .ref m_out, .int (zI (m_outs)), .ref m_grid, .ref m_heap, .ref m_ends, .ref m_power, .ref m_by2, .ref m_product, .ref m_levels, .ref m_row, .ref m_then, .ref m_equations], wJ m_ends (zK C).2.2.1 3782 (zu q3 ((62 * l) + o2) (eA + eB))] dX9_fillEnds_84 rfl (by omega) rfl ?_
                      refine z_iinc (a := o2) (v := 1) (r := o2 + 1) hC 3 [(3, .int (zI (o2 + 1))), (0, .ref m), (1, .int (zI (sg))), (2, .int (zI (l)))] dX9_fillEnds_85 rfl rfl (by decide) rfl ?_
                      refine z_goto hC 38 dX9_fillEnds_88 (by decide) ?_
                      refine z_lv (lv' := [(0, .ref m), (1, .int (zI (sg))), (2, .int (zI (l))), (3, .int (zI (o2 + 1)))]) [1, 2, 3, 0] rfl ?_
                      exact ih38_10 (o2 + 1) (zu q3 ((62 * l) + o2) (eA + eB)) (by omega) (by intro p d p0 p1 d0 d1; unfold zu; rw [if_neg (by omega)]; exact vt2 p d p0 p1 d0 d1) (by intro d d0 d1; unfold zu; by_cases e : d = o2; (rw [e, if_pos rfl]; first | exact (bE_far l.toNat o2 (by omega)).symm | exact ends_v (by omega) (by omega) vt2 hA hB); (rw [if_neg (by omega)]; exact vw d d0 (by omega))) (by omega)
                    · skip
                      refine z_lconst (v := 0) hC dX9_fillEnds_59 rfl ?_
                      refine z_goto hC 84 dX9_fillEnds_60 (by decide) ?_
                      refine z_last hC 1 [wO m 9 [.int (zI (m_status)), .int (zI (m_thrown)), .ref m_sheetSort, .ref m_sheetMany, .ref m_numbers, .int (zI (m_steps)), .int (zI (m_kind)), .int (zI (m_top)), .int (zI (m_round)), .int (zI (m_ax)), .int (zI (m_ay)), .int (zI (m_bx)), .int (zI (m_by)), .ref m_dx, .ref m_dy, .ref m_weight, .ref m_isBarred, .ref m_walks, .ref m_one, .ref m_two, .ref m_light, .ref m_lightThen, .int (zI (m_family)), .ref m_fromX, .ref m_fromY, .ref m_toX, .ref m_toY, .int (zI (m_ruleMany)), .ref m_rule, .ref m_out, .int (zI (m_outs)), .ref m_grid, .ref m_heap, .ref m_ends, .ref m_power, .ref m_by2, .ref m_product, .ref m_levels, .ref m_row, .ref m_then, .ref m_equations], wJ m_ends (zK C).2.2.1 3782 (zu q3 ((62 * l) + o2) 0)] dX9_fillEnds_84 rfl (by omega) rfl ?_
                      refine z_iinc (a := o2) (v := 1) (r := o2 + 1) hC 3 [(3, .int (zI (o2 + 1))), (0, .ref m), (1, .int (zI (sg))), (2, .int (zI (l)))] dX9_fillEnds_85 rfl rfl (by decide) rfl ?_
                      refine z_goto hC 38 dX9_fillEnds_88 (by decide) ?_
                      refine z_lv (lv' := [(0, .ref m), (1, .int (zI (sg))), (2, .int (zI (l))), (3, .int (zI (o2 + 1)))]) [1, 2, 3, 0] rfl ?_
                      exact ih38_10 (o2 + 1) (zu q3 ((62 * l) + o2) 0) (by omega) (by intro p d p0 p1 d0 d1; unfold zu; rw [if_neg (by omega)]; exact vt2 p d p0 p1 d0 d1) (by intro d d0 d1; unfold zu; by_cases e : d = o2; (rw [e, if_pos rfl]; first | exact (bE_far l.toNat o2 (by omega)).symm | exact ends_v (by omega) (by omega) vt2 hA hB); (rw [if_neg (by omega)]; exact vw d d0 (by omega))) (by omega)
              exact lp38_9 _ 0 q2 (by omega) (by exact vt) (by intro d d0 d1; omega) (Nat.lt_succ_self _)
        exact lp31_5 _ 1 q (by omega) (by intro p d p0 p1 d0 d1; rw [show p = 0 by omega, show 62 * (0 : Int) + d = d by omega]; exact vq d d0 (by omega)) (Nat.lt_succ_self _)
      · skip
        refine z_aload_n hC 0 dX9_fillEnds_8 rfl rfl ?_
        refine z_get hC (T := TX9) (N := 41) hinX9 0 33 dX9_fillEnds_9 rfl rfl (by decide) (List.mem_of_getElem? (i := 1) rfl) rfl rfl ?_
        refine z_iload_n hC 2 dX9_fillEnds_12 rfl rfl ?_
        refine z_iload_n hC 2 dX9_fillEnds_13 rfl rfl ?_
        refine z_ifne hC 21 dX9_fillEnds_14 (by decide) (by omega) (fun c_14 => ?_) (fun c_14 => ?_)
        · skip
          refine z_lconst (v := 0) hC dX9_fillEnds_21 rfl ?_
          refine z_last hC 1 [wO m 9 [.int (zI (m_status)), .int (zI (m_thrown)), .ref m_sheetSort, .ref m_sheetMany, .ref m_numbers, .int (zI (m_steps)), .int (zI (m_kind)), .int (zI (m_top)), .int (zI (m_round)), .int (zI (m_ax)), .int (zI (m_ay)), .int (zI (m_bx)), .int (zI (m_by)), .ref m_dx, .ref m_dy, .ref m_weight, .ref m_isBarred, .ref m_walks, .ref m_one, .ref m_two, .ref m_light, .ref m_lightThen, .int (zI (m_family)), .ref m_fromX, .ref m_fromY, .ref m_toX, .ref m_toY, .int (zI (m_ruleMany)), .ref m_rule, .ref m_out, .int (zI (m_outs)), .ref m_grid, .ref m_heap, .ref m_ends, .ref m_power, .ref m_by2, .ref m_product, .ref m_levels, .ref m_row, .ref m_then, .ref m_equations], wJ m_ends (zK C).2.2.1 3782 (zu q o 0)] dX9_fillEnds_22 rfl (by omega) rfl ?_
          refine z_iinc (a := o) (v := 1) (r := o + 1) hC 2 [(2, .int (zI (o + 1))), (0, .ref m), (1, .int (zI (sg)))] dX9_fillEnds_23 rfl rfl (by decide) rfl ?_
          refine z_goto hC 2 dX9_fillEnds_26 (by decide) ?_
          refine z_lv (lv' := [(0, .ref m), (1, .int (zI (sg))), (2, .int (zI (o + 1)))]) [1, 2, 0] rfl ?_
          exact ih2_2 (o + 1) (zu q o 0) (by omega) (by intro d d0 d1; unfold zu; by_cases e : d = o; (rw [e, if_pos rfl]; unfold bE; split <;> omega); (rw [if_neg e]; exact vq d d0 (by omega))) (by omega)
        · skip
          refine z_lconst (v := 1) hC dX9_fillEnds_17 rfl ?_
          refine z_goto hC 22 dX9_fillEnds_18 (by decide) ?_
          refine z_last hC 1 [wO m 9 [.int (zI (m_status)), .int (zI (m_thrown)), .ref m_sheetSort, .ref m_sheetMany, .ref m_numbers, .int (zI (m_steps)), .int (zI (m_kind)), .int (zI (m_top)), .int (zI (m_round)), .int (zI (m_ax)), .int (zI (m_ay)), .int (zI (m_bx)), .int (zI (m_by)), .ref m_dx, .ref m_dy, .ref m_weight, .ref m_isBarred, .ref m_walks, .ref m_one, .ref m_two, .ref m_light, .ref m_lightThen, .int (zI (m_family)), .ref m_fromX, .ref m_fromY, .ref m_toX, .ref m_toY, .int (zI (m_ruleMany)), .ref m_rule, .ref m_out, .int (zI (m_outs)), .ref m_grid, .ref m_heap, .ref m_ends, .ref m_power, .ref m_by2, .ref m_product, .ref m_levels, .ref m_row, .ref m_then, .ref m_equations], wJ m_ends (zK C).2.2.1 3782 (zu q o 1)] dX9_fillEnds_22 rfl (by omega) rfl ?_
          refine z_iinc (a := o) (v := 1) (r := o + 1) hC 2 [(2, .int (zI (o + 1))), (0, .ref m), (1, .int (zI (sg)))] dX9_fillEnds_23 rfl rfl (by decide) rfl ?_
          refine z_goto hC 2 dX9_fillEnds_26 (by decide) ?_
          refine z_lv (lv' := [(0, .ref m), (1, .int (zI (sg))), (2, .int (zI (o + 1)))]) [1, 2, 0] rfl ?_
          exact ih2_2 (o + 1) (zu q o 1) (by omega) (by intro d d0 d1; unfold zu; by_cases e : d = o; (rw [e, if_pos rfl]; unfold bE; split <;> omega); (rw [if_neg e]; exact vq d d0 (by omega))) (by omega)
  exact lp2_1 _ 0 g (by omega) (by intro d d0 d1; omega) (Nat.lt_succ_self _)

set_option maxHeartbeats 4000000 in
set_option maxRecDepth 100000 in
theorem c_X9_brackets (l : Launch) (D : va_G) (K : ClassId × ClassId × ClassId × ClassId) (m m_sheetSort m_sheetMany m_numbers m_dx m_dy m_weight m_isBarred m_walks m_one m_two m_light m_lightThen m_fromX m_fromY m_toX m_toY m_rule m_out m_grid m_heap m_ends m_power m_by2 m_product m_levels m_row m_then m_equations : Nat) (n kk m_status m_thrown m_steps m_kind m_top m_round m_ax m_ay m_bx m_by m_family m_ruleMany m_outs : Int) (g ou : Int → Int) (hn : zR n) (hkk : zRL kk) : zMet l D K yX9_brackets wsX9_brackets ({ frames := 2, cells := 0, slots := 0, locals := 45 }) 0 0 [.ref m, .int (zI (n)), .long (zL (kk))] [wO m 9 [.int (zI (m_status)), .int (zI (m_thrown)), .ref m_sheetSort, .ref m_sheetMany, .ref m_numbers, .int (zI (m_steps)), .int (zI (m_kind)), .int (zI (m_top)), .int (zI (m_round)), .int (zI (m_ax)), .int (zI (m_ay)), .int (zI (m_bx)), .int (zI (m_by)), .ref m_dx, .ref m_dy, .ref m_weight, .ref m_isBarred, .ref m_walks, .ref m_one, .ref m_two, .ref m_light, .ref m_lightThen, .int (zI (m_family)), .ref m_fromX, .ref m_fromY, .ref m_toX, .ref m_toY, .int (zI (m_ruleMany)), .ref m_rule, .ref m_out, .int (zI (m_outs)), .ref m_grid, .ref m_heap, .ref m_ends, .ref m_power, .ref m_by2, .ref m_product, .ref m_levels, .ref m_row, .ref m_then, .ref m_equations], wJ m_ends K.2.2.1 3782 g, wI m_out K.1 64 ou] (fun vr_ wr_ => ∃ (r : Int), vr_ = some (.int (zI (r))) ∧ wr_ = [] ∧ (((n < 0 ∨ 30 < n) ∧ r = -1) ∨ (0 ≤ n ∧ n ≤ 30 ∧ (((kk < 0 ∨ bE (2 * n).toNat 0 ≤ kk) ∧ r = -1) ∨ (0 ≤ kk ∧ kk < bE (2 * n).toNat 0 ∧ r = 2 * n))))) := by
  refine zMet_of (cc := cX9_brackets) (nL := 11) (ret := (some .int)) (by decide) rfl (Nat.le_of_ble_eq_true rfl) ?_
  rintro C rfl rfl rfl hC hR
  have hinX9 : ∀ w ∈ u_ws RX9 TX9 41, w ∈ wsX9_brackets := by decide +kernel
  show ZW C 0 0 [wO m 9 [.int (zI (m_status)), .int (zI (m_thrown)), .ref m_sheetSort, .ref m_sheetMany, .ref m_numbers, .int (zI (m_steps)), .int (zI (m_kind)), .int (zI (m_top)), .int (zI (m_round)), .int (zI (m_ax)), .int (zI (m_ay)), .int (zI (m_bx)), .int (zI (m_by)), .ref m_dx, .ref m_dy, .ref m_weight, .ref m_isBarred, .ref m_walks, .ref m_one, .ref m_two, .ref m_light, .ref m_lightThen, .int (zI (m_family)), .ref m_fromX, .ref m_fromY, .ref m_toX, .ref m_toY, .int (zI (m_ruleMany)), .ref m_rule, .ref m_out, .int (zI (m_outs)), .ref m_grid, .ref m_heap, .ref m_ends, .ref m_power, .ref m_by2, .ref m_product, .ref m_levels, .ref m_row, .ref m_then, .ref m_equations], wJ m_ends (zK C).2.2.1 3782 g, wI m_out (zK C).1 64 ou] [(0, .ref m), (1, .int (zI (n))), (2, .long (zL (kk)))] 0 []
  refine z_aload_n hC 0 dX9_brackets_0 rfl rfl ?_
  refine z_iconst hC dX9_brackets_1 ?_
  refine z_put hC (T := TX9) (N := 41) hinX9 tyX9_ok nmX9 0 1 [wO m 9 [.int (zI (m_status)), .int (zI (0)), .ref m_sheetSort, .ref m_sheetMany, .ref m_numbers, .int (zI (m_steps)), .int (zI (m_kind)), .int (zI (m_top)), .int (zI (m_round)), .int (zI (m_ax)), .int (zI (m_ay)), .int (zI (m_bx)), .int (zI (m_by)), .ref m_dx, .ref m_dy, .ref m_weight, .ref m_isBarred, .ref m_walks, .ref m_one, .ref m_two, .ref m_light, .ref m_lightThen, .int (zI (m_family)), .ref m_fromX, .ref m_fromY, .ref m_toX, .ref m_toY, .int (zI (m_ruleMany)), .ref m_rule, .ref m_out, .int (zI (m_outs)), .ref m_grid, .ref m_heap, .ref m_ends, .ref m_power, .ref m_by2, .ref m_product, .ref m_levels, .ref m_row, .ref m_then, .ref m_equations], wJ m_ends (zK C).2.2.1 3782 g, wI m_out (zK C).1 64 ou] dX9_brackets_2 rfl rfl (by decide) (List.mem_of_getElem? (i := 1) rfl) rfl rfl rfl rfl (Nat.le_of_ble_eq_true rfl) rfl ?_
  refine z_aload_n hC 0 dX9_brackets_5 rfl rfl ?_
  refine z_iconst hC dX9_brackets_6 ?_
  refine z_put hC (T := TX9) (N := 41) hinX9 tyX9_ok nmX9 0 0 [wO m 9 [.int (zI (0)), .int (zI (0)), .ref m_sheetSort, .ref m_sheetMany, .ref m_numbers, .int (zI (m_steps)), .int (zI (m_kind)), .int (zI (m_top)), .int (zI (m_round)), .int (zI (m_ax)), .int (zI (m_ay)), .int (zI (m_bx)), .int (zI (m_by)), .ref m_dx, .ref m_dy, .ref m_weight, .ref m_isBarred, .ref m_walks, .ref m_one, .ref m_two, .ref m_light, .ref m_lightThen, .int (zI (m_family)), .ref m_fromX, .ref m_fromY, .ref m_toX, .ref m_toY, .int (zI (m_ruleMany)), .ref m_rule, .ref m_out, .int (zI (m_outs)), .ref m_grid, .ref m_heap, .ref m_ends, .ref m_power, .ref m_by2, .ref m_product, .ref m_levels, .ref m_row, .ref m_then, .ref m_equations], wJ m_ends (zK C).2.2.1 3782 g, wI m_out (zK C).1 64 ou] dX9_brackets_7 rfl rfl (by decide) (List.mem_of_getElem? (i := 2) rfl) rfl rfl rfl rfl (Nat.le_of_ble_eq_true rfl) rfl ?_
  refine z_iload_n hC 1 dX9_brackets_10 rfl rfl ?_
  refine z_iflt hC 20 dX9_brackets_11 (by decide) (by omega) (fun c_1 => ?_) (fun c_1 => ?_)
  · skip
    refine z_aload_n hC 0 dX9_brackets_20 rfl rfl ?_
    refine z_iconst hC dX9_brackets_21 ?_
    refine z_callV hC [.int (zI (2))] 1 0 dX9_brackets_22 (c_X9_refuse (zl C) (zD C) (zK C) m m_sheetSort m_sheetMany m_numbers m_dx m_dy m_weight m_isBarred m_walks m_one m_two m_light m_lightThen m_fromX m_fromY m_toX m_toY m_rule m_out m_grid m_heap m_ends m_power m_by2 m_product m_levels m_row m_then m_equations 2 0 0 m_steps m_kind m_top m_round m_ax m_ay m_bx m_by m_family m_ruleMany m_outs ) gX9_brackets_X9_refuse rfl rfl rfl ⟨by decide, by decide, by decide +kernel⟩ ⟨(Nat.le_of_ble_eq_true rfl), (Nat.le_of_ble_eq_true rfl)⟩ rfl rfl rfl rfl [0] [1, 2] [wJ m_ends (zK C).2.2.1 3782 g, wI m_out (zK C).1 64 ou] [] rfl rfl rfl rfl rfl (by decide) (Nat.le_of_ble_eq_true rfl) ⟨(Nat.le_of_ble_eq_true rfl), (Nat.le_of_ble_eq_true rfl)⟩ ?_
    rintro v_ w_ ⟨rfl, rfl, h_22_2⟩
    show ZW C 0 0 [wJ m_ends (zK C).2.2.1 3782 g, wI m_out (zK C).1 64 ou, wO m 9 [.int (zI (2)), .int (zI (0)), .ref m_sheetSort, .ref m_sheetMany, .ref m_numbers, .int (zI (m_steps)), .int (zI (m_kind)), .int (zI (m_top)), .int (zI (m_round)), .int (zI (m_ax)), .int (zI (m_ay)), .int (zI (m_bx)), .int (zI (m_by)), .ref m_dx, .ref m_dy, .ref m_weight, .ref m_isBarred, .ref m_walks, .ref m_one, .ref m_two, .ref m_light, .ref m_lightThen, .int (zI (m_family)), .ref m_fromX, .ref m_fromY, .ref m_toX, .ref m_toY, .int (zI (m_ruleMany)), .ref m_rule, .ref m_out, .int (zI (m_outs)), .ref m_grid, .ref m_heap, .ref m_ends, .ref m_power, .ref m_by2, .ref m_product, .ref m_levels, .ref m_row, .ref m_then, .ref m_equations]] [(0, .ref m), (1, .int (zI (n))), (2, .long (zL (kk)))] 25 [.int (zI (-1))]
    refine z_ws (ws' := []) [] rfl rfl ?_
    exact z_iret hC hR dX9_brackets_25 (Nat.le_of_ble_eq_true rfl) (Nat.le_of_ble_eq_true rfl) ⟨-1, rfl, rfl, by omega⟩
  · skip
    refine z_iload_n hC 1 dX9_brackets_14 rfl rfl ?_
    refine z_bipush hC dX9_brackets_15 (by decide) ?_
    refine z_icle hC 26 dX9_brackets_17 (by decide) (by omega) (fun c_3 => ?_) (fun c_3 => ?_)
    · skip
      refine z_aload_n hC 0 dX9_brackets_26 rfl rfl ?_
      refine z_iconst hC dX9_brackets_27 ?_
      refine z_iload_n hC 1 dX9_brackets_28 rfl rfl ?_
      refine z_imul hC (2 * n) dX9_brackets_29 rfl ?_
      refine z_callV hC [.int (zI (2 * n))] 1 0 dX9_brackets_30 (c_X9_fillEnds (zl C) (zD C) (zK C) m m_sheetSort m_sheetMany m_numbers m_dx m_dy m_weight m_isBarred m_walks m_one m_two m_light m_lightThen m_fromX m_fromY m_toX m_toY m_rule m_out m_grid m_heap m_ends m_power m_by2 m_product m_levels m_row m_then m_equations (2 * n) 0 0 m_steps m_kind m_top m_round m_ax m_ay m_bx m_by m_family m_ruleMany m_outs g (by first | assumption | omega)) gX9_brackets_X9_fillEnds rfl rfl rfl ⟨by decide, by decide, by decide +kernel⟩ ⟨(Nat.le_of_ble_eq_true rfl), (Nat.le_of_ble_eq_true rfl)⟩ rfl rfl rfl rfl [0, 1] [2] [wI m_out (zK C).1 64 ou] [] rfl rfl rfl rfl rfl (by decide) (Nat.le_of_ble_eq_true rfl) ⟨(Nat.le_of_ble_eq_true rfl), (Nat.le_of_ble_eq_true rfl)⟩ ?_
      rintro v_ w_ ⟨ge, rfl, rfl, hf⟩
      show ZW C 0 0 [wI m_out (zK C).1 64 ou, wO m 9 [.int (zI (0)), .int (zI (0)), .ref m_sheetSort, .ref m_sheetMany, .ref m_numbers, .int (zI (m_steps)), .int (zI (m_kind)), .int (zI (m_top)), .int (zI (m_round)), .int (zI (m_ax)), .int (zI (m_ay)), .int (zI (m_bx)), .int (zI (m_by)), .ref m_dx, .ref m_dy, .ref m_weight, .ref m_isBarred, .ref m_walks, .ref m_one, .ref m_two, .ref m_light, .ref m_lightThen, .int (zI (m_family)), .ref m_fromX, .ref m_fromY, .ref m_toX, .ref m_toY, .int (zI (m_ruleMany)), .ref m_rule, .ref m_out, .int (zI (m_outs)), .ref m_grid, .ref m_heap, .ref m_ends, .ref m_power, .ref m_by2, .ref m_product, .ref m_levels, .ref m_row, .ref m_then, .ref m_equations], wJ m_ends (zK C).2.2.1 3782 ge] [(0, .ref m), (1, .int (zI (n))), (2, .long (zL (kk)))] 33 []
      refine z_lload_n hC 2 dX9_brackets_33 rfl rfl ?_
      refine z_lconst (v := 0) hC dX9_brackets_34 rfl ?_
      refine z_lclt hC 52 dX9_brackets_35 dX9_brackets_36 (by decide) (by omega) (fun c_4 => ?_) (fun c_4 => ?_)
      · skip
        refine z_aload_n hC 0 dX9_brackets_52 rfl rfl ?_
        refine z_bipush hC dX9_brackets_53 (by decide) ?_
        refine z_callV hC [.int (zI (8))] 1 0 dX9_brackets_55 (c_X9_refuse (zl C) (zD C) (zK C) m m_sheetSort m_sheetMany m_numbers m_dx m_dy m_weight m_isBarred m_walks m_one m_two m_light m_lightThen m_fromX m_fromY m_toX m_toY m_rule m_out m_grid m_heap m_ends m_power m_by2 m_product m_levels m_row m_then m_equations 8 0 0 m_steps m_kind m_top m_round m_ax m_ay m_bx m_by m_family m_ruleMany m_outs ) gX9_brackets_X9_refuse rfl rfl rfl ⟨by decide, by decide, by decide +kernel⟩ ⟨(Nat.le_of_ble_eq_true rfl), (Nat.le_of_ble_eq_true rfl)⟩ rfl rfl rfl rfl [1] [0, 2] [wI m_out (zK C).1 64 ou, wJ m_ends (zK C).2.2.1 3782 ge] [] rfl rfl rfl rfl rfl (by decide) (Nat.le_of_ble_eq_true rfl) ⟨(Nat.le_of_ble_eq_true rfl), (Nat.le_of_ble_eq_true rfl)⟩ ?_
        rintro v_ w_ ⟨rfl, rfl, h_55_5⟩
        show ZW C 0 0 [wI m_out (zK C).1 64 ou, wJ m_ends (zK C).2.2.1 3782 ge, wO m 9 [.int (zI (8)), .int (zI (0)), .ref m_sheetSort, .ref m_sheetMany, .ref m_numbers, .int (zI (m_steps)), .int (zI (m_kind)), .int (zI (m_top)), .int (zI (m_round)), .int (zI (m_ax)), .int (zI (m_ay)), .int (zI (m_bx)), .int (zI (m_by)), .ref m_dx, .ref m_dy, .ref m_weight, .ref m_isBarred, .ref m_walks, .ref m_one, .ref m_two, .ref m_light, .ref m_lightThen, .int (zI (m_family)), .ref m_fromX, .ref m_fromY, .ref m_toX, .ref m_toY, .int (zI (m_ruleMany)), .ref m_rule, .ref m_out, .int (zI (m_outs)), .ref m_grid, .ref m_heap, .ref m_ends, .ref m_power, .ref m_by2, .ref m_product, .ref m_levels, .ref m_row, .ref m_then, .ref m_equations]] [(0, .ref m), (1, .int (zI (n))), (2, .long (zL (kk)))] 58 [.int (zI (-1))]
        refine z_ws (ws' := []) [] rfl rfl ?_
        exact z_iret hC hR dX9_brackets_58 (Nat.le_of_ble_eq_true rfl) (Nat.le_of_ble_eq_true rfl) ⟨-1, rfl, rfl, by omega⟩
      · skip
        refine z_lload_n hC 2 dX9_brackets_39 rfl rfl ?_
        refine z_aload_n hC 0 dX9_brackets_40 rfl rfl ?_
        refine z_iconst hC dX9_brackets_41 ?_
        refine z_iload_n hC 1 dX9_brackets_42 rfl rfl ?_
        refine z_imul hC (2 * n) dX9_brackets_43 rfl ?_
        refine z_iconst hC dX9_brackets_44 ?_
        refine z_callV hC [.int (zI (2 * n)), .int (zI (0))] 2 0 dX9_brackets_45 (c_X9_endsOf (zl C) (zD C) (zK C) m m_sheetSort m_sheetMany m_numbers m_dx m_dy m_weight m_isBarred m_walks m_one m_two m_light m_lightThen m_fromX m_fromY m_toX m_toY m_rule m_out m_grid m_heap m_ends m_power m_by2 m_product m_levels m_row m_then m_equations (2 * n) 0 0 0 m_steps m_kind m_top m_round m_ax m_ay m_bx m_by m_family m_ruleMany m_outs ge (by first | assumption | omega) (by first | assumption | omega)) gX9_brackets_X9_endsOf rfl rfl rfl ⟨by decide, by decide, by decide +kernel⟩ ⟨(Nat.le_of_ble_eq_true rfl), (Nat.le_of_ble_eq_true rfl)⟩ rfl rfl rfl rfl [1, 2] [0] [wI m_out (zK C).1 64 ou] [.long (zL (kk))] rfl rfl rfl rfl rfl (by decide) (Nat.le_of_ble_eq_true rfl) ⟨(Nat.le_of_ble_eq_true rfl), (Nat.le_of_ble_eq_true rfl)⟩ ?_
        rintro v_ w_ ⟨r_6, rfl, rfl, he⟩
        show ZW C 0 0 [wI m_out (zK C).1 64 ou, wO m 9 [.int (zI (0)), .int (zI (0)), .ref m_sheetSort, .ref m_sheetMany, .ref m_numbers, .int (zI (m_steps)), .int (zI (m_kind)), .int (zI (m_top)), .int (zI (m_round)), .int (zI (m_ax)), .int (zI (m_ay)), .int (zI (m_bx)), .int (zI (m_by)), .ref m_dx, .ref m_dy, .ref m_weight, .ref m_isBarred, .ref m_walks, .ref m_one, .ref m_two, .ref m_light, .ref m_lightThen, .int (zI (m_family)), .ref m_fromX, .ref m_fromY, .ref m_toX, .ref m_toY, .int (zI (m_ruleMany)), .ref m_rule, .ref m_out, .int (zI (m_outs)), .ref m_grid, .ref m_heap, .ref m_ends, .ref m_power, .ref m_by2, .ref m_product, .ref m_levels, .ref m_row, .ref m_then, .ref m_equations], wJ m_ends (zK C).2.2.1 3782 ge] [(0, .ref m), (1, .int (zI (n))), (2, .long (zL (kk)))] 48 [.long (zL (r_6)), .long (zL (kk))]
        have e1 := hf (2 * n) 0 (by omega) (by omega) (by omega) (by omega)
        have he3 := bE_r (l := (2 * n).toNat) (by omega) 0
        refine z_lclt hC 59 dX9_brackets_48 dX9_brackets_49 (by decide) (by omega) (fun c_7 => ?_) (fun c_7 => ?_)
        · skip
          refine z_aload_n hC 0 dX9_brackets_59 rfl rfl ?_
          refine z_iconst hC dX9_brackets_60 ?_
          refine z_iload_n hC 1 dX9_brackets_61 rfl rfl ?_
          refine z_imul hC (2 * n) dX9_brackets_62 rfl ?_
          refine z_put hC (T := TX9) (N := 41) hinX9 tyX9_ok nmX9 1 30 [wI m_out (zK C).1 64 ou, wO m 9 [.int (zI (0)), .int (zI (0)), .ref m_sheetSort, .ref m_sheetMany, .ref m_numbers, .int (zI (m_steps)), .int (zI (m_kind)), .int (zI (m_top)), .int (zI (m_round)), .int (zI (m_ax)), .int (zI (m_ay)), .int (zI (m_bx)), .int (zI (m_by)), .ref m_dx, .ref m_dy, .ref m_weight, .ref m_isBarred, .ref m_walks, .ref m_one, .ref m_two, .ref m_light, .ref m_lightThen, .int (zI (m_family)), .ref m_fromX, .ref m_fromY, .ref m_toX, .ref m_toY, .int (zI (m_ruleMany)), .ref m_rule, .ref m_out, .int (zI (2 * n)), .ref m_grid, .ref m_heap, .ref m_ends, .ref m_power, .ref m_by2, .ref m_product, .ref m_levels, .ref m_row, .ref m_then, .ref m_equations], wJ m_ends (zK C).2.2.1 3782 ge] dX9_brackets_63 rfl rfl (by decide) (List.mem_of_getElem? (i := 3) rfl) rfl rfl rfl rfl (Nat.le_of_ble_eq_true rfl) rfl ?_
          refine z_lload_n hC 2 dX9_brackets_66 rfl rfl ?_
          refine z_lstore hC [(4, .long (zL (kk))), (0, .ref m), (1, .int (zI (n))), (2, .long (zL (kk)))] dX9_brackets_67 (by decide) rfl ?_
          refine z_iconst hC dX9_brackets_69 ?_
          refine z_istore hC [(6, .int (zI (0))), (4, .long (zL (kk))), (0, .ref m), (1, .int (zI (n))), (2, .long (zL (kk)))] dX9_brackets_70 (by decide) rfl ?_
          refine z_iconst hC dX9_brackets_72 ?_
          refine z_istore hC [(7, .int (zI (0))), (6, .int (zI (0))), (4, .long (zL (kk))), (0, .ref m), (1, .int (zI (n))), (2, .long (zL (kk)))] dX9_brackets_73 (by decide) rfl ?_
          refine z_lv (lv' := [(0, .ref m), (1, .int (zI (n))), (2, .long (zL (kk))), (4, .long (zL (kk))), (6, .int (zI (0))), (7, .int (zI (0)))]) [3, 4, 5, 2, 1, 0] rfl ?_
          have lp75_8 : ∀ (f10 : Nat) (rest : Int) (op : Int) (i : Int) (q : Int → Int), (0 ≤ i ∧ i ≤ 2 * n) → (-i ≤ op ∧ op ≤ i) → (0 ≤ rest ∧ rest < 9223372036854775808) → (2 * n - i).toNat < f10 → ZW C 0 0 [wI m_out (zK C).1 64 q, wO m 9 [.int (zI (0)), .int (zI (0)), .ref m_sheetSort, .ref m_sheetMany, .ref m_numbers, .int (zI (m_steps)), .int (zI (m_kind)), .int (zI (m_top)), .int (zI (m_round)), .int (zI (m_ax)), .int (zI (m_ay)), .int (zI (m_bx)), .int (zI (m_by)), .ref m_dx, .ref m_dy, .ref m_weight, .ref m_isBarred, .ref m_walks, .ref m_one, .ref m_two, .ref m_light, .ref m_lightThen, .int (zI (m_family)), .ref m_fromX, .ref m_fromY, .ref m_toX, .ref m_toY, .int (zI (m_ruleMany)), .ref m_rule, .ref m_out, .int (zI (2 * n)), .ref m_grid, .ref m_heap, .ref m_ends, .ref m_power, .ref m_by2, .ref m_product, .ref m_levels, .ref m_row, .ref m_then, .ref m_equations], wJ m_ends (zK C).2.2.1 3782 ge] [(0, .ref m), (1, .int (zI (n))), (2, .long (zL (kk))), (4, .long (zL (rest))), (6, .int (zI (op))), (7, .int (zI (i)))] 75 [] := by
            intro f10
            induction f10 with
            | zero => intro _ _ _ _ _ _ _ hf; exact absurd hf (Nat.not_lt_zero _)
            | succ f10 ih75_9 =>
              intro rest op i q vi vo vr hf_75
              refine z_iload hC 5 dX9_brackets_75 rfl ?_
              refine z_iconst hC dX9_brackets_77 ?_
              refine z_iload_n hC 1 dX9_brackets_78 rfl rfl ?_
              refine z_imul hC (2 * n) dX9_brackets_79 rfl ?_
              refine z_icge hC 169 dX9_brackets_80 (by decide) (by omega) (fun c_11 => ?_) (fun c_11 => ?_)
              · skip
                refine z_aload_n hC 0 dX9_brackets_169 rfl rfl ?_
                refine z_get hC (T := TX9) (N := 41) hinX9 1 30 dX9_brackets_170 rfl rfl (by decide) (List.mem_of_getElem? (i := 3) rfl) rfl rfl ?_
                refine z_ws (ws' := []) [] rfl rfl ?_
                exact z_iret hC hR dX9_brackets_173 (Nat.le_of_ble_eq_true rfl) (Nat.le_of_ble_eq_true rfl) ⟨2 * n, rfl, rfl, by omega⟩
              · skip
                refine z_aload_n hC 0 dX9_brackets_83 rfl rfl ?_
                refine z_iconst hC dX9_brackets_84 ?_
                refine z_iload_n hC 1 dX9_brackets_85 rfl rfl ?_
                refine z_imul hC (2 * n) dX9_brackets_86 rfl ?_
                refine z_iconst hC dX9_brackets_87 ?_
                refine z_isub hC ((2 * n) - 1) dX9_brackets_88 rfl ?_
                refine z_iload hC 5 dX9_brackets_89 rfl ?_
                refine z_isub hC (((2 * n) - 1) - i) dX9_brackets_91 rfl ?_
                refine z_iload hC 4 dX9_brackets_92 rfl ?_
                refine z_iconst hC dX9_brackets_94 ?_
                refine z_iadd hC (op + 1) dX9_brackets_95 rfl ?_
                refine z_callV hC [.int (zI (((2 * n) - 1) - i)), .int (zI (op + 1))] 2 0 dX9_brackets_96 (c_X9_endsOf (zl C) (zD C) (zK C) m m_sheetSort m_sheetMany m_numbers m_dx m_dy m_weight m_isBarred m_walks m_one m_two m_light m_lightThen m_fromX m_fromY m_toX m_toY m_rule m_out m_grid m_heap m_ends m_power m_by2 m_product m_levels m_row m_then m_equations (((2 * n) - 1) - i) (op + 1) 0 0 m_steps m_kind m_top m_round m_ax m_ay m_bx m_by m_family m_ruleMany (2 * n) ge (by first | assumption | omega) (by first | assumption | omega)) gX9_brackets_X9_endsOf rfl rfl rfl ⟨by decide, by decide, by decide +kernel⟩ ⟨(Nat.le_of_ble_eq_true rfl), (Nat.le_of_ble_eq_true rfl)⟩ rfl rfl rfl rfl [1, 2] [0] [wI m_out (zK C).1 64 q] [] rfl rfl rfl rfl rfl (by decide) (Nat.le_of_ble_eq_true rfl) ⟨(Nat.le_of_ble_eq_true rfl), (Nat.le_of_ble_eq_true rfl)⟩ ?_
                rintro v_ w_ ⟨ew, rfl, rfl, hw⟩
                show ZW C 0 0 [wI m_out (zK C).1 64 q, wO m 9 [.int (zI (0)), .int (zI (0)), .ref m_sheetSort, .ref m_sheetMany, .ref m_numbers, .int (zI (m_steps)), .int (zI (m_kind)), .int (zI (m_top)), .int (zI (m_round)), .int (zI (m_ax)), .int (zI (m_ay)), .int (zI (m_bx)), .int (zI (m_by)), .ref m_dx, .ref m_dy, .ref m_weight, .ref m_isBarred, .ref m_walks, .ref m_one, .ref m_two, .ref m_light, .ref m_lightThen, .int (zI (m_family)), .ref m_fromX, .ref m_fromY, .ref m_toX, .ref m_toY, .int (zI (m_ruleMany)), .ref m_rule, .ref m_out, .int (zI (2 * n)), .ref m_grid, .ref m_heap, .ref m_ends, .ref m_power, .ref m_by2, .ref m_product, .ref m_levels, .ref m_row, .ref m_then, .ref m_equations], wJ m_ends (zK C).2.2.1 3782 ge] [(0, .ref m), (1, .int (zI (n))), (2, .long (zL (kk))), (4, .long (zL (rest))), (6, .int (zI (op))), (7, .int (zI (i)))] 99 [.long (zL (ew))]
                have ew_r := ends_r hf hw (by omega) (by omega)
                refine z_lstore hC [(8, .long (zL (ew))), (0, .ref m), (1, .int (zI (n))), (2, .long (zL (kk))), (4, .long (zL (rest))), (6, .int (zI (op))), (7, .int (zI (i)))] dX9_brackets_99 (by decide) rfl ?_
                refine z_lload hC 4 dX9_brackets_101 rfl ?_
                refine z_lload hC 0 dX9_brackets_103 rfl ?_
                refine z_lcge hC 113 dX9_brackets_105 dX9_brackets_106 (by decide) (by omega) (fun c_12 => ?_) (fun c_12 => ?_)
                · skip
                  refine z_iconst hC dX9_brackets_113 ?_
                  refine z_istore hC [(10, .int (zI (0))), (8, .long (zL (ew))), (0, .ref m), (1, .int (zI (n))), (2, .long (zL (kk))), (4, .long (zL (rest))), (6, .int (zI (op))), (7, .int (zI (i)))] dX9_brackets_114 (by decide) rfl ?_
                  refine z_iload hC 0 dX9_brackets_116 rfl ?_
                  refine z_ifne hC 128 dX9_brackets_118 (by decide) (by omega) (fun c_13 => by exfalso; omega) (fun c_13 => ?_)
                  refine z_lload hC 5 dX9_brackets_121 rfl ?_
                  refine z_lload hC 1 dX9_brackets_123 rfl ?_
                  refine z_lsub hC (rest - ew) dX9_brackets_125 rfl ?_
                  refine z_lstore hC [(4, .long (zL (rest - ew))), (10, .int (zI (0))), (8, .long (zL (ew))), (0, .ref m), (1, .int (zI (n))), (2, .long (zL (kk))), (6, .int (zI (op))), (7, .int (zI (i)))] dX9_brackets_126 (by decide) rfl ?_
                  refine z_aload_n hC 3 dX9_brackets_128 rfl rfl ?_
                  refine z_get hC (T := TX9) (N := 41) hinX9 1 29 dX9_brackets_129 rfl rfl (by decide) (List.mem_of_getElem? (i := 4) rfl) rfl rfl ?_
                  refine z_iload hC 7 dX9_brackets_132 rfl ?_
                  refine z_iload hC 1 dX9_brackets_134 rfl ?_
                  refine z_ifeq hC 144 dX9_brackets_136 (by decide) (by omega) (fun c_14 => ?_) (fun c_14 => by exfalso; omega)
                  refine z_bipush hC dX9_brackets_144 (by decide) ?_
                  refine z_i2b hC dX9_brackets_146 (by omega) ?_
                  refine z_bast hC 0 [wI m_out (zK C).1 64 (zu q i 41), wO m 9 [.int (zI (0)), .int (zI (0)), .ref m_sheetSort, .ref m_sheetMany, .ref m_numbers, .int (zI (m_steps)), .int (zI (m_kind)), .int (zI (m_top)), .int (zI (m_round)), .int (zI (m_ax)), .int (zI (m_ay)), .int (zI (m_bx)), .int (zI (m_by)), .ref m_dx, .ref m_dy, .ref m_weight, .ref m_isBarred, .ref m_walks, .ref m_one, .ref m_two, .ref m_light, .ref m_lightThen, .int (zI (m_family)), .ref m_fromX, .ref m_fromY, .ref m_toX, .ref m_toY, .int (zI (m_ruleMany)), .ref m_rule, .ref m_out, .int (zI (2 * n)), .ref m_grid, .ref m_heap, .ref m_ends, .ref m_power, .ref m_by2, .ref m_product, .ref m_levels, .ref m_row, .ref m_then, .ref m_equations], wJ m_ends (zK C).2.2.1 3782 ge] dX9_brackets_147 rfl (by omega) (by omega) rfl ?_
                  refine z_iload hC 6 dX9_brackets_148 rfl ?_
                  refine z_iload hC 1 dX9_brackets_150 rfl ?_
                  refine z_ifeq hC 159 dX9_brackets_152 (by decide) (by omega) (fun c_15 => ?_) (fun c_15 => by exfalso; omega)
                  refine z_iconst hC dX9_brackets_159 ?_
                  refine z_iadd hC (op - 1) dX9_brackets_160 (by omega) ?_
                  refine z_istore hC [(6, .int (zI (op - 1))), (4, .long (zL (rest - ew))), (10, .int (zI (0))), (8, .long (zL (ew))), (0, .ref m), (1, .int (zI (n))), (2, .long (zL (kk))), (7, .int (zI (i)))] dX9_brackets_161 (by decide) rfl ?_
                  refine z_iinc (a := i) (v := 1) (r := i + 1) hC 7 [(7, .int (zI (i + 1))), (6, .int (zI (op - 1))), (4, .long (zL (rest - ew))), (10, .int (zI (0))), (8, .long (zL (ew))), (0, .ref m), (1, .int (zI (n))), (2, .long (zL (kk)))] dX9_brackets_163 rfl rfl (by decide) rfl ?_
                  refine z_goto hC 75 dX9_brackets_166 (by decide) ?_
                  refine z_lv (lv' := [(0, .ref m), (1, .int (zI (n))), (2, .long (zL (kk))), (4, .long (zL (rest - ew))), (6, .int (zI (op - 1))), (7, .int (zI (i + 1)))]) [5, 6, 7, 2, 1, 0] rfl ?_
                  exact ih75_9 (rest - ew) (op - 1) (i + 1) (zu q i 41) (by omega) (by omega) (by omega) (by omega)
                · skip
                  refine z_iconst hC dX9_brackets_109 ?_
                  refine z_goto hC 114 dX9_brackets_110 (by decide) ?_
                  refine z_istore hC [(10, .int (zI (1))), (8, .long (zL (ew))), (0, .ref m), (1, .int (zI (n))), (2, .long (zL (kk))), (4, .long (zL (rest))), (6, .int (zI (op))), (7, .int (zI (i)))] dX9_brackets_114 (by decide) rfl ?_
                  refine z_iload hC 0 dX9_brackets_116 rfl ?_
                  refine z_ifne hC 128 dX9_brackets_118 (by decide) (by omega) (fun c_16 => ?_) (fun c_16 => by exfalso; omega)
                  refine z_aload_n hC 2 dX9_brackets_128 rfl rfl ?_
                  refine z_get hC (T := TX9) (N := 41) hinX9 1 29 dX9_brackets_129 rfl rfl (by decide) (List.mem_of_getElem? (i := 4) rfl) rfl rfl ?_
                  refine z_iload hC 7 dX9_brackets_132 rfl ?_
                  refine z_iload hC 0 dX9_brackets_134 rfl ?_
                  refine z_ifeq hC 144 dX9_brackets_136 (by decide) (by omega) (fun c_17 => by exfalso; omega) (fun c_17 => ?_)
                  refine z_bipush hC dX9_brackets_139 (by decide) ?_
                  refine z_goto hC 146 dX9_brackets_141 (by decide) ?_
                  refine z_i2b hC dX9_brackets_146 (by omega) ?_
                  refine z_bast hC 0 [wI m_out (zK C).1 64 (zu q i 40), wO m 9 [.int (zI (0)), .int (zI (0)), .ref m_sheetSort, .ref m_sheetMany, .ref m_numbers, .int (zI (m_steps)), .int (zI (m_kind)), .int (zI (m_top)), .int (zI (m_round)), .int (zI (m_ax)), .int (zI (m_ay)), .int (zI (m_bx)), .int (zI (m_by)), .ref m_dx, .ref m_dy, .ref m_weight, .ref m_isBarred, .ref m_walks, .ref m_one, .ref m_two, .ref m_light, .ref m_lightThen, .int (zI (m_family)), .ref m_fromX, .ref m_fromY, .ref m_toX, .ref m_toY, .int (zI (m_ruleMany)), .ref m_rule, .ref m_out, .int (zI (2 * n)), .ref m_grid, .ref m_heap, .ref m_ends, .ref m_power, .ref m_by2, .ref m_product, .ref m_levels, .ref m_row, .ref m_then, .ref m_equations], wJ m_ends (zK C).2.2.1 3782 ge] dX9_brackets_147 rfl (by omega) (by omega) rfl ?_
                  refine z_iload hC 6 dX9_brackets_148 rfl ?_
                  refine z_iload hC 0 dX9_brackets_150 rfl ?_
                  refine z_ifeq hC 159 dX9_brackets_152 (by decide) (by omega) (fun c_18 => by exfalso; omega) (fun c_18 => ?_)
                  refine z_iconst hC dX9_brackets_155 ?_
                  refine z_goto hC 160 dX9_brackets_156 (by decide) ?_
                  refine z_iadd hC (op + 1) dX9_brackets_160 rfl ?_
                  refine z_istore hC [(6, .int (zI (op + 1))), (10, .int (zI (1))), (8, .long (zL (ew))), (0, .ref m), (1, .int (zI (n))), (2, .long (zL (kk))), (4, .long (zL (rest))), (7, .int (zI (i)))] dX9_brackets_161 (by decide) rfl ?_
                  refine z_iinc (a := i) (v := 1) (r := i + 1) hC 7 [(7, .int (zI (i + 1))), (6, .int (zI (op + 1))), (10, .int (zI (1))), (8, .long (zL (ew))), (0, .ref m), (1, .int (zI (n))), (2, .long (zL (kk))), (4, .long (zL (rest)))] dX9_brackets_163 rfl rfl (by decide) rfl ?_
                  refine z_goto hC 75 dX9_brackets_166 (by decide) ?_
                  refine z_lv (lv' := [(0, .ref m), (1, .int (zI (n))), (2, .long (zL (kk))), (4, .long (zL (rest))), (6, .int (zI (op + 1))), (7, .int (zI (i + 1)))]) [4, 5, 6, 7, 1, 0] rfl ?_
                  exact ih75_9 rest (op + 1) (i + 1) (zu q i 40) (by omega) (by omega) (by omega) (by omega)
          exact lp75_8 _ kk 0 0 ou (by omega) (by omega) (by omega) (Nat.lt_succ_self _)
        · skip
          refine z_aload_n hC 0 dX9_brackets_52 rfl rfl ?_
          refine z_bipush hC dX9_brackets_53 (by decide) ?_
          refine z_callV hC [.int (zI (8))] 1 0 dX9_brackets_55 (c_X9_refuse (zl C) (zD C) (zK C) m m_sheetSort m_sheetMany m_numbers m_dx m_dy m_weight m_isBarred m_walks m_one m_two m_light m_lightThen m_fromX m_fromY m_toX m_toY m_rule m_out m_grid m_heap m_ends m_power m_by2 m_product m_levels m_row m_then m_equations 8 0 0 m_steps m_kind m_top m_round m_ax m_ay m_bx m_by m_family m_ruleMany m_outs ) gX9_brackets_X9_refuse rfl rfl rfl ⟨by decide, by decide, by decide +kernel⟩ ⟨(Nat.le_of_ble_eq_true rfl), (Nat.le_of_ble_eq_true rfl)⟩ rfl rfl rfl rfl [1] [0, 2] [wI m_out (zK C).1 64 ou, wJ m_ends (zK C).2.2.1 3782 ge] [] rfl rfl rfl rfl rfl (by decide) (Nat.le_of_ble_eq_true rfl) ⟨(Nat.le_of_ble_eq_true rfl), (Nat.le_of_ble_eq_true rfl)⟩ ?_
          rintro v_ w_ ⟨rfl, rfl, h_55_19⟩
          show ZW C 0 0 [wI m_out (zK C).1 64 ou, wJ m_ends (zK C).2.2.1 3782 ge, wO m 9 [.int (zI (8)), .int (zI (0)), .ref m_sheetSort, .ref m_sheetMany, .ref m_numbers, .int (zI (m_steps)), .int (zI (m_kind)), .int (zI (m_top)), .int (zI (m_round)), .int (zI (m_ax)), .int (zI (m_ay)), .int (zI (m_bx)), .int (zI (m_by)), .ref m_dx, .ref m_dy, .ref m_weight, .ref m_isBarred, .ref m_walks, .ref m_one, .ref m_two, .ref m_light, .ref m_lightThen, .int (zI (m_family)), .ref m_fromX, .ref m_fromY, .ref m_toX, .ref m_toY, .int (zI (m_ruleMany)), .ref m_rule, .ref m_out, .int (zI (m_outs)), .ref m_grid, .ref m_heap, .ref m_ends, .ref m_power, .ref m_by2, .ref m_product, .ref m_levels, .ref m_row, .ref m_then, .ref m_equations]] [(0, .ref m), (1, .int (zI (n))), (2, .long (zL (kk)))] 58 [.int (zI (-1))]
          refine z_ws (ws' := []) [] rfl rfl ?_
          exact z_iret hC hR dX9_brackets_58 (Nat.le_of_ble_eq_true rfl) (Nat.le_of_ble_eq_true rfl) ⟨-1, rfl, rfl, by omega⟩
    · skip
      refine z_aload_n hC 0 dX9_brackets_20 rfl rfl ?_
      refine z_iconst hC dX9_brackets_21 ?_
      refine z_callV hC [.int (zI (2))] 1 0 dX9_brackets_22 (c_X9_refuse (zl C) (zD C) (zK C) m m_sheetSort m_sheetMany m_numbers m_dx m_dy m_weight m_isBarred m_walks m_one m_two m_light m_lightThen m_fromX m_fromY m_toX m_toY m_rule m_out m_grid m_heap m_ends m_power m_by2 m_product m_levels m_row m_then m_equations 2 0 0 m_steps m_kind m_top m_round m_ax m_ay m_bx m_by m_family m_ruleMany m_outs ) gX9_brackets_X9_refuse rfl rfl rfl ⟨by decide, by decide, by decide +kernel⟩ ⟨(Nat.le_of_ble_eq_true rfl), (Nat.le_of_ble_eq_true rfl)⟩ rfl rfl rfl rfl [0] [1, 2] [wJ m_ends (zK C).2.2.1 3782 g, wI m_out (zK C).1 64 ou] [] rfl rfl rfl rfl rfl (by decide) (Nat.le_of_ble_eq_true rfl) ⟨(Nat.le_of_ble_eq_true rfl), (Nat.le_of_ble_eq_true rfl)⟩ ?_
      rintro v_ w_ ⟨rfl, rfl, h_22_20⟩
      show ZW C 0 0 [wJ m_ends (zK C).2.2.1 3782 g, wI m_out (zK C).1 64 ou, wO m 9 [.int (zI (2)), .int (zI (0)), .ref m_sheetSort, .ref m_sheetMany, .ref m_numbers, .int (zI (m_steps)), .int (zI (m_kind)), .int (zI (m_top)), .int (zI (m_round)), .int (zI (m_ax)), .int (zI (m_ay)), .int (zI (m_bx)), .int (zI (m_by)), .ref m_dx, .ref m_dy, .ref m_weight, .ref m_isBarred, .ref m_walks, .ref m_one, .ref m_two, .ref m_light, .ref m_lightThen, .int (zI (m_family)), .ref m_fromX, .ref m_fromY, .ref m_toX, .ref m_toY, .int (zI (m_ruleMany)), .ref m_rule, .ref m_out, .int (zI (m_outs)), .ref m_grid, .ref m_heap, .ref m_ends, .ref m_power, .ref m_by2, .ref m_product, .ref m_levels, .ref m_row, .ref m_then, .ref m_equations]] [(0, .ref m), (1, .int (zI (n))), (2, .long (zL (kk)))] 25 [.int (zI (-1))]
      refine z_ws (ws' := []) [] rfl rfl ?_
      exact z_iret hC hR dX9_brackets_25 (Nat.le_of_ble_eq_true rfl) (Nat.le_of_ble_eq_true rfl) ⟨-1, rfl, rfl, by omega⟩
