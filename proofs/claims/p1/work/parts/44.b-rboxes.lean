def badB (B v b : Int) : Prop := ∃ i, 1 ≤ i ∧ i < b ∧ dgB B v (i - 1) < dgB B v i
theorem box_gt {bb c v good k2 : Int} (hc : 0 ≤ c) (hk : bb ≤ k2) (vg : (good = 1 ∧ 0 ≤ k2 ∧ k2 ≤ bb) ∨ (good = 0 ∧ k2 = bb + 1)) (vo : good = 0 ∨ (∀ i, 1 ≤ i → i < k2 → dgB (c + 1) v i ≤ dgB (c + 1) v (i - 1))) (vb : good = 1 ∨ badB (c + 1) v bb) : (good = 1 ∧ gtB (c + 1) bb.toNat c v = true) ∨ (good = 0 ∧ gtB (c + 1) bb.toNat c v = false) := by
  rcases vg with ⟨q, _, q3⟩ | ⟨q, _⟩
  · refine Or.inl ⟨q, gt_yes rfl hc (fun i i0 i1 => ?_)⟩
    rcases vo with w | w
    · omega
    · exact w i i0 (by omega)
  · refine Or.inr ⟨q, gt_no ?_⟩
    rcases vb with w | w
    · omega
    · exact w
theorem box_hr {H : Int → Int} {bb c rows v : Int} (hb : 0 ≤ bb ∧ bb ≤ 6 ∧ 0 ≤ c ∧ c ≤ 6 ∧ 0 ≤ v) (hr : rows = cntG (c + 1) bb.toNat c v.toNat) (hH : hpOK H (c + 1) bb.toNat c v) : ∀ j k, 0 ≤ j → j < rows → 0 ≤ k → k < bb → 0 ≤ H (6 * j + k) ∧ H (6 * j + k) ≤ 6 := by
  have key : ∀ n : Nat, ∀ j : Int, 0 ≤ j → j < cntG (c + 1) bb.toNat c n → ∃ u : Int, 0 ≤ u ∧ u < n ∧ gtB (c + 1) bb.toNat c u = true ∧ j = cntG (c + 1) bb.toNat c u.toNat := by
    intro n
    induction n with
    | zero => intro j h0 h1; exact absurd h1 (by show ¬ j < 0; omega)
    | succ n ih =>
      intro j h0 h1
      cases e : gtB (c + 1) bb.toNat c (n : Int) with
      | true =>
        have e2 : cntG (c + 1) bb.toNat c (n + 1) = cntG (c + 1) bb.toNat c n + 1 := cntG_yes (v := n) (by omega) e
        by_cases q : j = cntG (c + 1) bb.toNat c n
        · exact ⟨n, by omega, by omega, e, q⟩
        · obtain ⟨u, a, b, d, f⟩ := ih j h0 (by omega)
          exact ⟨u, a, by omega, d, f⟩
      | false =>
        have e2 : cntG (c + 1) bb.toNat c (n + 1) = cntG (c + 1) bb.toNat c n := cntG_no (v := n) (by omega) e
        obtain ⟨u, a, b, d, f⟩ := ih j h0 (by omega)
        exact ⟨u, a, by omega, d, f⟩
  intro j k j0 j1 k0 k1
  obtain ⟨u, u0, u1, ug, rfl⟩ := key v.toNat j j0 (by omega)
  rw [hH u k u0 (by omega) ug k0 (by omega)]
  have := dgB_r (B := c + 1) (v := u) (k := k) (by omega)
  omega
theorem box_vh {H H2 : Int → Int} {bb c rows v k2 good : Int} (hb : 0 ≤ bb ∧ bb ≤ 6 ∧ 0 ≤ v ∧ bb ≤ k2) (hr : rows = cntG (c + 1) bb.toNat c v.toNat) (hH : hpOK H (c + 1) bb.toNat c v) (hp : ∀ j, j < 6 * rows → H2 j = H j)
    (hg : (good = 1 ∧ gtB (c + 1) bb.toNat c v = true) ∨ (good = 0 ∧ gtB (c + 1) bb.toNat c v = false)) (hd : ∀ i, 0 ≤ i → i < k2 → i < bb → good = 1 → H2 (6 * rows + i) = dgB (c + 1) v i) (_ : 0 ≤ v) : hpOK H2 (c + 1) bb.toNat c (v + 1) := by
  intro u k u0 u1 ug k0 k1
  by_cases e : u = v
  · subst e
    rw [← hr]
    rcases hg with ⟨q, _⟩ | ⟨_, q⟩
    · exact hd k k0 (by omega) (by omega) q
    · rw [q] at ug
      cases ug
  · have h1 := cntG_lt (B := c + 1) (b := bb.toNat) (top := c) (u := u) (v := v) u0 (by omega) ug
    rw [hp _ (by omega)]
    exact hH u k u0 (by omega) ug k0 k1
theorem fR_s {H o : Int → Int} {bb rows ka r q : Int} (hk : 1 ≤ ka) (hq : rows = q) (ho : ∀ j, 0 ≤ j → j < rows → o j = fR H bb.toNat rows.toNat (ka - 1).toNat j) : sumZ (fun q => if undB H r q bb.toNat = true then o q else 0) q.toNat = fR H bb.toNat rows.toNat ka.toNat r := by
  rw [show ka.toNat = (ka - 1).toNat + 1 by omega, ← hq]
  show _ = sumZ (fun q => if undB H r q bb.toNat = true then fR H bb.toNat rows.toNat (ka - 1).toNat q else 0) rows.toNat
  refine sumZ_cong (fun k k0 k1 => ?_)
  rw [ho k k0 (by omega)]
theorem fR_step {H o : Int → Int} {r q A A2 : Int} {b : Nat} (hq : 0 ≤ q) (h : A = sumZ (fun q => if undB H r q b = true then o q else 0) q.toNat) (h2 : (undB H r q b = false ∧ A2 = A) ∨ (undB H r q b = true ∧ A2 = A + o q)) : A2 = sumZ (fun q => if undB H r q b = true then o q else 0) (q + 1).toNat := by
  rw [sumZ_s hq, ← h]
  rcases h2 with ⟨a, b⟩ | ⟨a, b⟩
  · rw [if_neg (by rw [a]; exact Bool.false_ne_true), b]
    omega
  · rw [if_pos a, b]
set_option maxHeartbeats 4000000 in
set_option maxRecDepth 100000 in
theorem c_X9_isUnder (l : Launch) (D : va_G) (K : ClassId × ClassId × ClassId × ClassId) (m m_sheetSort m_sheetMany m_numbers m_dx m_dy m_weight m_isBarred m_walks m_one m_two m_light m_lightThen m_fromX m_fromY m_toX m_toY m_rule m_out m_grid m_heap m_ends m_power m_by2 m_product m_levels m_row m_then m_equations : Nat) (rr qq bb m_status m_thrown m_steps m_kind m_top m_round m_ax m_ay m_bx m_by m_family m_ruleMany m_outs : Int) (H : Int → Int) (hi : 0 ≤ rr ∧ rr < 924 ∧ 0 ≤ qq ∧ qq < 924 ∧ 0 ≤ bb ∧ bb ≤ 6) (hH : ∀ j k, 0 ≤ j → j < 924 → 0 ≤ k → k < bb → j = rr ∨ j = qq → 0 ≤ H (6 * j + k) ∧ H (6 * j + k) ≤ 6) : zMet l D K yX9_isUnder wsX9_isUnder ({ frames := 0, cells := 0, slots := 0, locals := 0 }) 0 0 [.ref m, .int (zI (rr)), .int (zI (qq)), .int (zI (bb))] [wO m 9 [.int (zI (m_status)), .int (zI (m_thrown)), .ref m_sheetSort, .ref m_sheetMany, .ref m_numbers, .int (zI (m_steps)), .int (zI (m_kind)), .int (zI (m_top)), .int (zI (m_round)), .int (zI (m_ax)), .int (zI (m_ay)), .int (zI (m_bx)), .int (zI (m_by)), .ref m_dx, .ref m_dy, .ref m_weight, .ref m_isBarred, .ref m_walks, .ref m_one, .ref m_two, .ref m_light, .ref m_lightThen, .int (zI (m_family)), .ref m_fromX, .ref m_fromY, .ref m_toX, .ref m_toY, .int (zI (m_ruleMany)), .ref m_rule, .ref m_out, .int (zI (m_outs)), .ref m_grid, .ref m_heap, .ref m_ends, .ref m_power, .ref m_by2, .ref m_product, .ref m_levels, .ref m_row, .ref m_then, .ref m_equations], wI m_heap K.2.1 5550 H] (fun vr_ wr_ => ∃ (r : Int), vr_ = some (.int (zI (r))) ∧ wr_ = [wO m 9 [.int (zI (m_status)), .int (zI (m_thrown)), .ref m_sheetSort, .ref m_sheetMany, .ref m_numbers, .int (zI (m_steps)), .int (zI (m_kind)), .int (zI (m_top)), .int (zI (m_round)), .int (zI (m_ax)), .int (zI (m_ay)), .int (zI (m_bx)), .int (zI (m_by)), .ref m_dx, .ref m_dy, .ref m_weight, .ref m_isBarred, .ref m_walks, .ref m_one, .ref m_two, .ref m_light, .ref m_lightThen, .int (zI (m_family)), .ref m_fromX, .ref m_fromY, .ref m_toX, .ref m_toY, .int (zI (m_ruleMany)), .ref m_rule, .ref m_out, .int (zI (m_outs)), .ref m_grid, .ref m_heap, .ref m_ends, .ref m_power, .ref m_by2, .ref m_product, .ref m_levels, .ref m_row, .ref m_then, .ref m_equations], wI m_heap K.2.1 5550 H] ∧ ((undB H rr qq bb.toNat = true ∧ r = 1) ∨ (undB H rr qq bb.toNat = false ∧ r = 0))) := by
  refine zMet_of (cc := cX9_isUnder) (nL := 5) (ret := (some .boolean)) (by decide) rfl (Nat.le_of_ble_eq_true rfl) ?_
  rintro C rfl rfl rfl hC hR
  have hinX9 : ∀ w ∈ u_ws RX9 TX9 41, w ∈ wsX9_isUnder := by decide +kernel
  show ZW C 0 0 [wO m 9 [.int (zI (m_status)), .int (zI (m_thrown)), .ref m_sheetSort, .ref m_sheetMany, .ref m_numbers, .int (zI (m_steps)), .int (zI (m_kind)), .int (zI (m_top)), .int (zI (m_round)), .int (zI (m_ax)), .int (zI (m_ay)), .int (zI (m_bx)), .int (zI (m_by)), .ref m_dx, .ref m_dy, .ref m_weight, .ref m_isBarred, .ref m_walks, .ref m_one, .ref m_two, .ref m_light, .ref m_lightThen, .int (zI (m_family)), .ref m_fromX, .ref m_fromY, .ref m_toX, .ref m_toY, .int (zI (m_ruleMany)), .ref m_rule, .ref m_out, .int (zI (m_outs)), .ref m_grid, .ref m_heap, .ref m_ends, .ref m_power, .ref m_by2, .ref m_product, .ref m_levels, .ref m_row, .ref m_then, .ref m_equations], wI m_heap (zK C).2.1 5550 H] [(0, .ref m), (1, .int (zI (rr))), (2, .int (zI (qq))), (3, .int (zI (bb)))] 0 []
  refine z_iconst hC dX9_isUnder_0 ?_
  refine z_istore hC [(4, .int (zI (0))), (0, .ref m), (1, .int (zI (rr))), (2, .int (zI (qq))), (3, .int (zI (bb)))] dX9_isUnder_1 (by decide) rfl ?_
  refine z_lv (lv' := [(0, .ref m), (1, .int (zI (rr))), (2, .int (zI (qq))), (3, .int (zI (bb))), (4, .int (zI (0)))]) [1, 2, 3, 4, 0] rfl ?_
  have lp3_1 : ∀ (f3 : Nat) (k : Int), (0 ≤ k ∧ k ≤ bb) → (∀ i, 0 ≤ i → i < k → H (6 * rr + i) ≤ H (6 * qq + i)) → (bb - k).toNat < f3 → ZW C 0 0 [wO m 9 [.int (zI (m_status)), .int (zI (m_thrown)), .ref m_sheetSort, .ref m_sheetMany, .ref m_numbers, .int (zI (m_steps)), .int (zI (m_kind)), .int (zI (m_top)), .int (zI (m_round)), .int (zI (m_ax)), .int (zI (m_ay)), .int (zI (m_bx)), .int (zI (m_by)), .ref m_dx, .ref m_dy, .ref m_weight, .ref m_isBarred, .ref m_walks, .ref m_one, .ref m_two, .ref m_light, .ref m_lightThen, .int (zI (m_family)), .ref m_fromX, .ref m_fromY, .ref m_toX, .ref m_toY, .int (zI (m_ruleMany)), .ref m_rule, .ref m_out, .int (zI (m_outs)), .ref m_grid, .ref m_heap, .ref m_ends, .ref m_power, .ref m_by2, .ref m_product, .ref m_levels, .ref m_row, .ref m_then, .ref m_equations], wI m_heap (zK C).2.1 5550 H] [(0, .ref m), (1, .int (zI (rr))), (2, .int (zI (qq))), (3, .int (zI (bb))), (4, .int (zI (k)))] 3 [] := by
    intro f3
    induction f3 with
    | zero => intro _ _ _ hf; exact absurd hf (Nat.not_lt_zero _)
    | succ f3 ih3_2 =>
      intro k vk vu hf_3
      refine z_iload hC 4 dX9_isUnder_3 rfl ?_
      refine z_iload_n hC 3 dX9_isUnder_5 rfl rfl ?_
      refine z_icge hC 44 dX9_isUnder_6 (by decide) (by omega) (fun c_4 => ?_) (fun c_4 => ?_)
      · skip
        refine z_iconst hC dX9_isUnder_44 ?_
        exact z_zret hC hR dX9_isUnder_45 (by omega) (Nat.le_of_ble_eq_true rfl) (Nat.le_of_ble_eq_true rfl) ⟨1, rfl, rfl, by exact Or.inl ⟨(undB_iff _).mpr (fun i h0 h1 => vu i h0 (by omega)), rfl⟩⟩
      · skip
        have hA := hH rr k (by omega) (by omega) (by omega) (by omega) (Or.inl rfl)
        have hB := hH qq k (by omega) (by omega) (by omega) (by omega) (Or.inr rfl)
        refine z_aload_n hC 0 dX9_isUnder_9 rfl rfl ?_
        refine z_get hC (T := TX9) (N := 41) hinX9 0 32 dX9_isUnder_10 rfl rfl (by decide) (List.mem_of_getElem? (i := 1) rfl) rfl rfl ?_
        refine z_bipush hC dX9_isUnder_13 (by decide) ?_
        refine z_iload_n hC 1 dX9_isUnder_15 rfl rfl ?_
        refine z_imul hC (6 * rr) dX9_isUnder_16 rfl ?_
        refine z_iload hC 4 dX9_isUnder_17 rfl ?_
        refine z_iadd hC ((6 * rr) + k) dX9_isUnder_19 rfl ?_
        refine z_iald hC 1 dX9_isUnder_20 rfl (by omega) ?_
        refine z_aload_n hC 0 dX9_isUnder_21 rfl rfl ?_
        refine z_get hC (T := TX9) (N := 41) hinX9 0 32 dX9_isUnder_22 rfl rfl (by decide) (List.mem_of_getElem? (i := 1) rfl) rfl rfl ?_
        refine z_bipush hC dX9_isUnder_25 (by decide) ?_
        refine z_iload_n hC 2 dX9_isUnder_27 rfl rfl ?_
        refine z_imul hC (6 * qq) dX9_isUnder_28 rfl ?_
        refine z_iload hC 4 dX9_isUnder_29 rfl ?_
        refine z_iadd hC ((6 * qq) + k) dX9_isUnder_31 rfl ?_
        refine z_iald hC 1 dX9_isUnder_32 rfl (by omega) ?_
        refine z_icle hC 38 dX9_isUnder_33 (by decide) (by omega) (fun c_5 => ?_) (fun c_5 => ?_)
        · skip
          refine z_iinc (a := k) (v := 1) (r := k + 1) hC 4 [(4, .int (zI (k + 1))), (0, .ref m), (1, .int (zI (rr))), (2, .int (zI (qq))), (3, .int (zI (bb)))] dX9_isUnder_38 rfl rfl (by decide) rfl ?_
          refine z_goto hC 3 dX9_isUnder_41 (by decide) ?_
          refine z_lv (lv' := [(0, .ref m), (1, .int (zI (rr))), (2, .int (zI (qq))), (3, .int (zI (bb))), (4, .int (zI (k + 1)))]) [1, 2, 3, 4, 0] rfl ?_
          exact ih3_2 (k + 1) (by omega) (by intro i h0 h1; by_cases e : i = k; (rw [e]; omega); exact vu i h0 (by omega)) (by omega)
        · skip
          refine z_iconst hC dX9_isUnder_36 ?_
          exact z_zret hC hR dX9_isUnder_37 (by omega) (Nat.le_of_ble_eq_true rfl) (Nat.le_of_ble_eq_true rfl) ⟨0, rfl, rfl, by exact Or.inr ⟨undB_f (k := k) (by omega) (by omega) (by omega), rfl⟩⟩
  exact lp3_1 _ 0 (by omega) (by intro i h0 h1; omega) (Nat.lt_succ_self _)

set_option maxHeartbeats 16000000 in
set_option maxRecDepth 100000 in
theorem c_X9_boxes (l : Launch) (D : va_G) (K : ClassId × ClassId × ClassId × ClassId) (m m_sheetSort m_sheetMany m_numbers m_dx m_dy m_weight m_isBarred m_walks m_one m_two m_light m_lightThen m_fromX m_fromY m_toX m_toY m_rule m_out m_grid m_heap m_ends m_power m_by2 m_product m_levels m_row m_then m_equations : Nat) (a bb c m_status m_thrown m_steps m_kind m_top m_round m_ax m_ay m_bx m_by m_family m_ruleMany m_outs : Int) (hp_ one two : Int → Int) (ha : zR a) (hbb : zR bb) (hc : zR c) : zMet l D K yX9_boxes wsX9_boxes ({ frames := 1, cells := 0, slots := 0, locals := 24 }) 0 0 [.ref m, .int (zI (a)), .int (zI (bb)), .int (zI (c))] [wO m 9 [.int (zI (m_status)), .int (zI (m_thrown)), .ref m_sheetSort, .ref m_sheetMany, .ref m_numbers, .int (zI (m_steps)), .int (zI (m_kind)), .int (zI (m_top)), .int (zI (m_round)), .int (zI (m_ax)), .int (zI (m_ay)), .int (zI (m_bx)), .int (zI (m_by)), .ref m_dx, .ref m_dy, .ref m_weight, .ref m_isBarred, .ref m_walks, .ref m_one, .ref m_two, .ref m_light, .ref m_lightThen, .int (zI (m_family)), .ref m_fromX, .ref m_fromY, .ref m_toX, .ref m_toY, .int (zI (m_ruleMany)), .ref m_rule, .ref m_out, .int (zI (m_outs)), .ref m_grid, .ref m_heap, .ref m_ends, .ref m_power, .ref m_by2, .ref m_product, .ref m_levels, .ref m_row, .ref m_then, .ref m_equations], wI m_heap K.2.1 5550 hp_, wJ m_one K.2.2.1 450241 one, wJ m_two K.2.2.1 450241 two] (fun vr_ wr_ => ∃ (r : Int), vr_ = some (.long (zL (r))) ∧ wr_ = [] ∧ ((¬ (0 ≤ a ∧ a ≤ 6 ∧ 0 ≤ bb ∧ bb ≤ 6 ∧ 0 ≤ c ∧ c ≤ 6) ∧ r = -1) ∨ (0 ≤ a ∧ a ≤ 6 ∧ 0 ≤ bb ∧ bb ≤ 6 ∧ 0 ≤ c ∧ c ≤ 6 ∧ r = boxP a bb c))) := by
  refine zMet_of (cc := cX9_boxes) (nL := 10) (ret := (some .long)) (by decide) rfl (Nat.le_of_ble_eq_true rfl) ?_
  rintro C rfl rfl rfl hC hR
  have hinX9 : ∀ w ∈ u_ws RX9 TX9 41, w ∈ wsX9_boxes := by decide +kernel
  show ZW C 0 0 [wO m 9 [.int (zI (m_status)), .int (zI (m_thrown)), .ref m_sheetSort, .ref m_sheetMany, .ref m_numbers, .int (zI (m_steps)), .int (zI (m_kind)), .int (zI (m_top)), .int (zI (m_round)), .int (zI (m_ax)), .int (zI (m_ay)), .int (zI (m_bx)), .int (zI (m_by)), .ref m_dx, .ref m_dy, .ref m_weight, .ref m_isBarred, .ref m_walks, .ref m_one, .ref m_two, .ref m_light, .ref m_lightThen, .int (zI (m_family)), .ref m_fromX, .ref m_fromY, .ref m_toX, .ref m_toY, .int (zI (m_ruleMany)), .ref m_rule, .ref m_out, .int (zI (m_outs)), .ref m_grid, .ref m_heap, .ref m_ends, .ref m_power, .ref m_by2, .ref m_product, .ref m_levels, .ref m_row, .ref m_then, .ref m_equations], wI m_heap (zK C).2.1 5550 hp_, wJ m_one (zK C).2.2.1 450241 one, wJ m_two (zK C).2.2.1 450241 two] [(0, .ref m), (1, .int (zI (a))), (2, .int (zI (bb))), (3, .int (zI (c)))] 0 []
  refine z_aload_n hC 0 dX9_boxes_0 rfl rfl ?_
  refine z_iconst hC dX9_boxes_1 ?_
  refine z_put hC (T := TX9) (N := 41) hinX9 tyX9_ok nmX9 0 1 [wO m 9 [.int (zI (m_status)), .int (zI (0)), .ref m_sheetSort, .ref m_sheetMany, .ref m_numbers, .int (zI (m_steps)), .int (zI (m_kind)), .int (zI (m_top)), .int (zI (m_round)), .int (zI (m_ax)), .int (zI (m_ay)), .int (zI (m_bx)), .int (zI (m_by)), .ref m_dx, .ref m_dy, .ref m_weight, .ref m_isBarred, .ref m_walks, .ref m_one, .ref m_two, .ref m_light, .ref m_lightThen, .int (zI (m_family)), .ref m_fromX, .ref m_fromY, .ref m_toX, .ref m_toY, .int (zI (m_ruleMany)), .ref m_rule, .ref m_out, .int (zI (m_outs)), .ref m_grid, .ref m_heap, .ref m_ends, .ref m_power, .ref m_by2, .ref m_product, .ref m_levels, .ref m_row, .ref m_then, .ref m_equations], wI m_heap (zK C).2.1 5550 hp_, wJ m_one (zK C).2.2.1 450241 one, wJ m_two (zK C).2.2.1 450241 two] dX9_boxes_2 rfl rfl (by decide) (List.mem_of_getElem? (i := 1) rfl) rfl rfl rfl rfl (Nat.le_of_ble_eq_true rfl) rfl ?_
  refine z_aload_n hC 0 dX9_boxes_5 rfl rfl ?_
  refine z_iconst hC dX9_boxes_6 ?_
  refine z_put hC (T := TX9) (N := 41) hinX9 tyX9_ok nmX9 0 0 [wO m 9 [.int (zI (0)), .int (zI (0)), .ref m_sheetSort, .ref m_sheetMany, .ref m_numbers, .int (zI (m_steps)), .int (zI (m_kind)), .int (zI (m_top)), .int (zI (m_round)), .int (zI (m_ax)), .int (zI (m_ay)), .int (zI (m_bx)), .int (zI (m_by)), .ref m_dx, .ref m_dy, .ref m_weight, .ref m_isBarred, .ref m_walks, .ref m_one, .ref m_two, .ref m_light, .ref m_lightThen, .int (zI (m_family)), .ref m_fromX, .ref m_fromY, .ref m_toX, .ref m_toY, .int (zI (m_ruleMany)), .ref m_rule, .ref m_out, .int (zI (m_outs)), .ref m_grid, .ref m_heap, .ref m_ends, .ref m_power, .ref m_by2, .ref m_product, .ref m_levels, .ref m_row, .ref m_then, .ref m_equations], wI m_heap (zK C).2.1 5550 hp_, wJ m_one (zK C).2.2.1 450241 one, wJ m_two (zK C).2.2.1 450241 two] dX9_boxes_7 rfl rfl (by decide) (List.mem_of_getElem? (i := 2) rfl) rfl rfl rfl rfl (Nat.le_of_ble_eq_true rfl) rfl ?_
  refine z_iload_n hC 1 dX9_boxes_10 rfl rfl ?_
  refine z_iflt hC 40 dX9_boxes_11 (by decide) (by omega) (fun c_1 => ?_) (fun c_1 => ?_)
  · skip
    refine z_aload_n hC 0 dX9_boxes_40 rfl rfl ?_
    refine z_iconst hC dX9_boxes_41 ?_
    refine z_callV hC [.int (zI (2))] 1 0 dX9_boxes_42 (c_X9_refuse (zl C) (zD C) (zK C) m m_sheetSort m_sheetMany m_numbers m_dx m_dy m_weight m_isBarred m_walks m_one m_two m_light m_lightThen m_fromX m_fromY m_toX m_toY m_rule m_out m_grid m_heap m_ends m_power m_by2 m_product m_levels m_row m_then m_equations 2 0 0 m_steps m_kind m_top m_round m_ax m_ay m_bx m_by m_family m_ruleMany m_outs ) gX9_boxes_X9_refuse rfl rfl rfl ⟨by decide, by decide, by decide +kernel⟩ ⟨(Nat.le_of_ble_eq_true rfl), (Nat.le_of_ble_eq_true rfl)⟩ rfl rfl rfl rfl [0] [1, 2, 3] [wI m_heap (zK C).2.1 5550 hp_, wJ m_one (zK C).2.2.1 450241 one, wJ m_two (zK C).2.2.1 450241 two] [] rfl rfl rfl rfl rfl (by decide) (Nat.le_of_ble_eq_true rfl) ⟨(Nat.le_of_ble_eq_true rfl), (Nat.le_of_ble_eq_true rfl)⟩ ?_
    rintro v_ w_ ⟨rfl, rfl, h_42_2⟩
    show ZW C 0 0 [wI m_heap (zK C).2.1 5550 hp_, wJ m_one (zK C).2.2.1 450241 one, wJ m_two (zK C).2.2.1 450241 two, wO m 9 [.int (zI (2)), .int (zI (0)), .ref m_sheetSort, .ref m_sheetMany, .ref m_numbers, .int (zI (m_steps)), .int (zI (m_kind)), .int (zI (m_top)), .int (zI (m_round)), .int (zI (m_ax)), .int (zI (m_ay)), .int (zI (m_bx)), .int (zI (m_by)), .ref m_dx, .ref m_dy, .ref m_weight, .ref m_isBarred, .ref m_walks, .ref m_one, .ref m_two, .ref m_light, .ref m_lightThen, .int (zI (m_family)), .ref m_fromX, .ref m_fromY, .ref m_toX, .ref m_toY, .int (zI (m_ruleMany)), .ref m_rule, .ref m_out, .int (zI (m_outs)), .ref m_grid, .ref m_heap, .ref m_ends, .ref m_power, .ref m_by2, .ref m_product, .ref m_levels, .ref m_row, .ref m_then, .ref m_equations]] [(0, .ref m), (1, .int (zI (a))), (2, .int (zI (bb))), (3, .int (zI (c)))] 45 [.int (zI (-1))]
    refine z_i2l hC dX9_boxes_45 (by omega) ?_
    refine z_ws (ws' := []) [] rfl rfl ?_
    exact z_lret hC hR dX9_boxes_46 (Nat.le_of_ble_eq_true rfl) (Nat.le_of_ble_eq_true rfl) ⟨-1, rfl, rfl, by omega⟩
  · skip
    refine z_iload_n hC 1 dX9_boxes_14 rfl rfl ?_
    refine z_bipush hC dX9_boxes_15 (by decide) ?_
    refine z_icgt hC 40 dX9_boxes_17 (by decide) (by omega) (fun c_3 => ?_) (fun c_3 => ?_)
    · skip
      refine z_aload_n hC 0 dX9_boxes_40 rfl rfl ?_
      refine z_iconst hC dX9_boxes_41 ?_
      refine z_callV hC [.int (zI (2))] 1 0 dX9_boxes_42 (c_X9_refuse (zl C) (zD C) (zK C) m m_sheetSort m_sheetMany m_numbers m_dx m_dy m_weight m_isBarred m_walks m_one m_two m_light m_lightThen m_fromX m_fromY m_toX m_toY m_rule m_out m_grid m_heap m_ends m_power m_by2 m_product m_levels m_row m_then m_equations 2 0 0 m_steps m_kind m_top m_round m_ax m_ay m_bx m_by m_family m_ruleMany m_outs ) gX9_boxes_X9_refuse rfl rfl rfl ⟨by decide, by decide, by decide +kernel⟩ ⟨(Nat.le_of_ble_eq_true rfl), (Nat.le_of_ble_eq_true rfl)⟩ rfl rfl rfl rfl [0] [1, 2, 3] [wI m_heap (zK C).2.1 5550 hp_, wJ m_one (zK C).2.2.1 450241 one, wJ m_two (zK C).2.2.1 450241 two] [] rfl rfl rfl rfl rfl (by decide) (Nat.le_of_ble_eq_true rfl) ⟨(Nat.le_of_ble_eq_true rfl), (Nat.le_of_ble_eq_true rfl)⟩ ?_
      rintro v_ w_ ⟨rfl, rfl, h_42_4⟩
      show ZW C 0 0 [wI m_heap (zK C).2.1 5550 hp_, wJ m_one (zK C).2.2.1 450241 one, wJ m_two (zK C).2.2.1 450241 two, wO m 9 [.int (zI (2)), .int (zI (0)), .ref m_sheetSort, .ref m_sheetMany, .ref m_numbers, .int (zI (m_steps)), .int (zI (m_kind)), .int (zI (m_top)), .int (zI (m_round)), .int (zI (m_ax)), .int (zI (m_ay)), .int (zI (m_bx)), .int (zI (m_by)), .ref m_dx, .ref m_dy, .ref m_weight, .ref m_isBarred, .ref m_walks, .ref m_one, .ref m_two, .ref m_light, .ref m_lightThen, .int (zI (m_family)), .ref m_fromX, .ref m_fromY, .ref m_toX, .ref m_toY, .int (zI (m_ruleMany)), .ref m_rule, .ref m_out, .int (zI (m_outs)), .ref m_grid, .ref m_heap, .ref m_ends, .ref m_power, .ref m_by2, .ref m_product, .ref m_levels, .ref m_row, .ref m_then, .ref m_equations]] [(0, .ref m), (1, .int (zI (a))), (2, .int (zI (bb))), (3, .int (zI (c)))] 45 [.int (zI (-1))]
      refine z_i2l hC dX9_boxes_45 (by omega) ?_
      refine z_ws (ws' := []) [] rfl rfl ?_
      exact z_lret hC hR dX9_boxes_46 (Nat.le_of_ble_eq_true rfl) (Nat.le_of_ble_eq_true rfl) ⟨-1, rfl, rfl, by omega⟩
    · skip
      refine z_iload_n hC 2 dX9_boxes_20 rfl rfl ?_
      refine z_iflt hC 40 dX9_boxes_21 (by decide) (by omega) (fun c_5 => ?_) (fun c_5 => ?_)
      · skip
        refine z_aload_n hC 0 dX9_boxes_40 rfl rfl ?_
        refine z_iconst hC dX9_boxes_41 ?_
        refine z_callV hC [.int (zI (2))] 1 0 dX9_boxes_42 (c_X9_refuse (zl C) (zD C) (zK C) m m_sheetSort m_sheetMany m_numbers m_dx m_dy m_weight m_isBarred m_walks m_one m_two m_light m_lightThen m_fromX m_fromY m_toX m_toY m_rule m_out m_grid m_heap m_ends m_power m_by2 m_product m_levels m_row m_then m_equations 2 0 0 m_steps m_kind m_top m_round m_ax m_ay m_bx m_by m_family m_ruleMany m_outs ) gX9_boxes_X9_refuse rfl rfl rfl ⟨by decide, by decide, by decide +kernel⟩ ⟨(Nat.le_of_ble_eq_true rfl), (Nat.le_of_ble_eq_true rfl)⟩ rfl rfl rfl rfl [0] [1, 2, 3] [wI m_heap (zK C).2.1 5550 hp_, wJ m_one (zK C).2.2.1 450241 one, wJ m_two (zK C).2.2.1 450241 two] [] rfl rfl rfl rfl rfl (by decide) (Nat.le_of_ble_eq_true rfl) ⟨(Nat.le_of_ble_eq_true rfl), (Nat.le_of_ble_eq_true rfl)⟩ ?_
        rintro v_ w_ ⟨rfl, rfl, h_42_6⟩
        show ZW C 0 0 [wI m_heap (zK C).2.1 5550 hp_, wJ m_one (zK C).2.2.1 450241 one, wJ m_two (zK C).2.2.1 450241 two, wO m 9 [.int (zI (2)), .int (zI (0)), .ref m_sheetSort, .ref m_sheetMany, .ref m_numbers, .int (zI (m_steps)), .int (zI (m_kind)), .int (zI (m_top)), .int (zI (m_round)), .int (zI (m_ax)), .int (zI (m_ay)), .int (zI (m_bx)), .int (zI (m_by)), .ref m_dx, .ref m_dy, .ref m_weight, .ref m_isBarred, .ref m_walks, .ref m_one, .ref m_two, .ref m_light, .ref m_lightThen, .int (zI (m_family)), .ref m_fromX, .ref m_fromY, .ref m_toX, .ref m_toY, .int (zI (m_ruleMany)), .ref m_rule, .ref m_out, .int (zI (m_outs)), .ref m_grid, .ref m_heap, .ref m_ends, .ref m_power, .ref m_by2, .ref m_product, .ref m_levels, .ref m_row, .ref m_then, .ref m_equations]] [(0, .ref m), (1, .int (zI (a))), (2, .int (zI (bb))), (3, .int (zI (c)))] 45 [.int (zI (-1))]
        refine z_i2l hC dX9_boxes_45 (by omega) ?_
        refine z_ws (ws' := []) [] rfl rfl ?_
        exact z_lret hC hR dX9_boxes_46 (Nat.le_of_ble_eq_true rfl) (Nat.le_of_ble_eq_true rfl) ⟨-1, rfl, rfl, by omega⟩
      · skip
        refine z_iload_n hC 2 dX9_boxes_24 rfl rfl ?_
        refine z_bipush hC dX9_boxes_25 (by decide) ?_
        refine z_icgt hC 40 dX9_boxes_27 (by decide) (by omega) (fun c_7 => ?_) (fun c_7 => ?_)
        · skip
          refine z_aload_n hC 0 dX9_boxes_40 rfl rfl ?_
          refine z_iconst hC dX9_boxes_41 ?_
          refine z_callV hC [.int (zI (2))] 1 0 dX9_boxes_42 (c_X9_refuse (zl C) (zD C) (zK C) m m_sheetSort m_sheetMany m_numbers m_dx m_dy m_weight m_isBarred m_walks m_one m_two m_light m_lightThen m_fromX m_fromY m_toX m_toY m_rule m_out m_grid m_heap m_ends m_power m_by2 m_product m_levels m_row m_then m_equations 2 0 0 m_steps m_kind m_top m_round m_ax m_ay m_bx m_by m_family m_ruleMany m_outs ) gX9_boxes_X9_refuse rfl rfl rfl ⟨by decide, by decide, by decide +kernel⟩ ⟨(Nat.le_of_ble_eq_true rfl), (Nat.le_of_ble_eq_true rfl)⟩ rfl rfl rfl rfl [0] [1, 2, 3] [wI m_heap (zK C).2.1 5550 hp_, wJ m_one (zK C).2.2.1 450241 one, wJ m_two (zK C).2.2.1 450241 two] [] rfl rfl rfl rfl rfl (by decide) (Nat.le_of_ble_eq_true rfl) ⟨(Nat.le_of_ble_eq_true rfl), (Nat.le_of_ble_eq_true rfl)⟩ ?_
          rintro v_ w_ ⟨rfl, rfl, h_42_8⟩
          show ZW C 0 0 [wI m_heap (zK C).2.1 5550 hp_, wJ m_one (zK C).2.2.1 450241 one, wJ m_two (zK C).2.2.1 450241 two, wO m 9 [.int (zI (2)), .int (zI (0)), .ref m_sheetSort, .ref m_sheetMany, .ref m_numbers, .int (zI (m_steps)), .int (zI (m_kind)), .int (zI (m_top)), .int (zI (m_round)), .int (zI (m_ax)), .int (zI (m_ay)), .int (zI (m_bx)), .int (zI (m_by)), .ref m_dx, .ref m_dy, .ref m_weight, .ref m_isBarred, .ref m_walks, .ref m_one, .ref m_two, .ref m_light, .ref m_lightThen, .int (zI (m_family)), .ref m_fromX, .ref m_fromY, .ref m_toX, .ref m_toY, .int (zI (m_ruleMany)), .ref m_rule, .ref m_out, .int (zI (m_outs)), .ref m_grid, .ref m_heap, .ref m_ends, .ref m_power, .ref m_by2, .ref m_product, .ref m_levels, .ref m_row, .ref m_then, .ref m_equations]] [(0, .ref m), (1, .int (zI (a))), (2, .int (zI (bb))), (3, .int (zI (c)))] 45 [.int (zI (-1))]
          refine z_i2l hC dX9_boxes_45 (by omega) ?_
          refine z_ws (ws' := []) [] rfl rfl ?_
          exact z_lret hC hR dX9_boxes_46 (Nat.le_of_ble_eq_true rfl) (Nat.le_of_ble_eq_true rfl) ⟨-1, rfl, rfl, by omega⟩
        · skip
          refine z_iload_n hC 3 dX9_boxes_30 rfl rfl ?_
          refine z_iflt hC 40 dX9_boxes_31 (by decide) (by omega) (fun c_9 => ?_) (fun c_9 => ?_)
          · skip
            refine z_aload_n hC 0 dX9_boxes_40 rfl rfl ?_
            refine z_iconst hC dX9_boxes_41 ?_
            refine z_callV hC [.int (zI (2))] 1 0 dX9_boxes_42 (c_X9_refuse (zl C) (zD C) (zK C) m m_sheetSort m_sheetMany m_numbers m_dx m_dy m_weight m_isBarred m_walks m_one m_two m_light m_lightThen m_fromX m_fromY m_toX m_toY m_rule m_out m_grid m_heap m_ends m_power m_by2 m_product m_levels m_row m_then m_equations 2 0 0 m_steps m_kind m_top m_round m_ax m_ay m_bx m_by m_family m_ruleMany m_outs ) gX9_boxes_X9_refuse rfl rfl rfl ⟨by decide, by decide, by decide +kernel⟩ ⟨(Nat.le_of_ble_eq_true rfl), (Nat.le_of_ble_eq_true rfl)⟩ rfl rfl rfl rfl [0] [1, 2, 3] [wI m_heap (zK C).2.1 5550 hp_, wJ m_one (zK C).2.2.1 450241 one, wJ m_two (zK C).2.2.1 450241 two] [] rfl rfl rfl rfl rfl (by decide) (Nat.le_of_ble_eq_true rfl) ⟨(Nat.le_of_ble_eq_true rfl), (Nat.le_of_ble_eq_true rfl)⟩ ?_
            rintro v_ w_ ⟨rfl, rfl, h_42_10⟩
            show ZW C 0 0 [wI m_heap (zK C).2.1 5550 hp_, wJ m_one (zK C).2.2.1 450241 one, wJ m_two (zK C).2.2.1 450241 two, wO m 9 [.int (zI (2)), .int (zI (0)), .ref m_sheetSort, .ref m_sheetMany, .ref m_numbers, .int (zI (m_steps)), .int (zI (m_kind)), .int (zI (m_top)), .int (zI (m_round)), .int (zI (m_ax)), .int (zI (m_ay)), .int (zI (m_bx)), .int (zI (m_by)), .ref m_dx, .ref m_dy, .ref m_weight, .ref m_isBarred, .ref m_walks, .ref m_one, .ref m_two, .ref m_light, .ref m_lightThen, .int (zI (m_family)), .ref m_fromX, .ref m_fromY, .ref m_toX, .ref m_toY, .int (zI (m_ruleMany)), .ref m_rule, .ref m_out, .int (zI (m_outs)), .ref m_grid, .ref m_heap, .ref m_ends, .ref m_power, .ref m_by2, .ref m_product, .ref m_levels, .ref m_row, .ref m_then, .ref m_equations]] [(0, .ref m), (1, .int (zI (a))), (2, .int (zI (bb))), (3, .int (zI (c)))] 45 [.int (zI (-1))]
            refine z_i2l hC dX9_boxes_45 (by omega) ?_
            refine z_ws (ws' := []) [] rfl rfl ?_
            exact z_lret hC hR dX9_boxes_46 (Nat.le_of_ble_eq_true rfl) (Nat.le_of_ble_eq_true rfl) ⟨-1, rfl, rfl, by omega⟩
          · skip
            refine z_iload_n hC 3 dX9_boxes_34 rfl rfl ?_
            refine z_bipush hC dX9_boxes_35 (by decide) ?_
            refine z_icle hC 47 dX9_boxes_37 (by decide) (by omega) (fun c_11 => ?_) (fun c_11 => ?_)
            · skip
              refine z_iconst hC dX9_boxes_47 ?_
              refine z_istore hC [(4, .int (zI (0))), (0, .ref m), (1, .int (zI (a))), (2, .int (zI (bb))), (3, .int (zI (c)))] dX9_boxes_48 (by decide) rfl ?_
              refine z_iconst hC dX9_boxes_50 ?_
              refine z_istore hC [(5, .int (zI (1))), (4, .int (zI (0))), (0, .ref m), (1, .int (zI (a))), (2, .int (zI (bb))), (3, .int (zI (c)))] dX9_boxes_51 (by decide) rfl ?_
              refine z_iconst hC dX9_boxes_53 ?_
              refine z_istore hC [(6, .int (zI (0))), (5, .int (zI (1))), (4, .int (zI (0))), (0, .ref m), (1, .int (zI (a))), (2, .int (zI (bb))), (3, .int (zI (c)))] dX9_boxes_54 (by decide) rfl ?_
              refine z_lv (lv' := [(0, .ref m), (1, .int (zI (a))), (2, .int (zI (bb))), (3, .int (zI (c))), (4, .int (zI (0))), (5, .int (zI (1))), (6, .int (zI (0)))]) [3, 4, 5, 6, 2, 1, 0] rfl ?_
              have lp56_12 : ∀ (f14 : Nat) (cd : Int) (k : Int), (0 ≤ k ∧ k ≤ bb) → (cd = (c + 1) ^ k.toNat) → (bb - k).toNat < f14 → ZW C 0 0 [wO m 9 [.int (zI (0)), .int (zI (0)), .ref m_sheetSort, .ref m_sheetMany, .ref m_numbers, .int (zI (m_steps)), .int (zI (m_kind)), .int (zI (m_top)), .int (zI (m_round)), .int (zI (m_ax)), .int (zI (m_ay)), .int (zI (m_bx)), .int (zI (m_by)), .ref m_dx, .ref m_dy, .ref m_weight, .ref m_isBarred, .ref m_walks, .ref m_one, .ref m_two, .ref m_light, .ref m_lightThen, .int (zI (m_family)), .ref m_fromX, .ref m_fromY, .ref m_toX, .ref m_toY, .int (zI (m_ruleMany)), .ref m_rule, .ref m_out, .int (zI (m_outs)), .ref m_grid, .ref m_heap, .ref m_ends, .ref m_power, .ref m_by2, .ref m_product, .ref m_levels, .ref m_row, .ref m_then, .ref m_equations], wI m_heap (zK C).2.1 5550 hp_, wJ m_one (zK C).2.2.1 450241 one, wJ m_two (zK C).2.2.1 450241 two] [(0, .ref m), (1, .int (zI (a))), (2, .int (zI (bb))), (3, .int (zI (c))), (4, .int (zI (0))), (5, .int (zI (cd))), (6, .int (zI (k)))] 56 [] := by
                intro f14
                induction f14 with
                | zero => intro _ _ _ _ hf; exact absurd hf (Nat.not_lt_zero _)
                | succ f14 ih56_13 =>
                  intro cd k vk vc hf_56
                  refine z_iload hC 6 dX9_boxes_56 rfl ?_
                  refine z_iload_n hC 2 dX9_boxes_58 rfl rfl ?_
                  refine z_icge hC 76 dX9_boxes_59 (by decide) (by omega) (fun c_15 => ?_) (fun c_15 => ?_)
                  · skip
                    have hpw := box_pow (bb := bb) (c := c) (by omega)
                    have hcd : cd = (c + 1) ^ bb.toNat := by rw [vc, show k = bb by omega]
                    have hcr : 1 ≤ cd ∧ cd ≤ 117649 := by rw [hcd]; exact hpw.2
                    refine z_iconst hC dX9_boxes_76 ?_
                    refine z_istore hC [(6, .int (zI (0))), (0, .ref m), (1, .int (zI (a))), (2, .int (zI (bb))), (3, .int (zI (c))), (4, .int (zI (0))), (5, .int (zI (cd)))] dX9_boxes_77 (by decide) rfl ?_
                    refine z_lv (lv' := [(0, .ref m), (1, .int (zI (a))), (2, .int (zI (bb))), (3, .int (zI (c))), (4, .int (zI (0))), (5, .int (zI (cd))), (6, .int (zI (0)))]) [1, 2, 3, 4, 5, 6, 0] rfl ?_
                    have lp79_16 : ∀ (f18 : Nat) (rows : Int) (v : Int) (H : Int → Int), (0 ≤ v ∧ v ≤ cd) → (rows = cntG (c + 1) bb.toNat c v.toNat) → (hpOK H (c + 1) bb.toNat c v) → (cd - v).toNat < f18 → ZW C 0 0 [wO m 9 [.int (zI (0)), .int (zI (0)), .ref m_sheetSort, .ref m_sheetMany, .ref m_numbers, .int (zI (m_steps)), .int (zI (m_kind)), .int (zI (m_top)), .int (zI (m_round)), .int (zI (m_ax)), .int (zI (m_ay)), .int (zI (m_bx)), .int (zI (m_by)), .ref m_dx, .ref m_dy, .ref m_weight, .ref m_isBarred, .ref m_walks, .ref m_one, .ref m_two, .ref m_light, .ref m_lightThen, .int (zI (m_family)), .ref m_fromX, .ref m_fromY, .ref m_toX, .ref m_toY, .int (zI (m_ruleMany)), .ref m_rule, .ref m_out, .int (zI (m_outs)), .ref m_grid, .ref m_heap, .ref m_ends, .ref m_power, .ref m_by2, .ref m_product, .ref m_levels, .ref m_row, .ref m_then, .ref m_equations], wI m_heap (zK C).2.1 5550 H, wJ m_one (zK C).2.2.1 450241 one, wJ m_two (zK C).2.2.1 450241 two] [(0, .ref m), (1, .int (zI (a))), (2, .int (zI (bb))), (3, .int (zI (c))), (4, .int (zI (rows))), (5, .int (zI (cd))), (6, .int (zI (v)))] 79 [] := by
                      intro f18
                      induction f18 with
                      | zero => intro _ _ _ _ _ _ hf; exact absurd hf (Nat.not_lt_zero _)
                      | succ f18 ih79_17 =>
                        intro rows v H vv vr vh hf_79
                        refine z_iload hC 6 dX9_boxes_79 rfl ?_
                        refine z_iload hC 5 dX9_boxes_81 rfl ?_
                        refine z_icge hC 212 dX9_boxes_83 (by decide) (by omega) (fun c_19 => ?_) (fun c_19 => ?_)
                        · skip
                          have hvn : v = cd := by omega
                          have hrw : rows ≤ 924 := by rw [vr]; exact box_rows (by omega) (by omega)
                          have hrw0 : 0 ≤ rows := by rw [vr]; exact cntG_nn
                          have hHr : ∀ j k, 0 ≤ j → j < rows → 0 ≤ k → k < bb → 0 ≤ H (6 * j + k) ∧ H (6 * j + k) ≤ 6 := box_hr (by omega) (by rw [← vr]) vh
                          refine z_iconst hC dX9_boxes_212 ?_
                          refine z_istore hC [(6, .int (zI (0))), (0, .ref m), (1, .int (zI (a))), (2, .int (zI (bb))), (3, .int (zI (c))), (4, .int (zI (rows))), (5, .int (zI (cd)))] dX9_boxes_213 (by decide) rfl ?_
                          refine z_lv (lv' := [(0, .ref m), (1, .int (zI (a))), (2, .int (zI (bb))), (3, .int (zI (c))), (4, .int (zI (rows))), (5, .int (zI (cd))), (6, .int (zI (0)))]) [1, 2, 3, 4, 5, 6, 0] rfl ?_
                          have lp215_20 : ∀ (f22 : Nat) (r1 : Int) (o1 : Int → Int), (0 ≤ r1 ∧ r1 ≤ rows) → (∀ j, 0 ≤ j → j < r1 → o1 j = 1) → (rows - r1).toNat < f22 → ZW C 0 0 [wO m 9 [.int (zI (0)), .int (zI (0)), .ref m_sheetSort, .ref m_sheetMany, .ref m_numbers, .int (zI (m_steps)), .int (zI (m_kind)), .int (zI (m_top)), .int (zI (m_round)), .int (zI (m_ax)), .int (zI (m_ay)), .int (zI (m_bx)), .int (zI (m_by)), .ref m_dx, .ref m_dy, .ref m_weight, .ref m_isBarred, .ref m_walks, .ref m_one, .ref m_two, .ref m_light, .ref m_lightThen, .int (zI (m_family)), .ref m_fromX, .ref m_fromY, .ref m_toX, .ref m_toY, .int (zI (m_ruleMany)), .ref m_rule, .ref m_out, .int (zI (m_outs)), .ref m_grid, .ref m_heap, .ref m_ends, .ref m_power, .ref m_by2, .ref m_product, .ref m_levels, .ref m_row, .ref m_then, .ref m_equations], wI m_heap (zK C).2.1 5550 H, wJ m_one (zK C).2.2.1 450241 o1, wJ m_two (zK C).2.2.1 450241 two] [(0, .ref m), (1, .int (zI (a))), (2, .int (zI (bb))), (3, .int (zI (c))), (4, .int (zI (rows))), (5, .int (zI (cd))), (6, .int (zI (r1)))] 215 [] := by
                            intro f22
                            induction f22 with
                            | zero => intro _ _ _ _ hf; exact absurd hf (Nat.not_lt_zero _)
                            | succ f22 ih215_21 =>
                              intro r1 o1 vr1 vo1 hf_215
                              refine z_iload hC 6 dX9_boxes_215 rfl ?_
                              refine z_iload hC 4 dX9_boxes_217 rfl ?_
                              refine z_icge hC 236 dX9_boxes_219 (by decide) (by omega) (fun c_23 => ?_) (fun c_23 => ?_)
                              · skip
                                refine z_iconst hC dX9_boxes_236 ?_
                                refine z_istore hC [(6, .int (zI (1))), (0, .ref m), (1, .int (zI (a))), (2, .int (zI (bb))), (3, .int (zI (c))), (4, .int (zI (rows))), (5, .int (zI (cd)))] dX9_boxes_237 (by decide) rfl ?_
                                refine z_lv (lv' := [(0, .ref m), (1, .int (zI (a))), (2, .int (zI (bb))), (3, .int (zI (c))), (4, .int (zI (rows))), (5, .int (zI (cd))), (6, .int (zI (1)))]) [1, 2, 3, 4, 5, 6, 0] rfl ?_
                                have lp239_24 : ∀ (f26 : Nat) (ka : Int) (o2 : Int → Int) (t2 : Int → Int), (1 ≤ ka ∧ (ka = 1 ∨ ka ≤ a)) → (∀ j, 0 ≤ j → j < rows → o2 j = fR H bb.toNat rows.toNat (ka - 1).toNat j) → (a - ka).toNat < f26 → ZW C 0 0 [wO m 9 [.int (zI (0)), .int (zI (0)), .ref m_sheetSort, .ref m_sheetMany, .ref m_numbers, .int (zI (m_steps)), .int (zI (m_kind)), .int (zI (m_top)), .int (zI (m_round)), .int (zI (m_ax)), .int (zI (m_ay)), .int (zI (m_bx)), .int (zI (m_by)), .ref m_dx, .ref m_dy, .ref m_weight, .ref m_isBarred, .ref m_walks, .ref m_one, .ref m_two, .ref m_light, .ref m_lightThen, .int (zI (m_family)), .ref m_fromX, .ref m_fromY, .ref m_toX, .ref m_toY, .int (zI (m_ruleMany)), .ref m_rule, .ref m_out, .int (zI (m_outs)), .ref m_grid, .ref m_heap, .ref m_ends, .ref m_power, .ref m_by2, .ref m_product, .ref m_levels, .ref m_row, .ref m_then, .ref m_equations], wI m_heap (zK C).2.1 5550 H, wJ m_one (zK C).2.2.1 450241 o2, wJ m_two (zK C).2.2.1 450241 t2] [(0, .ref m), (1, .int (zI (a))), (2, .int (zI (bb))), (3, .int (zI (c))), (4, .int (zI (rows))), (5, .int (zI (cd))), (6, .int (zI (ka)))] 239 [] := by
                                  intro f26
                                  induction f26 with
                                  | zero => intro _ _ _ _ _ hf; exact absurd hf (Nat.not_lt_zero _)
                                  | succ f26 ih239_25 =>
                                    intro ka o2 t2 vka vf hf_239
                                    refine z_iload hC 6 dX9_boxes_239 rfl ?_
                                    refine z_iload_n hC 1 dX9_boxes_241 rfl rfl ?_
                                    refine z_icge hC 350 dX9_boxes_242 (by decide) (by omega) (fun c_27 => ?_) (fun c_27 => ?_)
                                    · skip
                                      refine z_iload_n hC 1 dX9_boxes_350 rfl rfl ?_
                                      refine z_ifne hC 356 dX9_boxes_351 (by decide) (by omega) (fun c_28 => ?_) (fun c_28 => ?_)
                                      · skip
                                        refine z_lconst (v := 0) hC dX9_boxes_356 rfl ?_
                                        refine z_lstore hC [(6, .long (zL (0))), (0, .ref m), (1, .int (zI (a))), (2, .int (zI (bb))), (3, .int (zI (c))), (4, .int (zI (rows))), (5, .int (zI (cd)))] dX9_boxes_357 (by decide) rfl ?_
                                        refine z_iconst hC dX9_boxes_359 ?_
                                        refine z_istore hC [(8, .int (zI (0))), (6, .long (zL (0))), (0, .ref m), (1, .int (zI (a))), (2, .int (zI (bb))), (3, .int (zI (c))), (4, .int (zI (rows))), (5, .int (zI (cd)))] dX9_boxes_360 (by decide) rfl ?_
                                        refine z_lv (lv' := [(0, .ref m), (1, .int (zI (a))), (2, .int (zI (bb))), (3, .int (zI (c))), (4, .int (zI (rows))), (5, .int (zI (cd))), (6, .long (zL (0))), (8, .int (zI (0)))]) [2, 3, 4, 5, 6, 7, 1, 0] rfl ?_
                                        have lp362_29 : ∀ (f31 : Nat) (al : Int) (r4 : Int), (0 ≤ r4 ∧ r4 ≤ rows) → (al = sumZ o2 r4.toNat) → (rows - r4).toNat < f31 → ZW C 0 0 [wO m 9 [.int (zI (0)), .int (zI (0)), .ref m_sheetSort, .ref m_sheetMany, .ref m_numbers, .int (zI (m_steps)), .int (zI (m_kind)), .int (zI (m_top)), .int (zI (m_round)), .int (zI (m_ax)), .int (zI (m_ay)), .int (zI (m_bx)), .int (zI (m_by)), .ref m_dx, .ref m_dy, .ref m_weight, .ref m_isBarred, .ref m_walks, .ref m_one, .ref m_two, .ref m_light, .ref m_lightThen, .int (zI (m_family)), .ref m_fromX, .ref m_fromY, .ref m_toX, .ref m_toY, .int (zI (m_ruleMany)), .ref m_rule, .ref m_out, .int (zI (m_outs)), .ref m_grid, .ref m_heap, .ref m_ends, .ref m_power, .ref m_by2, .ref m_product, .ref m_levels, .ref m_row, .ref m_then, .ref m_equations], wI m_heap (zK C).2.1 5550 H, wJ m_one (zK C).2.2.1 450241 o2, wJ m_two (zK C).2.2.1 450241 t2] [(0, .ref m), (1, .int (zI (a))), (2, .int (zI (bb))), (3, .int (zI (c))), (4, .int (zI (rows))), (5, .int (zI (cd))), (6, .long (zL (al))), (8, .int (zI (r4)))] 362 [] := by
                                          intro f31
                                          induction f31 with
                                          | zero => intro _ _ _ _ hf; exact absurd hf (Nat.not_lt_zero _)
                                          | succ f31 ih362_30 =>
                                            intro al r4 vr4 val hf_362
                                            refine z_iload hC 7 dX9_boxes_362 rfl ?_
                                            refine z_iload hC 4 dX9_boxes_364 rfl ?_
                                            refine z_icge hC 387 dX9_boxes_366 (by decide) (by omega) (fun c_32 => ?_) (fun c_32 => ?_)
                                            · skip
                                              refine z_lload hC 6 dX9_boxes_387 rfl ?_
                                              refine z_ws (ws' := []) [] rfl rfl ?_
                                              exact z_lret hC hR dX9_boxes_389 (Nat.le_of_ble_eq_true rfl) (Nat.le_of_ble_eq_true rfl) ⟨al, rfl, rfl, by right; refine ⟨by omega, by omega, by omega, by omega, by omega, by omega, box_end (H := H) (o := o2) (n := cd) (rows := rows) (by omega) hcd (by rw [vr, hvn]) (by rw [← hvn]; exact vh) (fun j h0 h1 => by have e := vf j h0 h1; rw [show ka - 1 = a - 1 by omega] at e; exact e) (by rw [val, show r4 = rows by omega]) (by omega)⟩⟩
                                            · skip
                                              refine z_lload hC 6 dX9_boxes_369 rfl ?_
                                              refine z_aload_n hC 0 dX9_boxes_371 rfl rfl ?_
                                              refine z_get hC (T := TX9) (N := 41) hinX9 0 18 dX9_boxes_372 rfl rfl (by decide) (List.mem_of_getElem? (i := 4) rfl) rfl rfl ?_
                                              refine z_iload hC 7 dX9_boxes_375 rfl ?_
                                              refine z_lald hC 2 dX9_boxes_377 rfl (by omega) ?_
                                              refine z_ladd hC (al + (o2 r4)) dX9_boxes_378 rfl ?_
                                              refine z_lstore hC [(6, .long (zL (al + (o2 r4)))), (0, .ref m), (1, .int (zI (a))), (2, .int (zI (bb))), (3, .int (zI (c))), (4, .int (zI (rows))), (5, .int (zI (cd))), (8, .int (zI (r4)))] dX9_boxes_379 (by decide) rfl ?_
                                              refine z_iinc (a := r4) (v := 1) (r := r4 + 1) hC 7 [(8, .int (zI (r4 + 1))), (6, .long (zL (al + (o2 r4)))), (0, .ref m), (1, .int (zI (a))), (2, .int (zI (bb))), (3, .int (zI (c))), (4, .int (zI (rows))), (5, .int (zI (cd)))] dX9_boxes_381 rfl rfl (by decide) rfl ?_
                                              refine z_goto hC 362 dX9_boxes_384 (by decide) ?_
                                              refine z_lv (lv' := [(0, .ref m), (1, .int (zI (a))), (2, .int (zI (bb))), (3, .int (zI (c))), (4, .int (zI (rows))), (5, .int (zI (cd))), (6, .long (zL (al + (o2 r4)))), (8, .int (zI (r4 + 1)))]) [2, 3, 4, 5, 6, 7, 1, 0] rfl ?_
                                              exact ih362_30 (al + (o2 r4)) (r4 + 1) (by omega) (by rw [sumZ_s (by omega), ← val]) (by omega)
                                        exact lp362_29 _ 0 0 (by omega) (by rfl) (Nat.lt_succ_self _)
                                      · skip
                                        refine z_lconst (v := 1) hC dX9_boxes_354 rfl ?_
                                        refine z_ws (ws' := []) [] rfl rfl ?_
                                        exact z_lret hC hR dX9_boxes_355 (Nat.le_of_ble_eq_true rfl) (Nat.le_of_ble_eq_true rfl) ⟨1, rfl, rfl, by right; refine ⟨by omega, by omega, by omega, by omega, by omega, by omega, ?_⟩; rw [show a = 0 by omega]; exact box_a0 (by omega)⟩
                                    · skip
                                      refine z_iconst hC dX9_boxes_245 ?_
                                      refine z_istore hC [(7, .int (zI (0))), (0, .ref m), (1, .int (zI (a))), (2, .int (zI (bb))), (3, .int (zI (c))), (4, .int (zI (rows))), (5, .int (zI (cd))), (6, .int (zI (ka)))] dX9_boxes_246 (by decide) rfl ?_
                                      refine z_lv (lv' := [(0, .ref m), (1, .int (zI (a))), (2, .int (zI (bb))), (3, .int (zI (c))), (4, .int (zI (rows))), (5, .int (zI (cd))), (6, .int (zI (ka))), (7, .int (zI (0)))]) [1, 2, 3, 4, 5, 6, 7, 0] rfl ?_
                                      have lp248_33 : ∀ (f35 : Nat) (r2 : Int) (t3 : Int → Int), (0 ≤ r2 ∧ r2 ≤ rows) → (∀ j, 0 ≤ j → j < r2 → t3 j = fR H bb.toNat rows.toNat (ka).toNat j) → (rows - r2).toNat < f35 → ZW C 0 0 [wO m 9 [.int (zI (0)), .int (zI (0)), .ref m_sheetSort, .ref m_sheetMany, .ref m_numbers, .int (zI (m_steps)), .int (zI (m_kind)), .int (zI (m_top)), .int (zI (m_round)), .int (zI (m_ax)), .int (zI (m_ay)), .int (zI (m_bx)), .int (zI (m_by)), .ref m_dx, .ref m_dy, .ref m_weight, .ref m_isBarred, .ref m_walks, .ref m_one, .ref m_two, .ref m_light, .ref m_lightThen, .int (zI (m_family)), .ref m_fromX, .ref m_fromY, .ref m_toX, .ref m_toY, .int (zI (m_ruleMany)), .ref m_rule, .ref m_out, .int (zI (m_outs)), .ref m_grid, .ref m_heap, .ref m_ends, .ref m_power, .ref m_by2, .ref m_product, .ref m_levels, .ref m_row, .ref m_then, .ref m_equations], wI m_heap (zK C).2.1 5550 H, wJ m_one (zK C).2.2.1 450241 o2, wJ m_two (zK C).2.2.1 450241 t3] [(0, .ref m), (1, .int (zI (a))), (2, .int (zI (bb))), (3, .int (zI (c))), (4, .int (zI (rows))), (5, .int (zI (cd))), (6, .int (zI (ka))), (7, .int (zI (r2)))] 248 [] := by
                                        intro f35
                                        induction f35 with
                                        | zero => intro _ _ _ _ hf; exact absurd hf (Nat.not_lt_zero _)
                                        | succ f35 ih248_34 =>
                                          intro r2 t3 vr2 vt hf_248
                                          refine z_iload hC 7 dX9_boxes_248 rfl ?_
                                          refine z_iload hC 4 dX9_boxes_250 rfl ?_
                                          refine z_icge hC 314 dX9_boxes_252 (by decide) (by omega) (fun c_36 => ?_) (fun c_36 => ?_)
                                          · skip
                                            refine z_iconst hC dX9_boxes_314 ?_
                                            refine z_istore hC [(7, .int (zI (0))), (0, .ref m), (1, .int (zI (a))), (2, .int (zI (bb))), (3, .int (zI (c))), (4, .int (zI (rows))), (5, .int (zI (cd))), (6, .int (zI (ka)))] dX9_boxes_315 (by decide) rfl ?_
                                            refine z_lv (lv' := [(0, .ref m), (1, .int (zI (a))), (2, .int (zI (bb))), (3, .int (zI (c))), (4, .int (zI (rows))), (5, .int (zI (cd))), (6, .int (zI (ka))), (7, .int (zI (0)))]) [1, 2, 3, 4, 5, 6, 7, 0] rfl ?_
                                            have lp317_37 : ∀ (f39 : Nat) (r3 : Int) (o3 : Int → Int), (0 ≤ r3 ∧ r3 ≤ rows) → (∀ j, 0 ≤ j → j < r3 → o3 j = fR H bb.toNat rows.toNat (ka).toNat j) → (rows - r3).toNat < f39 → ZW C 0 0 [wO m 9 [.int (zI (0)), .int (zI (0)), .ref m_sheetSort, .ref m_sheetMany, .ref m_numbers, .int (zI (m_steps)), .int (zI (m_kind)), .int (zI (m_top)), .int (zI (m_round)), .int (zI (m_ax)), .int (zI (m_ay)), .int (zI (m_bx)), .int (zI (m_by)), .ref m_dx, .ref m_dy, .ref m_weight, .ref m_isBarred, .ref m_walks, .ref m_one, .ref m_two, .ref m_light, .ref m_lightThen, .int (zI (m_family)), .ref m_fromX, .ref m_fromY, .ref m_toX, .ref m_toY, .int (zI (m_ruleMany)), .ref m_rule, .ref m_out, .int (zI (m_outs)), .ref m_grid, .ref m_heap, .ref m_ends, .ref m_power, .ref m_by2, .ref m_product, .ref m_levels, .ref m_row, .ref m_then, .ref m_equations], wI m_heap (zK C).2.1 5550 H, wJ m_one (zK C).2.2.1 450241 o3, wJ m_two (zK C).2.2.1 450241 t3] [(0, .ref m), (1, .int (zI (a))), (2, .int (zI (bb))), (3, .int (zI (c))), (4, .int (zI (rows))), (5, .int (zI (cd))), (6, .int (zI (ka))), (7, .int (zI (r3)))] 317 [] := by
                                              intro f39
                                              induction f39 with
                                              | zero => intro _ _ _ _ hf; exact absurd hf (Nat.not_lt_zero _)
                                              | succ f39 ih317_38 =>
                                                intro r3 o3 vr3 vo3 hf_317
                                                refine z_iload hC 7 dX9_boxes_317 rfl ?_
                                                refine z_iload hC 4 dX9_boxes_319 rfl ?_
                                                refine z_icge hC 344 dX9_boxes_321 (by decide) (by omega) (fun c_40 => ?_) (fun c_40 => ?_)
                                                · skip
                                                  refine z_iinc (a := ka) (v := 1) (r := ka + 1) hC 6 [(6, .int (zI (ka + 1))), (0, .ref m), (1, .int (zI (a))), (2, .int (zI (bb))), (3, .int (zI (c))), (4, .int (zI (rows))), (5, .int (zI (cd))), (7, .int (zI (r3)))] dX9_boxes_344 rfl rfl (by decide) rfl ?_
                                                  refine z_goto hC 239 dX9_boxes_347 (by decide) ?_
                                                  refine z_lv (lv' := [(0, .ref m), (1, .int (zI (a))), (2, .int (zI (bb))), (3, .int (zI (c))), (4, .int (zI (rows))), (5, .int (zI (cd))), (6, .int (zI (ka + 1)))]) [1, 2, 3, 4, 5, 6, 0] rfl ?_
                                                  exact ih239_25 (ka + 1) o3 t3 (by omega) (by intro j h0 h1; rw [show ka + 1 - 1 = ka by omega]; exact vo3 j h0 (by omega)) (by omega)
                                                · skip
                                                  refine z_aload_n hC 0 dX9_boxes_324 rfl rfl ?_
                                                  refine z_get hC (T := TX9) (N := 41) hinX9 0 18 dX9_boxes_325 rfl rfl (by decide) (List.mem_of_getElem? (i := 4) rfl) rfl rfl ?_
                                                  refine z_iload hC 7 dX9_boxes_328 rfl ?_
                                                  refine z_aload_n hC 0 dX9_boxes_330 rfl rfl ?_
                                                  refine z_get hC (T := TX9) (N := 41) hinX9 0 19 dX9_boxes_331 rfl rfl (by decide) (List.mem_of_getElem? (i := 5) rfl) rfl rfl ?_
                                                  refine z_iload hC 7 dX9_boxes_334 rfl ?_
                                                  refine z_lald hC 3 dX9_boxes_336 rfl (by omega) ?_
                                                  refine z_last hC 2 [wO m 9 [.int (zI (0)), .int (zI (0)), .ref m_sheetSort, .ref m_sheetMany, .ref m_numbers, .int (zI (m_steps)), .int (zI (m_kind)), .int (zI (m_top)), .int (zI (m_round)), .int (zI (m_ax)), .int (zI (m_ay)), .int (zI (m_bx)), .int (zI (m_by)), .ref m_dx, .ref m_dy, .ref m_weight, .ref m_isBarred, .ref m_walks, .ref m_one, .ref m_two, .ref m_light, .ref m_lightThen, .int (zI (m_family)), .ref m_fromX, .ref m_fromY, .ref m_toX, .ref m_toY, .int (zI (m_ruleMany)), .ref m_rule, .ref m_out, .int (zI (m_outs)), .ref m_grid, .ref m_heap, .ref m_ends, .ref m_power, .ref m_by2, .ref m_product, .ref m_levels, .ref m_row, .ref m_then, .ref m_equations], wI m_heap (zK C).2.1 5550 H, wJ m_one (zK C).2.2.1 450241 (zu o3 r3 (t3 r3)), wJ m_two (zK C).2.2.1 450241 t3] dX9_boxes_337 rfl (by omega) rfl ?_
                                                  refine z_iinc (a := r3) (v := 1) (r := r3 + 1) hC 7 [(7, .int (zI (r3 + 1))), (0, .ref m), (1, .int (zI (a))), (2, .int (zI (bb))), (3, .int (zI (c))), (4, .int (zI (rows))), (5, .int (zI (cd))), (6, .int (zI (ka)))] dX9_boxes_338 rfl rfl (by decide) rfl ?_
                                                  refine z_goto hC 317 dX9_boxes_341 (by decide) ?_
                                                  refine z_lv (lv' := [(0, .ref m), (1, .int (zI (a))), (2, .int (zI (bb))), (3, .int (zI (c))), (4, .int (zI (rows))), (5, .int (zI (cd))), (6, .int (zI (ka))), (7, .int (zI (r3 + 1)))]) [1, 2, 3, 4, 5, 6, 7, 0] rfl ?_
                                                  exact ih317_38 (r3 + 1) (zu o3 r3 (t3 r3)) (by omega) (by intro j h0 h1; unfold zu; by_cases e : j = r3; (rw [e, if_pos rfl]; exact vt r3 (by omega) (by omega)); (rw [if_neg e]; exact vo3 j h0 (by omega))) (by omega)
                                            exact lp317_37 _ 0 o2 (by omega) (by intro j h0 h1; omega) (Nat.lt_succ_self _)
                                          · skip
                                            refine z_aload_n hC 0 dX9_boxes_255 rfl rfl ?_
                                            refine z_get hC (T := TX9) (N := 41) hinX9 0 19 dX9_boxes_256 rfl rfl (by decide) (List.mem_of_getElem? (i := 5) rfl) rfl rfl ?_
                                            refine z_iload hC 7 dX9_boxes_259 rfl ?_
                                            refine z_lconst (v := 0) hC dX9_boxes_261 rfl ?_
                                            refine z_last hC 3 [wO m 9 [.int (zI (0)), .int (zI (0)), .ref m_sheetSort, .ref m_sheetMany, .ref m_numbers, .int (zI (m_steps)), .int (zI (m_kind)), .int (zI (m_top)), .int (zI (m_round)), .int (zI (m_ax)), .int (zI (m_ay)), .int (zI (m_bx)), .int (zI (m_by)), .ref m_dx, .ref m_dy, .ref m_weight, .ref m_isBarred, .ref m_walks, .ref m_one, .ref m_two, .ref m_light, .ref m_lightThen, .int (zI (m_family)), .ref m_fromX, .ref m_fromY, .ref m_toX, .ref m_toY, .int (zI (m_ruleMany)), .ref m_rule, .ref m_out, .int (zI (m_outs)), .ref m_grid, .ref m_heap, .ref m_ends, .ref m_power, .ref m_by2, .ref m_product, .ref m_levels, .ref m_row, .ref m_then, .ref m_equations], wI m_heap (zK C).2.1 5550 H, wJ m_one (zK C).2.2.1 450241 o2, wJ m_two (zK C).2.2.1 450241 (zu t3 r2 0)] dX9_boxes_262 rfl (by omega) rfl ?_
                                            refine z_iconst hC dX9_boxes_263 ?_
                                            refine z_istore hC [(8, .int (zI (0))), (0, .ref m), (1, .int (zI (a))), (2, .int (zI (bb))), (3, .int (zI (c))), (4, .int (zI (rows))), (5, .int (zI (cd))), (6, .int (zI (ka))), (7, .int (zI (r2)))] dX9_boxes_264 (by decide) rfl ?_
                                            refine z_lv (lv' := [(0, .ref m), (1, .int (zI (a))), (2, .int (zI (bb))), (3, .int (zI (c))), (4, .int (zI (rows))), (5, .int (zI (cd))), (6, .int (zI (ka))), (7, .int (zI (r2))), (8, .int (zI (0)))]) [1, 2, 3, 4, 5, 6, 7, 8, 0] rfl ?_
                                            have lp266_41 : ∀ (f43 : Nat) (q : Int) (t4 : Int → Int), (0 ≤ q ∧ q ≤ rows) → (∀ j, 0 ≤ j → j < r2 → t4 j = fR H bb.toNat rows.toNat (ka).toNat j) → (t4 r2 = sumZ (fun q => if undB H r2 q bb.toNat = true then o2 q else 0) q.toNat) → (rows - q).toNat < f43 → ZW C 0 0 [wO m 9 [.int (zI (0)), .int (zI (0)), .ref m_sheetSort, .ref m_sheetMany, .ref m_numbers, .int (zI (m_steps)), .int (zI (m_kind)), .int (zI (m_top)), .int (zI (m_round)), .int (zI (m_ax)), .int (zI (m_ay)), .int (zI (m_bx)), .int (zI (m_by)), .ref m_dx, .ref m_dy, .ref m_weight, .ref m_isBarred, .ref m_walks, .ref m_one, .ref m_two, .ref m_light, .ref m_lightThen, .int (zI (m_family)), .ref m_fromX, .ref m_fromY, .ref m_toX, .ref m_toY, .int (zI (m_ruleMany)), .ref m_rule, .ref m_out, .int (zI (m_outs)), .ref m_grid, .ref m_heap, .ref m_ends, .ref m_power, .ref m_by2, .ref m_product, .ref m_levels, .ref m_row, .ref m_then, .ref m_equations], wI m_heap (zK C).2.1 5550 H, wJ m_one (zK C).2.2.1 450241 o2, wJ m_two (zK C).2.2.1 450241 t4] [(0, .ref m), (1, .int (zI (a))), (2, .int (zI (bb))), (3, .int (zI (c))), (4, .int (zI (rows))), (5, .int (zI (cd))), (6, .int (zI (ka))), (7, .int (zI (r2))), (8, .int (zI (q)))] 266 [] := by
                                              intro f43
                                              induction f43 with
                                              | zero => intro _ _ _ _ _ hf; exact absurd hf (Nat.not_lt_zero _)
                                              | succ f43 ih266_42 =>
                                                intro q t4 vq2 vt4 vs2 hf_266
                                                refine z_iload hC 8 dX9_boxes_266 rfl ?_
                                                refine z_iload hC 4 dX9_boxes_268 rfl ?_
                                                refine z_icge hC 308 dX9_boxes_270 (by decide) (by omega) (fun c_44 => ?_) (fun c_44 => ?_)
                                                · skip
                                                  refine z_iinc (a := r2) (v := 1) (r := r2 + 1) hC 7 [(7, .int (zI (r2 + 1))), (0, .ref m), (1, .int (zI (a))), (2, .int (zI (bb))), (3, .int (zI (c))), (4, .int (zI (rows))), (5, .int (zI (cd))), (6, .int (zI (ka))), (8, .int (zI (q)))] dX9_boxes_308 rfl rfl (by decide) rfl ?_
                                                  refine z_goto hC 248 dX9_boxes_311 (by decide) ?_
                                                  refine z_lv (lv' := [(0, .ref m), (1, .int (zI (a))), (2, .int (zI (bb))), (3, .int (zI (c))), (4, .int (zI (rows))), (5, .int (zI (cd))), (6, .int (zI (ka))), (7, .int (zI (r2 + 1)))]) [1, 2, 3, 4, 5, 6, 7, 0] rfl ?_
                                                  exact ih248_34 (r2 + 1) t4 (by omega) (by intro j h0 h1; by_cases e : j = r2; (rw [e, vs2]; exact fR_s (by omega) (by omega) vf); exact vt4 j h0 (by omega)) (by omega)
                                                · skip
                                                  refine z_aload_n hC 0 dX9_boxes_273 rfl rfl ?_
                                                  refine z_iload hC 7 dX9_boxes_274 rfl ?_
                                                  refine z_iload hC 8 dX9_boxes_276 rfl ?_
                                                  refine z_iload_n hC 2 dX9_boxes_278 rfl rfl ?_
                                                  refine z_callV hC [.int (zI (r2)), .int (zI (q)), .int (zI (bb))] 3 0 dX9_boxes_279 (c_X9_isUnder (zl C) (zD C) (zK C) m m_sheetSort m_sheetMany m_numbers m_dx m_dy m_weight m_isBarred m_walks m_one m_two m_light m_lightThen m_fromX m_fromY m_toX m_toY m_rule m_out m_grid m_heap m_ends m_power m_by2 m_product m_levels m_row m_then m_equations r2 q bb 0 0 m_steps m_kind m_top m_round m_ax m_ay m_bx m_by m_family m_ruleMany m_outs H (by first | assumption | omega) (by intro j k j0 j1 k0 k1 hj; exact hHr j k j0 (by omega) k0 k1)) gX9_boxes_X9_isUnder rfl rfl rfl ⟨by decide, by decide, by decide +kernel⟩ ⟨(Nat.le_of_ble_eq_true rfl), (Nat.le_of_ble_eq_true rfl)⟩ rfl rfl rfl rfl [0, 1] [2, 3] [wJ m_one (zK C).2.2.1 450241 o2, wJ m_two (zK C).2.2.1 450241 t4] [] rfl rfl rfl rfl rfl (by decide) (Nat.le_of_ble_eq_true rfl) ⟨(Nat.le_of_ble_eq_true rfl), (Nat.le_of_ble_eq_true rfl)⟩ ?_
                                                  rintro v_ w_ ⟨r_45, rfl, rfl, hun⟩
                                                  show ZW C 0 0 [wJ m_one (zK C).2.2.1 450241 o2, wJ m_two (zK C).2.2.1 450241 t4, wO m 9 [.int (zI (0)), .int (zI (0)), .ref m_sheetSort, .ref m_sheetMany, .ref m_numbers, .int (zI (m_steps)), .int (zI (m_kind)), .int (zI (m_top)), .int (zI (m_round)), .int (zI (m_ax)), .int (zI (m_ay)), .int (zI (m_bx)), .int (zI (m_by)), .ref m_dx, .ref m_dy, .ref m_weight, .ref m_isBarred, .ref m_walks, .ref m_one, .ref m_two, .ref m_light, .ref m_lightThen, .int (zI (m_family)), .ref m_fromX, .ref m_fromY, .ref m_toX, .ref m_toY, .int (zI (m_ruleMany)), .ref m_rule, .ref m_out, .int (zI (m_outs)), .ref m_grid, .ref m_heap, .ref m_ends, .ref m_power, .ref m_by2, .ref m_product, .ref m_levels, .ref m_row, .ref m_then, .ref m_equations], wI m_heap (zK C).2.1 5550 H] [(0, .ref m), (1, .int (zI (a))), (2, .int (zI (bb))), (3, .int (zI (c))), (4, .int (zI (rows))), (5, .int (zI (cd))), (6, .int (zI (ka))), (7, .int (zI (r2))), (8, .int (zI (q)))] 282 [.int (zI (r_45))]
                                                  refine z_ifeq hC 302 dX9_boxes_282 (by decide) (by omega) (fun c_46 => ?_) (fun c_46 => ?_)
                                                  · skip
                                                    refine z_iinc (a := q) (v := 1) (r := q + 1) hC 8 [(8, .int (zI (q + 1))), (0, .ref m), (1, .int (zI (a))), (2, .int (zI (bb))), (3, .int (zI (c))), (4, .int (zI (rows))), (5, .int (zI (cd))), (6, .int (zI (ka))), (7, .int (zI (r2)))] dX9_boxes_302 rfl rfl (by decide) rfl ?_
                                                    refine z_goto hC 266 dX9_boxes_305 (by decide) ?_
                                                    refine z_lv (lv' := [(0, .ref m), (1, .int (zI (a))), (2, .int (zI (bb))), (3, .int (zI (c))), (4, .int (zI (rows))), (5, .int (zI (cd))), (6, .int (zI (ka))), (7, .int (zI (r2))), (8, .int (zI (q + 1)))]) [1, 2, 3, 4, 5, 6, 7, 8, 0] rfl ?_
                                                    refine z_ws (ws' := [wO m 9 [.int (zI (0)), .int (zI (0)), .ref m_sheetSort, .ref m_sheetMany, .ref m_numbers, .int (zI (m_steps)), .int (zI (m_kind)), .int (zI (m_top)), .int (zI (m_round)), .int (zI (m_ax)), .int (zI (m_ay)), .int (zI (m_bx)), .int (zI (m_by)), .ref m_dx, .ref m_dy, .ref m_weight, .ref m_isBarred, .ref m_walks, .ref m_one, .ref m_two, .ref m_light, .ref m_lightThen, .int (zI (m_family)), .ref m_fromX, .ref m_fromY, .ref m_toX, .ref m_toY, .int (zI (m_ruleMany)), .ref m_rule, .ref m_out, .int (zI (m_outs)), .ref m_grid, .ref m_heap, .ref m_ends, .ref m_power, .ref m_by2, .ref m_product, .ref m_levels, .ref m_row, .ref m_then, .ref m_equations], wI m_heap (zK C).2.1 5550 H, wJ m_one (zK C).2.2.1 450241 o2, wJ m_two (zK C).2.2.1 450241 t4]) [2, 3, 0, 1] rfl rfl ?_
                                                    exact ih266_42 (q + 1) t4 (by omega) (by intro j h0 h1; first | exact vt4 j h0 h1 | (unfold zu; rw [if_neg (by omega)]; exact vt4 j h0 h1)) (by exact fR_step (by omega) vs2 (by first | (right; exact ⟨by rcases hun with w | w; exact w.1; omega, by unfold zu; rw [if_pos rfl]⟩) | (left; exact ⟨by rcases hun with w | w; omega; exact w.1, rfl⟩))) (by omega)
                                                  · skip
                                                    refine z_aload_n hC 0 dX9_boxes_285 rfl rfl ?_
                                                    refine z_get hC (T := TX9) (N := 41) hinX9 2 19 dX9_boxes_286 rfl rfl (by decide) (List.mem_of_getElem? (i := 5) rfl) rfl rfl ?_
                                                    refine z_iload hC 7 dX9_boxes_289 rfl ?_
                                                    refine z_dup2 hC dX9_boxes_291 rfl rfl ?_
                                                    refine z_lald hC 1 dX9_boxes_292 rfl (by omega) ?_
                                                    refine z_aload_n hC 0 dX9_boxes_293 rfl rfl ?_
                                                    refine z_get hC (T := TX9) (N := 41) hinX9 2 18 dX9_boxes_294 rfl rfl (by decide) (List.mem_of_getElem? (i := 4) rfl) rfl rfl ?_
                                                    refine z_iload hC 8 dX9_boxes_297 rfl ?_
                                                    refine z_lald hC 0 dX9_boxes_299 rfl (by omega) ?_
                                                    refine z_ladd hC ((t4 r2) + (o2 q)) dX9_boxes_300 rfl ?_
                                                    refine z_last hC 1 [wJ m_one (zK C).2.2.1 450241 o2, wJ m_two (zK C).2.2.1 450241 (zu t4 r2 ((t4 r2) + (o2 q))), wO m 9 [.int (zI (0)), .int (zI (0)), .ref m_sheetSort, .ref m_sheetMany, .ref m_numbers, .int (zI (m_steps)), .int (zI (m_kind)), .int (zI (m_top)), .int (zI (m_round)), .int (zI (m_ax)), .int (zI (m_ay)), .int (zI (m_bx)), .int (zI (m_by)), .ref m_dx, .ref m_dy, .ref m_weight, .ref m_isBarred, .ref m_walks, .ref m_one, .ref m_two, .ref m_light, .ref m_lightThen, .int (zI (m_family)), .ref m_fromX, .ref m_fromY, .ref m_toX, .ref m_toY, .int (zI (m_ruleMany)), .ref m_rule, .ref m_out, .int (zI (m_outs)), .ref m_grid, .ref m_heap, .ref m_ends, .ref m_power, .ref m_by2, .ref m_product, .ref m_levels, .ref m_row, .ref m_then, .ref m_equations], wI m_heap (zK C).2.1 5550 H] dX9_boxes_301 rfl (by omega) rfl ?_
                                                    refine z_iinc (a := q) (v := 1) (r := q + 1) hC 8 [(8, .int (zI (q + 1))), (0, .ref m), (1, .int (zI (a))), (2, .int (zI (bb))), (3, .int (zI (c))), (4, .int (zI (rows))), (5, .int (zI (cd))), (6, .int (zI (ka))), (7, .int (zI (r2)))] dX9_boxes_302 rfl rfl (by decide) rfl ?_
                                                    refine z_goto hC 266 dX9_boxes_305 (by decide) ?_
                                                    refine z_lv (lv' := [(0, .ref m), (1, .int (zI (a))), (2, .int (zI (bb))), (3, .int (zI (c))), (4, .int (zI (rows))), (5, .int (zI (cd))), (6, .int (zI (ka))), (7, .int (zI (r2))), (8, .int (zI (q + 1)))]) [1, 2, 3, 4, 5, 6, 7, 8, 0] rfl ?_
                                                    refine z_ws (ws' := [wO m 9 [.int (zI (0)), .int (zI (0)), .ref m_sheetSort, .ref m_sheetMany, .ref m_numbers, .int (zI (m_steps)), .int (zI (m_kind)), .int (zI (m_top)), .int (zI (m_round)), .int (zI (m_ax)), .int (zI (m_ay)), .int (zI (m_bx)), .int (zI (m_by)), .ref m_dx, .ref m_dy, .ref m_weight, .ref m_isBarred, .ref m_walks, .ref m_one, .ref m_two, .ref m_light, .ref m_lightThen, .int (zI (m_family)), .ref m_fromX, .ref m_fromY, .ref m_toX, .ref m_toY, .int (zI (m_ruleMany)), .ref m_rule, .ref m_out, .int (zI (m_outs)), .ref m_grid, .ref m_heap, .ref m_ends, .ref m_power, .ref m_by2, .ref m_product, .ref m_levels, .ref m_row, .ref m_then, .ref m_equations], wI m_heap (zK C).2.1 5550 H, wJ m_one (zK C).2.2.1 450241 o2, wJ m_two (zK C).2.2.1 450241 (zu t4 r2 ((t4 r2) + (o2 q)))]) [2, 3, 0, 1] rfl rfl ?_
                                                    exact ih266_42 (q + 1) (zu t4 r2 ((t4 r2) + (o2 q))) (by omega) (by intro j h0 h1; first | exact vt4 j h0 h1 | (unfold zu; rw [if_neg (by omega)]; exact vt4 j h0 h1)) (by exact fR_step (by omega) vs2 (by first | (right; exact ⟨by rcases hun with w | w; exact w.1; omega, by unfold zu; rw [if_pos rfl]⟩) | (left; exact ⟨by rcases hun with w | w; omega; exact w.1, rfl⟩))) (by omega)
                                            exact lp266_41 _ 0 (zu t3 r2 0) (by omega) (by intro j h0 h1; unfold zu; rw [if_neg (by omega)]; exact vt j h0 h1) (by unfold zu; rw [if_pos rfl]; rfl) (Nat.lt_succ_self _)
                                      exact lp248_33 _ 0 t2 (by omega) (by intro j h0 h1; omega) (Nat.lt_succ_self _)
                                exact lp239_24 _ 1 o1 two (by omega) (by intro j h0 h1; exact vo1 j h0 (by omega)) (Nat.lt_succ_self _)
                              · skip
                                refine z_aload_n hC 0 dX9_boxes_222 rfl rfl ?_
                                refine z_get hC (T := TX9) (N := 41) hinX9 0 18 dX9_boxes_223 rfl rfl (by decide) (List.mem_of_getElem? (i := 4) rfl) rfl rfl ?_
                                refine z_iload hC 6 dX9_boxes_226 rfl ?_
                                refine z_lconst (v := 1) hC dX9_boxes_228 rfl ?_
                                refine z_last hC 2 [wO m 9 [.int (zI (0)), .int (zI (0)), .ref m_sheetSort, .ref m_sheetMany, .ref m_numbers, .int (zI (m_steps)), .int (zI (m_kind)), .int (zI (m_top)), .int (zI (m_round)), .int (zI (m_ax)), .int (zI (m_ay)), .int (zI (m_bx)), .int (zI (m_by)), .ref m_dx, .ref m_dy, .ref m_weight, .ref m_isBarred, .ref m_walks, .ref m_one, .ref m_two, .ref m_light, .ref m_lightThen, .int (zI (m_family)), .ref m_fromX, .ref m_fromY, .ref m_toX, .ref m_toY, .int (zI (m_ruleMany)), .ref m_rule, .ref m_out, .int (zI (m_outs)), .ref m_grid, .ref m_heap, .ref m_ends, .ref m_power, .ref m_by2, .ref m_product, .ref m_levels, .ref m_row, .ref m_then, .ref m_equations], wI m_heap (zK C).2.1 5550 H, wJ m_one (zK C).2.2.1 450241 (zu o1 r1 1), wJ m_two (zK C).2.2.1 450241 two] dX9_boxes_229 rfl (by omega) rfl ?_
                                refine z_iinc (a := r1) (v := 1) (r := r1 + 1) hC 6 [(6, .int (zI (r1 + 1))), (0, .ref m), (1, .int (zI (a))), (2, .int (zI (bb))), (3, .int (zI (c))), (4, .int (zI (rows))), (5, .int (zI (cd)))] dX9_boxes_230 rfl rfl (by decide) rfl ?_
                                refine z_goto hC 215 dX9_boxes_233 (by decide) ?_
                                refine z_lv (lv' := [(0, .ref m), (1, .int (zI (a))), (2, .int (zI (bb))), (3, .int (zI (c))), (4, .int (zI (rows))), (5, .int (zI (cd))), (6, .int (zI (r1 + 1)))]) [1, 2, 3, 4, 5, 6, 0] rfl ?_
                                exact ih215_21 (r1 + 1) (zu o1 r1 1) (by omega) (by intro j h0 h1; unfold zu; split; rfl; exact vo1 j h0 (by omega)) (by omega)
                          exact lp215_20 _ 0 one (by omega) (by intro j h0 h1; omega) (Nat.lt_succ_self _)
                        · skip
                          have hrw : rows ≤ 924 := by rw [vr]; exact box_rows (by omega) (by omega)
                          have hrw0 : 0 ≤ rows := by rw [vr]; exact cntG_nn
                          refine z_iload hC 6 dX9_boxes_86 rfl ?_
                          refine z_istore hC [(7, .int (zI (v))), (0, .ref m), (1, .int (zI (a))), (2, .int (zI (bb))), (3, .int (zI (c))), (4, .int (zI (rows))), (5, .int (zI (cd))), (6, .int (zI (v)))] dX9_boxes_88 (by decide) rfl ?_
                          refine z_iconst hC dX9_boxes_90 ?_
                          refine z_istore hC [(8, .int (zI (1))), (7, .int (zI (v))), (0, .ref m), (1, .int (zI (a))), (2, .int (zI (bb))), (3, .int (zI (c))), (4, .int (zI (rows))), (5, .int (zI (cd))), (6, .int (zI (v)))] dX9_boxes_91 (by decide) rfl ?_
                          refine z_iconst hC dX9_boxes_93 ?_
                          refine z_istore hC [(9, .int (zI (0))), (8, .int (zI (1))), (7, .int (zI (v))), (0, .ref m), (1, .int (zI (a))), (2, .int (zI (bb))), (3, .int (zI (c))), (4, .int (zI (rows))), (5, .int (zI (cd))), (6, .int (zI (v)))] dX9_boxes_94 (by decide) rfl ?_
                          refine z_lv (lv' := [(0, .ref m), (1, .int (zI (a))), (2, .int (zI (bb))), (3, .int (zI (c))), (4, .int (zI (rows))), (5, .int (zI (cd))), (6, .int (zI (v))), (7, .int (zI (v))), (8, .int (zI (1))), (9, .int (zI (0)))]) [3, 4, 5, 6, 7, 8, 9, 2, 1, 0] rfl ?_
                          have lp96_47 : ∀ (f49 : Nat) (left : Int) (good : Int) (k2 : Int) (H2 : Int → Int), ((good = 1 ∧ 0 ≤ k2 ∧ k2 ≤ bb) ∨ (good = 0 ∧ k2 = bb + 1)) → (0 ≤ left ∧ left ≤ 117649) → (good = 0 ∨ left = lfB (c + 1) k2.toNat v) → (∀ i, 0 ≤ i → i < k2 → i < bb → good = 1 → H2 (6 * rows + i) = dgB (c + 1) v i) → (good = 0 ∨ (∀ i, 1 ≤ i → i < k2 → dgB (c + 1) v i ≤ dgB (c + 1) v (i - 1))) → (good = 1 ∨ badB (c + 1) v bb) → (∀ j, j < 6 * rows → H2 j = H j) → (bb + 1 - k2).toNat < f49 → ZW C 0 0 [wO m 9 [.int (zI (0)), .int (zI (0)), .ref m_sheetSort, .ref m_sheetMany, .ref m_numbers, .int (zI (m_steps)), .int (zI (m_kind)), .int (zI (m_top)), .int (zI (m_round)), .int (zI (m_ax)), .int (zI (m_ay)), .int (zI (m_bx)), .int (zI (m_by)), .ref m_dx, .ref m_dy, .ref m_weight, .ref m_isBarred, .ref m_walks, .ref m_one, .ref m_two, .ref m_light, .ref m_lightThen, .int (zI (m_family)), .ref m_fromX, .ref m_fromY, .ref m_toX, .ref m_toY, .int (zI (m_ruleMany)), .ref m_rule, .ref m_out, .int (zI (m_outs)), .ref m_grid, .ref m_heap, .ref m_ends, .ref m_power, .ref m_by2, .ref m_product, .ref m_levels, .ref m_row, .ref m_then, .ref m_equations], wI m_heap (zK C).2.1 5550 H2, wJ m_one (zK C).2.2.1 450241 one, wJ m_two (zK C).2.2.1 450241 two] [(0, .ref m), (1, .int (zI (a))), (2, .int (zI (bb))), (3, .int (zI (c))), (4, .int (zI (rows))), (5, .int (zI (cd))), (6, .int (zI (v))), (7, .int (zI (left))), (8, .int (zI (good))), (9, .int (zI (k2)))] 96 [] := by
                            intro f49
                            induction f49 with
                            | zero => intro _ _ _ _ _ _ _ _ _ _ _ hf; exact absurd hf (Nat.not_lt_zero _)
                            | succ f49 ih96_48 =>
                              intro left good k2 H2 vg vlr vl vd vo vb vp hf_96
                              refine z_iload hC 9 dX9_boxes_96 rfl ?_
                              refine z_iload_n hC 2 dX9_boxes_98 rfl rfl ?_
                              refine z_icge hC 191 dX9_boxes_99 (by decide) (by omega) (fun c_50 => ?_) (fun c_50 => ?_)
                              · skip
                                have hgt := box_gt (v := v) (by omega) (by omega) vg vo vb
                                refine z_iload hC 4 dX9_boxes_191 rfl ?_
                                refine z_iload hC 8 dX9_boxes_193 rfl ?_
                                refine z_ifeq hC 202 dX9_boxes_195 (by decide) (by omega) (fun c_51 => ?_) (fun c_51 => ?_)
                                · skip
                                  refine z_iconst hC dX9_boxes_202 ?_
                                  refine z_iadd hC (rows) dX9_boxes_203 (by omega) ?_
                                  refine z_istore hC [(4, .int (zI (rows))), (0, .ref m), (1, .int (zI (a))), (2, .int (zI (bb))), (3, .int (zI (c))), (5, .int (zI (cd))), (6, .int (zI (v))), (7, .int (zI (left))), (8, .int (zI (good))), (9, .int (zI (k2)))] dX9_boxes_204 (by decide) rfl ?_
                                  refine z_iinc (a := v) (v := 1) (r := v + 1) hC 6 [(6, .int (zI (v + 1))), (4, .int (zI (rows))), (0, .ref m), (1, .int (zI (a))), (2, .int (zI (bb))), (3, .int (zI (c))), (5, .int (zI (cd))), (7, .int (zI (left))), (8, .int (zI (good))), (9, .int (zI (k2)))] dX9_boxes_206 rfl rfl (by decide) rfl ?_
                                  refine z_goto hC 79 dX9_boxes_209 (by decide) ?_
                                  refine z_lv (lv' := [(0, .ref m), (1, .int (zI (a))), (2, .int (zI (bb))), (3, .int (zI (c))), (4, .int (zI (rows))), (5, .int (zI (cd))), (6, .int (zI (v + 1)))]) [2, 3, 4, 5, 1, 6, 0] rfl ?_
                                  exact ih79_17 rows (v + 1) H2 (by omega) (by first | (rw [cntG_yes (by omega) (by rcases hgt with q | q; exact q.2; omega)]; omega) | (rw [cntG_no (by omega) (by rcases hgt with q | q; omega; exact q.2)]; omega)) (by exact box_vh (rows := rows) (by omega) vr vh vp hgt vd (by omega)) (by omega)
                                · skip
                                  refine z_iconst hC dX9_boxes_198 ?_
                                  refine z_goto hC 203 dX9_boxes_199 (by decide) ?_
                                  refine z_iadd hC (rows + 1) dX9_boxes_203 rfl ?_
                                  refine z_istore hC [(4, .int (zI (rows + 1))), (0, .ref m), (1, .int (zI (a))), (2, .int (zI (bb))), (3, .int (zI (c))), (5, .int (zI (cd))), (6, .int (zI (v))), (7, .int (zI (left))), (8, .int (zI (good))), (9, .int (zI (k2)))] dX9_boxes_204 (by decide) rfl ?_
                                  refine z_iinc (a := v) (v := 1) (r := v + 1) hC 6 [(6, .int (zI (v + 1))), (4, .int (zI (rows + 1))), (0, .ref m), (1, .int (zI (a))), (2, .int (zI (bb))), (3, .int (zI (c))), (5, .int (zI (cd))), (7, .int (zI (left))), (8, .int (zI (good))), (9, .int (zI (k2)))] dX9_boxes_206 rfl rfl (by decide) rfl ?_
                                  refine z_goto hC 79 dX9_boxes_209 (by decide) ?_
                                  refine z_lv (lv' := [(0, .ref m), (1, .int (zI (a))), (2, .int (zI (bb))), (3, .int (zI (c))), (4, .int (zI (rows + 1))), (5, .int (zI (cd))), (6, .int (zI (v + 1)))]) [2, 3, 4, 5, 1, 6, 0] rfl ?_
                                  exact ih79_17 (rows + 1) (v + 1) H2 (by omega) (by first | (rw [cntG_yes (by omega) (by rcases hgt with q | q; exact q.2; omega)]; omega) | (rw [cntG_no (by omega) (by rcases hgt with q | q; omega; exact q.2)]; omega)) (by exact box_vh (rows := rows) (by omega) vr vh vp hgt vd (by omega)) (by omega)
                              · skip
                                have vl1 : left = lfB (c + 1) k2.toNat v := by omega
                                have hd0 := dgB_r (B := c + 1) (v := v) (k := k2) (by omega)
                                have hd1 := dgB_r (B := c + 1) (v := v) (k := k2 - 1) (by omega)
                                have hdv := dvB (l := left) (B := c + 1) (by omega) (by omega)
                                refine z_aload_n hC 0 dX9_boxes_102 rfl rfl ?_
                                refine z_get hC (T := TX9) (N := 41) hinX9 0 32 dX9_boxes_103 rfl rfl (by decide) (List.mem_of_getElem? (i := 3) rfl) rfl rfl ?_
                                refine z_bipush hC dX9_boxes_106 (by decide) ?_
                                refine z_iload hC 4 dX9_boxes_108 rfl ?_
                                refine z_imul hC (6 * rows) dX9_boxes_110 rfl ?_
                                refine z_iload hC 9 dX9_boxes_111 rfl ?_
                                refine z_iadd hC ((6 * rows) + k2) dX9_boxes_113 rfl ?_
                                refine z_iload hC 7 dX9_boxes_114 rfl ?_
                                refine z_iload_n hC 3 dX9_boxes_116 rfl rfl ?_
                                refine z_iconst hC dX9_boxes_117 ?_
                                refine z_iadd hC (c + 1) dX9_boxes_118 rfl ?_
                                refine z_irem hC (left % (c + 1)) dX9_boxes_119 (by omega) rfl ?_
                                refine z_topi (b := dgB (c + 1) v k2) (by rw [vl1]; rfl) ?_
                                refine z_iast hC 1 [wO m 9 [.int (zI (0)), .int (zI (0)), .ref m_sheetSort, .ref m_sheetMany, .ref m_numbers, .int (zI (m_steps)), .int (zI (m_kind)), .int (zI (m_top)), .int (zI (m_round)), .int (zI (m_ax)), .int (zI (m_ay)), .int (zI (m_bx)), .int (zI (m_by)), .ref m_dx, .ref m_dy, .ref m_weight, .ref m_isBarred, .ref m_walks, .ref m_one, .ref m_two, .ref m_light, .ref m_lightThen, .int (zI (m_family)), .ref m_fromX, .ref m_fromY, .ref m_toX, .ref m_toY, .int (zI (m_ruleMany)), .ref m_rule, .ref m_out, .int (zI (m_outs)), .ref m_grid, .ref m_heap, .ref m_ends, .ref m_power, .ref m_by2, .ref m_product, .ref m_levels, .ref m_row, .ref m_then, .ref m_equations], wI m_heap (zK C).2.1 5550 (zu H2 ((6 * rows) + k2) (dgB (c + 1) v k2)), wJ m_one (zK C).2.2.1 450241 one, wJ m_two (zK C).2.2.1 450241 two] dX9_boxes_120 rfl (by omega) rfl ?_
                                refine z_iload hC 7 dX9_boxes_121 rfl ?_
                                refine z_iload_n hC 3 dX9_boxes_123 rfl rfl ?_
                                refine z_iconst hC dX9_boxes_124 ?_
                                refine z_iadd hC (c + 1) dX9_boxes_125 rfl ?_
                                refine z_idiv hC (left / (c + 1)) dX9_boxes_126 (by omega) rfl ?_
                                refine z_istore hC [(7, .int (zI (left / (c + 1)))), (0, .ref m), (1, .int (zI (a))), (2, .int (zI (bb))), (3, .int (zI (c))), (4, .int (zI (rows))), (5, .int (zI (cd))), (6, .int (zI (v))), (8, .int (zI (good))), (9, .int (zI (k2)))] dX9_boxes_127 (by decide) rfl ?_
                                refine z_iload hC 8 dX9_boxes_129 rfl ?_
                                refine z_ifeq hC 174 dX9_boxes_131 (by decide) (by omega) (fun c_52 => by exfalso; omega) (fun c_52 => ?_)
                                refine z_iload hC 9 dX9_boxes_134 rfl ?_
                                refine z_ifeq hC 170 dX9_boxes_136 (by decide) (by omega) (fun c_53 => ?_) (fun c_53 => ?_)
                                · skip
                                  refine z_iconst hC dX9_boxes_170 ?_
                                  refine z_goto hC 175 dX9_boxes_171 (by decide) ?_
                                  refine z_istore hC [(8, .int (zI (1))), (7, .int (zI (left / (c + 1)))), (0, .ref m), (1, .int (zI (a))), (2, .int (zI (bb))), (3, .int (zI (c))), (4, .int (zI (rows))), (5, .int (zI (cd))), (6, .int (zI (v))), (9, .int (zI (k2)))] dX9_boxes_175 (by decide) rfl ?_
                                  refine z_iload hC 0 dX9_boxes_177 rfl ?_
                                  refine z_ifne hC 185 dX9_boxes_179 (by decide) (by omega) (fun c_54 => ?_) (fun c_54 => by exfalso; omega)
                                  refine z_iinc (a := k2) (v := 1) (r := k2 + 1) hC 9 [(9, .int (zI (k2 + 1))), (8, .int (zI (1))), (7, .int (zI (left / (c + 1)))), (0, .ref m), (1, .int (zI (a))), (2, .int (zI (bb))), (3, .int (zI (c))), (4, .int (zI (rows))), (5, .int (zI (cd))), (6, .int (zI (v)))] dX9_boxes_185 rfl rfl (by decide) rfl ?_
                                  refine z_goto hC 96 dX9_boxes_188 (by decide) ?_
                                  refine z_lv (lv' := [(0, .ref m), (1, .int (zI (a))), (2, .int (zI (bb))), (3, .int (zI (c))), (4, .int (zI (rows))), (5, .int (zI (cd))), (6, .int (zI (v))), (7, .int (zI (left / (c + 1)))), (8, .int (zI (1))), (9, .int (zI (k2 + 1)))]) [3, 4, 5, 6, 7, 8, 9, 2, 1, 0] rfl ?_
                                  exact ih96_48 (left / (c + 1)) 1 (k2 + 1) (zu H2 ((6 * rows) + k2) (dgB (c + 1) v k2)) (by omega) (by omega) (by first | (left; rfl) | (right; rw [show (k2 + 1).toNat = k2.toNat + 1 by omega, vl1]; rfl)) (by intro i h0 h1 h2 h3; unfold zu; by_cases e : i = k2; (rw [e, if_pos rfl]); (rw [if_neg (by omega)]; exact vd i h0 (by omega) h2 (by omega))) (by first | (left; rfl) | (right; intro i h0 h1; by_cases e : i = k2; (first | (exfalso; omega) | (rw [e]; omega)); (rcases vo with q | q; omega; exact q i h0 (by omega)))) (by first | (left; rfl) | (right; exact ⟨k2, by omega, by omega, by omega⟩)) (by intro j h0; unfold zu; rw [if_neg (by omega)]; exact vp j h0) (by omega)
                                · skip
                                  refine z_aload_n hC 1 dX9_boxes_139 rfl rfl ?_
                                  refine z_get hC (T := TX9) (N := 41) hinX9 0 32 dX9_boxes_140 rfl rfl (by decide) (List.mem_of_getElem? (i := 3) rfl) rfl rfl ?_
                                  refine z_bipush hC dX9_boxes_143 (by decide) ?_
                                  refine z_iload hC 5 dX9_boxes_145 rfl ?_
                                  refine z_imul hC (6 * rows) dX9_boxes_147 rfl ?_
                                  refine z_iload hC 9 dX9_boxes_148 rfl ?_
                                  refine z_iadd hC ((6 * rows) + k2) dX9_boxes_150 rfl ?_
                                  refine z_iald hC 1 dX9_boxes_151 rfl (by omega) ?_
                                  refine z_topi (b := dgB (c + 1) v k2) (by unfold zu; rw [if_pos rfl]) ?_
                                  refine z_aload_n hC 1 dX9_boxes_152 rfl rfl ?_
                                  refine z_get hC (T := TX9) (N := 41) hinX9 0 32 dX9_boxes_153 rfl rfl (by decide) (List.mem_of_getElem? (i := 3) rfl) rfl rfl ?_
                                  refine z_bipush hC dX9_boxes_156 (by decide) ?_
                                  refine z_iload hC 5 dX9_boxes_158 rfl ?_
                                  refine z_imul hC (6 * rows) dX9_boxes_160 rfl ?_
                                  refine z_iload hC 9 dX9_boxes_161 rfl ?_
                                  refine z_iadd hC ((6 * rows) + k2) dX9_boxes_163 rfl ?_
                                  refine z_iconst hC dX9_boxes_164 ?_
                                  refine z_isub hC (((6 * rows) + k2) - 1) dX9_boxes_165 rfl ?_
                                  refine z_iald hC 1 dX9_boxes_166 rfl (by omega) ?_
                                  refine z_topi (b := dgB (c + 1) v (k2 - 1)) (by unfold zu; rw [if_neg (by omega), show 6 * rows + k2 - 1 = 6 * rows + (k2 - 1) by omega]; exact vd (k2 - 1) (by omega) (by omega) (by omega) (by omega)) ?_
                                  refine z_icgt hC 174 dX9_boxes_167 (by decide) (by omega) (fun c_55 => ?_) (fun c_55 => ?_)
                                  · skip
                                    refine z_iconst hC dX9_boxes_174 ?_
                                    refine z_istore hC [(8, .int (zI (0))), (7, .int (zI (left / (c + 1)))), (0, .ref m), (1, .int (zI (a))), (2, .int (zI (bb))), (3, .int (zI (c))), (4, .int (zI (rows))), (5, .int (zI (cd))), (6, .int (zI (v))), (9, .int (zI (k2)))] dX9_boxes_175 (by decide) rfl ?_
                                    refine z_iload hC 0 dX9_boxes_177 rfl ?_
                                    refine z_ifne hC 185 dX9_boxes_179 (by decide) (by omega) (fun c_56 => by exfalso; omega) (fun c_56 => ?_)
                                    refine z_iload_n hC 4 dX9_boxes_182 rfl rfl ?_
                                    refine z_istore hC [(9, .int (zI (bb))), (8, .int (zI (0))), (7, .int (zI (left / (c + 1)))), (0, .ref m), (1, .int (zI (a))), (2, .int (zI (bb))), (3, .int (zI (c))), (4, .int (zI (rows))), (5, .int (zI (cd))), (6, .int (zI (v)))] dX9_boxes_183 (by decide) rfl ?_
                                    refine z_iinc (a := bb) (v := 1) (r := bb + 1) hC 0 [(9, .int (zI (bb + 1))), (8, .int (zI (0))), (7, .int (zI (left / (c + 1)))), (0, .ref m), (1, .int (zI (a))), (2, .int (zI (bb))), (3, .int (zI (c))), (4, .int (zI (rows))), (5, .int (zI (cd))), (6, .int (zI (v)))] dX9_boxes_185 rfl rfl (by decide) rfl ?_
                                    refine z_goto hC 96 dX9_boxes_188 (by decide) ?_
                                    refine z_lv (lv' := [(0, .ref m), (1, .int (zI (a))), (2, .int (zI (bb))), (3, .int (zI (c))), (4, .int (zI (rows))), (5, .int (zI (cd))), (6, .int (zI (v))), (7, .int (zI (left / (c + 1)))), (8, .int (zI (0))), (9, .int (zI (bb + 1)))]) [3, 4, 5, 6, 7, 8, 9, 2, 1, 0] rfl ?_
                                    exact ih96_48 (left / (c + 1)) 0 (bb + 1) (zu H2 ((6 * rows) + k2) (dgB (c + 1) v k2)) (by omega) (by omega) (by first | (left; rfl) | (right; rw [show (k2 + 1).toNat = k2.toNat + 1 by omega, vl1]; rfl)) (by intro i h0 h1 h2 h3; unfold zu; by_cases e : i = k2; (rw [e, if_pos rfl]); (rw [if_neg (by omega)]; exact vd i h0 (by omega) h2 (by omega))) (by first | (left; rfl) | (right; intro i h0 h1; by_cases e : i = k2; (first | (exfalso; omega) | (rw [e]; omega)); (rcases vo with q | q; omega; exact q i h0 (by omega)))) (by first | (left; rfl) | (right; exact ⟨k2, by omega, by omega, by omega⟩)) (by intro j h0; unfold zu; rw [if_neg (by omega)]; exact vp j h0) (by omega)
                                  · skip
                                    refine z_iconst hC dX9_boxes_170 ?_
                                    refine z_goto hC 175 dX9_boxes_171 (by decide) ?_
                                    refine z_istore hC [(8, .int (zI (1))), (7, .int (zI (left / (c + 1)))), (0, .ref m), (1, .int (zI (a))), (2, .int (zI (bb))), (3, .int (zI (c))), (4, .int (zI (rows))), (5, .int (zI (cd))), (6, .int (zI (v))), (9, .int (zI (k2)))] dX9_boxes_175 (by decide) rfl ?_
                                    refine z_iload hC 0 dX9_boxes_177 rfl ?_
                                    refine z_ifne hC 185 dX9_boxes_179 (by decide) (by omega) (fun c_57 => ?_) (fun c_57 => by exfalso; omega)
                                    refine z_iinc (a := k2) (v := 1) (r := k2 + 1) hC 9 [(9, .int (zI (k2 + 1))), (8, .int (zI (1))), (7, .int (zI (left / (c + 1)))), (0, .ref m), (1, .int (zI (a))), (2, .int (zI (bb))), (3, .int (zI (c))), (4, .int (zI (rows))), (5, .int (zI (cd))), (6, .int (zI (v)))] dX9_boxes_185 rfl rfl (by decide) rfl ?_
                                    refine z_goto hC 96 dX9_boxes_188 (by decide) ?_
                                    refine z_lv (lv' := [(0, .ref m), (1, .int (zI (a))), (2, .int (zI (bb))), (3, .int (zI (c))), (4, .int (zI (rows))), (5, .int (zI (cd))), (6, .int (zI (v))), (7, .int (zI (left / (c + 1)))), (8, .int (zI (1))), (9, .int (zI (k2 + 1)))]) [3, 4, 5, 6, 7, 8, 9, 2, 1, 0] rfl ?_
                                    exact ih96_48 (left / (c + 1)) 1 (k2 + 1) (zu H2 ((6 * rows) + k2) (dgB (c + 1) v k2)) (by omega) (by omega) (by first | (left; rfl) | (right; rw [show (k2 + 1).toNat = k2.toNat + 1 by omega, vl1]; rfl)) (by intro i h0 h1 h2 h3; unfold zu; by_cases e : i = k2; (rw [e, if_pos rfl]); (rw [if_neg (by omega)]; exact vd i h0 (by omega) h2 (by omega))) (by first | (left; rfl) | (right; intro i h0 h1; by_cases e : i = k2; (first | (exfalso; omega) | (rw [e]; omega)); (rcases vo with q | q; omega; exact q i h0 (by omega)))) (by first | (left; rfl) | (right; exact ⟨k2, by omega, by omega, by omega⟩)) (by intro j h0; unfold zu; rw [if_neg (by omega)]; exact vp j h0) (by omega)
                          exact lp96_47 _ v 1 0 H (by omega) (by omega) (by right; rfl) (by intro i h0 h1; omega) (by right; intro i h0 h1; omega) (by left; rfl) (by intro j _; rfl) (Nat.lt_succ_self _)
                    exact lp79_16 _ 0 0 hp_ (by omega) (by rfl) (by intro u k u0 u1; omega) (Nat.lt_succ_self _)
                  · skip
                    refine z_iload hC 5 dX9_boxes_62 rfl ?_
                    refine z_iload_n hC 3 dX9_boxes_64 rfl rfl ?_
                    refine z_iconst hC dX9_boxes_65 ?_
                    refine z_iadd hC (c + 1) dX9_boxes_66 rfl ?_
                    refine z_imul hC (cd * (c + 1)) dX9_boxes_67 rfl ?_
                    refine z_istore hC [(5, .int (zI (cd * (c + 1)))), (0, .ref m), (1, .int (zI (a))), (2, .int (zI (bb))), (3, .int (zI (c))), (4, .int (zI (0))), (6, .int (zI (k)))] dX9_boxes_68 (by decide) rfl ?_
                    refine z_iinc (a := k) (v := 1) (r := k + 1) hC 6 [(6, .int (zI (k + 1))), (5, .int (zI (cd * (c + 1)))), (0, .ref m), (1, .int (zI (a))), (2, .int (zI (bb))), (3, .int (zI (c))), (4, .int (zI (0)))] dX9_boxes_70 rfl rfl (by decide) rfl ?_
                    refine z_goto hC 56 dX9_boxes_73 (by decide) ?_
                    refine z_lv (lv' := [(0, .ref m), (1, .int (zI (a))), (2, .int (zI (bb))), (3, .int (zI (c))), (4, .int (zI (0))), (5, .int (zI (cd * (c + 1)))), (6, .int (zI (k + 1)))]) [2, 3, 4, 5, 6, 1, 0] rfl ?_
                    exact ih56_13 (cd * (c + 1)) (k + 1) (by omega) (by rw [vc, show (k + 1).toNat = k.toNat + 1 by omega, Int.pow_succ]) (by omega)
              exact lp56_12 _ 1 0 (by omega) (by exact (Int.pow_zero _).symm) (Nat.lt_succ_self _)
            · skip
              refine z_aload_n hC 0 dX9_boxes_40 rfl rfl ?_
              refine z_iconst hC dX9_boxes_41 ?_
              refine z_callV hC [.int (zI (2))] 1 0 dX9_boxes_42 (c_X9_refuse (zl C) (zD C) (zK C) m m_sheetSort m_sheetMany m_numbers m_dx m_dy m_weight m_isBarred m_walks m_one m_two m_light m_lightThen m_fromX m_fromY m_toX m_toY m_rule m_out m_grid m_heap m_ends m_power m_by2 m_product m_levels m_row m_then m_equations 2 0 0 m_steps m_kind m_top m_round m_ax m_ay m_bx m_by m_family m_ruleMany m_outs ) gX9_boxes_X9_refuse rfl rfl rfl ⟨by decide, by decide, by decide +kernel⟩ ⟨(Nat.le_of_ble_eq_true rfl), (Nat.le_of_ble_eq_true rfl)⟩ rfl rfl rfl rfl [0] [1, 2, 3] [wI m_heap (zK C).2.1 5550 hp_, wJ m_one (zK C).2.2.1 450241 one, wJ m_two (zK C).2.2.1 450241 two] [] rfl rfl rfl rfl rfl (by decide) (Nat.le_of_ble_eq_true rfl) ⟨(Nat.le_of_ble_eq_true rfl), (Nat.le_of_ble_eq_true rfl)⟩ ?_
              rintro v_ w_ ⟨rfl, rfl, h_42_58⟩
              show ZW C 0 0 [wI m_heap (zK C).2.1 5550 hp_, wJ m_one (zK C).2.2.1 450241 one, wJ m_two (zK C).2.2.1 450241 two, wO m 9 [.int (zI (2)), .int (zI (0)), .ref m_sheetSort, .ref m_sheetMany, .ref m_numbers, .int (zI (m_steps)), .int (zI (m_kind)), .int (zI (m_top)), .int (zI (m_round)), .int (zI (m_ax)), .int (zI (m_ay)), .int (zI (m_bx)), .int (zI (m_by)), .ref m_dx, .ref m_dy, .ref m_weight, .ref m_isBarred, .ref m_walks, .ref m_one, .ref m_two, .ref m_light, .ref m_lightThen, .int (zI (m_family)), .ref m_fromX, .ref m_fromY, .ref m_toX, .ref m_toY, .int (zI (m_ruleMany)), .ref m_rule, .ref m_out, .int (zI (m_outs)), .ref m_grid, .ref m_heap, .ref m_ends, .ref m_power, .ref m_by2, .ref m_product, .ref m_levels, .ref m_row, .ref m_then, .ref m_equations]] [(0, .ref m), (1, .int (zI (a))), (2, .int (zI (bb))), (3, .int (zI (c)))] 45 [.int (zI (-1))]
              refine z_i2l hC dX9_boxes_45 (by omega) ?_
              refine z_ws (ws' := []) [] rfl rfl ?_
              exact z_lret hC hR dX9_boxes_46 (Nat.le_of_ble_eq_true rfl) (Nat.le_of_ble_eq_true rfl) ⟨-1, rfl, rfl, by omega⟩
