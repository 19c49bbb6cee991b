/-- a square is open, by the reference: 1 or 0 -/
def opM (kind top round : Int) (mb : Int → Int) (x y : Int) : Int := if -30 ≤ x ∧ x ≤ 30 ∧ -30 ≤ y ∧ y ≤ 30 ∧ inK kind top round x y = 1 ∧ mb (61 * (x + 30) + y + 30) = 0 then 1 else 0
/-- a told step, in its two pieces -/
def stA (f : Int → Int) (b k : Int) : Prop := (-3 ≤ f (b + 2 * k) ∧ f (b + 2 * k) ≤ 3 ∧ -3 ≤ f (b + (2 * k + 1)) ∧ f (b + (2 * k + 1)) ≤ 3 ∧ ¬ (f (b + 2 * k) = 0 ∧ f (b + (2 * k + 1)) = 0))
def stB (f : Int → Int) (b k m : Int) : Prop := ∀ i, 0 ≤ i → i < m → ¬ (f (b + 2 * i) = f (b + 2 * k) ∧ f (b + (2 * i + 1)) = f (b + (2 * k + 1)))
theorem stB_s {f : Int → Int} {b k i : Int} (h : stB f b k i) (h2 : ¬ (f (b + 2 * i) = f (b + 2 * k) ∧ f (b + (2 * i + 1)) = f (b + (2 * k + 1)))) : stB f b k (i + 1) := by
  intro q q0 q1
  by_cases e : q = i
  · rw [e]; exact h2
  · exact h q q0 (by omega)
/-- a wall's squares by the reference's numbers -/
def wlS (f : Int → Int) (b k : Int) : Int := 61 * (f (b + 2 * k) + 30) + f (b + (2 * k + 1)) + 30
theorem wls_step {f qb mb : Int → Int} {b k n n2 : Int} (hk : 0 ≤ k) (vb : qb = wlB (wlS f b) k.toNat mb ∧ n = wlN (wlS f b) k.toNat mb) (h : n2 = n + (1 - qb (61 * (f (b + 2 * k) + 30) + f (b + (2 * k + 1)) + 30))) : zu qb (61 * (f (b + 2 * k) + 30) + f (b + (2 * k + 1)) + 30) 1 = wlB (wlS f b) (k + 1).toNat mb ∧ n2 = wlN (wlS f b) (k + 1).toNat mb := by
  rw [show (k + 1).toNat = k.toNat + 1 by omega]
  have e3 : ((k.toNat : Nat) : Int) = k := by omega
  constructor
  · show _ = zu (wlB (wlS f b) k.toNat mb) (wlS f b (k.toNat : Nat)) 1
    rw [e3, ← vb.1]
    rfl
  · show n2 = wlN (wlS f b) k.toNat mb + (1 - wlB (wlS f b) k.toNat mb (wlS f b (k.toNat : Nat)))
    rw [e3, ← vb.1, ← vb.2]
    exact h
theorem pour_step {g num : Int → Int} {sheet to i j many k n : Int} (hk : 0 ≤ k ∧ k < many ∧ 0 ≤ sheet ∧ 0 ≤ to ∧ 0 ≤ i ∧ 0 ≤ j ∧ i + many ≤ 64 ∧ j + many ≤ 64) (vg : ∀ t, g t = if (i < j ∧ 64 * to + j + many - k ≤ t ∧ t < 64 * to + j + many) ∨ (¬ i < j ∧ 64 * to + j ≤ t ∧ t < 64 * to + j + k) then num (64 * sheet + i + (t - (64 * to + j))) else num t) (hn : (i < j ∧ n = many - 1 - k) ∨ (¬ i < j ∧ n = k)) (hx : 0 ≤ n ∧ n < many) :
    ∀ t, zu g (64 * to + j + n) (g (64 * sheet + i + n)) t = if (i < j ∧ 64 * to + j + many - (k + 1) ≤ t ∧ t < 64 * to + j + many) ∨ (¬ i < j ∧ 64 * to + j ≤ t ∧ t < 64 * to + j + (k + 1)) then num (64 * sheet + i + (t - (64 * to + j))) else num t := by
  intro t
  unfold zu
  by_cases e : t = 64 * to + j + n
  · rw [if_pos e, if_pos (by omega), vg, if_neg (by omega)]
    congr 1
    omega
  · rw [if_neg e, vg t]
    by_cases q : (i < j ∧ 64 * to + j + many - k ≤ t ∧ t < 64 * to + j + many) ∨ (¬ i < j ∧ 64 * to + j ≤ t ∧ t < 64 * to + j + k)
    · rw [if_pos q, if_pos (by omega)]
    · rw [if_neg q, if_neg (by omega)]
theorem pour_end {g num : Int → Int} {sheet to i j many k : Int} (hk : k = many ∧ 0 ≤ many) (vg : ∀ t, g t = if (i < j ∧ 64 * to + j + many - k ≤ t ∧ t < 64 * to + j + many) ∨ (¬ i < j ∧ 64 * to + j ≤ t ∧ t < 64 * to + j + k) then num (64 * sheet + i + (t - (64 * to + j))) else num t) : g = zmv num (64 * sheet + i) (64 * to + j) many := by
  funext t
  rw [vg t]
  unfold zmv
  by_cases q : 64 * to + j ≤ t ∧ t < 64 * to + j + many
  · rw [if_pos q, if_pos (by omega)]
  · rw [if_neg q, if_neg (by omega)]
set_option maxHeartbeats 4000000 in
set_option maxRecDepth 100000 in
theorem c_X9_refuse (l : Launch) (D : va_G) (K : ClassId × ClassId × ClassId × ClassId) (m m_sheetSort m_sheetMany m_numbers m_dx m_dy m_weight m_isBarred m_walks m_one m_two m_light m_lightThen m_fromX m_fromY m_toX m_toY m_rule m_out m_grid m_heap m_ends m_power m_by2 m_product m_levels m_row m_then m_equations : Nat) (why m_status m_thrown m_steps m_kind m_top m_round m_ax m_ay m_bx m_by m_family m_ruleMany m_outs : Int) : zMet l D K yX9_refuse wsX9_refuse ({ frames := 0, cells := 0, slots := 0, locals := 0 }) 0 0 [.ref m, .int (zI (why))] [wO m 9 [.int (zI (m_status)), .int (zI (m_thrown)), .ref m_sheetSort, .ref m_sheetMany, .ref m_numbers, .int (zI (m_steps)), .int (zI (m_kind)), .int (zI (m_top)), .int (zI (m_round)), .int (zI (m_ax)), .int (zI (m_ay)), .int (zI (m_bx)), .int (zI (m_by)), .ref m_dx, .ref m_dy, .ref m_weight, .ref m_isBarred, .ref m_walks, .ref m_one, .ref m_two, .ref m_light, .ref m_lightThen, .int (zI (m_family)), .ref m_fromX, .ref m_fromY, .ref m_toX, .ref m_toY, .int (zI (m_ruleMany)), .ref m_rule, .ref m_out, .int (zI (m_outs)), .ref m_grid, .ref m_heap, .ref m_ends, .ref m_power, .ref m_by2, .ref m_product, .ref m_levels, .ref m_row, .ref m_then, .ref m_equations]] (fun vr_ wr_ => vr_ = some (.int (zI (-1))) ∧ wr_ = [wO m 9 [.int (zI (why)), .int (zI (m_thrown)), .ref m_sheetSort, .ref m_sheetMany, .ref m_numbers, .int (zI (m_steps)), .int (zI (m_kind)), .int (zI (m_top)), .int (zI (m_round)), .int (zI (m_ax)), .int (zI (m_ay)), .int (zI (m_bx)), .int (zI (m_by)), .ref m_dx, .ref m_dy, .ref m_weight, .ref m_isBarred, .ref m_walks, .ref m_one, .ref m_two, .ref m_light, .ref m_lightThen, .int (zI (m_family)), .ref m_fromX, .ref m_fromY, .ref m_toX, .ref m_toY, .int (zI (m_ruleMany)), .ref m_rule, .ref m_out, .int (zI (m_outs)), .ref m_grid, .ref m_heap, .ref m_ends, .ref m_power, .ref m_by2, .ref m_product, .ref m_levels, .ref m_row, .ref m_then, .ref m_equations]] ∧ (True)) := by
  refine zMet_of (cc := cX9_refuse) (nL := 2) (ret := (some .int)) (by decide) rfl (Nat.le_of_ble_eq_true rfl) ?_
  rintro C rfl rfl rfl hC hR
  have hinX9 : ∀ w ∈ u_ws RX9 TX9 41, w ∈ wsX9_refuse := by decide +kernel
  show ZW C 0 0 [wO m 9 [.int (zI (m_status)), .int (zI (m_thrown)), .ref m_sheetSort, .ref m_sheetMany, .ref m_numbers, .int (zI (m_steps)), .int (zI (m_kind)), .int (zI (m_top)), .int (zI (m_round)), .int (zI (m_ax)), .int (zI (m_ay)), .int (zI (m_bx)), .int (zI (m_by)), .ref m_dx, .ref m_dy, .ref m_weight, .ref m_isBarred, .ref m_walks, .ref m_one, .ref m_two, .ref m_light, .ref m_lightThen, .int (zI (m_family)), .ref m_fromX, .ref m_fromY, .ref m_toX, .ref m_toY, .int (zI (m_ruleMany)), .ref m_rule, .ref m_out, .int (zI (m_outs)), .ref m_grid, .ref m_heap, .ref m_ends, .ref m_power, .ref m_by2, .ref m_product, .ref m_levels, .ref m_row, .ref m_then, .ref m_equations]] [(0, .ref m), (1, .int (zI (why)))] 0 []
  refine z_aload_n hC 0 dX9_refuse_0 rfl rfl ?_
  refine z_iload_n hC 1 dX9_refuse_1 rfl rfl ?_
  refine z_put hC (T := TX9) (N := 41) hinX9 tyX9_ok nmX9 0 0 [wO m 9 [.int (zI (why)), .int (zI (m_thrown)), .ref m_sheetSort, .ref m_sheetMany, .ref m_numbers, .int (zI (m_steps)), .int (zI (m_kind)), .int (zI (m_top)), .int (zI (m_round)), .int (zI (m_ax)), .int (zI (m_ay)), .int (zI (m_bx)), .int (zI (m_by)), .ref m_dx, .ref m_dy, .ref m_weight, .ref m_isBarred, .ref m_walks, .ref m_one, .ref m_two, .ref m_light, .ref m_lightThen, .int (zI (m_family)), .ref m_fromX, .ref m_fromY, .ref m_toX, .ref m_toY, .int (zI (m_ruleMany)), .ref m_rule, .ref m_out, .int (zI (m_outs)), .ref m_grid, .ref m_heap, .ref m_ends, .ref m_power, .ref m_by2, .ref m_product, .ref m_levels, .ref m_row, .ref m_then, .ref m_equations]] dX9_refuse_2 rfl rfl (by decide) (List.mem_of_getElem? (i := 1) rfl) rfl rfl rfl rfl (Nat.le_of_ble_eq_true rfl) rfl ?_
  refine z_iconst hC dX9_refuse_5 ?_
  exact z_iret hC hR dX9_refuse_6 (Nat.le_of_ble_eq_true rfl) (Nat.le_of_ble_eq_true rfl) ⟨(by first | rfl | (congr 3; omega)), rfl, by trivial⟩

set_option maxHeartbeats 4000000 in
set_option maxRecDepth 100000 in
theorem c_X9_no (l : Launch) (D : va_G) (K : ClassId × ClassId × ClassId × ClassId) (m m_sheetSort m_sheetMany m_numbers m_dx m_dy m_weight m_isBarred m_walks m_one m_two m_light m_lightThen m_fromX m_fromY m_toX m_toY m_rule m_out m_grid m_heap m_ends m_power m_by2 m_product m_levels m_row m_then m_equations : Nat) (why m_status m_thrown m_steps m_kind m_top m_round m_ax m_ay m_bx m_by m_family m_ruleMany m_outs : Int) : zMet l D K yX9_no wsX9_no ({ frames := 0, cells := 0, slots := 0, locals := 0 }) 0 0 [.ref m, .int (zI (why))] [wO m 9 [.int (zI (m_status)), .int (zI (m_thrown)), .ref m_sheetSort, .ref m_sheetMany, .ref m_numbers, .int (zI (m_steps)), .int (zI (m_kind)), .int (zI (m_top)), .int (zI (m_round)), .int (zI (m_ax)), .int (zI (m_ay)), .int (zI (m_bx)), .int (zI (m_by)), .ref m_dx, .ref m_dy, .ref m_weight, .ref m_isBarred, .ref m_walks, .ref m_one, .ref m_two, .ref m_light, .ref m_lightThen, .int (zI (m_family)), .ref m_fromX, .ref m_fromY, .ref m_toX, .ref m_toY, .int (zI (m_ruleMany)), .ref m_rule, .ref m_out, .int (zI (m_outs)), .ref m_grid, .ref m_heap, .ref m_ends, .ref m_power, .ref m_by2, .ref m_product, .ref m_levels, .ref m_row, .ref m_then, .ref m_equations]] (fun vr_ wr_ => vr_ = some (.int (zI (0))) ∧ wr_ = [wO m 9 [.int (zI (why)), .int (zI (m_thrown)), .ref m_sheetSort, .ref m_sheetMany, .ref m_numbers, .int (zI (m_steps)), .int (zI (m_kind)), .int (zI (m_top)), .int (zI (m_round)), .int (zI (m_ax)), .int (zI (m_ay)), .int (zI (m_bx)), .int (zI (m_by)), .ref m_dx, .ref m_dy, .ref m_weight, .ref m_isBarred, .ref m_walks, .ref m_one, .ref m_two, .ref m_light, .ref m_lightThen, .int (zI (m_family)), .ref m_fromX, .ref m_fromY, .ref m_toX, .ref m_toY, .int (zI (m_ruleMany)), .ref m_rule, .ref m_out, .int (zI (m_outs)), .ref m_grid, .ref m_heap, .ref m_ends, .ref m_power, .ref m_by2, .ref m_product, .ref m_levels, .ref m_row, .ref m_then, .ref m_equations]] ∧ (True)) := by
  refine zMet_of (cc := cX9_no) (nL := 2) (ret := (some .boolean)) (by decide) rfl (Nat.le_of_ble_eq_true rfl) ?_
  rintro C rfl rfl rfl hC hR
  have hinX9 : ∀ w ∈ u_ws RX9 TX9 41, w ∈ wsX9_no := by decide +kernel
  show ZW C 0 0 [wO m 9 [.int (zI (m_status)), .int (zI (m_thrown)), .ref m_sheetSort, .ref m_sheetMany, .ref m_numbers, .int (zI (m_steps)), .int (zI (m_kind)), .int (zI (m_top)), .int (zI (m_round)), .int (zI (m_ax)), .int (zI (m_ay)), .int (zI (m_bx)), .int (zI (m_by)), .ref m_dx, .ref m_dy, .ref m_weight, .ref m_isBarred, .ref m_walks, .ref m_one, .ref m_two, .ref m_light, .ref m_lightThen, .int (zI (m_family)), .ref m_fromX, .ref m_fromY, .ref m_toX, .ref m_toY, .int (zI (m_ruleMany)), .ref m_rule, .ref m_out, .int (zI (m_outs)), .ref m_grid, .ref m_heap, .ref m_ends, .ref m_power, .ref m_by2, .ref m_product, .ref m_levels, .ref m_row, .ref m_then, .ref m_equations]] [(0, .ref m), (1, .int (zI (why)))] 0 []
  refine z_aload_n hC 0 dX9_no_0 rfl rfl ?_
  refine z_iload_n hC 1 dX9_no_1 rfl rfl ?_
  refine z_put hC (T := TX9) (N := 41) hinX9 tyX9_ok nmX9 0 0 [wO m 9 [.int (zI (why)), .int (zI (m_thrown)), .ref m_sheetSort, .ref m_sheetMany, .ref m_numbers, .int (zI (m_steps)), .int (zI (m_kind)), .int (zI (m_top)), .int (zI (m_round)), .int (zI (m_ax)), .int (zI (m_ay)), .int (zI (m_bx)), .int (zI (m_by)), .ref m_dx, .ref m_dy, .ref m_weight, .ref m_isBarred, .ref m_walks, .ref m_one, .ref m_two, .ref m_light, .ref m_lightThen, .int (zI (m_family)), .ref m_fromX, .ref m_fromY, .ref m_toX, .ref m_toY, .int (zI (m_ruleMany)), .ref m_rule, .ref m_out, .int (zI (m_outs)), .ref m_grid, .ref m_heap, .ref m_ends, .ref m_power, .ref m_by2, .ref m_product, .ref m_levels, .ref m_row, .ref m_then, .ref m_equations]] dX9_no_2 rfl rfl (by decide) (List.mem_of_getElem? (i := 1) rfl) rfl rfl rfl rfl (Nat.le_of_ble_eq_true rfl) rfl ?_
  refine z_iconst hC dX9_no_5 ?_
  exact z_zret hC hR dX9_no_6 (by omega) (Nat.le_of_ble_eq_true rfl) (Nat.le_of_ble_eq_true rfl) ⟨(by first | rfl | (congr 3; omega)), rfl, by trivial⟩

set_option maxHeartbeats 4000000 in
set_option maxRecDepth 100000 in
theorem c_X9_cut (l : Launch) (D : va_G) (K : ClassId × ClassId × ClassId × ClassId) (sort v : Int) (hsort : zR sort) : zMet l D K yX9_cut wsX9_cut ({ frames := 0, cells := 0, slots := 0, locals := 0 }) 0 0 [.int (zI (sort)), .int (zI (v))] [] (fun vr_ wr_ => ∃ (r : Int), vr_ = some (.int (zI (r))) ∧ wr_ = [] ∧ (r = cutA sort v)) := by
  refine zMet_of (cc := cX9_cut) (nL := 2) (ret := (some .int)) (by decide) rfl (Nat.le_of_ble_eq_true rfl) ?_
  rintro C rfl rfl rfl hC hR
  show ZW C 0 0 [] [(0, .int (zI (sort))), (1, .int (zI (v)))] 0 []
  refine z_iload_n hC 0 dX9_cut_0 rfl rfl ?_
  refine z_ifne hC 9 dX9_cut_1 (by decide) (by omega) (fun c_1 => ?_) (fun c_1 => ?_)
  · skip
    refine z_iload_n hC 0 dX9_cut_9 rfl rfl ?_
    refine z_iconst hC dX9_cut_10 ?_
    refine z_icne hC 19 dX9_cut_11 (by decide) (by omega) (fun c_2 => ?_) (fun c_2 => ?_)
    · skip
      refine z_iload_n hC 1 dX9_cut_19 rfl rfl ?_
      exact z_iret hC hR dX9_cut_20 (Nat.le_of_ble_eq_true rfl) (Nat.le_of_ble_eq_true rfl) ⟨v, rfl, rfl, by unfold cutA; (repeat' split) <;> first | rfl | omega⟩
    · skip
      refine z_iload_n hC 1 dX9_cut_14 rfl rfl ?_
      refine z_i2sw hC dX9_cut_15 ?_
      refine z_goto hC 20 dX9_cut_16 (by decide) ?_
      exact z_iret hC hR dX9_cut_20 (Nat.le_of_ble_eq_true rfl) (Nat.le_of_ble_eq_true rfl) ⟨cutS v, rfl, rfl, by unfold cutA; (repeat' split) <;> first | rfl | omega⟩
  · skip
    refine z_iload_n hC 1 dX9_cut_4 rfl rfl ?_
    refine z_i2bw hC dX9_cut_5 ?_
    refine z_goto hC 20 dX9_cut_6 (by decide) ?_
    exact z_iret hC hR dX9_cut_20 (Nat.le_of_ble_eq_true rfl) (Nat.le_of_ble_eq_true rfl) ⟨cutB v, rfl, rfl, by unfold cutA; (repeat' split) <;> first | rfl | omega⟩

set_option maxHeartbeats 4000000 in
set_option maxRecDepth 100000 in
theorem c_X9_sheeted (l : Launch) (D : va_G) (K : ClassId × ClassId × ClassId × ClassId) (m m_sheetSort m_sheetMany m_numbers m_dx m_dy m_weight m_isBarred m_walks m_one m_two m_light m_lightThen m_fromX m_fromY m_toX m_toY m_rule m_out m_grid m_heap m_ends m_power m_by2 m_product m_levels m_row m_then m_equations : Nat) (sheet m_status m_thrown m_steps m_kind m_top m_round m_ax m_ay m_bx m_by m_family m_ruleMany m_outs : Int) (mny : Int → Int) (hsheet : zR sheet) (hmny : ∀ j, 0 ≤ j → j < 4 → -1 ≤ mny j ∧ mny j ≤ 64) : zMet l D K yX9_sheeted wsX9_sheeted ({ frames := 0, cells := 0, slots := 0, locals := 0 }) 0 0 [.ref m, .int (zI (sheet))] [wO m 9 [.int (zI (m_status)), .int (zI (m_thrown)), .ref m_sheetSort, .ref m_sheetMany, .ref m_numbers, .int (zI (m_steps)), .int (zI (m_kind)), .int (zI (m_top)), .int (zI (m_round)), .int (zI (m_ax)), .int (zI (m_ay)), .int (zI (m_bx)), .int (zI (m_by)), .ref m_dx, .ref m_dy, .ref m_weight, .ref m_isBarred, .ref m_walks, .ref m_one, .ref m_two, .ref m_light, .ref m_lightThen, .int (zI (m_family)), .ref m_fromX, .ref m_fromY, .ref m_toX, .ref m_toY, .int (zI (m_ruleMany)), .ref m_rule, .ref m_out, .int (zI (m_outs)), .ref m_grid, .ref m_heap, .ref m_ends, .ref m_power, .ref m_by2, .ref m_product, .ref m_levels, .ref m_row, .ref m_then, .ref m_equations], wI m_sheetMany K.2.1 4 mny] (fun vr_ wr_ => ∃ (r : Int), vr_ = some (.int (zI (r))) ∧ wr_ = [wO m 9 [.int (zI (m_status)), .int (zI (m_thrown)), .ref m_sheetSort, .ref m_sheetMany, .ref m_numbers, .int (zI (m_steps)), .int (zI (m_kind)), .int (zI (m_top)), .int (zI (m_round)), .int (zI (m_ax)), .int (zI (m_ay)), .int (zI (m_bx)), .int (zI (m_by)), .ref m_dx, .ref m_dy, .ref m_weight, .ref m_isBarred, .ref m_walks, .ref m_one, .ref m_two, .ref m_light, .ref m_lightThen, .int (zI (m_family)), .ref m_fromX, .ref m_fromY, .ref m_toX, .ref m_toY, .int (zI (m_ruleMany)), .ref m_rule, .ref m_out, .int (zI (m_outs)), .ref m_grid, .ref m_heap, .ref m_ends, .ref m_power, .ref m_by2, .ref m_product, .ref m_levels, .ref m_row, .ref m_then, .ref m_equations], wI m_sheetMany K.2.1 4 mny] ∧ ((¬ (0 ≤ sheet ∧ sheet < 4) ∧ r = 1) ∨ ((0 ≤ sheet ∧ sheet < 4) ∧ mny sheet < 0 ∧ r = 3) ∨ ((0 ≤ sheet ∧ sheet < 4) ∧ 0 ≤ mny sheet ∧ r = 0))) := by
  refine zMet_of (cc := cX9_sheeted) (nL := 2) (ret := (some .int)) (by decide) rfl (Nat.le_of_ble_eq_true rfl) ?_
  rintro C rfl rfl rfl hC hR
  have hinX9 : ∀ w ∈ u_ws RX9 TX9 41, w ∈ wsX9_sheeted := by decide +kernel
  show ZW C 0 0 [wO m 9 [.int (zI (m_status)), .int (zI (m_thrown)), .ref m_sheetSort, .ref m_sheetMany, .ref m_numbers, .int (zI (m_steps)), .int (zI (m_kind)), .int (zI (m_top)), .int (zI (m_round)), .int (zI (m_ax)), .int (zI (m_ay)), .int (zI (m_bx)), .int (zI (m_by)), .ref m_dx, .ref m_dy, .ref m_weight, .ref m_isBarred, .ref m_walks, .ref m_one, .ref m_two, .ref m_light, .ref m_lightThen, .int (zI (m_family)), .ref m_fromX, .ref m_fromY, .ref m_toX, .ref m_toY, .int (zI (m_ruleMany)), .ref m_rule, .ref m_out, .int (zI (m_outs)), .ref m_grid, .ref m_heap, .ref m_ends, .ref m_power, .ref m_by2, .ref m_product, .ref m_levels, .ref m_row, .ref m_then, .ref m_equations], wI m_sheetMany (zK C).2.1 4 mny] [(0, .ref m), (1, .int (zI (sheet)))] 0 []
  refine z_iload_n hC 1 dX9_sheeted_0 rfl rfl ?_
  refine z_iflt hC 9 dX9_sheeted_1 (by decide) (by omega) (fun c_1 => ?_) (fun c_1 => ?_)
  · skip
    refine z_iconst hC dX9_sheeted_9 ?_
    refine z_goto hC 27 dX9_sheeted_10 (by decide) ?_
    exact z_iret hC hR dX9_sheeted_27 (Nat.le_of_ble_eq_true rfl) (Nat.le_of_ble_eq_true rfl) ⟨1, rfl, rfl, by (first | (left; omega) | (right; left; omega) | (right; right; omega) | omega)⟩
  · skip
    refine z_iload_n hC 1 dX9_sheeted_4 rfl rfl ?_
    refine z_iconst hC dX9_sheeted_5 ?_
    refine z_iclt hC 13 dX9_sheeted_6 (by decide) (by omega) (fun c_2 => ?_) (fun c_2 => ?_)
    · skip
      refine z_aload_n hC 0 dX9_sheeted_13 rfl rfl ?_
      refine z_get hC (T := TX9) (N := 41) hinX9 0 3 dX9_sheeted_14 rfl rfl (by decide) (List.mem_of_getElem? (i := 1) rfl) rfl rfl ?_
      refine z_iload_n hC 1 dX9_sheeted_17 rfl rfl ?_
      refine z_iald hC 1 dX9_sheeted_18 rfl (by omega) ?_
      have l_3 := hmny sheet (by omega) (by omega)
      refine z_ifge hC 26 dX9_sheeted_19 (by decide) (by omega) (fun c_4 => ?_) (fun c_4 => ?_)
      · skip
        refine z_iconst hC dX9_sheeted_26 ?_
        exact z_iret hC hR dX9_sheeted_27 (Nat.le_of_ble_eq_true rfl) (Nat.le_of_ble_eq_true rfl) ⟨0, rfl, rfl, by (first | (left; omega) | (right; left; omega) | (right; right; omega) | omega)⟩
      · skip
        refine z_iconst hC dX9_sheeted_22 ?_
        refine z_goto hC 27 dX9_sheeted_23 (by decide) ?_
        exact z_iret hC hR dX9_sheeted_27 (Nat.le_of_ble_eq_true rfl) (Nat.le_of_ble_eq_true rfl) ⟨3, rfl, rfl, by (first | (left; omega) | (right; left; omega) | (right; right; omega) | omega)⟩
    · skip
      refine z_iconst hC dX9_sheeted_9 ?_
      refine z_goto hC 27 dX9_sheeted_10 (by decide) ?_
      exact z_iret hC hR dX9_sheeted_27 (Nat.le_of_ble_eq_true rfl) (Nat.le_of_ble_eq_true rfl) ⟨1, rfl, rfl, by (first | (left; omega) | (right; left; omega) | (right; right; omega) | omega)⟩

set_option maxHeartbeats 4000000 in
set_option maxRecDepth 100000 in
theorem c_X9_placed (l : Launch) (D : va_G) (K : ClassId × ClassId × ClassId × ClassId) (m m_sheetSort m_sheetMany m_numbers m_dx m_dy m_weight m_isBarred m_walks m_one m_two m_light m_lightThen m_fromX m_fromY m_toX m_toY m_rule m_out m_grid m_heap m_ends m_power m_by2 m_product m_levels m_row m_then m_equations : Nat) (sheet place m_status m_thrown m_steps m_kind m_top m_round m_ax m_ay m_bx m_by m_family m_ruleMany m_outs : Int) (mny : Int → Int) (hsheet : zR sheet) (hplace : zR place) (hmny : ∀ j, 0 ≤ j → j < 4 → -1 ≤ mny j ∧ mny j ≤ 64) : zMet l D K yX9_placed wsX9_placed ({ frames := 1, cells := 0, slots := 0, locals := 21 }) 0 0 [.ref m, .int (zI (sheet)), .int (zI (place))] [wO m 9 [.int (zI (m_status)), .int (zI (m_thrown)), .ref m_sheetSort, .ref m_sheetMany, .ref m_numbers, .int (zI (m_steps)), .int (zI (m_kind)), .int (zI (m_top)), .int (zI (m_round)), .int (zI (m_ax)), .int (zI (m_ay)), .int (zI (m_bx)), .int (zI (m_by)), .ref m_dx, .ref m_dy, .ref m_weight, .ref m_isBarred, .ref m_walks, .ref m_one, .ref m_two, .ref m_light, .ref m_lightThen, .int (zI (m_family)), .ref m_fromX, .ref m_fromY, .ref m_toX, .ref m_toY, .int (zI (m_ruleMany)), .ref m_rule, .ref m_out, .int (zI (m_outs)), .ref m_grid, .ref m_heap, .ref m_ends, .ref m_power, .ref m_by2, .ref m_product, .ref m_levels, .ref m_row, .ref m_then, .ref m_equations], wI m_sheetMany K.2.1 4 mny] (fun vr_ wr_ => ∃ (r : Int), vr_ = some (.int (zI (r))) ∧ wr_ = [wO m 9 [.int (zI (m_status)), .int (zI (m_thrown)), .ref m_sheetSort, .ref m_sheetMany, .ref m_numbers, .int (zI (m_steps)), .int (zI (m_kind)), .int (zI (m_top)), .int (zI (m_round)), .int (zI (m_ax)), .int (zI (m_ay)), .int (zI (m_bx)), .int (zI (m_by)), .ref m_dx, .ref m_dy, .ref m_weight, .ref m_isBarred, .ref m_walks, .ref m_one, .ref m_two, .ref m_light, .ref m_lightThen, .int (zI (m_family)), .ref m_fromX, .ref m_fromY, .ref m_toX, .ref m_toY, .int (zI (m_ruleMany)), .ref m_rule, .ref m_out, .int (zI (m_outs)), .ref m_grid, .ref m_heap, .ref m_ends, .ref m_power, .ref m_by2, .ref m_product, .ref m_levels, .ref m_row, .ref m_then, .ref m_equations], wI m_sheetMany K.2.1 4 mny] ∧ ((¬ (0 ≤ sheet ∧ sheet < 4) ∧ r = 1) ∨ ((0 ≤ sheet ∧ sheet < 4) ∧ mny sheet < 0 ∧ r = 3) ∨ ((0 ≤ sheet ∧ sheet < 4) ∧ 0 ≤ mny sheet ∧ ¬ (0 ≤ place ∧ place < mny sheet) ∧ r = 4) ∨ ((0 ≤ sheet ∧ sheet < 4) ∧ 0 ≤ place ∧ place < mny sheet ∧ r = 0))) := by
  refine zMet_of (cc := cX9_placed) (nL := 4) (ret := (some .int)) (by decide) rfl (Nat.le_of_ble_eq_true rfl) ?_
  rintro C rfl rfl rfl hC hR
  have hinX9 : ∀ w ∈ u_ws RX9 TX9 41, w ∈ wsX9_placed := by decide +kernel
  show ZW C 0 0 [wO m 9 [.int (zI (m_status)), .int (zI (m_thrown)), .ref m_sheetSort, .ref m_sheetMany, .ref m_numbers, .int (zI (m_steps)), .int (zI (m_kind)), .int (zI (m_top)), .int (zI (m_round)), .int (zI (m_ax)), .int (zI (m_ay)), .int (zI (m_bx)), .int (zI (m_by)), .ref m_dx, .ref m_dy, .ref m_weight, .ref m_isBarred, .ref m_walks, .ref m_one, .ref m_two, .ref m_light, .ref m_lightThen, .int (zI (m_family)), .ref m_fromX, .ref m_fromY, .ref m_toX, .ref m_toY, .int (zI (m_ruleMany)), .ref m_rule, .ref m_out, .int (zI (m_outs)), .ref m_grid, .ref m_heap, .ref m_ends, .ref m_power, .ref m_by2, .ref m_product, .ref m_levels, .ref m_row, .ref m_then, .ref m_equations], wI m_sheetMany (zK C).2.1 4 mny] [(0, .ref m), (1, .int (zI (sheet))), (2, .int (zI (place)))] 0 []
  refine z_aload_n hC 0 dX9_placed_0 rfl rfl ?_
  refine z_iload_n hC 1 dX9_placed_1 rfl rfl ?_
  refine z_callV hC [.int (zI (sheet))] 1 0 dX9_placed_2 (c_X9_sheeted (zl C) (zD C) (zK C) m m_sheetSort m_sheetMany m_numbers m_dx m_dy m_weight m_isBarred m_walks m_one m_two m_light m_lightThen m_fromX m_fromY m_toX m_toY m_rule m_out m_grid m_heap m_ends m_power m_by2 m_product m_levels m_row m_then m_equations sheet m_status m_thrown m_steps m_kind m_top m_round m_ax m_ay m_bx m_by m_family m_ruleMany m_outs mny (by first | assumption | omega) (by first | assumption | omega)) gX9_placed_X9_sheeted rfl rfl rfl ⟨by decide, by decide, by decide +kernel⟩ ⟨(Nat.le_of_ble_eq_true rfl), (Nat.le_of_ble_eq_true rfl)⟩ rfl rfl rfl rfl [0, 1] [] [] [] rfl rfl rfl rfl rfl (by decide) (Nat.le_of_ble_eq_true rfl) ⟨(Nat.le_of_ble_eq_true rfl), (Nat.le_of_ble_eq_true rfl)⟩ ?_
  rintro v_ w_ ⟨r_1, rfl, rfl, h_2_2⟩
  show ZW C 0 0 [wO m 9 [.int (zI (m_status)), .int (zI (m_thrown)), .ref m_sheetSort, .ref m_sheetMany, .ref m_numbers, .int (zI (m_steps)), .int (zI (m_kind)), .int (zI (m_top)), .int (zI (m_round)), .int (zI (m_ax)), .int (zI (m_ay)), .int (zI (m_bx)), .int (zI (m_by)), .ref m_dx, .ref m_dy, .ref m_weight, .ref m_isBarred, .ref m_walks, .ref m_one, .ref m_two, .ref m_light, .ref m_lightThen, .int (zI (m_family)), .ref m_fromX, .ref m_fromY, .ref m_toX, .ref m_toY, .int (zI (m_ruleMany)), .ref m_rule, .ref m_out, .int (zI (m_outs)), .ref m_grid, .ref m_heap, .ref m_ends, .ref m_power, .ref m_by2, .ref m_product, .ref m_levels, .ref m_row, .ref m_then, .ref m_equations], wI m_sheetMany (zK C).2.1 4 mny] [(0, .ref m), (1, .int (zI (sheet))), (2, .int (zI (place)))] 5 [.int (zI (r_1))]
  refine z_istore_n hC [(3, .int (zI (r_1))), (0, .ref m), (1, .int (zI (sheet))), (2, .int (zI (place)))] dX9_placed_5 rfl (by decide) rfl ?_
  refine z_iload_n hC 0 dX9_placed_6 rfl rfl ?_
  refine z_ifle hC 14 dX9_placed_7 (by decide) (by omega) (fun c_3 => ?_) (fun c_3 => ?_)
  · skip
    refine z_iload_n hC 3 dX9_placed_14 rfl rfl ?_
    refine z_iflt hC 28 dX9_placed_15 (by decide) (by omega) (fun c_4 => ?_) (fun c_4 => ?_)
    · skip
      refine z_iconst hC dX9_placed_28 ?_
      refine z_goto hC 33 dX9_placed_29 (by decide) ?_
      exact z_iret hC hR dX9_placed_33 (Nat.le_of_ble_eq_true rfl) (Nat.le_of_ble_eq_true rfl) ⟨4, rfl, rfl, by (first | (left; omega) | (right; left; omega) | (right; right; left; omega) | (right; right; right; omega) | omega)⟩
    · skip
      refine z_iload_n hC 3 dX9_placed_18 rfl rfl ?_
      refine z_aload_n hC 1 dX9_placed_19 rfl rfl ?_
      refine z_get hC (T := TX9) (N := 41) hinX9 0 3 dX9_placed_20 rfl rfl (by decide) (List.mem_of_getElem? (i := 1) rfl) rfl rfl ?_
      refine z_iload_n hC 2 dX9_placed_23 rfl rfl ?_
      refine z_iald hC 1 dX9_placed_24 rfl (by omega) ?_
      have l_5 := hmny sheet (by omega) (by omega)
      refine z_iclt hC 32 dX9_placed_25 (by decide) (by omega) (fun c_6 => ?_) (fun c_6 => ?_)
      · skip
        refine z_iconst hC dX9_placed_32 ?_
        exact z_iret hC hR dX9_placed_33 (Nat.le_of_ble_eq_true rfl) (Nat.le_of_ble_eq_true rfl) ⟨0, rfl, rfl, by (first | (left; omega) | (right; left; omega) | (right; right; left; omega) | (right; right; right; omega) | omega)⟩
      · skip
        refine z_iconst hC dX9_placed_28 ?_
        refine z_goto hC 33 dX9_placed_29 (by decide) ?_
        exact z_iret hC hR dX9_placed_33 (Nat.le_of_ble_eq_true rfl) (Nat.le_of_ble_eq_true rfl) ⟨4, rfl, rfl, by (first | (left; omega) | (right; left; omega) | (right; right; left; omega) | (right; right; right; omega) | omega)⟩
  · skip
    refine z_iload_n hC 0 dX9_placed_10 rfl rfl ?_
    refine z_goto hC 33 dX9_placed_11 (by decide) ?_
    exact z_iret hC hR dX9_placed_33 (Nat.le_of_ble_eq_true rfl) (Nat.le_of_ble_eq_true rfl) ⟨r_1, rfl, rfl, by (first | (left; omega) | (right; left; omega) | (right; right; left; omega) | (right; right; right; omega) | omega)⟩

set_option maxHeartbeats 4000000 in
set_option maxRecDepth 100000 in
theorem c_X9_isShut (l : Launch) (D : va_G) (K : ClassId × ClassId × ClassId × ClassId) (m m_sheetSort m_sheetMany m_numbers m_dx m_dy m_weight m_isBarred m_walks m_one m_two m_light m_lightThen m_fromX m_fromY m_toX m_toY m_rule m_out m_grid m_heap m_ends m_power m_by2 m_product m_levels m_row m_then m_equations : Nat) (x y m_status m_thrown m_steps m_kind m_top m_round m_ax m_ay m_bx m_by m_family m_ruleMany m_outs : Int) (mb : Int → Int) (hx : -30 ≤ x ∧ x ≤ 30 ∧ -30 ≤ y ∧ y ≤ 30) (hmb : ∀ j, 0 ≤ j → j < 3721 → mb j = 0 ∨ mb j = 1) : zMet l D K yX9_isShut wsX9_isShut ({ frames := 1, cells := 0, slots := 0, locals := 21 }) 0 0 [.ref m, .int (zI (x)), .int (zI (y))] [wO m 9 [.int (zI (m_status)), .int (zI (m_thrown)), .ref m_sheetSort, .ref m_sheetMany, .ref m_numbers, .int (zI (m_steps)), .int (zI (m_kind)), .int (zI (m_top)), .int (zI (m_round)), .int (zI (m_ax)), .int (zI (m_ay)), .int (zI (m_bx)), .int (zI (m_by)), .ref m_dx, .ref m_dy, .ref m_weight, .ref m_isBarred, .ref m_walks, .ref m_one, .ref m_two, .ref m_light, .ref m_lightThen, .int (zI (m_family)), .ref m_fromX, .ref m_fromY, .ref m_toX, .ref m_toY, .int (zI (m_ruleMany)), .ref m_rule, .ref m_out, .int (zI (m_outs)), .ref m_grid, .ref m_heap, .ref m_ends, .ref m_power, .ref m_by2, .ref m_product, .ref m_levels, .ref m_row, .ref m_then, .ref m_equations], wI m_isBarred K.2.2.2 3721 mb] (fun vr_ wr_ => ∃ (r : Int), vr_ = some (.int (zI (r))) ∧ wr_ = [wO m 9 [.int (zI (m_status)), .int (zI (m_thrown)), .ref m_sheetSort, .ref m_sheetMany, .ref m_numbers, .int (zI (m_steps)), .int (zI (m_kind)), .int (zI (m_top)), .int (zI (m_round)), .int (zI (m_ax)), .int (zI (m_ay)), .int (zI (m_bx)), .int (zI (m_by)), .ref m_dx, .ref m_dy, .ref m_weight, .ref m_isBarred, .ref m_walks, .ref m_one, .ref m_two, .ref m_light, .ref m_lightThen, .int (zI (m_family)), .ref m_fromX, .ref m_fromY, .ref m_toX, .ref m_toY, .int (zI (m_ruleMany)), .ref m_rule, .ref m_out, .int (zI (m_outs)), .ref m_grid, .ref m_heap, .ref m_ends, .ref m_power, .ref m_by2, .ref m_product, .ref m_levels, .ref m_row, .ref m_then, .ref m_equations], wI m_isBarred K.2.2.2 3721 mb] ∧ (r = mb (61 * (x + 30) + y + 30) ∧ (r = 0 ∨ r = 1))) := by
  refine zMet_of (cc := cX9_isShut) (nL := 3) (ret := (some .boolean)) (by decide) rfl (Nat.le_of_ble_eq_true rfl) ?_
  rintro C rfl rfl rfl hC hR
  have hinX9 : ∀ w ∈ u_ws RX9 TX9 41, w ∈ wsX9_isShut := by decide +kernel
  show ZW C 0 0 [wO m 9 [.int (zI (m_status)), .int (zI (m_thrown)), .ref m_sheetSort, .ref m_sheetMany, .ref m_numbers, .int (zI (m_steps)), .int (zI (m_kind)), .int (zI (m_top)), .int (zI (m_round)), .int (zI (m_ax)), .int (zI (m_ay)), .int (zI (m_bx)), .int (zI (m_by)), .ref m_dx, .ref m_dy, .ref m_weight, .ref m_isBarred, .ref m_walks, .ref m_one, .ref m_two, .ref m_light, .ref m_lightThen, .int (zI (m_family)), .ref m_fromX, .ref m_fromY, .ref m_toX, .ref m_toY, .int (zI (m_ruleMany)), .ref m_rule, .ref m_out, .int (zI (m_outs)), .ref m_grid, .ref m_heap, .ref m_ends, .ref m_power, .ref m_by2, .ref m_product, .ref m_levels, .ref m_row, .ref m_then, .ref m_equations], wI m_isBarred (zK C).2.2.2 3721 mb] [(0, .ref m), (1, .int (zI (x))), (2, .int (zI (y)))] 0 []
  refine z_aload_n hC 0 dX9_isShut_0 rfl rfl ?_
  refine z_get hC (T := TX9) (N := 41) hinX9 0 16 dX9_isShut_1 rfl rfl (by decide) (List.mem_of_getElem? (i := 1) rfl) rfl rfl ?_
  refine z_iload_n hC 1 dX9_isShut_4 rfl rfl ?_
  refine z_iload_n hC 2 dX9_isShut_5 rfl rfl ?_
  refine z_callS hC [.int (zI (x)), .int (zI (y))] 2 dX9_isShut_6 (c_X9_squareOf (zl C) (zD C) (zK C) x y ) gX9_isShut_X9_squareOf rfl rfl rfl ⟨by decide, by decide, by decide +kernel⟩ ⟨(Nat.le_of_ble_eq_true rfl), (Nat.le_of_ble_eq_true rfl)⟩ rfl [] [0, 1] [wO m 9 [.int (zI (m_status)), .int (zI (m_thrown)), .ref m_sheetSort, .ref m_sheetMany, .ref m_numbers, .int (zI (m_steps)), .int (zI (m_kind)), .int (zI (m_top)), .int (zI (m_round)), .int (zI (m_ax)), .int (zI (m_ay)), .int (zI (m_bx)), .int (zI (m_by)), .ref m_dx, .ref m_dy, .ref m_weight, .ref m_isBarred, .ref m_walks, .ref m_one, .ref m_two, .ref m_light, .ref m_lightThen, .int (zI (m_family)), .ref m_fromX, .ref m_fromY, .ref m_toX, .ref m_toY, .int (zI (m_ruleMany)), .ref m_rule, .ref m_out, .int (zI (m_outs)), .ref m_grid, .ref m_heap, .ref m_ends, .ref m_power, .ref m_by2, .ref m_product, .ref m_levels, .ref m_row, .ref m_then, .ref m_equations], wI m_isBarred (zK C).2.2.2 3721 mb] [.ref m_isBarred] rfl rfl rfl rfl rfl (by decide) (Nat.le_of_ble_eq_true rfl) ⟨(Nat.le_of_ble_eq_true rfl), (Nat.le_of_ble_eq_true rfl)⟩ ?_
  rintro v_ w_ ⟨rfl, rfl, h_6_1⟩
  show ZW C 0 0 [wO m 9 [.int (zI (m_status)), .int (zI (m_thrown)), .ref m_sheetSort, .ref m_sheetMany, .ref m_numbers, .int (zI (m_steps)), .int (zI (m_kind)), .int (zI (m_top)), .int (zI (m_round)), .int (zI (m_ax)), .int (zI (m_ay)), .int (zI (m_bx)), .int (zI (m_by)), .ref m_dx, .ref m_dy, .ref m_weight, .ref m_isBarred, .ref m_walks, .ref m_one, .ref m_two, .ref m_light, .ref m_lightThen, .int (zI (m_family)), .ref m_fromX, .ref m_fromY, .ref m_toX, .ref m_toY, .int (zI (m_ruleMany)), .ref m_rule, .ref m_out, .int (zI (m_outs)), .ref m_grid, .ref m_heap, .ref m_ends, .ref m_power, .ref m_by2, .ref m_product, .ref m_levels, .ref m_row, .ref m_then, .ref m_equations], wI m_isBarred (zK C).2.2.2 3721 mb] [(0, .ref m), (1, .int (zI (x))), (2, .int (zI (y)))] 9 [.int (zI (61 * (x + 30) + y + 30)), .ref m_isBarred]
  refine z_zald hC 1 dX9_isShut_9 rfl (by omega) ?_
  have l_2 := hmb (61 * (x + 30) + y + 30) (by omega) (by omega)
  exact z_zret hC hR dX9_isShut_10 (by omega) (Nat.le_of_ble_eq_true rfl) (Nat.le_of_ble_eq_true rfl) ⟨mb (61 * (x + 30) + y + 30), rfl, rfl, by exact ⟨rfl, by omega⟩⟩

set_option maxHeartbeats 4000000 in
set_option maxRecDepth 100000 in
theorem c_X9_isIn (l : Launch) (D : va_G) (K : ClassId × ClassId × ClassId × ClassId) (m m_sheetSort m_sheetMany m_numbers m_dx m_dy m_weight m_isBarred m_walks m_one m_two m_light m_lightThen m_fromX m_fromY m_toX m_toY m_rule m_out m_grid m_heap m_ends m_power m_by2 m_product m_levels m_row m_then m_equations : Nat) (k x y m_status m_thrown m_steps m_kind m_top m_round m_ax m_ay m_bx m_by m_family m_ruleMany m_outs : Int) (hk : zR k) (hx : zR x) (hy : zR y) (hm_top : zR m_top) (hm_round : zR m_round) : zMet l D K yX9_isIn wsX9_isIn ({ frames := 0, cells := 0, slots := 0, locals := 0 }) 0 0 [.ref m, .int (zI (k)), .int (zI (x)), .int (zI (y))] [wO m 9 [.int (zI (m_status)), .int (zI (m_thrown)), .ref m_sheetSort, .ref m_sheetMany, .ref m_numbers, .int (zI (m_steps)), .int (zI (m_kind)), .int (zI (m_top)), .int (zI (m_round)), .int (zI (m_ax)), .int (zI (m_ay)), .int (zI (m_bx)), .int (zI (m_by)), .ref m_dx, .ref m_dy, .ref m_weight, .ref m_isBarred, .ref m_walks, .ref m_one, .ref m_two, .ref m_light, .ref m_lightThen, .int (zI (m_family)), .ref m_fromX, .ref m_fromY, .ref m_toX, .ref m_toY, .int (zI (m_ruleMany)), .ref m_rule, .ref m_out, .int (zI (m_outs)), .ref m_grid, .ref m_heap, .ref m_ends, .ref m_power, .ref m_by2, .ref m_product, .ref m_levels, .ref m_row, .ref m_then, .ref m_equations]] (fun vr_ wr_ => ∃ (r : Int), vr_ = some (.int (zI (r))) ∧ wr_ = [wO m 9 [.int (zI (m_status)), .int (zI (m_thrown)), .ref m_sheetSort, .ref m_sheetMany, .ref m_numbers, .int (zI (m_steps)), .int (zI (m_kind)), .int (zI (m_top)), .int (zI (m_round)), .int (zI (m_ax)), .int (zI (m_ay)), .int (zI (m_bx)), .int (zI (m_by)), .ref m_dx, .ref m_dy, .ref m_weight, .ref m_isBarred, .ref m_walks, .ref m_one, .ref m_two, .ref m_light, .ref m_lightThen, .int (zI (m_family)), .ref m_fromX, .ref m_fromY, .ref m_toX, .ref m_toY, .int (zI (m_ruleMany)), .ref m_rule, .ref m_out, .int (zI (m_outs)), .ref m_grid, .ref m_heap, .ref m_ends, .ref m_power, .ref m_by2, .ref m_product, .ref m_levels, .ref m_row, .ref m_then, .ref m_equations]] ∧ (r = inK k m_top m_round x y ∧ (r = 0 ∨ r = 1))) := by
  refine zMet_of (cc := cX9_isIn) (nL := 4) (ret := (some .boolean)) (by decide) rfl (Nat.le_of_ble_eq_true rfl) ?_
  rintro C rfl rfl rfl hC hR
  have hinX9 : ∀ w ∈ u_ws RX9 TX9 41, w ∈ wsX9_isIn := by decide +kernel
  show ZW C 0 0 [wO m 9 [.int (zI (m_status)), .int (zI (m_thrown)), .ref m_sheetSort, .ref m_sheetMany, .ref m_numbers, .int (zI (m_steps)), .int (zI (m_kind)), .int (zI (m_top)), .int (zI (m_round)), .int (zI (m_ax)), .int (zI (m_ay)), .int (zI (m_bx)), .int (zI (m_by)), .ref m_dx, .ref m_dy, .ref m_weight, .ref m_isBarred, .ref m_walks, .ref m_one, .ref m_two, .ref m_light, .ref m_lightThen, .int (zI (m_family)), .ref m_fromX, .ref m_fromY, .ref m_toX, .ref m_toY, .int (zI (m_ruleMany)), .ref m_rule, .ref m_out, .int (zI (m_outs)), .ref m_grid, .ref m_heap, .ref m_ends, .ref m_power, .ref m_by2, .ref m_product, .ref m_levels, .ref m_row, .ref m_then, .ref m_equations]] [(0, .ref m), (1, .int (zI (k))), (2, .int (zI (x))), (3, .int (zI (y)))] 0 []
  refine z_iload_n hC 1 dX9_isIn_0 rfl rfl ?_
  rcases (show (k < 1 ∨ 4 < k) ∨ k = 1 ∨ k = 2 ∨ k = 3 ∨ k = 4 by omega) with sw_1 | sw_1 | sw_1 | sw_1 | sw_1
  · refine z_tableOut hC dX9_isIn_1 sw_1 (by omega) 92 (by decide) ?_
    refine z_iconst hC dX9_isIn_92 ?_
    exact z_zret hC hR dX9_isIn_93 (by omega) (Nat.le_of_ble_eq_true rfl) (Nat.le_of_ble_eq_true rfl) ⟨1, rfl, rfl, by unfold inK; refine ⟨?_, by omega⟩; (repeat' split) <;> omega⟩
  · refine z_tableIn hC 1 dX9_isIn_1 sw_1 (by decide) (by decide) (by decide) rfl 32 (by decide) ?_
    refine z_iload_n hC 3 dX9_isIn_32 rfl rfl ?_
    refine z_iflt hC 40 dX9_isIn_33 (by decide) (by omega) (fun c_2 => ?_) (fun c_2 => ?_)
    · skip
      refine z_iconst hC dX9_isIn_40 ?_
      exact z_zret hC hR dX9_isIn_41 (by omega) (Nat.le_of_ble_eq_true rfl) (Nat.le_of_ble_eq_true rfl) ⟨0, rfl, rfl, by unfold inK; refine ⟨?_, by omega⟩; (repeat' split) <;> omega⟩
    · skip
      refine z_iconst hC dX9_isIn_36 ?_
      refine z_goto hC 41 dX9_isIn_37 (by decide) ?_
      exact z_zret hC hR dX9_isIn_41 (by omega) (Nat.le_of_ble_eq_true rfl) (Nat.le_of_ble_eq_true rfl) ⟨1, rfl, rfl, by unfold inK; refine ⟨?_, by omega⟩; (repeat' split) <;> omega⟩
  · refine z_tableIn hC 2 dX9_isIn_1 sw_1 (by decide) (by decide) (by decide) rfl 42 (by decide) ?_
    refine z_iload_n hC 3 dX9_isIn_42 rfl rfl ?_
    refine z_iflt hC 58 dX9_isIn_43 (by decide) (by omega) (fun c_3 => ?_) (fun c_3 => ?_)
    · skip
      refine z_iconst hC dX9_isIn_58 ?_
      exact z_zret hC hR dX9_isIn_59 (by omega) (Nat.le_of_ble_eq_true rfl) (Nat.le_of_ble_eq_true rfl) ⟨0, rfl, rfl, by unfold inK; refine ⟨?_, by omega⟩; (repeat' split) <;> omega⟩
    · skip
      refine z_iload_n hC 3 dX9_isIn_46 rfl rfl ?_
      refine z_aload_n hC 0 dX9_isIn_47 rfl rfl ?_
      refine z_get hC (T := TX9) (N := 41) hinX9 0 7 dX9_isIn_48 rfl rfl (by decide) (List.mem_of_getElem? (i := 1) rfl) rfl rfl ?_
      refine z_icgt hC 58 dX9_isIn_51 (by decide) (by omega) (fun c_4 => ?_) (fun c_4 => ?_)
      · skip
        refine z_iconst hC dX9_isIn_58 ?_
        exact z_zret hC hR dX9_isIn_59 (by omega) (Nat.le_of_ble_eq_true rfl) (Nat.le_of_ble_eq_true rfl) ⟨0, rfl, rfl, by unfold inK; refine ⟨?_, by omega⟩; (repeat' split) <;> omega⟩
      · skip
        refine z_iconst hC dX9_isIn_54 ?_
        refine z_goto hC 59 dX9_isIn_55 (by decide) ?_
        exact z_zret hC hR dX9_isIn_59 (by omega) (Nat.le_of_ble_eq_true rfl) (Nat.le_of_ble_eq_true rfl) ⟨1, rfl, rfl, by unfold inK; refine ⟨?_, by omega⟩; (repeat' split) <;> omega⟩
  · refine z_tableIn hC 3 dX9_isIn_1 sw_1 (by decide) (by decide) (by decide) rfl 60 (by decide) ?_
    refine z_iload_n hC 2 dX9_isIn_60 rfl rfl ?_
    refine z_iflt hC 72 dX9_isIn_61 (by decide) (by omega) (fun c_5 => ?_) (fun c_5 => ?_)
    · skip
      refine z_iconst hC dX9_isIn_72 ?_
      exact z_zret hC hR dX9_isIn_73 (by omega) (Nat.le_of_ble_eq_true rfl) (Nat.le_of_ble_eq_true rfl) ⟨0, rfl, rfl, by unfold inK; refine ⟨?_, by omega⟩; (repeat' split) <;> omega⟩
    · skip
      refine z_iload_n hC 3 dX9_isIn_64 rfl rfl ?_
      refine z_iflt hC 72 dX9_isIn_65 (by decide) (by omega) (fun c_6 => ?_) (fun c_6 => ?_)
      · skip
        refine z_iconst hC dX9_isIn_72 ?_
        exact z_zret hC hR dX9_isIn_73 (by omega) (Nat.le_of_ble_eq_true rfl) (Nat.le_of_ble_eq_true rfl) ⟨0, rfl, rfl, by unfold inK; refine ⟨?_, by omega⟩; (repeat' split) <;> omega⟩
      · skip
        refine z_iconst hC dX9_isIn_68 ?_
        refine z_goto hC 73 dX9_isIn_69 (by decide) ?_
        exact z_zret hC hR dX9_isIn_73 (by omega) (Nat.le_of_ble_eq_true rfl) (Nat.le_of_ble_eq_true rfl) ⟨1, rfl, rfl, by unfold inK; refine ⟨?_, by omega⟩; (repeat' split) <;> omega⟩
  · refine z_tableIn hC 4 dX9_isIn_1 sw_1 (by decide) (by decide) (by decide) rfl 74 (by decide) ?_
    refine z_iload_n hC 2 dX9_isIn_74 rfl rfl ?_
    refine z_iflt hC 90 dX9_isIn_75 (by decide) (by omega) (fun c_7 => ?_) (fun c_7 => ?_)
    · skip
      refine z_iconst hC dX9_isIn_90 ?_
      exact z_zret hC hR dX9_isIn_91 (by omega) (Nat.le_of_ble_eq_true rfl) (Nat.le_of_ble_eq_true rfl) ⟨0, rfl, rfl, by unfold inK; refine ⟨?_, by omega⟩; (repeat' split) <;> omega⟩
    · skip
      refine z_iload_n hC 2 dX9_isIn_78 rfl rfl ?_
      refine z_aload_n hC 0 dX9_isIn_79 rfl rfl ?_
      refine z_get hC (T := TX9) (N := 41) hinX9 0 8 dX9_isIn_80 rfl rfl (by decide) (List.mem_of_getElem? (i := 2) rfl) rfl rfl ?_
      refine z_icge hC 90 dX9_isIn_83 (by decide) (by omega) (fun c_8 => ?_) (fun c_8 => ?_)
      · skip
        refine z_iconst hC dX9_isIn_90 ?_
        exact z_zret hC hR dX9_isIn_91 (by omega) (Nat.le_of_ble_eq_true rfl) (Nat.le_of_ble_eq_true rfl) ⟨0, rfl, rfl, by unfold inK; refine ⟨?_, by omega⟩; (repeat' split) <;> omega⟩
      · skip
        refine z_iconst hC dX9_isIn_86 ?_
        refine z_goto hC 91 dX9_isIn_87 (by decide) ?_
        exact z_zret hC hR dX9_isIn_91 (by omega) (Nat.le_of_ble_eq_true rfl) (Nat.le_of_ble_eq_true rfl) ⟨1, rfl, rfl, by unfold inK; refine ⟨?_, by omega⟩; (repeat' split) <;> omega⟩

set_option maxHeartbeats 4000000 in
set_option maxRecDepth 100000 in
theorem c_X9_isOpen (l : Launch) (D : va_G) (K : ClassId × ClassId × ClassId × ClassId) (m m_sheetSort m_sheetMany m_numbers m_dx m_dy m_weight m_isBarred m_walks m_one m_two m_light m_lightThen m_fromX m_fromY m_toX m_toY m_rule m_out m_grid m_heap m_ends m_power m_by2 m_product m_levels m_row m_then m_equations : Nat) (x y m_status m_thrown m_steps m_kind m_top m_round m_ax m_ay m_bx m_by m_family m_ruleMany m_outs : Int) (mb : Int → Int) (hx : zR x) (hy : zR y) (hm_kind : zR m_kind) (hm_top : zR m_top) (hm_round : zR m_round) (hmb : ∀ j, 0 ≤ j → j < 3721 → mb j = 0 ∨ mb j = 1) : zMet l D K yX9_isOpen wsX9_isOpen ({ frames := 1, cells := 0, slots := 0, locals := 23 }) 0 0 [.ref m, .int (zI (x)), .int (zI (y))] [wO m 9 [.int (zI (m_status)), .int (zI (m_thrown)), .ref m_sheetSort, .ref m_sheetMany, .ref m_numbers, .int (zI (m_steps)), .int (zI (m_kind)), .int (zI (m_top)), .int (zI (m_round)), .int (zI (m_ax)), .int (zI (m_ay)), .int (zI (m_bx)), .int (zI (m_by)), .ref m_dx, .ref m_dy, .ref m_weight, .ref m_isBarred, .ref m_walks, .ref m_one, .ref m_two, .ref m_light, .ref m_lightThen, .int (zI (m_family)), .ref m_fromX, .ref m_fromY, .ref m_toX, .ref m_toY, .int (zI (m_ruleMany)), .ref m_rule, .ref m_out, .int (zI (m_outs)), .ref m_grid, .ref m_heap, .ref m_ends, .ref m_power, .ref m_by2, .ref m_product, .ref m_levels, .ref m_row, .ref m_then, .ref m_equations], wI m_isBarred K.2.2.2 3721 mb] (fun vr_ wr_ => ∃ (r : Int), vr_ = some (.int (zI (r))) ∧ wr_ = [wO m 9 [.int (zI (m_status)), .int (zI (m_thrown)), .ref m_sheetSort, .ref m_sheetMany, .ref m_numbers, .int (zI (m_steps)), .int (zI (m_kind)), .int (zI (m_top)), .int (zI (m_round)), .int (zI (m_ax)), .int (zI (m_ay)), .int (zI (m_bx)), .int (zI (m_by)), .ref m_dx, .ref m_dy, .ref m_weight, .ref m_isBarred, .ref m_walks, .ref m_one, .ref m_two, .ref m_light, .ref m_lightThen, .int (zI (m_family)), .ref m_fromX, .ref m_fromY, .ref m_toX, .ref m_toY, .int (zI (m_ruleMany)), .ref m_rule, .ref m_out, .int (zI (m_outs)), .ref m_grid, .ref m_heap, .ref m_ends, .ref m_power, .ref m_by2, .ref m_product, .ref m_levels, .ref m_row, .ref m_then, .ref m_equations], wI m_isBarred K.2.2.2 3721 mb] ∧ (r = opM m_kind m_top m_round mb x y ∧ (r = 0 ∨ r = 1))) := by
  refine zMet_of (cc := cX9_isOpen) (nL := 3) (ret := (some .boolean)) (by decide) rfl (Nat.le_of_ble_eq_true rfl) ?_
  rintro C rfl rfl rfl hC hR
  have hinX9 : ∀ w ∈ u_ws RX9 TX9 41, w ∈ wsX9_isOpen := by decide +kernel
  show ZW C 0 0 [wO m 9 [.int (zI (m_status)), .int (zI (m_thrown)), .ref m_sheetSort, .ref m_sheetMany, .ref m_numbers, .int (zI (m_steps)), .int (zI (m_kind)), .int (zI (m_top)), .int (zI (m_round)), .int (zI (m_ax)), .int (zI (m_ay)), .int (zI (m_bx)), .int (zI (m_by)), .ref m_dx, .ref m_dy, .ref m_weight, .ref m_isBarred, .ref m_walks, .ref m_one, .ref m_two, .ref m_light, .ref m_lightThen, .int (zI (m_family)), .ref m_fromX, .ref m_fromY, .ref m_toX, .ref m_toY, .int (zI (m_ruleMany)), .ref m_rule, .ref m_out, .int (zI (m_outs)), .ref m_grid, .ref m_heap, .ref m_ends, .ref m_power, .ref m_by2, .ref m_product, .ref m_levels, .ref m_row, .ref m_then, .ref m_equations], wI m_isBarred (zK C).2.2.2 3721 mb] [(0, .ref m), (1, .int (zI (x))), (2, .int (zI (y)))] 0 []
  refine z_iload_n hC 1 dX9_isOpen_0 rfl rfl ?_
  refine z_iload_n hC 2 dX9_isOpen_1 rfl rfl ?_
  refine z_callS hC [.int (zI (x)), .int (zI (y))] 2 dX9_isOpen_2 (c_X9_isSquare (zl C) (zD C) (zK C) x y (by first | assumption | omega) (by first | assumption | omega)) gX9_isOpen_X9_isSquare rfl rfl rfl ⟨by decide, by decide, by decide +kernel⟩ ⟨(Nat.le_of_ble_eq_true rfl), (Nat.le_of_ble_eq_true rfl)⟩ rfl [] [0, 1] [wO m 9 [.int (zI (m_status)), .int (zI (m_thrown)), .ref m_sheetSort, .ref m_sheetMany, .ref m_numbers, .int (zI (m_steps)), .int (zI (m_kind)), .int (zI (m_top)), .int (zI (m_round)), .int (zI (m_ax)), .int (zI (m_ay)), .int (zI (m_bx)), .int (zI (m_by)), .ref m_dx, .ref m_dy, .ref m_weight, .ref m_isBarred, .ref m_walks, .ref m_one, .ref m_two, .ref m_light, .ref m_lightThen, .int (zI (m_family)), .ref m_fromX, .ref m_fromY, .ref m_toX, .ref m_toY, .int (zI (m_ruleMany)), .ref m_rule, .ref m_out, .int (zI (m_outs)), .ref m_grid, .ref m_heap, .ref m_ends, .ref m_power, .ref m_by2, .ref m_product, .ref m_levels, .ref m_row, .ref m_then, .ref m_equations], wI m_isBarred (zK C).2.2.2 3721 mb] [] rfl rfl rfl rfl rfl (by decide) (Nat.le_of_ble_eq_true rfl) ⟨(Nat.le_of_ble_eq_true rfl), (Nat.le_of_ble_eq_true rfl)⟩ ?_
  rintro v_ w_ ⟨r_1, rfl, rfl, h_2_2⟩
  show ZW C 0 0 [wO m 9 [.int (zI (m_status)), .int (zI (m_thrown)), .ref m_sheetSort, .ref m_sheetMany, .ref m_numbers, .int (zI (m_steps)), .int (zI (m_kind)), .int (zI (m_top)), .int (zI (m_round)), .int (zI (m_ax)), .int (zI (m_ay)), .int (zI (m_bx)), .int (zI (m_by)), .ref m_dx, .ref m_dy, .ref m_weight, .ref m_isBarred, .ref m_walks, .ref m_one, .ref m_two, .ref m_light, .ref m_lightThen, .int (zI (m_family)), .ref m_fromX, .ref m_fromY, .ref m_toX, .ref m_toY, .int (zI (m_ruleMany)), .ref m_rule, .ref m_out, .int (zI (m_outs)), .ref m_grid, .ref m_heap, .ref m_ends, .ref m_power, .ref m_by2, .ref m_product, .ref m_levels, .ref m_row, .ref m_then, .ref m_equations], wI m_isBarred (zK C).2.2.2 3721 mb] [(0, .ref m), (1, .int (zI (x))), (2, .int (zI (y)))] 5 [.int (zI (r_1))]
  refine z_ifeq hC 38 dX9_isOpen_5 (by decide) (by omega) (fun c_3 => ?_) (fun c_3 => ?_)
  · skip
    refine z_iconst hC dX9_isOpen_38 ?_
    exact z_zret hC hR dX9_isOpen_39 (by omega) (Nat.le_of_ble_eq_true rfl) (Nat.le_of_ble_eq_true rfl) ⟨0, rfl, rfl, by refine ⟨?_, by omega⟩; unfold opM; split <;> omega⟩
  · skip
    refine z_aload_n hC 0 dX9_isOpen_8 rfl rfl ?_
    refine z_aload_n hC 0 dX9_isOpen_9 rfl rfl ?_
    refine z_get hC (T := TX9) (N := 41) hinX9 0 6 dX9_isOpen_10 rfl rfl (by decide) (List.mem_of_getElem? (i := 1) rfl) rfl rfl ?_
    refine z_iload_n hC 1 dX9_isOpen_13 rfl rfl ?_
    refine z_iload_n hC 2 dX9_isOpen_14 rfl rfl ?_
    refine z_callV hC [.int (zI (m_kind)), .int (zI (x)), .int (zI (y))] 3 0 dX9_isOpen_15 (c_X9_isIn (zl C) (zD C) (zK C) m m_sheetSort m_sheetMany m_numbers m_dx m_dy m_weight m_isBarred m_walks m_one m_two m_light m_lightThen m_fromX m_fromY m_toX m_toY m_rule m_out m_grid m_heap m_ends m_power m_by2 m_product m_levels m_row m_then m_equations m_kind x y m_status m_thrown m_steps m_kind m_top m_round m_ax m_ay m_bx m_by m_family m_ruleMany m_outs (by first | assumption | omega) (by first | assumption | omega) (by first | assumption | omega) (by first | assumption | omega) (by first | assumption | omega)) gX9_isOpen_X9_isIn rfl rfl rfl ⟨by decide, by decide, by decide +kernel⟩ ⟨(Nat.le_of_ble_eq_true rfl), (Nat.le_of_ble_eq_true rfl)⟩ rfl rfl rfl rfl [0] [1] [wI m_isBarred (zK C).2.2.2 3721 mb] [] rfl rfl rfl rfl rfl (by decide) (Nat.le_of_ble_eq_true rfl) ⟨(Nat.le_of_ble_eq_true rfl), (Nat.le_of_ble_eq_true rfl)⟩ ?_
    rintro v_ w_ ⟨r_4, rfl, rfl, h_15_5⟩
    show ZW C 0 0 [wI m_isBarred (zK C).2.2.2 3721 mb, wO m 9 [.int (zI (m_status)), .int (zI (m_thrown)), .ref m_sheetSort, .ref m_sheetMany, .ref m_numbers, .int (zI (m_steps)), .int (zI (m_kind)), .int (zI (m_top)), .int (zI (m_round)), .int (zI (m_ax)), .int (zI (m_ay)), .int (zI (m_bx)), .int (zI (m_by)), .ref m_dx, .ref m_dy, .ref m_weight, .ref m_isBarred, .ref m_walks, .ref m_one, .ref m_two, .ref m_light, .ref m_lightThen, .int (zI (m_family)), .ref m_fromX, .ref m_fromY, .ref m_toX, .ref m_toY, .int (zI (m_ruleMany)), .ref m_rule, .ref m_out, .int (zI (m_outs)), .ref m_grid, .ref m_heap, .ref m_ends, .ref m_power, .ref m_by2, .ref m_product, .ref m_levels, .ref m_row, .ref m_then, .ref m_equations]] [(0, .ref m), (1, .int (zI (x))), (2, .int (zI (y)))] 18 [.int (zI (r_4))]
    refine z_ifeq hC 38 dX9_isOpen_18 (by decide) (by omega) (fun c_6 => ?_) (fun c_6 => ?_)
    · skip
      refine z_iconst hC dX9_isOpen_38 ?_
      refine z_ws (ws' := [wO m 9 [.int (zI (m_status)), .int (zI (m_thrown)), .ref m_sheetSort, .ref m_sheetMany, .ref m_numbers, .int (zI (m_steps)), .int (zI (m_kind)), .int (zI (m_top)), .int (zI (m_round)), .int (zI (m_ax)), .int (zI (m_ay)), .int (zI (m_bx)), .int (zI (m_by)), .ref m_dx, .ref m_dy, .ref m_weight, .ref m_isBarred, .ref m_walks, .ref m_one, .ref m_two, .ref m_light, .ref m_lightThen, .int (zI (m_family)), .ref m_fromX, .ref m_fromY, .ref m_toX, .ref m_toY, .int (zI (m_ruleMany)), .ref m_rule, .ref m_out, .int (zI (m_outs)), .ref m_grid, .ref m_heap, .ref m_ends, .ref m_power, .ref m_by2, .ref m_product, .ref m_levels, .ref m_row, .ref m_then, .ref m_equations], wI m_isBarred (zK C).2.2.2 3721 mb]) [1, 0] rfl rfl ?_
      exact z_zret hC hR dX9_isOpen_39 (by omega) (Nat.le_of_ble_eq_true rfl) (Nat.le_of_ble_eq_true rfl) ⟨0, rfl, rfl, by refine ⟨?_, by omega⟩; unfold opM; split <;> omega⟩
    · skip
      refine z_aload_n hC 0 dX9_isOpen_21 rfl rfl ?_
      refine z_get hC (T := TX9) (N := 41) hinX9 1 16 dX9_isOpen_22 rfl rfl (by decide) (List.mem_of_getElem? (i := 2) rfl) rfl rfl ?_
      refine z_iload_n hC 1 dX9_isOpen_25 rfl rfl ?_
      refine z_iload_n hC 2 dX9_isOpen_26 rfl rfl ?_
      refine z_callS hC [.int (zI (x)), .int (zI (y))] 2 dX9_isOpen_27 (c_X9_squareOf (zl C) (zD C) (zK C) x y ) gX9_isOpen_X9_squareOf rfl rfl rfl ⟨by decide, by decide, by decide +kernel⟩ ⟨(Nat.le_of_ble_eq_true rfl), (Nat.le_of_ble_eq_true rfl)⟩ rfl [] [0, 1] [wI m_isBarred (zK C).2.2.2 3721 mb, wO m 9 [.int (zI (m_status)), .int (zI (m_thrown)), .ref m_sheetSort, .ref m_sheetMany, .ref m_numbers, .int (zI (m_steps)), .int (zI (m_kind)), .int (zI (m_top)), .int (zI (m_round)), .int (zI (m_ax)), .int (zI (m_ay)), .int (zI (m_bx)), .int (zI (m_by)), .ref m_dx, .ref m_dy, .ref m_weight, .ref m_isBarred, .ref m_walks, .ref m_one, .ref m_two, .ref m_light, .ref m_lightThen, .int (zI (m_family)), .ref m_fromX, .ref m_fromY, .ref m_toX, .ref m_toY, .int (zI (m_ruleMany)), .ref m_rule, .ref m_out, .int (zI (m_outs)), .ref m_grid, .ref m_heap, .ref m_ends, .ref m_power, .ref m_by2, .ref m_product, .ref m_levels, .ref m_row, .ref m_then, .ref m_equations]] [.ref m_isBarred] rfl rfl rfl rfl rfl (by decide) (Nat.le_of_ble_eq_true rfl) ⟨(Nat.le_of_ble_eq_true rfl), (Nat.le_of_ble_eq_true rfl)⟩ ?_
      rintro v_ w_ ⟨rfl, rfl, h_27_7⟩
      show ZW C 0 0 [wI m_isBarred (zK C).2.2.2 3721 mb, wO m 9 [.int (zI (m_status)), .int (zI (m_thrown)), .ref m_sheetSort, .ref m_sheetMany, .ref m_numbers, .int (zI (m_steps)), .int (zI (m_kind)), .int (zI (m_top)), .int (zI (m_round)), .int (zI (m_ax)), .int (zI (m_ay)), .int (zI (m_bx)), .int (zI (m_by)), .ref m_dx, .ref m_dy, .ref m_weight, .ref m_isBarred, .ref m_walks, .ref m_one, .ref m_two, .ref m_light, .ref m_lightThen, .int (zI (m_family)), .ref m_fromX, .ref m_fromY, .ref m_toX, .ref m_toY, .int (zI (m_ruleMany)), .ref m_rule, .ref m_out, .int (zI (m_outs)), .ref m_grid, .ref m_heap, .ref m_ends, .ref m_power, .ref m_by2, .ref m_product, .ref m_levels, .ref m_row, .ref m_then, .ref m_equations]] [(0, .ref m), (1, .int (zI (x))), (2, .int (zI (y)))] 30 [.int (zI (61 * (x + 30) + y + 30)), .ref m_isBarred]
      refine z_zald hC 0 dX9_isOpen_30 rfl (by omega) ?_
      have l_8 := hmb (61 * (x + 30) + y + 30) (by omega) (by omega)
      refine z_ifne hC 38 dX9_isOpen_31 (by decide) (by omega) (fun c_9 => ?_) (fun c_9 => ?_)
      · skip
        refine z_iconst hC dX9_isOpen_38 ?_
        refine z_ws (ws' := [wO m 9 [.int (zI (m_status)), .int (zI (m_thrown)), .ref m_sheetSort, .ref m_sheetMany, .ref m_numbers, .int (zI (m_steps)), .int (zI (m_kind)), .int (zI (m_top)), .int (zI (m_round)), .int (zI (m_ax)), .int (zI (m_ay)), .int (zI (m_bx)), .int (zI (m_by)), .ref m_dx, .ref m_dy, .ref m_weight, .ref m_isBarred, .ref m_walks, .ref m_one, .ref m_two, .ref m_light, .ref m_lightThen, .int (zI (m_family)), .ref m_fromX, .ref m_fromY, .ref m_toX, .ref m_toY, .int (zI (m_ruleMany)), .ref m_rule, .ref m_out, .int (zI (m_outs)), .ref m_grid, .ref m_heap, .ref m_ends, .ref m_power, .ref m_by2, .ref m_product, .ref m_levels, .ref m_row, .ref m_then, .ref m_equations], wI m_isBarred (zK C).2.2.2 3721 mb]) [1, 0] rfl rfl ?_
        exact z_zret hC hR dX9_isOpen_39 (by omega) (Nat.le_of_ble_eq_true rfl) (Nat.le_of_ble_eq_true rfl) ⟨0, rfl, rfl, by refine ⟨?_, by omega⟩; unfold opM; split <;> omega⟩
      · skip
        refine z_iconst hC dX9_isOpen_34 ?_
        refine z_goto hC 39 dX9_isOpen_35 (by decide) ?_
        refine z_ws (ws' := [wO m 9 [.int (zI (m_status)), .int (zI (m_thrown)), .ref m_sheetSort, .ref m_sheetMany, .ref m_numbers, .int (zI (m_steps)), .int (zI (m_kind)), .int (zI (m_top)), .int (zI (m_round)), .int (zI (m_ax)), .int (zI (m_ay)), .int (zI (m_bx)), .int (zI (m_by)), .ref m_dx, .ref m_dy, .ref m_weight, .ref m_isBarred, .ref m_walks, .ref m_one, .ref m_two, .ref m_light, .ref m_lightThen, .int (zI (m_family)), .ref m_fromX, .ref m_fromY, .ref m_toX, .ref m_toY, .int (zI (m_ruleMany)), .ref m_rule, .ref m_out, .int (zI (m_outs)), .ref m_grid, .ref m_heap, .ref m_ends, .ref m_power, .ref m_by2, .ref m_product, .ref m_levels, .ref m_row, .ref m_then, .ref m_equations], wI m_isBarred (zK C).2.2.2 3721 mb]) [1, 0] rfl rfl ?_
        exact z_zret hC hR dX9_isOpen_39 (by omega) (Nat.le_of_ble_eq_true rfl) (Nat.le_of_ble_eq_true rfl) ⟨1, rfl, rfl, by refine ⟨?_, by omega⟩; unfold opM; split <;> omega⟩
