theorem clr_new2 {LL : List Int} {q2 : Int → Int} {p r i : Int} (hr : 0 ≤ r ∧ r < 6) (hi : 0 ≤ i ∧ i < 2) (hrp : ¬ r = p) (hv : q2 (2 * r + p) = arL LL (2 * r + p)) (hz : ¬ q2 (2 * r + p) = 0) : (arL LL (2 * r + i) + (998244353 - q2 (2 * r + p)) * (arL LL (2 * p + i) * inv (arL LL (2 * p + p)) % 998244353)) % 998244353 = clF 2 p (arL LL) (2 * r + i) := by
  unfold clF
  rw [show (2 * r + i) / 2 = r by omega, show (2 * r + i) % 2 = i by omega, if_neg hrp, if_neg (by rw [← hv]; exact hz), hv]
theorem clr_skip2 {LL : List Int} {p r j v : Int} (h0 : 0 ≤ j) (h1 : j < 12) (hp : 0 ≤ p ∧ p < 1 ∧ p < 6) (h : v = if 2 * p ≤ j ∧ j < 2 * p + 2 then arL LL j * inv (arL LL (2 * p + p)) % 998244353 else if j < 2 * r then clF 2 p (arL LL) j else arL LL j) (hr : 0 ≤ r) (h2 : r = p ∨ arL LL (2 * r + p) = 0) : v = if 2 * p ≤ j ∧ j < 2 * p + 2 then arL LL j * inv (arL LL (2 * p + p)) % 998244353 else if j < 2 * (r + 1) then clF 2 p (arL LL) j else arL LL j := by
  rw [h]
  by_cases e : 2 * p ≤ j ∧ j < 2 * p + 2
  · rw [if_pos e, if_pos e]
  · rw [if_neg e, if_neg e]
    by_cases e2 : j < 2 * r
    · rw [if_pos e2, if_pos (by omega)]
    · rw [if_neg e2]
      by_cases e3 : j < 2 * (r + 1)
      · rw [if_pos e3]
        rcases h2 with h2 | h2
        · omega
        · unfold clF
          rw [show j / 2 = r by omega, if_neg (by omega), if_pos h2]
      · rw [if_neg e3]
theorem clr_new3 {LL : List Int} {q2 : Int → Int} {p r i : Int} (hr : 0 ≤ r ∧ r < 6) (hi : 0 ≤ i ∧ i < 3) (hrp : ¬ r = p) (hv : q2 (3 * r + p) = arL LL (3 * r + p)) (hz : ¬ q2 (3 * r + p) = 0) : (arL LL (3 * r + i) + (998244353 - q2 (3 * r + p)) * (arL LL (3 * p + i) * inv (arL LL (3 * p + p)) % 998244353)) % 998244353 = clF 3 p (arL LL) (3 * r + i) := by
  unfold clF
  rw [show (3 * r + i) / 3 = r by omega, show (3 * r + i) % 3 = i by omega, if_neg hrp, if_neg (by rw [← hv]; exact hz), hv]
theorem clr_skip3 {LL : List Int} {p r j v : Int} (h0 : 0 ≤ j) (h1 : j < 18) (hp : 0 ≤ p ∧ p < 2 ∧ p < 6) (h : v = if 3 * p ≤ j ∧ j < 3 * p + 3 then arL LL j * inv (arL LL (3 * p + p)) % 998244353 else if j < 3 * r then clF 3 p (arL LL) j else arL LL j) (hr : 0 ≤ r) (h2 : r = p ∨ arL LL (3 * r + p) = 0) : v = if 3 * p ≤ j ∧ j < 3 * p + 3 then arL LL j * inv (arL LL (3 * p + p)) % 998244353 else if j < 3 * (r + 1) then clF 3 p (arL LL) j else arL LL j := by
  rw [h]
  by_cases e : 3 * p ≤ j ∧ j < 3 * p + 3
  · rw [if_pos e, if_pos e]
  · rw [if_neg e, if_neg e]
    by_cases e2 : j < 3 * r
    · rw [if_pos e2, if_pos (by omega)]
    · rw [if_neg e2]
      by_cases e3 : j < 3 * (r + 1)
      · rw [if_pos e3]
        rcases h2 with h2 | h2
        · omega
        · unfold clF
          rw [show j / 3 = r by omega, if_neg (by omega), if_pos h2]
      · rw [if_neg e3]
theorem clr_new4 {LL : List Int} {q2 : Int → Int} {p r i : Int} (hr : 0 ≤ r ∧ r < 6) (hi : 0 ≤ i ∧ i < 4) (hrp : ¬ r = p) (hv : q2 (4 * r + p) = arL LL (4 * r + p)) (hz : ¬ q2 (4 * r + p) = 0) : (arL LL (4 * r + i) + (998244353 - q2 (4 * r + p)) * (arL LL (4 * p + i) * inv (arL LL (4 * p + p)) % 998244353)) % 998244353 = clF 4 p (arL LL) (4 * r + i) := by
  unfold clF
  rw [show (4 * r + i) / 4 = r by omega, show (4 * r + i) % 4 = i by omega, if_neg hrp, if_neg (by rw [← hv]; exact hz), hv]
theorem clr_skip4 {LL : List Int} {p r j v : Int} (h0 : 0 ≤ j) (h1 : j < 24) (hp : 0 ≤ p ∧ p < 3 ∧ p < 6) (h : v = if 4 * p ≤ j ∧ j < 4 * p + 4 then arL LL j * inv (arL LL (4 * p + p)) % 998244353 else if j < 4 * r then clF 4 p (arL LL) j else arL LL j) (hr : 0 ≤ r) (h2 : r = p ∨ arL LL (4 * r + p) = 0) : v = if 4 * p ≤ j ∧ j < 4 * p + 4 then arL LL j * inv (arL LL (4 * p + p)) % 998244353 else if j < 4 * (r + 1) then clF 4 p (arL LL) j else arL LL j := by
  rw [h]
  by_cases e : 4 * p ≤ j ∧ j < 4 * p + 4
  · rw [if_pos e, if_pos e]
  · rw [if_neg e, if_neg e]
    by_cases e2 : j < 4 * r
    · rw [if_pos e2, if_pos (by omega)]
    · rw [if_neg e2]
      by_cases e3 : j < 4 * (r + 1)
      · rw [if_pos e3]
        rcases h2 with h2 | h2
        · omega
        · unfold clF
          rw [show j / 4 = r by omega, if_neg (by omega), if_pos h2]
      · rw [if_neg e3]
theorem clr_new5 {LL : List Int} {q2 : Int → Int} {p r i : Int} (hr : 0 ≤ r ∧ r < 6) (hi : 0 ≤ i ∧ i < 5) (hrp : ¬ r = p) (hv : q2 (5 * r + p) = arL LL (5 * r + p)) (hz : ¬ q2 (5 * r + p) = 0) : (arL LL (5 * r + i) + (998244353 - q2 (5 * r + p)) * (arL LL (5 * p + i) * inv (arL LL (5 * p + p)) % 998244353)) % 998244353 = clF 5 p (arL LL) (5 * r + i) := by
  unfold clF
  rw [show (5 * r + i) / 5 = r by omega, show (5 * r + i) % 5 = i by omega, if_neg hrp, if_neg (by rw [← hv]; exact hz), hv]
theorem clr_skip5 {LL : List Int} {p r j v : Int} (h0 : 0 ≤ j) (h1 : j < 30) (hp : 0 ≤ p ∧ p < 4 ∧ p < 6) (h : v = if 5 * p ≤ j ∧ j < 5 * p + 5 then arL LL j * inv (arL LL (5 * p + p)) % 998244353 else if j < 5 * r then clF 5 p (arL LL) j else arL LL j) (hr : 0 ≤ r) (h2 : r = p ∨ arL LL (5 * r + p) = 0) : v = if 5 * p ≤ j ∧ j < 5 * p + 5 then arL LL j * inv (arL LL (5 * p + p)) % 998244353 else if j < 5 * (r + 1) then clF 5 p (arL LL) j else arL LL j := by
  rw [h]
  by_cases e : 5 * p ≤ j ∧ j < 5 * p + 5
  · rw [if_pos e, if_pos e]
  · rw [if_neg e, if_neg e]
    by_cases e2 : j < 5 * r
    · rw [if_pos e2, if_pos (by omega)]
    · rw [if_neg e2]
      by_cases e3 : j < 5 * (r + 1)
      · rw [if_pos e3]
        rcases h2 with h2 | h2
        · omega
        · unfold clF
          rw [show j / 5 = r by omega, if_neg (by omega), if_pos h2]
      · rw [if_neg e3]
theorem clr_new6 {LL : List Int} {q2 : Int → Int} {p r i : Int} (hr : 0 ≤ r ∧ r < 6) (hi : 0 ≤ i ∧ i < 6) (hrp : ¬ r = p) (hv : q2 (6 * r + p) = arL LL (6 * r + p)) (hz : ¬ q2 (6 * r + p) = 0) : (arL LL (6 * r + i) + (998244353 - q2 (6 * r + p)) * (arL LL (6 * p + i) * inv (arL LL (6 * p + p)) % 998244353)) % 998244353 = clF 6 p (arL LL) (6 * r + i) := by
  unfold clF
  rw [show (6 * r + i) / 6 = r by omega, show (6 * r + i) % 6 = i by omega, if_neg hrp, if_neg (by rw [← hv]; exact hz), hv]
theorem clr_skip6 {LL : List Int} {p r j v : Int} (h0 : 0 ≤ j) (h1 : j < 36) (hp : 0 ≤ p ∧ p < 5 ∧ p < 6) (h : v = if 6 * p ≤ j ∧ j < 6 * p + 6 then arL LL j * inv (arL LL (6 * p + p)) % 998244353 else if j < 6 * r then clF 6 p (arL LL) j else arL LL j) (hr : 0 ≤ r) (h2 : r = p ∨ arL LL (6 * r + p) = 0) : v = if 6 * p ≤ j ∧ j < 6 * p + 6 then arL LL j * inv (arL LL (6 * p + p)) % 998244353 else if j < 6 * (r + 1) then clF 6 p (arL LL) j else arL LL j := by
  rw [h]
  by_cases e : 6 * p ≤ j ∧ j < 6 * p + 6
  · rw [if_pos e, if_pos e]
  · rw [if_neg e, if_neg e]
    by_cases e2 : j < 6 * r
    · rw [if_pos e2, if_pos (by omega)]
    · rw [if_neg e2]
      by_cases e3 : j < 6 * (r + 1)
      · rw [if_pos e3]
        rcases h2 with h2 | h2
        · omega
        · unfold clF
          rw [show j / 6 = r by omega, if_neg (by omega), if_pos h2]
      · rw [if_neg e3]
theorem clr_new7 {LL : List Int} {q2 : Int → Int} {p r i : Int} (hr : 0 ≤ r ∧ r < 6) (hi : 0 ≤ i ∧ i < 7) (hrp : ¬ r = p) (hv : q2 (7 * r + p) = arL LL (7 * r + p)) (hz : ¬ q2 (7 * r + p) = 0) : (arL LL (7 * r + i) + (998244353 - q2 (7 * r + p)) * (arL LL (7 * p + i) * inv (arL LL (7 * p + p)) % 998244353)) % 998244353 = clF 7 p (arL LL) (7 * r + i) := by
  unfold clF
  rw [show (7 * r + i) / 7 = r by omega, show (7 * r + i) % 7 = i by omega, if_neg hrp, if_neg (by rw [← hv]; exact hz), hv]
theorem clr_skip7 {LL : List Int} {p r j v : Int} (h0 : 0 ≤ j) (h1 : j < 42) (hp : 0 ≤ p ∧ p < 6 ∧ p < 6) (h : v = if 7 * p ≤ j ∧ j < 7 * p + 7 then arL LL j * inv (arL LL (7 * p + p)) % 998244353 else if j < 7 * r then clF 7 p (arL LL) j else arL LL j) (hr : 0 ≤ r) (h2 : r = p ∨ arL LL (7 * r + p) = 0) : v = if 7 * p ≤ j ∧ j < 7 * p + 7 then arL LL j * inv (arL LL (7 * p + p)) % 998244353 else if j < 7 * (r + 1) then clF 7 p (arL LL) j else arL LL j := by
  rw [h]
  by_cases e : 7 * p ≤ j ∧ j < 7 * p + 7
  · rw [if_pos e, if_pos e]
  · rw [if_neg e, if_neg e]
    by_cases e2 : j < 7 * r
    · rw [if_pos e2, if_pos (by omega)]
    · rw [if_neg e2]
      by_cases e3 : j < 7 * (r + 1)
      · rw [if_pos e3]
        rcases h2 with h2 | h2
        · omega
        · unfold clF
          rw [show j / 7 = r by omega, if_neg (by omega), if_pos h2]
      · rw [if_neg e3]
set_option maxHeartbeats 8000000 in
set_option maxRecDepth 100000 in
theorem c_X9_clearsw2 (l : Launch) (D : va_G) (K : ClassId × ClassId × ClassId × ClassId) (m m_sheetSort m_sheetMany m_numbers m_dx m_dy m_weight m_isBarred m_walks m_one m_two m_light m_lightThen m_fromX m_fromY m_toX m_toY m_rule m_out m_grid m_heap m_ends m_power m_by2 m_product m_levels m_row m_then m_equations : Nat) (p m_status m_thrown m_steps m_kind m_top m_round m_ax m_ay m_bx m_by m_family m_ruleMany m_outs : Int) (g : Int → Int) (LL : List Int) (hp : 0 ≤ p ∧ p < 1 ∧ p < 6) (hl : ∀ j, 0 ≤ j → j < 12 → g j = arL LL j) (hlr : ∀ j, 0 ≤ arL LL j ∧ arL LL j < 998244353) : zMet l D K yX9_clears wsX9_clears ({ frames := 1, cells := 0, slots := 0, locals := 26 }) 0 0 [.ref m, .int (zI (p)), .int (zI (p)), .int (zI (p)), .int (zI (2)), .int (zI (6))] [wO m 9 [.int (zI (m_status)), .int (zI (m_thrown)), .ref m_sheetSort, .ref m_sheetMany, .ref m_numbers, .int (zI (m_steps)), .int (zI (m_kind)), .int (zI (m_top)), .int (zI (m_round)), .int (zI (m_ax)), .int (zI (m_ay)), .int (zI (m_bx)), .int (zI (m_by)), .ref m_dx, .ref m_dy, .ref m_weight, .ref m_isBarred, .ref m_walks, .ref m_one, .ref m_two, .ref m_light, .ref m_lightThen, .int (zI (m_family)), .ref m_fromX, .ref m_fromY, .ref m_toX, .ref m_toY, .int (zI (m_ruleMany)), .ref m_rule, .ref m_out, .int (zI (m_outs)), .ref m_grid, .ref m_heap, .ref m_ends, .ref m_power, .ref m_by2, .ref m_product, .ref m_levels, .ref m_row, .ref m_then, .ref m_equations], wJ m_equations K.2.2.1 2048 g] (fun vr_ wr_ => ∃ (g2 : Int → Int), vr_ = none ∧ wr_ = [wO m 9 [.int (zI (m_status)), .int (zI (m_thrown)), .ref m_sheetSort, .ref m_sheetMany, .ref m_numbers, .int (zI (m_steps)), .int (zI (m_kind)), .int (zI (m_top)), .int (zI (m_round)), .int (zI (m_ax)), .int (zI (m_ay)), .int (zI (m_bx)), .int (zI (m_by)), .ref m_dx, .ref m_dy, .ref m_weight, .ref m_isBarred, .ref m_walks, .ref m_one, .ref m_two, .ref m_light, .ref m_lightThen, .int (zI (m_family)), .ref m_fromX, .ref m_fromY, .ref m_toX, .ref m_toY, .int (zI (m_ruleMany)), .ref m_rule, .ref m_out, .int (zI (m_outs)), .ref m_grid, .ref m_heap, .ref m_ends, .ref m_power, .ref m_by2, .ref m_product, .ref m_levels, .ref m_row, .ref m_then, .ref m_equations], wJ m_equations K.2.2.1 2048 g2] ∧ (∀ j, 0 ≤ j → j < 12 → g2 j = arL (clL 2 p LL) j)) := by
  refine zMet_of (cc := cX9_clears) (nL := 12) (ret := none) (by decide) rfl (Nat.le_of_ble_eq_true rfl) ?_
  rintro C rfl rfl rfl hC hR
  have hinX9 : ∀ w ∈ u_ws RX9 TX9 41, w ∈ wsX9_clears := by decide +kernel
  have hiv := inv_r (arL LL (2 * p + p))
  have hX := hlr (2 * p + p)
  show ZW C 0 0 [wO m 9 [.int (zI (m_status)), .int (zI (m_thrown)), .ref m_sheetSort, .ref m_sheetMany, .ref m_numbers, .int (zI (m_steps)), .int (zI (m_kind)), .int (zI (m_top)), .int (zI (m_round)), .int (zI (m_ax)), .int (zI (m_ay)), .int (zI (m_bx)), .int (zI (m_by)), .ref m_dx, .ref m_dy, .ref m_weight, .ref m_isBarred, .ref m_walks, .ref m_one, .ref m_two, .ref m_light, .ref m_lightThen, .int (zI (m_family)), .ref m_fromX, .ref m_fromY, .ref m_toX, .ref m_toY, .int (zI (m_ruleMany)), .ref m_rule, .ref m_out, .int (zI (m_outs)), .ref m_grid, .ref m_heap, .ref m_ends, .ref m_power, .ref m_by2, .ref m_product, .ref m_levels, .ref m_row, .ref m_then, .ref m_equations], wJ m_equations (zK C).2.2.1 2048 g] [(0, .ref m), (1, .int (zI (p))), (2, .int (zI (p))), (3, .int (zI (p))), (4, .int (zI (2))), (5, .int (zI (6)))] 0 []
  refine z_aload_n hC 0 dX9_clears_0 rfl rfl ?_
  refine z_get hC (T := TX9) (N := 41) hinX9 0 40 dX9_clears_1 rfl rfl (by decide) (List.mem_of_getElem? (i := 1) rfl) rfl rfl ?_
  refine z_iload hC 4 dX9_clears_4 rfl ?_
  refine z_iload_n hC 2 dX9_clears_6 rfl rfl ?_
  refine z_imul hC (2 * p) dX9_clears_7 rfl ?_
  refine z_iload_n hC 3 dX9_clears_8 rfl rfl ?_
  refine z_iadd hC ((2 * p) + p) dX9_clears_9 rfl ?_
  refine z_lald hC 1 dX9_clears_10 rfl (by omega) ?_
  refine z_topl (b := arL LL (2 * p + p)) (by exact hl _ (by omega) (by omega)) ?_
  refine z_callS hC [.long (zL (arL LL (2 * p + p)))] 1 dX9_clears_11 (c_X9_inverse (zl C) (zD C) (zK C) (arL LL (2 * p + p)) (by first | assumption | omega)) gX9_clears_X9_inverse rfl rfl rfl ⟨by decide, by decide, by decide +kernel⟩ ⟨(Nat.le_of_ble_eq_true rfl), (Nat.le_of_ble_eq_true rfl)⟩ rfl [] [0, 1] [wO m 9 [.int (zI (m_status)), .int (zI (m_thrown)), .ref m_sheetSort, .ref m_sheetMany, .ref m_numbers, .int (zI (m_steps)), .int (zI (m_kind)), .int (zI (m_top)), .int (zI (m_round)), .int (zI (m_ax)), .int (zI (m_ay)), .int (zI (m_bx)), .int (zI (m_by)), .ref m_dx, .ref m_dy, .ref m_weight, .ref m_isBarred, .ref m_walks, .ref m_one, .ref m_two, .ref m_light, .ref m_lightThen, .int (zI (m_family)), .ref m_fromX, .ref m_fromY, .ref m_toX, .ref m_toY, .int (zI (m_ruleMany)), .ref m_rule, .ref m_out, .int (zI (m_outs)), .ref m_grid, .ref m_heap, .ref m_ends, .ref m_power, .ref m_by2, .ref m_product, .ref m_levels, .ref m_row, .ref m_then, .ref m_equations], wJ m_equations (zK C).2.2.1 2048 g] [] rfl rfl rfl rfl rfl (by decide) (Nat.le_of_ble_eq_true rfl) ⟨(Nat.le_of_ble_eq_true rfl), (Nat.le_of_ble_eq_true rfl)⟩ ?_
  rintro v_ w_ ⟨r_1, rfl, rfl, rfl⟩
  show ZW C 0 0 [wO m 9 [.int (zI (m_status)), .int (zI (m_thrown)), .ref m_sheetSort, .ref m_sheetMany, .ref m_numbers, .int (zI (m_steps)), .int (zI (m_kind)), .int (zI (m_top)), .int (zI (m_round)), .int (zI (m_ax)), .int (zI (m_ay)), .int (zI (m_bx)), .int (zI (m_by)), .ref m_dx, .ref m_dy, .ref m_weight, .ref m_isBarred, .ref m_walks, .ref m_one, .ref m_two, .ref m_light, .ref m_lightThen, .int (zI (m_family)), .ref m_fromX, .ref m_fromY, .ref m_toX, .ref m_toY, .int (zI (m_ruleMany)), .ref m_rule, .ref m_out, .int (zI (m_outs)), .ref m_grid, .ref m_heap, .ref m_ends, .ref m_power, .ref m_by2, .ref m_product, .ref m_levels, .ref m_row, .ref m_then, .ref m_equations], wJ m_equations (zK C).2.2.1 2048 g] [(0, .ref m), (1, .int (zI (p))), (2, .int (zI (p))), (3, .int (zI (p))), (4, .int (zI (2))), (5, .int (zI (6)))] 14 [.long (zL (inv (arL LL (2 * p + p))))]
  refine z_lstore hC [(6, .long (zL (inv (arL LL (2 * p + p))))), (0, .ref m), (1, .int (zI (p))), (2, .int (zI (p))), (3, .int (zI (p))), (4, .int (zI (2))), (5, .int (zI (6)))] dX9_clears_14 (by decide) rfl ?_
  refine z_iconst hC dX9_clears_16 ?_
  refine z_istore hC [(8, .int (zI (0))), (6, .long (zL (inv (arL LL (2 * p + p))))), (0, .ref m), (1, .int (zI (p))), (2, .int (zI (p))), (3, .int (zI (p))), (4, .int (zI (2))), (5, .int (zI (6)))] dX9_clears_17 (by decide) rfl ?_
  refine z_lv (lv' := [(0, .ref m), (1, .int (zI (p))), (2, .int (zI (p))), (3, .int (zI (p))), (4, .int (zI (2))), (5, .int (zI (6))), (6, .long (zL (inv (arL LL (2 * p + p))))), (8, .int (zI (0)))]) [2, 3, 4, 5, 6, 7, 1, 0] rfl ?_
  have lp19_3 : ∀ (f5 : Nat) (i : Int) (q : Int → Int), (0 ≤ i ∧ i ≤ 2) → (∀ j, 0 ≤ j → j < 12 → q j = if 2 * p ≤ j ∧ j < 2 * p + i then arL LL j * inv (arL LL (2 * p + p)) % 998244353 else arL LL j) → (2 - i).toNat < f5 → ZW C 0 0 [wO m 9 [.int (zI (m_status)), .int (zI (m_thrown)), .ref m_sheetSort, .ref m_sheetMany, .ref m_numbers, .int (zI (m_steps)), .int (zI (m_kind)), .int (zI (m_top)), .int (zI (m_round)), .int (zI (m_ax)), .int (zI (m_ay)), .int (zI (m_bx)), .int (zI (m_by)), .ref m_dx, .ref m_dy, .ref m_weight, .ref m_isBarred, .ref m_walks, .ref m_one, .ref m_two, .ref m_light, .ref m_lightThen, .int (zI (m_family)), .ref m_fromX, .ref m_fromY, .ref m_toX, .ref m_toY, .int (zI (m_ruleMany)), .ref m_rule, .ref m_out, .int (zI (m_outs)), .ref m_grid, .ref m_heap, .ref m_ends, .ref m_power, .ref m_by2, .ref m_product, .ref m_levels, .ref m_row, .ref m_then, .ref m_equations], wJ m_equations (zK C).2.2.1 2048 q] [(0, .ref m), (1, .int (zI (p))), (2, .int (zI (p))), (3, .int (zI (p))), (4, .int (zI (2))), (5, .int (zI (6))), (6, .long (zL (inv (arL LL (2 * p + p))))), (8, .int (zI (i)))] 19 [] := by
    intro f5
    induction f5 with
    | zero => intro _ _ _ _ hf; exact absurd hf (Nat.not_lt_zero _)
    | succ f5 ih19_4 =>
      intro i q vi vq hf_19
      refine z_iload hC 7 dX9_clears_19 rfl ?_
      refine z_iload hC 4 dX9_clears_21 rfl ?_
      refine z_icge hC 91 dX9_clears_23 (by decide) (by omega) (fun c_6 => ?_) (fun c_6 => ?_)
      · skip
        refine z_iconst hC dX9_clears_91 ?_
        refine z_istore hC [(8, .int (zI (0))), (0, .ref m), (1, .int (zI (p))), (2, .int (zI (p))), (3, .int (zI (p))), (4, .int (zI (2))), (5, .int (zI (6))), (6, .long (zL (inv (arL LL (2 * p + p)))))] dX9_clears_92 (by decide) rfl ?_
        refine z_lv (lv' := [(0, .ref m), (1, .int (zI (p))), (2, .int (zI (p))), (3, .int (zI (p))), (4, .int (zI (2))), (5, .int (zI (6))), (6, .long (zL (inv (arL LL (2 * p + p))))), (8, .int (zI (0)))]) [1, 2, 3, 4, 5, 6, 7, 0] rfl ?_
        have lp94_7 : ∀ (f9 : Nat) (r : Int) (q2 : Int → Int), (0 ≤ r ∧ r ≤ 6) → (∀ j, 0 ≤ j → j < 12 → q2 j = if 2 * p ≤ j ∧ j < 2 * p + 2 then arL LL j * inv (arL LL (2 * p + p)) % 998244353 else if j < 2 * r then clF 2 p (arL LL) j else arL LL j) → (∀ j, 0 ≤ j → j < 12 → 0 ≤ q2 j ∧ q2 j < 998244353) → (6 - r).toNat < f9 → ZW C 0 0 [wO m 9 [.int (zI (m_status)), .int (zI (m_thrown)), .ref m_sheetSort, .ref m_sheetMany, .ref m_numbers, .int (zI (m_steps)), .int (zI (m_kind)), .int (zI (m_top)), .int (zI (m_round)), .int (zI (m_ax)), .int (zI (m_ay)), .int (zI (m_bx)), .int (zI (m_by)), .ref m_dx, .ref m_dy, .ref m_weight, .ref m_isBarred, .ref m_walks, .ref m_one, .ref m_two, .ref m_light, .ref m_lightThen, .int (zI (m_family)), .ref m_fromX, .ref m_fromY, .ref m_toX, .ref m_toY, .int (zI (m_ruleMany)), .ref m_rule, .ref m_out, .int (zI (m_outs)), .ref m_grid, .ref m_heap, .ref m_ends, .ref m_power, .ref m_by2, .ref m_product, .ref m_levels, .ref m_row, .ref m_then, .ref m_equations], wJ m_equations (zK C).2.2.1 2048 q2] [(0, .ref m), (1, .int (zI (p))), (2, .int (zI (p))), (3, .int (zI (p))), (4, .int (zI (2))), (5, .int (zI (6))), (6, .long (zL (inv (arL LL (2 * p + p))))), (8, .int (zI (r)))] 94 [] := by
          intro f9
          induction f9 with
          | zero => intro _ _ _ _ _ hf; exact absurd hf (Nat.not_lt_zero _)
          | succ f9 ih94_8 =>
            intro r q2 vr vb vr2 hf_94
            refine z_iload hC 7 dX9_clears_94 rfl ?_
            refine z_iload hC 5 dX9_clears_96 rfl ?_
            refine z_icge hC 203 dX9_clears_98 (by decide) (by omega) (fun c_10 => ?_) (fun c_10 => ?_)
            · skip
              exact z_vret hC hR dX9_clears_203 (Nat.le_of_ble_eq_true rfl) (Nat.le_of_ble_eq_true rfl) ⟨q2, rfl, rfl, by intro j a b; rw [vb j a b, clL_at a (by omega), show r = 6 by omega]; split; (rename_i h; unfold clF; rw [if_pos (by omega)]); (rw [if_pos (by omega)])⟩
            · skip
              have hvr := vr2 (2 * r + p) (by omega) (by omega)
              refine z_aload_n hC 0 dX9_clears_101 rfl rfl ?_
              refine z_get hC (T := TX9) (N := 41) hinX9 0 40 dX9_clears_102 rfl rfl (by decide) (List.mem_of_getElem? (i := 1) rfl) rfl rfl ?_
              refine z_iload hC 4 dX9_clears_105 rfl ?_
              refine z_iload hC 7 dX9_clears_107 rfl ?_
              refine z_imul hC (2 * r) dX9_clears_109 rfl ?_
              refine z_iload_n hC 3 dX9_clears_110 rfl rfl ?_
              refine z_iadd hC ((2 * r) + p) dX9_clears_111 rfl ?_
              refine z_lald hC 1 dX9_clears_112 rfl (by omega) ?_
              refine z_lstore hC [(9, .long (zL (q2 ((2 * r) + p)))), (0, .ref m), (1, .int (zI (p))), (2, .int (zI (p))), (3, .int (zI (p))), (4, .int (zI (2))), (5, .int (zI (6))), (6, .long (zL (inv (arL LL (2 * p + p))))), (8, .int (zI (r)))] dX9_clears_113 (by decide) rfl ?_
              refine z_iload hC 8 dX9_clears_115 rfl ?_
              refine z_iload_n hC 2 dX9_clears_117 rfl rfl ?_
              refine z_iceq hC 197 dX9_clears_118 (by decide) (by omega) (fun c_11 => ?_) (fun c_11 => ?_)
              · skip
                refine z_iinc (a := r) (v := 1) (r := r + 1) hC 8 [(8, .int (zI (r + 1))), (9, .long (zL (q2 ((2 * r) + p)))), (0, .ref m), (1, .int (zI (p))), (2, .int (zI (p))), (3, .int (zI (p))), (4, .int (zI (2))), (5, .int (zI (6))), (6, .long (zL (inv (arL LL (2 * p + p)))))] dX9_clears_197 rfl rfl (by decide) rfl ?_
                refine z_goto hC 94 dX9_clears_200 (by decide) ?_
                refine z_lv (lv' := [(0, .ref m), (1, .int (zI (p))), (2, .int (zI (p))), (3, .int (zI (p))), (4, .int (zI (2))), (5, .int (zI (6))), (6, .long (zL (inv (arL LL (2 * p + p))))), (8, .int (zI (r + 1)))]) [2, 3, 4, 5, 6, 7, 8, 0] rfl ?_
                exact ih94_8 (r + 1) q2 (by omega) (by intro j a b; first | (rw [vc j a b, show i2 = 2 by omega]; split; rfl; (by_cases e : j < 2 * r + 2; (rw [if_pos e, if_pos (by omega)]); (rw [if_neg e, if_neg (by omega)]))) | exact clr_skip2 a b hp (vb j a b) (by omega) (by first | exact Or.inl (by omega) | exact Or.inr (by rw [← hvz]; omega))) (by first | exact vr3 | exact vr2) (by omega)
              · skip
                refine z_lload hC 0 dX9_clears_121 rfl ?_
                refine z_lconst (v := 0) hC dX9_clears_123 rfl ?_
                refine z_lcne hC 131 dX9_clears_124 dX9_clears_125 (by decide) (by omega) (fun c_12 => ?_) (fun c_12 => ?_)
                · skip
                  have hv : q2 (2 * r + p) = arL LL (2 * r + p) := by rw [vb _ (by omega) (by omega), if_neg (by omega), if_neg (by omega)]
                  refine z_iconst hC dX9_clears_131 ?_
                  refine z_istore hC [(11, .int (zI (0))), (9, .long (zL (q2 ((2 * r) + p)))), (0, .ref m), (1, .int (zI (p))), (2, .int (zI (p))), (3, .int (zI (p))), (4, .int (zI (2))), (5, .int (zI (6))), (6, .long (zL (inv (arL LL (2 * p + p))))), (8, .int (zI (r)))] dX9_clears_132 (by decide) rfl ?_
                  refine z_lv (lv' := [(0, .ref m), (1, .int (zI (p))), (2, .int (zI (p))), (3, .int (zI (p))), (4, .int (zI (2))), (5, .int (zI (6))), (6, .long (zL (inv (arL LL (2 * p + p))))), (8, .int (zI (r))), (9, .long (zL (q2 ((2 * r) + p)))), (11, .int (zI (0)))]) [2, 3, 4, 5, 6, 7, 8, 9, 1, 0] rfl ?_
                  have lp134_13 : ∀ (f15 : Nat) (i2 : Int) (q3 : Int → Int), (0 ≤ i2 ∧ i2 ≤ 2) → (∀ j, 0 ≤ j → j < 12 → q3 j = if 2 * p ≤ j ∧ j < 2 * p + 2 then arL LL j * inv (arL LL (2 * p + p)) % 998244353 else if j < 2 * r + i2 then clF 2 p (arL LL) j else arL LL j) → (∀ j, 0 ≤ j → j < 12 → 0 ≤ q3 j ∧ q3 j < 998244353) → (2 - i2).toNat < f15 → ZW C 0 0 [wO m 9 [.int (zI (m_status)), .int (zI (m_thrown)), .ref m_sheetSort, .ref m_sheetMany, .ref m_numbers, .int (zI (m_steps)), .int (zI (m_kind)), .int (zI (m_top)), .int (zI (m_round)), .int (zI (m_ax)), .int (zI (m_ay)), .int (zI (m_bx)), .int (zI (m_by)), .ref m_dx, .ref m_dy, .ref m_weight, .ref m_isBarred, .ref m_walks, .ref m_one, .ref m_two, .ref m_light, .ref m_lightThen, .int (zI (m_family)), .ref m_fromX, .ref m_fromY, .ref m_toX, .ref m_toY, .int (zI (m_ruleMany)), .ref m_rule, .ref m_out, .int (zI (m_outs)), .ref m_grid, .ref m_heap, .ref m_ends, .ref m_power, .ref m_by2, .ref m_product, .ref m_levels, .ref m_row, .ref m_then, .ref m_equations], wJ m_equations (zK C).2.2.1 2048 q3] [(0, .ref m), (1, .int (zI (p))), (2, .int (zI (p))), (3, .int (zI (p))), (4, .int (zI (2))), (5, .int (zI (6))), (6, .long (zL (inv (arL LL (2 * p + p))))), (8, .int (zI (r))), (9, .long (zL (q2 ((2 * r) + p)))), (11, .int (zI (i2)))] 134 [] := by
                    intro f15
                    induction f15 with
                    | zero => intro _ _ _ _ _ hf; exact absurd hf (Nat.not_lt_zero _)
                    | succ f15 ih134_14 =>
                      intro i2 q3 vi2 vc vr3 hf_134
                      refine z_iload hC 9 dX9_clears_134 rfl ?_
                      refine z_iload hC 4 dX9_clears_136 rfl ?_
                      refine z_icge hC 197 dX9_clears_138 (by decide) (by omega) (fun c_16 => ?_) (fun c_16 => ?_)
                      · skip
                        refine z_iinc (a := r) (v := 1) (r := r + 1) hC 7 [(8, .int (zI (r + 1))), (0, .ref m), (1, .int (zI (p))), (2, .int (zI (p))), (3, .int (zI (p))), (4, .int (zI (2))), (5, .int (zI (6))), (6, .long (zL (inv (arL LL (2 * p + p))))), (9, .long (zL (q2 ((2 * r) + p)))), (11, .int (zI (i2)))] dX9_clears_197 rfl rfl (by decide) rfl ?_
                        refine z_goto hC 94 dX9_clears_200 (by decide) ?_
                        refine z_lv (lv' := [(0, .ref m), (1, .int (zI (p))), (2, .int (zI (p))), (3, .int (zI (p))), (4, .int (zI (2))), (5, .int (zI (6))), (6, .long (zL (inv (arL LL (2 * p + p))))), (8, .int (zI (r + 1)))]) [1, 2, 3, 4, 5, 6, 7, 0] rfl ?_
                        exact ih94_8 (r + 1) q3 (by omega) (by intro j a b; first | (rw [vc j a b, show i2 = 2 by omega]; split; rfl; (by_cases e : j < 2 * r + 2; (rw [if_pos e, if_pos (by omega)]); (rw [if_neg e, if_neg (by omega)]))) | exact clr_skip2 a b hp (vb j a b) (by omega) (by first | exact Or.inl (by omega) | exact Or.inr (by rw [← hvz]; omega))) (by first | exact vr3 | exact vr2) (by omega)
                      · skip
                        have hm2 := mod_r (arL LL (2 * p + i2) * inv (arL LL (2 * p + p)))
                        have hm3 := mul_r2 (x := 998244353 - q2 (2 * r + p)) (by omega) hm2
                        have hm4 := hlr (2 * r + i2)
                        refine z_aload_n hC 0 dX9_clears_141 rfl rfl ?_
                        refine z_get hC (T := TX9) (N := 41) hinX9 0 40 dX9_clears_142 rfl rfl (by decide) (List.mem_of_getElem? (i := 1) rfl) rfl rfl ?_
                        refine z_iload hC 4 dX9_clears_145 rfl ?_
                        refine z_iload hC 7 dX9_clears_147 rfl ?_
                        refine z_imul hC (2 * r) dX9_clears_149 rfl ?_
                        refine z_iload hC 9 dX9_clears_150 rfl ?_
                        refine z_iadd hC ((2 * r) + i2) dX9_clears_152 rfl ?_
                        refine z_aload_n hC 0 dX9_clears_153 rfl rfl ?_
                        refine z_get hC (T := TX9) (N := 41) hinX9 0 40 dX9_clears_154 rfl rfl (by decide) (List.mem_of_getElem? (i := 1) rfl) rfl rfl ?_
                        refine z_iload hC 4 dX9_clears_157 rfl ?_
                        refine z_iload hC 7 dX9_clears_159 rfl ?_
                        refine z_imul hC (2 * r) dX9_clears_161 rfl ?_
                        refine z_iload hC 9 dX9_clears_162 rfl ?_
                        refine z_iadd hC ((2 * r) + i2) dX9_clears_164 rfl ?_
                        refine z_lald hC 1 dX9_clears_165 rfl (by omega) ?_
                        refine z_topl (b := arL LL (2 * r + i2)) (by rw [vc _ (by omega) (by omega), if_neg (by omega), if_neg (by omega)]) ?_
                        refine z_ldc2 (v := 998244353) hC (List.mem_of_getElem? (i := 2) rfl) rfl dX9_clears_166 ?_
                        refine z_lload hC 8 dX9_clears_169 rfl ?_
                        refine z_lsub hC (998244353 - (q2 ((2 * r) + p))) dX9_clears_171 rfl ?_
                        refine z_aload_n hC 0 dX9_clears_172 rfl rfl ?_
                        refine z_get hC (T := TX9) (N := 41) hinX9 0 40 dX9_clears_173 rfl rfl (by decide) (List.mem_of_getElem? (i := 1) rfl) rfl rfl ?_
                        refine z_iload hC 4 dX9_clears_176 rfl ?_
                        refine z_iload_n hC 1 dX9_clears_178 rfl rfl ?_
                        refine z_imul hC (2 * p) dX9_clears_179 rfl ?_
                        refine z_iload hC 9 dX9_clears_180 rfl ?_
                        refine z_iadd hC ((2 * p) + i2) dX9_clears_182 rfl ?_
                        refine z_lald hC 1 dX9_clears_183 rfl (by omega) ?_
                        refine z_topl (b := arL LL (2 * p + i2) * inv (arL LL (2 * p + p)) % 998244353) (by rw [vc _ (by omega) (by omega), if_pos (by omega)]) ?_
                        refine z_lmul hC ((998244353 - (q2 ((2 * r) + p))) * (arL LL (2 * p + i2) * inv (arL LL (2 * p + p)) % 998244353)) dX9_clears_184 rfl ?_
                        refine z_ladd hC ((arL LL (2 * r + i2)) + ((998244353 - (q2 ((2 * r) + p))) * (arL LL (2 * p + i2) * inv (arL LL (2 * p + p)) % 998244353))) dX9_clears_185 rfl ?_
                        refine z_ldc2 (v := 998244353) hC (List.mem_of_getElem? (i := 2) rfl) rfl dX9_clears_186 ?_
                        refine z_lrem hC (((arL LL (2 * r + i2)) + ((998244353 - (q2 ((2 * r) + p))) * (arL LL (2 * p + i2) * inv (arL LL (2 * p + p)) % 998244353))) % 998244353) dX9_clears_189 (by omega) rfl ?_
                        refine z_last hC 1 [wO m 9 [.int (zI (m_status)), .int (zI (m_thrown)), .ref m_sheetSort, .ref m_sheetMany, .ref m_numbers, .int (zI (m_steps)), .int (zI (m_kind)), .int (zI (m_top)), .int (zI (m_round)), .int (zI (m_ax)), .int (zI (m_ay)), .int (zI (m_bx)), .int (zI (m_by)), .ref m_dx, .ref m_dy, .ref m_weight, .ref m_isBarred, .ref m_walks, .ref m_one, .ref m_two, .ref m_light, .ref m_lightThen, .int (zI (m_family)), .ref m_fromX, .ref m_fromY, .ref m_toX, .ref m_toY, .int (zI (m_ruleMany)), .ref m_rule, .ref m_out, .int (zI (m_outs)), .ref m_grid, .ref m_heap, .ref m_ends, .ref m_power, .ref m_by2, .ref m_product, .ref m_levels, .ref m_row, .ref m_then, .ref m_equations], wJ m_equations (zK C).2.2.1 2048 (zu q3 ((2 * r) + i2) (((arL LL (2 * r + i2)) + ((998244353 - (q2 ((2 * r) + p))) * (arL LL (2 * p + i2) * inv (arL LL (2 * p + p)) % 998244353))) % 998244353))] dX9_clears_190 rfl (by omega) rfl ?_
                        refine z_iinc (a := i2) (v := 1) (r := i2 + 1) hC 9 [(11, .int (zI (i2 + 1))), (0, .ref m), (1, .int (zI (p))), (2, .int (zI (p))), (3, .int (zI (p))), (4, .int (zI (2))), (5, .int (zI (6))), (6, .long (zL (inv (arL LL (2 * p + p))))), (8, .int (zI (r))), (9, .long (zL (q2 ((2 * r) + p))))] dX9_clears_191 rfl rfl (by decide) rfl ?_
                        refine z_goto hC 134 dX9_clears_194 (by decide) ?_
                        refine z_lv (lv' := [(0, .ref m), (1, .int (zI (p))), (2, .int (zI (p))), (3, .int (zI (p))), (4, .int (zI (2))), (5, .int (zI (6))), (6, .long (zL (inv (arL LL (2 * p + p))))), (8, .int (zI (r))), (9, .long (zL (q2 ((2 * r) + p)))), (11, .int (zI (i2 + 1)))]) [1, 2, 3, 4, 5, 6, 7, 8, 9, 0] rfl ?_
                        exact ih134_14 (i2 + 1) (zu q3 ((2 * r) + i2) (((arL LL (2 * r + i2)) + ((998244353 - (q2 ((2 * r) + p))) * (arL LL (2 * p + i2) * inv (arL LL (2 * p + p)) % 998244353))) % 998244353)) (by omega) (by intro j a b; rw [← Int.add_assoc]; unfold zu; by_cases e : j = 2 * r + i2; (rw [if_pos e, if_neg (by omega), if_pos (by omega), e]; exact clr_new2 (by omega) (by omega) (by omega) hv (by omega)); (rw [if_neg e, vc j a b]; split; rfl; (by_cases e2 : j < 2 * r + i2; (rw [if_pos e2, if_pos (by omega)]); (rw [if_neg e2, if_neg (by omega)])))) (by intro j a b; unfold zu; split; exact mod_r _; exact vr3 j a b) (by omega)
                  exact lp134_13 _ 0 q2 (by omega) (by intro j a b; rw [show 2 * r + 0 = 2 * r by omega]; exact vb j a b) (by exact vr2) (Nat.lt_succ_self _)
                · skip
                  have hvz : q2 (2 * r + p) = arL LL (2 * r + p) := by rw [vb _ (by omega) (by omega), if_neg (by omega), if_neg (by omega)]
                  refine z_goto hC 197 dX9_clears_128 (by decide) ?_
                  refine z_iinc (a := r) (v := 1) (r := r + 1) hC 8 [(8, .int (zI (r + 1))), (9, .long (zL (q2 ((2 * r) + p)))), (0, .ref m), (1, .int (zI (p))), (2, .int (zI (p))), (3, .int (zI (p))), (4, .int (zI (2))), (5, .int (zI (6))), (6, .long (zL (inv (arL LL (2 * p + p)))))] dX9_clears_197 rfl rfl (by decide) rfl ?_
                  refine z_goto hC 94 dX9_clears_200 (by decide) ?_
                  refine z_lv (lv' := [(0, .ref m), (1, .int (zI (p))), (2, .int (zI (p))), (3, .int (zI (p))), (4, .int (zI (2))), (5, .int (zI (6))), (6, .long (zL (inv (arL LL (2 * p + p))))), (8, .int (zI (r + 1)))]) [2, 3, 4, 5, 6, 7, 8, 0] rfl ?_
                  exact ih94_8 (r + 1) q2 (by omega) (by intro j a b; first | (rw [vc j a b, show i2 = 2 by omega]; split; rfl; (by_cases e : j < 2 * r + 2; (rw [if_pos e, if_pos (by omega)]); (rw [if_neg e, if_neg (by omega)]))) | exact clr_skip2 a b hp (vb j a b) (by omega) (by first | exact Or.inl (by omega) | exact Or.inr (by rw [← hvz]; omega))) (by first | exact vr3 | exact vr2) (by omega)
        exact lp94_7 _ 0 q (by omega) (by intro j a b; rw [vq j a b, show i = 2 by omega]; split; rfl; (rw [if_neg (by omega)])) (by intro j a b; rw [vq j a b]; split; exact mod_r _; exact hlr j) (Nat.lt_succ_self _)
      · skip
        have hm1 := mul_r (hlr (2 * p + i)) hiv
        refine z_aload_n hC 0 dX9_clears_26 rfl rfl ?_
        refine z_get hC (T := TX9) (N := 41) hinX9 0 40 dX9_clears_27 rfl rfl (by decide) (List.mem_of_getElem? (i := 1) rfl) rfl rfl ?_
        refine z_iload hC 4 dX9_clears_30 rfl ?_
        refine z_iload_n hC 2 dX9_clears_32 rfl rfl ?_
        refine z_imul hC (2 * p) dX9_clears_33 rfl ?_
        refine z_iload hC 7 dX9_clears_34 rfl ?_
        refine z_iadd hC ((2 * p) + i) dX9_clears_36 rfl ?_
        refine z_lald hC 1 dX9_clears_37 rfl (by omega) ?_
        refine z_topl (b := arL LL (2 * p + i)) (by rw [vq _ (by omega) (by omega), if_neg (by omega)]) ?_
        refine z_lload hC 6 dX9_clears_38 rfl ?_
        refine z_lmul hC ((arL LL (2 * p + i)) * (inv (arL LL (2 * p + p)))) dX9_clears_40 rfl ?_
        refine z_ldc2 (v := 998244353) hC (List.mem_of_getElem? (i := 2) rfl) rfl dX9_clears_41 ?_
        refine z_lrem hC (((arL LL (2 * p + i)) * (inv (arL LL (2 * p + p)))) % 998244353) dX9_clears_44 (by omega) rfl ?_
        refine z_lstore hC [(9, .long (zL (((arL LL (2 * p + i)) * (inv (arL LL (2 * p + p)))) % 998244353))), (0, .ref m), (1, .int (zI (p))), (2, .int (zI (p))), (3, .int (zI (p))), (4, .int (zI (2))), (5, .int (zI (6))), (6, .long (zL (inv (arL LL (2 * p + p))))), (8, .int (zI (i)))] dX9_clears_45 (by decide) rfl ?_
        refine z_aload_n hC 1 dX9_clears_47 rfl rfl ?_
        refine z_get hC (T := TX9) (N := 41) hinX9 0 40 dX9_clears_48 rfl rfl (by decide) (List.mem_of_getElem? (i := 1) rfl) rfl rfl ?_
        refine z_iload hC 5 dX9_clears_51 rfl ?_
        refine z_iload_n hC 3 dX9_clears_53 rfl rfl ?_
        refine z_imul hC (2 * p) dX9_clears_54 rfl ?_
        refine z_iload hC 8 dX9_clears_55 rfl ?_
        refine z_iadd hC ((2 * p) + i) dX9_clears_57 rfl ?_
        refine z_aload_n hC 1 dX9_clears_58 rfl rfl ?_
        refine z_get hC (T := TX9) (N := 41) hinX9 0 40 dX9_clears_59 rfl rfl (by decide) (List.mem_of_getElem? (i := 1) rfl) rfl rfl ?_
        refine z_iload hC 5 dX9_clears_62 rfl ?_
        refine z_iload_n hC 2 dX9_clears_64 rfl rfl ?_
        refine z_imul hC (2 * p) dX9_clears_65 rfl ?_
        refine z_iload hC 8 dX9_clears_66 rfl ?_
        refine z_iadd hC ((2 * p) + i) dX9_clears_68 rfl ?_
        refine z_lald hC 1 dX9_clears_69 rfl (by omega) ?_
        refine z_last hC 1 [wO m 9 [.int (zI (m_status)), .int (zI (m_thrown)), .ref m_sheetSort, .ref m_sheetMany, .ref m_numbers, .int (zI (m_steps)), .int (zI (m_kind)), .int (zI (m_top)), .int (zI (m_round)), .int (zI (m_ax)), .int (zI (m_ay)), .int (zI (m_bx)), .int (zI (m_by)), .ref m_dx, .ref m_dy, .ref m_weight, .ref m_isBarred, .ref m_walks, .ref m_one, .ref m_two, .ref m_light, .ref m_lightThen, .int (zI (m_family)), .ref m_fromX, .ref m_fromY, .ref m_toX, .ref m_toY, .int (zI (m_ruleMany)), .ref m_rule, .ref m_out, .int (zI (m_outs)), .ref m_grid, .ref m_heap, .ref m_ends, .ref m_power, .ref m_by2, .ref m_product, .ref m_levels, .ref m_row, .ref m_then, .ref m_equations], wJ m_equations (zK C).2.2.1 2048 (zu q ((2 * p) + i) (q ((2 * p) + i)))] dX9_clears_70 rfl (by omega) rfl ?_
        refine z_aload_n hC 1 dX9_clears_71 rfl rfl ?_
        refine z_get hC (T := TX9) (N := 41) hinX9 0 40 dX9_clears_72 rfl rfl (by decide) (List.mem_of_getElem? (i := 1) rfl) rfl rfl ?_
        refine z_iload hC 5 dX9_clears_75 rfl ?_
        refine z_iload_n hC 2 dX9_clears_77 rfl rfl ?_
        refine z_imul hC (2 * p) dX9_clears_78 rfl ?_
        refine z_iload hC 8 dX9_clears_79 rfl ?_
        refine z_iadd hC ((2 * p) + i) dX9_clears_81 rfl ?_
        refine z_lload hC 0 dX9_clears_82 rfl ?_
        refine z_last hC 1 [wO m 9 [.int (zI (m_status)), .int (zI (m_thrown)), .ref m_sheetSort, .ref m_sheetMany, .ref m_numbers, .int (zI (m_steps)), .int (zI (m_kind)), .int (zI (m_top)), .int (zI (m_round)), .int (zI (m_ax)), .int (zI (m_ay)), .int (zI (m_bx)), .int (zI (m_by)), .ref m_dx, .ref m_dy, .ref m_weight, .ref m_isBarred, .ref m_walks, .ref m_one, .ref m_two, .ref m_light, .ref m_lightThen, .int (zI (m_family)), .ref m_fromX, .ref m_fromY, .ref m_toX, .ref m_toY, .int (zI (m_ruleMany)), .ref m_rule, .ref m_out, .int (zI (m_outs)), .ref m_grid, .ref m_heap, .ref m_ends, .ref m_power, .ref m_by2, .ref m_product, .ref m_levels, .ref m_row, .ref m_then, .ref m_equations], wJ m_equations (zK C).2.2.1 2048 (zu (zu q ((2 * p) + i) (q ((2 * p) + i))) ((2 * p) + i) (((arL LL (2 * p + i)) * (inv (arL LL (2 * p + p)))) % 998244353))] dX9_clears_84 rfl (by omega) rfl ?_
        refine z_iinc (a := i) (v := 1) (r := i + 1) hC 8 [(8, .int (zI (i + 1))), (9, .long (zL (((arL LL (2 * p + i)) * (inv (arL LL (2 * p + p)))) % 998244353))), (0, .ref m), (1, .int (zI (p))), (2, .int (zI (p))), (3, .int (zI (p))), (4, .int (zI (2))), (5, .int (zI (6))), (6, .long (zL (inv (arL LL (2 * p + p)))))] dX9_clears_85 rfl rfl (by decide) rfl ?_
        refine z_goto hC 19 dX9_clears_88 (by decide) ?_
        refine z_lv (lv' := [(0, .ref m), (1, .int (zI (p))), (2, .int (zI (p))), (3, .int (zI (p))), (4, .int (zI (2))), (5, .int (zI (6))), (6, .long (zL (inv (arL LL (2 * p + p))))), (8, .int (zI (i + 1)))]) [2, 3, 4, 5, 6, 7, 8, 0] rfl ?_
        exact ih19_4 (i + 1) (zu (zu q ((2 * p) + i) (q ((2 * p) + i))) ((2 * p) + i) (((arL LL (2 * p + i)) * (inv (arL LL (2 * p + p)))) % 998244353)) (by omega) (by intro j a b; unfold zu; by_cases e : j = 2 * p + i; (rw [if_pos e, if_pos (by omega), e]); (rw [if_neg e, if_neg e, vq j a b]; by_cases e2 : 2 * p ≤ j ∧ j < 2 * p + i; (rw [if_pos e2, if_pos (by omega)]); (rw [if_neg e2, if_neg (by omega)]))) (by omega)
  exact lp19_3 _ 0 g (by omega) (by intro j a b; rw [if_neg (by omega)]; exact hl j a b) (Nat.lt_succ_self _)

set_option maxHeartbeats 8000000 in
set_option maxRecDepth 100000 in
theorem c_X9_clearsw3 (l : Launch) (D : va_G) (K : ClassId × ClassId × ClassId × ClassId) (m m_sheetSort m_sheetMany m_numbers m_dx m_dy m_weight m_isBarred m_walks m_one m_two m_light m_lightThen m_fromX m_fromY m_toX m_toY m_rule m_out m_grid m_heap m_ends m_power m_by2 m_product m_levels m_row m_then m_equations : Nat) (p m_status m_thrown m_steps m_kind m_top m_round m_ax m_ay m_bx m_by m_family m_ruleMany m_outs : Int) (g : Int → Int) (LL : List Int) (hp : 0 ≤ p ∧ p < 2 ∧ p < 6) (hl : ∀ j, 0 ≤ j → j < 18 → g j = arL LL j) (hlr : ∀ j, 0 ≤ arL LL j ∧ arL LL j < 998244353) : zMet l D K yX9_clears wsX9_clears ({ frames := 1, cells := 0, slots := 0, locals := 26 }) 0 0 [.ref m, .int (zI (p)), .int (zI (p)), .int (zI (p)), .int (zI (3)), .int (zI (6))] [wO m 9 [.int (zI (m_status)), .int (zI (m_thrown)), .ref m_sheetSort, .ref m_sheetMany, .ref m_numbers, .int (zI (m_steps)), .int (zI (m_kind)), .int (zI (m_top)), .int (zI (m_round)), .int (zI (m_ax)), .int (zI (m_ay)), .int (zI (m_bx)), .int (zI (m_by)), .ref m_dx, .ref m_dy, .ref m_weight, .ref m_isBarred, .ref m_walks, .ref m_one, .ref m_two, .ref m_light, .ref m_lightThen, .int (zI (m_family)), .ref m_fromX, .ref m_fromY, .ref m_toX, .ref m_toY, .int (zI (m_ruleMany)), .ref m_rule, .ref m_out, .int (zI (m_outs)), .ref m_grid, .ref m_heap, .ref m_ends, .ref m_power, .ref m_by2, .ref m_product, .ref m_levels, .ref m_row, .ref m_then, .ref m_equations], wJ m_equations K.2.2.1 2048 g] (fun vr_ wr_ => ∃ (g2 : Int → Int), vr_ = none ∧ wr_ = [wO m 9 [.int (zI (m_status)), .int (zI (m_thrown)), .ref m_sheetSort, .ref m_sheetMany, .ref m_numbers, .int (zI (m_steps)), .int (zI (m_kind)), .int (zI (m_top)), .int (zI (m_round)), .int (zI (m_ax)), .int (zI (m_ay)), .int (zI (m_bx)), .int (zI (m_by)), .ref m_dx, .ref m_dy, .ref m_weight, .ref m_isBarred, .ref m_walks, .ref m_one, .ref m_two, .ref m_light, .ref m_lightThen, .int (zI (m_family)), .ref m_fromX, .ref m_fromY, .ref m_toX, .ref m_toY, .int (zI (m_ruleMany)), .ref m_rule, .ref m_out, .int (zI (m_outs)), .ref m_grid, .ref m_heap, .ref m_ends, .ref m_power, .ref m_by2, .ref m_product, .ref m_levels, .ref m_row, .ref m_then, .ref m_equations], wJ m_equations K.2.2.1 2048 g2] ∧ (∀ j, 0 ≤ j → j < 18 → g2 j = arL (clL 3 p LL) j)) := by
  refine zMet_of (cc := cX9_clears) (nL := 12) (ret := none) (by decide) rfl (Nat.le_of_ble_eq_true rfl) ?_
  rintro C rfl rfl rfl hC hR
  have hinX9 : ∀ w ∈ u_ws RX9 TX9 41, w ∈ wsX9_clears := by decide +kernel
  have hiv := inv_r (arL LL (3 * p + p))
  have hX := hlr (3 * p + p)
  show ZW C 0 0 [wO m 9 [.int (zI (m_status)), .int (zI (m_thrown)), .ref m_sheetSort, .ref m_sheetMany, .ref m_numbers, .int (zI (m_steps)), .int (zI (m_kind)), .int (zI (m_top)), .int (zI (m_round)), .int (zI (m_ax)), .int (zI (m_ay)), .int (zI (m_bx)), .int (zI (m_by)), .ref m_dx, .ref m_dy, .ref m_weight, .ref m_isBarred, .ref m_walks, .ref m_one, .ref m_two, .ref m_light, .ref m_lightThen, .int (zI (m_family)), .ref m_fromX, .ref m_fromY, .ref m_toX, .ref m_toY, .int (zI (m_ruleMany)), .ref m_rule, .ref m_out, .int (zI (m_outs)), .ref m_grid, .ref m_heap, .ref m_ends, .ref m_power, .ref m_by2, .ref m_product, .ref m_levels, .ref m_row, .ref m_then, .ref m_equations], wJ m_equations (zK C).2.2.1 2048 g] [(0, .ref m), (1, .int (zI (p))), (2, .int (zI (p))), (3, .int (zI (p))), (4, .int (zI (3))), (5, .int (zI (6)))] 0 []
  refine z_aload_n hC 0 dX9_clears_0 rfl rfl ?_
  refine z_get hC (T := TX9) (N := 41) hinX9 0 40 dX9_clears_1 rfl rfl (by decide) (List.mem_of_getElem? (i := 1) rfl) rfl rfl ?_
  refine z_iload hC 4 dX9_clears_4 rfl ?_
  refine z_iload_n hC 2 dX9_clears_6 rfl rfl ?_
  refine z_imul hC (3 * p) dX9_clears_7 rfl ?_
  refine z_iload_n hC 3 dX9_clears_8 rfl rfl ?_
  refine z_iadd hC ((3 * p) + p) dX9_clears_9 rfl ?_
  refine z_lald hC 1 dX9_clears_10 rfl (by omega) ?_
  refine z_topl (b := arL LL (3 * p + p)) (by exact hl _ (by omega) (by omega)) ?_
  refine z_callS hC [.long (zL (arL LL (3 * p + p)))] 1 dX9_clears_11 (c_X9_inverse (zl C) (zD C) (zK C) (arL LL (3 * p + p)) (by first | assumption | omega)) gX9_clears_X9_inverse rfl rfl rfl ⟨by decide, by decide, by decide +kernel⟩ ⟨(Nat.le_of_ble_eq_true rfl), (Nat.le_of_ble_eq_true rfl)⟩ rfl [] [0, 1] [wO m 9 [.int (zI (m_status)), .int (zI (m_thrown)), .ref m_sheetSort, .ref m_sheetMany, .ref m_numbers, .int (zI (m_steps)), .int (zI (m_kind)), .int (zI (m_top)), .int (zI (m_round)), .int (zI (m_ax)), .int (zI (m_ay)), .int (zI (m_bx)), .int (zI (m_by)), .ref m_dx, .ref m_dy, .ref m_weight, .ref m_isBarred, .ref m_walks, .ref m_one, .ref m_two, .ref m_light, .ref m_lightThen, .int (zI (m_family)), .ref m_fromX, .ref m_fromY, .ref m_toX, .ref m_toY, .int (zI (m_ruleMany)), .ref m_rule, .ref m_out, .int (zI (m_outs)), .ref m_grid, .ref m_heap, .ref m_ends, .ref m_power, .ref m_by2, .ref m_product, .ref m_levels, .ref m_row, .ref m_then, .ref m_equations], wJ m_equations (zK C).2.2.1 2048 g] [] rfl rfl rfl rfl rfl (by decide) (Nat.le_of_ble_eq_true rfl) ⟨(Nat.le_of_ble_eq_true rfl), (Nat.le_of_ble_eq_true rfl)⟩ ?_
  rintro v_ w_ ⟨r_1, rfl, rfl, rfl⟩
  show ZW C 0 0 [wO m 9 [.int (zI (m_status)), .int (zI (m_thrown)), .ref m_sheetSort, .ref m_sheetMany, .ref m_numbers, .int (zI (m_steps)), .int (zI (m_kind)), .int (zI (m_top)), .int (zI (m_round)), .int (zI (m_ax)), .int (zI (m_ay)), .int (zI (m_bx)), .int (zI (m_by)), .ref m_dx, .ref m_dy, .ref m_weight, .ref m_isBarred, .ref m_walks, .ref m_one, .ref m_two, .ref m_light, .ref m_lightThen, .int (zI (m_family)), .ref m_fromX, .ref m_fromY, .ref m_toX, .ref m_toY, .int (zI (m_ruleMany)), .ref m_rule, .ref m_out, .int (zI (m_outs)), .ref m_grid, .ref m_heap, .ref m_ends, .ref m_power, .ref m_by2, .ref m_product, .ref m_levels, .ref m_row, .ref m_then, .ref m_equations], wJ m_equations (zK C).2.2.1 2048 g] [(0, .ref m), (1, .int (zI (p))), (2, .int (zI (p))), (3, .int (zI (p))), (4, .int (zI (3))), (5, .int (zI (6)))] 14 [.long (zL (inv (arL LL (3 * p + p))))]
  refine z_lstore hC [(6, .long (zL (inv (arL LL (3 * p + p))))), (0, .ref m), (1, .int (zI (p))), (2, .int (zI (p))), (3, .int (zI (p))), (4, .int (zI (3))), (5, .int (zI (6)))] dX9_clears_14 (by decide) rfl ?_
  refine z_iconst hC dX9_clears_16 ?_
  refine z_istore hC [(8, .int (zI (0))), (6, .long (zL (inv (arL LL (3 * p + p))))), (0, .ref m), (1, .int (zI (p))), (2, .int (zI (p))), (3, .int (zI (p))), (4, .int (zI (3))), (5, .int (zI (6)))] dX9_clears_17 (by decide) rfl ?_
  refine z_lv (lv' := [(0, .ref m), (1, .int (zI (p))), (2, .int (zI (p))), (3, .int (zI (p))), (4, .int (zI (3))), (5, .int (zI (6))), (6, .long (zL (inv (arL LL (3 * p + p))))), (8, .int (zI (0)))]) [2, 3, 4, 5, 6, 7, 1, 0] rfl ?_
  have lp19_3 : ∀ (f5 : Nat) (i : Int) (q : Int → Int), (0 ≤ i ∧ i ≤ 3) → (∀ j, 0 ≤ j → j < 18 → q j = if 3 * p ≤ j ∧ j < 3 * p + i then arL LL j * inv (arL LL (3 * p + p)) % 998244353 else arL LL j) → (3 - i).toNat < f5 → ZW C 0 0 [wO m 9 [.int (zI (m_status)), .int (zI (m_thrown)), .ref m_sheetSort, .ref m_sheetMany, .ref m_numbers, .int (zI (m_steps)), .int (zI (m_kind)), .int (zI (m_top)), .int (zI (m_round)), .int (zI (m_ax)), .int (zI (m_ay)), .int (zI (m_bx)), .int (zI (m_by)), .ref m_dx, .ref m_dy, .ref m_weight, .ref m_isBarred, .ref m_walks, .ref m_one, .ref m_two, .ref m_light, .ref m_lightThen, .int (zI (m_family)), .ref m_fromX, .ref m_fromY, .ref m_toX, .ref m_toY, .int (zI (m_ruleMany)), .ref m_rule, .ref m_out, .int (zI (m_outs)), .ref m_grid, .ref m_heap, .ref m_ends, .ref m_power, .ref m_by2, .ref m_product, .ref m_levels, .ref m_row, .ref m_then, .ref m_equations], wJ m_equations (zK C).2.2.1 2048 q] [(0, .ref m), (1, .int (zI (p))), (2, .int (zI (p))), (3, .int (zI (p))), (4, .int (zI (3))), (5, .int (zI (6))), (6, .long (zL (inv (arL LL (3 * p + p))))), (8, .int (zI (i)))] 19 [] := by
    intro f5
    induction f5 with
    | zero => intro _ _ _ _ hf; exact absurd hf (Nat.not_lt_zero _)
    | succ f5 ih19_4 =>
      intro i q vi vq hf_19
      refine z_iload hC 7 dX9_clears_19 rfl ?_
      refine z_iload hC 4 dX9_clears_21 rfl ?_
      refine z_icge hC 91 dX9_clears_23 (by decide) (by omega) (fun c_6 => ?_) (fun c_6 => ?_)
      · skip
        refine z_iconst hC dX9_clears_91 ?_
        refine z_istore hC [(8, .int (zI (0))), (0, .ref m), (1, .int (zI (p))), (2, .int (zI (p))), (3, .int (zI (p))), (4, .int (zI (3))), (5, .int (zI (6))), (6, .long (zL (inv (arL LL (3 * p + p)))))] dX9_clears_92 (by decide) rfl ?_
        refine z_lv (lv' := [(0, .ref m), (1, .int (zI (p))), (2, .int (zI (p))), (3, .int (zI (p))), (4, .int (zI (3))), (5, .int (zI (6))), (6, .long (zL (inv (arL LL (3 * p + p))))), (8, .int (zI (0)))]) [1, 2, 3, 4, 5, 6, 7, 0] rfl ?_
        have lp94_7 : ∀ (f9 : Nat) (r : Int) (q2 : Int → Int), (0 ≤ r ∧ r ≤ 6) → (∀ j, 0 ≤ j → j < 18 → q2 j = if 3 * p ≤ j ∧ j < 3 * p + 3 then arL LL j * inv (arL LL (3 * p + p)) % 998244353 else if j < 3 * r then clF 3 p (arL LL) j else arL LL j) → (∀ j, 0 ≤ j → j < 18 → 0 ≤ q2 j ∧ q2 j < 998244353) → (6 - r).toNat < f9 → ZW C 0 0 [wO m 9 [.int (zI (m_status)), .int (zI (m_thrown)), .ref m_sheetSort, .ref m_sheetMany, .ref m_numbers, .int (zI (m_steps)), .int (zI (m_kind)), .int (zI (m_top)), .int (zI (m_round)), .int (zI (m_ax)), .int (zI (m_ay)), .int (zI (m_bx)), .int (zI (m_by)), .ref m_dx, .ref m_dy, .ref m_weight, .ref m_isBarred, .ref m_walks, .ref m_one, .ref m_two, .ref m_light, .ref m_lightThen, .int (zI (m_family)), .ref m_fromX, .ref m_fromY, .ref m_toX, .ref m_toY, .int (zI (m_ruleMany)), .ref m_rule, .ref m_out, .int (zI (m_outs)), .ref m_grid, .ref m_heap, .ref m_ends, .ref m_power, .ref m_by2, .ref m_product, .ref m_levels, .ref m_row, .ref m_then, .ref m_equations], wJ m_equations (zK C).2.2.1 2048 q2] [(0, .ref m), (1, .int (zI (p))), (2, .int (zI (p))), (3, .int (zI (p))), (4, .int (zI (3))), (5, .int (zI (6))), (6, .long (zL (inv (arL LL (3 * p + p))))), (8, .int (zI (r)))] 94 [] := by
          intro f9
          induction f9 with
          | zero => intro _ _ _ _ _ hf; exact absurd hf (Nat.not_lt_zero _)
          | succ f9 ih94_8 =>
            intro r q2 vr vb vr2 hf_94
            refine z_iload hC 7 dX9_clears_94 rfl ?_
            refine z_iload hC 5 dX9_clears_96 rfl ?_
            refine z_icge hC 203 dX9_clears_98 (by decide) (by omega) (fun c_10 => ?_) (fun c_10 => ?_)
            · skip
              exact z_vret hC hR dX9_clears_203 (Nat.le_of_ble_eq_true rfl) (Nat.le_of_ble_eq_true rfl) ⟨q2, rfl, rfl, by intro j a b; rw [vb j a b, clL_at a (by omega), show r = 6 by omega]; split; (rename_i h; unfold clF; rw [if_pos (by omega)]); (rw [if_pos (by omega)])⟩
            · skip
              have hvr := vr2 (3 * r + p) (by omega) (by omega)
              refine z_aload_n hC 0 dX9_clears_101 rfl rfl ?_
              refine z_get hC (T := TX9) (N := 41) hinX9 0 40 dX9_clears_102 rfl rfl (by decide) (List.mem_of_getElem? (i := 1) rfl) rfl rfl ?_
              refine z_iload hC 4 dX9_clears_105 rfl ?_
              refine z_iload hC 7 dX9_clears_107 rfl ?_
              refine z_imul hC (3 * r) dX9_clears_109 rfl ?_
              refine z_iload_n hC 3 dX9_clears_110 rfl rfl ?_
              refine z_iadd hC ((3 * r) + p) dX9_clears_111 rfl ?_
              refine z_lald hC 1 dX9_clears_112 rfl (by omega) ?_
              refine z_lstore hC [(9, .long (zL (q2 ((3 * r) + p)))), (0, .ref m), (1, .int (zI (p))), (2, .int (zI (p))), (3, .int (zI (p))), (4, .int (zI (3))), (5, .int (zI (6))), (6, .long (zL (inv (arL LL (3 * p + p))))), (8, .int (zI (r)))] dX9_clears_113 (by decide) rfl ?_
              refine z_iload hC 8 dX9_clears_115 rfl ?_
              refine z_iload_n hC 2 dX9_clears_117 rfl rfl ?_
              refine z_iceq hC 197 dX9_clears_118 (by decide) (by omega) (fun c_11 => ?_) (fun c_11 => ?_)
              · skip
                refine z_iinc (a := r) (v := 1) (r := r + 1) hC 8 [(8, .int (zI (r + 1))), (9, .long (zL (q2 ((3 * r) + p)))), (0, .ref m), (1, .int (zI (p))), (2, .int (zI (p))), (3, .int (zI (p))), (4, .int (zI (3))), (5, .int (zI (6))), (6, .long (zL (inv (arL LL (3 * p + p)))))] dX9_clears_197 rfl rfl (by decide) rfl ?_
                refine z_goto hC 94 dX9_clears_200 (by decide) ?_
                refine z_lv (lv' := [(0, .ref m), (1, .int (zI (p))), (2, .int (zI (p))), (3, .int (zI (p))), (4, .int (zI (3))), (5, .int (zI (6))), (6, .long (zL (inv (arL LL (3 * p + p))))), (8, .int (zI (r + 1)))]) [2, 3, 4, 5, 6, 7, 8, 0] rfl ?_
                exact ih94_8 (r + 1) q2 (by omega) (by intro j a b; first | (rw [vc j a b, show i2 = 3 by omega]; split; rfl; (by_cases e : j < 3 * r + 3; (rw [if_pos e, if_pos (by omega)]); (rw [if_neg e, if_neg (by omega)]))) | exact clr_skip3 a b hp (vb j a b) (by omega) (by first | exact Or.inl (by omega) | exact Or.inr (by rw [← hvz]; omega))) (by first | exact vr3 | exact vr2) (by omega)
              · skip
                refine z_lload hC 0 dX9_clears_121 rfl ?_
                refine z_lconst (v := 0) hC dX9_clears_123 rfl ?_
                refine z_lcne hC 131 dX9_clears_124 dX9_clears_125 (by decide) (by omega) (fun c_12 => ?_) (fun c_12 => ?_)
                · skip
                  have hv : q2 (3 * r + p) = arL LL (3 * r + p) := by rw [vb _ (by omega) (by omega), if_neg (by omega), if_neg (by omega)]
                  refine z_iconst hC dX9_clears_131 ?_
                  refine z_istore hC [(11, .int (zI (0))), (9, .long (zL (q2 ((3 * r) + p)))), (0, .ref m), (1, .int (zI (p))), (2, .int (zI (p))), (3, .int (zI (p))), (4, .int (zI (3))), (5, .int (zI (6))), (6, .long (zL (inv (arL LL (3 * p + p))))), (8, .int (zI (r)))] dX9_clears_132 (by decide) rfl ?_
                  refine z_lv (lv' := [(0, .ref m), (1, .int (zI (p))), (2, .int (zI (p))), (3, .int (zI (p))), (4, .int (zI (3))), (5, .int (zI (6))), (6, .long (zL (inv (arL LL (3 * p + p))))), (8, .int (zI (r))), (9, .long (zL (q2 ((3 * r) + p)))), (11, .int (zI (0)))]) [2, 3, 4, 5, 6, 7, 8, 9, 1, 0] rfl ?_
                  have lp134_13 : ∀ (f15 : Nat) (i2 : Int) (q3 : Int → Int), (0 ≤ i2 ∧ i2 ≤ 3) → (∀ j, 0 ≤ j → j < 18 → q3 j = if 3 * p ≤ j ∧ j < 3 * p + 3 then arL LL j * inv (arL LL (3 * p + p)) % 998244353 else if j < 3 * r + i2 then clF 3 p (arL LL) j else arL LL j) → (∀ j, 0 ≤ j → j < 18 → 0 ≤ q3 j ∧ q3 j < 998244353) → (3 - i2).toNat < f15 → ZW C 0 0 [wO m 9 [.int (zI (m_status)), .int (zI (m_thrown)), .ref m_sheetSort, .ref m_sheetMany, .ref m_numbers, .int (zI (m_steps)), .int (zI (m_kind)), .int (zI (m_top)), .int (zI (m_round)), .int (zI (m_ax)), .int (zI (m_ay)), .int (zI (m_bx)), .int (zI (m_by)), .ref m_dx, .ref m_dy, .ref m_weight, .ref m_isBarred, .ref m_walks, .ref m_one, .ref m_two, .ref m_light, .ref m_lightThen, .int (zI (m_family)), .ref m_fromX, .ref m_fromY, .ref m_toX, .ref m_toY, .int (zI (m_ruleMany)), .ref m_rule, .ref m_out, .int (zI (m_outs)), .ref m_grid, .ref m_heap, .ref m_ends, .ref m_power, .ref m_by2, .ref m_product, .ref m_levels, .ref m_row, .ref m_then, .ref m_equations], wJ m_equations (zK C).2.2.1 2048 q3] [(0, .ref m), (1, .int (zI (p))), (2, .int (zI (p))), (3, .int (zI (p))), (4, .int (zI (3))), (5, .int (zI (6))), (6, .long (zL (inv (arL LL (3 * p + p))))), (8, .int (zI (r))), (9, .long (zL (q2 ((3 * r) + p)))), (11, .int (zI (i2)))] 134 [] := by
                    intro f15
                    induction f15 with
                    | zero => intro _ _ _ _ _ hf; exact absurd hf (Nat.not_lt_zero _)
                    | succ f15 ih134_14 =>
                      intro i2 q3 vi2 vc vr3 hf_134
                      refine z_iload hC 9 dX9_clears_134 rfl ?_
                      refine z_iload hC 4 dX9_clears_136 rfl ?_
                      refine z_icge hC 197 dX9_clears_138 (by decide) (by omega) (fun c_16 => ?_) (fun c_16 => ?_)
                      · skip
                        refine z_iinc (a := r) (v := 1) (r := r + 1) hC 7 [(8, .int (zI (r + 1))), (0, .ref m), (1, .int (zI (p))), (2, .int (zI (p))), (3, .int (zI (p))), (4, .int (zI (3))), (5, .int (zI (6))), (6, .long (zL (inv (arL LL (3 * p + p))))), (9, .long (zL (q2 ((3 * r) + p)))), (11, .int (zI (i2)))] dX9_clears_197 rfl rfl (by decide) rfl ?_
                        refine z_goto hC 94 dX9_clears_200 (by decide) ?_
                        refine z_lv (lv' := [(0, .ref m), (1, .int (zI (p))), (2, .int (zI (p))), (3, .int (zI (p))), (4, .int (zI (3))), (5, .int (zI (6))), (6, .long (zL (inv (arL LL (3 * p + p))))), (8, .int (zI (r + 1)))]) [1, 2, 3, 4, 5, 6, 7, 0] rfl ?_
                        exact ih94_8 (r + 1) q3 (by omega) (by intro j a b; first | (rw [vc j a b, show i2 = 3 by omega]; split; rfl; (by_cases e : j < 3 * r + 3; (rw [if_pos e, if_pos (by omega)]); (rw [if_neg e, if_neg (by omega)]))) | exact clr_skip3 a b hp (vb j a b) (by omega) (by first | exact Or.inl (by omega) | exact Or.inr (by rw [← hvz]; omega))) (by first | exact vr3 | exact vr2) (by omega)
                      · skip
                        have hm2 := mod_r (arL LL (3 * p + i2) * inv (arL LL (3 * p + p)))
                        have hm3 := mul_r2 (x := 998244353 - q2 (3 * r + p)) (by omega) hm2
                        have hm4 := hlr (3 * r + i2)
                        refine z_aload_n hC 0 dX9_clears_141 rfl rfl ?_
                        refine z_get hC (T := TX9) (N := 41) hinX9 0 40 dX9_clears_142 rfl rfl (by decide) (List.mem_of_getElem? (i := 1) rfl) rfl rfl ?_
                        refine z_iload hC 4 dX9_clears_145 rfl ?_
                        refine z_iload hC 7 dX9_clears_147 rfl ?_
                        refine z_imul hC (3 * r) dX9_clears_149 rfl ?_
                        refine z_iload hC 9 dX9_clears_150 rfl ?_
                        refine z_iadd hC ((3 * r) + i2) dX9_clears_152 rfl ?_
                        refine z_aload_n hC 0 dX9_clears_153 rfl rfl ?_
                        refine z_get hC (T := TX9) (N := 41) hinX9 0 40 dX9_clears_154 rfl rfl (by decide) (List.mem_of_getElem? (i := 1) rfl) rfl rfl ?_
                        refine z_iload hC 4 dX9_clears_157 rfl ?_
                        refine z_iload hC 7 dX9_clears_159 rfl ?_
                        refine z_imul hC (3 * r) dX9_clears_161 rfl ?_
                        refine z_iload hC 9 dX9_clears_162 rfl ?_
                        refine z_iadd hC ((3 * r) + i2) dX9_clears_164 rfl ?_
                        refine z_lald hC 1 dX9_clears_165 rfl (by omega) ?_
                        refine z_topl (b := arL LL (3 * r + i2)) (by rw [vc _ (by omega) (by omega), if_neg (by omega), if_neg (by omega)]) ?_
                        refine z_ldc2 (v := 998244353) hC (List.mem_of_getElem? (i := 2) rfl) rfl dX9_clears_166 ?_
                        refine z_lload hC 8 dX9_clears_169 rfl ?_
                        refine z_lsub hC (998244353 - (q2 ((3 * r) + p))) dX9_clears_171 rfl ?_
                        refine z_aload_n hC 0 dX9_clears_172 rfl rfl ?_
                        refine z_get hC (T := TX9) (N := 41) hinX9 0 40 dX9_clears_173 rfl rfl (by decide) (List.mem_of_getElem? (i := 1) rfl) rfl rfl ?_
                        refine z_iload hC 4 dX9_clears_176 rfl ?_
                        refine z_iload_n hC 1 dX9_clears_178 rfl rfl ?_
                        refine z_imul hC (3 * p) dX9_clears_179 rfl ?_
                        refine z_iload hC 9 dX9_clears_180 rfl ?_
                        refine z_iadd hC ((3 * p) + i2) dX9_clears_182 rfl ?_
                        refine z_lald hC 1 dX9_clears_183 rfl (by omega) ?_
                        refine z_topl (b := arL LL (3 * p + i2) * inv (arL LL (3 * p + p)) % 998244353) (by rw [vc _ (by omega) (by omega), if_pos (by omega)]) ?_
                        refine z_lmul hC ((998244353 - (q2 ((3 * r) + p))) * (arL LL (3 * p + i2) * inv (arL LL (3 * p + p)) % 998244353)) dX9_clears_184 rfl ?_
                        refine z_ladd hC ((arL LL (3 * r + i2)) + ((998244353 - (q2 ((3 * r) + p))) * (arL LL (3 * p + i2) * inv (arL LL (3 * p + p)) % 998244353))) dX9_clears_185 rfl ?_
                        refine z_ldc2 (v := 998244353) hC (List.mem_of_getElem? (i := 2) rfl) rfl dX9_clears_186 ?_
                        refine z_lrem hC (((arL LL (3 * r + i2)) + ((998244353 - (q2 ((3 * r) + p))) * (arL LL (3 * p + i2) * inv (arL LL (3 * p + p)) % 998244353))) % 998244353) dX9_clears_189 (by omega) rfl ?_
                        refine z_last hC 1 [wO m 9 [.int (zI (m_status)), .int (zI (m_thrown)), .ref m_sheetSort, .ref m_sheetMany, .ref m_numbers, .int (zI (m_steps)), .int (zI (m_kind)), .int (zI (m_top)), .int (zI (m_round)), .int (zI (m_ax)), .int (zI (m_ay)), .int (zI (m_bx)), .int (zI (m_by)), .ref m_dx, .ref m_dy, .ref m_weight, .ref m_isBarred, .ref m_walks, .ref m_one, .ref m_two, .ref m_light, .ref m_lightThen, .int (zI (m_family)), .ref m_fromX, .ref m_fromY, .ref m_toX, .ref m_toY, .int (zI (m_ruleMany)), .ref m_rule, .ref m_out, .int (zI (m_outs)), .ref m_grid, .ref m_heap, .ref m_ends, .ref m_power, .ref m_by2, .ref m_product, .ref m_levels, .ref m_row, .ref m_then, .ref m_equations], wJ m_equations (zK C).2.2.1 2048 (zu q3 ((3 * r) + i2) (((arL LL (3 * r + i2)) + ((998244353 - (q2 ((3 * r) + p))) * (arL LL (3 * p + i2) * inv (arL LL (3 * p + p)) % 998244353))) % 998244353))] dX9_clears_190 rfl (by omega) rfl ?_
                        refine z_iinc (a := i2) (v := 1) (r := i2 + 1) hC 9 [(11, .int (zI (i2 + 1))), (0, .ref m), (1, .int (zI (p))), (2, .int (zI (p))), (3, .int (zI (p))), (4, .int (zI (3))), (5, .int (zI (6))), (6, .long (zL (inv (arL LL (3 * p + p))))), (8, .int (zI (r))), (9, .long (zL (q2 ((3 * r) + p))))] dX9_clears_191 rfl rfl (by decide) rfl ?_
                        refine z_goto hC 134 dX9_clears_194 (by decide) ?_
                        refine z_lv (lv' := [(0, .ref m), (1, .int (zI (p))), (2, .int (zI (p))), (3, .int (zI (p))), (4, .int (zI (3))), (5, .int (zI (6))), (6, .long (zL (inv (arL LL (3 * p + p))))), (8, .int (zI (r))), (9, .long (zL (q2 ((3 * r) + p)))), (11, .int (zI (i2 + 1)))]) [1, 2, 3, 4, 5, 6, 7, 8, 9, 0] rfl ?_
                        exact ih134_14 (i2 + 1) (zu q3 ((3 * r) + i2) (((arL LL (3 * r + i2)) + ((998244353 - (q2 ((3 * r) + p))) * (arL LL (3 * p + i2) * inv (arL LL (3 * p + p)) % 998244353))) % 998244353)) (by omega) (by intro j a b; rw [← Int.add_assoc]; unfold zu; by_cases e : j = 3 * r + i2; (rw [if_pos e, if_neg (by omega), if_pos (by omega), e]; exact clr_new3 (by omega) (by omega) (by omega) hv (by omega)); (rw [if_neg e, vc j a b]; split; rfl; (by_cases e2 : j < 3 * r + i2; (rw [if_pos e2, if_pos (by omega)]); (rw [if_neg e2, if_neg (by omega)])))) (by intro j a b; unfold zu; split; exact mod_r _; exact vr3 j a b) (by omega)
                  exact lp134_13 _ 0 q2 (by omega) (by intro j a b; rw [show 3 * r + 0 = 3 * r by omega]; exact vb j a b) (by exact vr2) (Nat.lt_succ_self _)
                · skip
                  have hvz : q2 (3 * r + p) = arL LL (3 * r + p) := by rw [vb _ (by omega) (by omega), if_neg (by omega), if_neg (by omega)]
                  refine z_goto hC 197 dX9_clears_128 (by decide) ?_
                  refine z_iinc (a := r) (v := 1) (r := r + 1) hC 8 [(8, .int (zI (r + 1))), (9, .long (zL (q2 ((3 * r) + p)))), (0, .ref m), (1, .int (zI (p))), (2, .int (zI (p))), (3, .int (zI (p))), (4, .int (zI (3))), (5, .int (zI (6))), (6, .long (zL (inv (arL LL (3 * p + p)))))] dX9_clears_197 rfl rfl (by decide) rfl ?_
                  refine z_goto hC 94 dX9_clears_200 (by decide) ?_
                  refine z_lv (lv' := [(0, .ref m), (1, .int (zI (p))), (2, .int (zI (p))), (3, .int (zI (p))), (4, .int (zI (3))), (5, .int (zI (6))), (6, .long (zL (inv (arL LL (3 * p + p))))), (8, .int (zI (r + 1)))]) [2, 3, 4, 5, 6, 7, 8, 0] rfl ?_
                  exact ih94_8 (r + 1) q2 (by omega) (by intro j a b; first | (rw [vc j a b, show i2 = 3 by omega]; split; rfl; (by_cases e : j < 3 * r + 3; (rw [if_pos e, if_pos (by omega)]); (rw [if_neg e, if_neg (by omega)]))) | exact clr_skip3 a b hp (vb j a b) (by omega) (by first | exact Or.inl (by omega) | exact Or.inr (by rw [← hvz]; omega))) (by first | exact vr3 | exact vr2) (by omega)
        exact lp94_7 _ 0 q (by omega) (by intro j a b; rw [vq j a b, show i = 3 by omega]; split; rfl; (rw [if_neg (by omega)])) (by intro j a b; rw [vq j a b]; split; exact mod_r _; exact hlr j) (Nat.lt_succ_self _)
      · skip
        have hm1 := mul_r (hlr (3 * p + i)) hiv
        refine z_aload_n hC 0 dX9_clears_26 rfl rfl ?_
        refine z_get hC (T := TX9) (N := 41) hinX9 0 40 dX9_clears_27 rfl rfl (by decide) (List.mem_of_getElem? (i := 1) rfl) rfl rfl ?_
        refine z_iload hC 4 dX9_clears_30 rfl ?_
        refine z_iload_n hC 2 dX9_clears_32 rfl rfl ?_
        refine z_imul hC (3 * p) dX9_clears_33 rfl ?_
        refine z_iload hC 7 dX9_clears_34 rfl ?_
        refine z_iadd hC ((3 * p) + i) dX9_clears_36 rfl ?_
        refine z_lald hC 1 dX9_clears_37 rfl (by omega) ?_
        refine z_topl (b := arL LL (3 * p + i)) (by rw [vq _ (by omega) (by omega), if_neg (by omega)]) ?_
        refine z_lload hC 6 dX9_clears_38 rfl ?_
        refine z_lmul hC ((arL LL (3 * p + i)) * (inv (arL LL (3 * p + p)))) dX9_clears_40 rfl ?_
        refine z_ldc2 (v := 998244353) hC (List.mem_of_getElem? (i := 2) rfl) rfl dX9_clears_41 ?_
        refine z_lrem hC (((arL LL (3 * p + i)) * (inv (arL LL (3 * p + p)))) % 998244353) dX9_clears_44 (by omega) rfl ?_
        refine z_lstore hC [(9, .long (zL (((arL LL (3 * p + i)) * (inv (arL LL (3 * p + p)))) % 998244353))), (0, .ref m), (1, .int (zI (p))), (2, .int (zI (p))), (3, .int (zI (p))), (4, .int (zI (3))), (5, .int (zI (6))), (6, .long (zL (inv (arL LL (3 * p + p))))), (8, .int (zI (i)))] dX9_clears_45 (by decide) rfl ?_
        refine z_aload_n hC 1 dX9_clears_47 rfl rfl ?_
        refine z_get hC (T := TX9) (N := 41) hinX9 0 40 dX9_clears_48 rfl rfl (by decide) (List.mem_of_getElem? (i := 1) rfl) rfl rfl ?_
        refine z_iload hC 5 dX9_clears_51 rfl ?_
        refine z_iload_n hC 3 dX9_clears_53 rfl rfl ?_
        refine z_imul hC (3 * p) dX9_clears_54 rfl ?_
        refine z_iload hC 8 dX9_clears_55 rfl ?_
        refine z_iadd hC ((3 * p) + i) dX9_clears_57 rfl ?_
        refine z_aload_n hC 1 dX9_clears_58 rfl rfl ?_
        refine z_get hC (T := TX9) (N := 41) hinX9 0 40 dX9_clears_59 rfl rfl (by decide) (List.mem_of_getElem? (i := 1) rfl) rfl rfl ?_
        refine z_iload hC 5 dX9_clears_62 rfl ?_
        refine z_iload_n hC 2 dX9_clears_64 rfl rfl ?_
        refine z_imul hC (3 * p) dX9_clears_65 rfl ?_
        refine z_iload hC 8 dX9_clears_66 rfl ?_
        refine z_iadd hC ((3 * p) + i) dX9_clears_68 rfl ?_
        refine z_lald hC 1 dX9_clears_69 rfl (by omega) ?_
        refine z_last hC 1 [wO m 9 [.int (zI (m_status)), .int (zI (m_thrown)), .ref m_sheetSort, .ref m_sheetMany, .ref m_numbers, .int (zI (m_steps)), .int (zI (m_kind)), .int (zI (m_top)), .int (zI (m_round)), .int (zI (m_ax)), .int (zI (m_ay)), .int (zI (m_bx)), .int (zI (m_by)), .ref m_dx, .ref m_dy, .ref m_weight, .ref m_isBarred, .ref m_walks, .ref m_one, .ref m_two, .ref m_light, .ref m_lightThen, .int (zI (m_family)), .ref m_fromX, .ref m_fromY, .ref m_toX, .ref m_toY, .int (zI (m_ruleMany)), .ref m_rule, .ref m_out, .int (zI (m_outs)), .ref m_grid, .ref m_heap, .ref m_ends, .ref m_power, .ref m_by2, .ref m_product, .ref m_levels, .ref m_row, .ref m_then, .ref m_equations], wJ m_equations (zK C).2.2.1 2048 (zu q ((3 * p) + i) (q ((3 * p) + i)))] dX9_clears_70 rfl (by omega) rfl ?_
        refine z_aload_n hC 1 dX9_clears_71 rfl rfl ?_
        refine z_get hC (T := TX9) (N := 41) hinX9 0 40 dX9_clears_72 rfl rfl (by decide) (List.mem_of_getElem? (i := 1) rfl) rfl rfl ?_
        refine z_iload hC 5 dX9_clears_75 rfl ?_
        refine z_iload_n hC 2 dX9_clears_77 rfl rfl ?_
        refine z_imul hC (3 * p) dX9_clears_78 rfl ?_
        refine z_iload hC 8 dX9_clears_79 rfl ?_
        refine z_iadd hC ((3 * p) + i) dX9_clears_81 rfl ?_
        refine z_lload hC 0 dX9_clears_82 rfl ?_
        refine z_last hC 1 [wO m 9 [.int (zI (m_status)), .int (zI (m_thrown)), .ref m_sheetSort, .ref m_sheetMany, .ref m_numbers, .int (zI (m_steps)), .int (zI (m_kind)), .int (zI (m_top)), .int (zI (m_round)), .int (zI (m_ax)), .int (zI (m_ay)), .int (zI (m_bx)), .int (zI (m_by)), .ref m_dx, .ref m_dy, .ref m_weight, .ref m_isBarred, .ref m_walks, .ref m_one, .ref m_two, .ref m_light, .ref m_lightThen, .int (zI (m_family)), .ref m_fromX, .ref m_fromY, .ref m_toX, .ref m_toY, .int (zI (m_ruleMany)), .ref m_rule, .ref m_out, .int (zI (m_outs)), .ref m_grid, .ref m_heap, .ref m_ends, .ref m_power, .ref m_by2, .ref m_product, .ref m_levels, .ref m_row, .ref m_then, .ref m_equations], wJ m_equations (zK C).2.2.1 2048 (zu (zu q ((3 * p) + i) (q ((3 * p) + i))) ((3 * p) + i) (((arL LL (3 * p + i)) * (inv (arL LL (3 * p + p)))) % 998244353))] dX9_clears_84 rfl (by omega) rfl ?_
        refine z_iinc (a := i) (v := 1) (r := i + 1) hC 8 [(8, .int (zI (i + 1))), (9, .long (zL (((arL LL (3 * p + i)) * (inv (arL LL (3 * p + p)))) % 998244353))), (0, .ref m), (1, .int (zI (p))), (2, .int (zI (p))), (3, .int (zI (p))), (4, .int (zI (3))), (5, .int (zI (6))), (6, .long (zL (inv (arL LL (3 * p + p)))))] dX9_clears_85 rfl rfl (by decide) rfl ?_
        refine z_goto hC 19 dX9_clears_88 (by decide) ?_
        refine z_lv (lv' := [(0, .ref m), (1, .int (zI (p))), (2, .int (zI (p))), (3, .int (zI (p))), (4, .int (zI (3))), (5, .int (zI (6))), (6, .long (zL (inv (arL LL (3 * p + p))))), (8, .int (zI (i + 1)))]) [2, 3, 4, 5, 6, 7, 8, 0] rfl ?_
        exact ih19_4 (i + 1) (zu (zu q ((3 * p) + i) (q ((3 * p) + i))) ((3 * p) + i) (((arL LL (3 * p + i)) * (inv (arL LL (3 * p + p)))) % 998244353)) (by omega) (by intro j a b; unfold zu; by_cases e : j = 3 * p + i; (rw [if_pos e, if_pos (by omega), e]); (rw [if_neg e, if_neg e, vq j a b]; by_cases e2 : 3 * p ≤ j ∧ j < 3 * p + i; (rw [if_pos e2, if_pos (by omega)]); (rw [if_neg e2, if_neg (by omega)]))) (by omega)
  exact lp19_3 _ 0 g (by omega) (by intro j a b; rw [if_neg (by omega)]; exact hl j a b) (Nat.lt_succ_self _)

set_option maxHeartbeats 8000000 in
set_option maxRecDepth 100000 in
theorem c_X9_clearsw4 (l : Launch) (D : va_G) (K : ClassId × ClassId × ClassId × ClassId) (m m_sheetSort m_sheetMany m_numbers m_dx m_dy m_weight m_isBarred m_walks m_one m_two m_light m_lightThen m_fromX m_fromY m_toX m_toY m_rule m_out m_grid m_heap m_ends m_power m_by2 m_product m_levels m_row m_then m_equations : Nat) (p m_status m_thrown m_steps m_kind m_top m_round m_ax m_ay m_bx m_by m_family m_ruleMany m_outs : Int) (g : Int → Int) (LL : List Int) (hp : 0 ≤ p ∧ p < 3 ∧ p < 6) (hl : ∀ j, 0 ≤ j → j < 24 → g j = arL LL j) (hlr : ∀ j, 0 ≤ arL LL j ∧ arL LL j < 998244353) : zMet l D K yX9_clears wsX9_clears ({ frames := 1, cells := 0, slots := 0, locals := 26 }) 0 0 [.ref m, .int (zI (p)), .int (zI (p)), .int (zI (p)), .int (zI (4)), .int (zI (6))] [wO m 9 [.int (zI (m_status)), .int (zI (m_thrown)), .ref m_sheetSort, .ref m_sheetMany, .ref m_numbers, .int (zI (m_steps)), .int (zI (m_kind)), .int (zI (m_top)), .int (zI (m_round)), .int (zI (m_ax)), .int (zI (m_ay)), .int (zI (m_bx)), .int (zI (m_by)), .ref m_dx, .ref m_dy, .ref m_weight, .ref m_isBarred, .ref m_walks, .ref m_one, .ref m_two, .ref m_light, .ref m_lightThen, .int (zI (m_family)), .ref m_fromX, .ref m_fromY, .ref m_toX, .ref m_toY, .int (zI (m_ruleMany)), .ref m_rule, .ref m_out, .int (zI (m_outs)), .ref m_grid, .ref m_heap, .ref m_ends, .ref m_power, .ref m_by2, .ref m_product, .ref m_levels, .ref m_row, .ref m_then, .ref m_equations], wJ m_equations K.2.2.1 2048 g] (fun vr_ wr_ => ∃ (g2 : Int → Int), vr_ = none ∧ wr_ = [wO m 9 [.int (zI (m_status)), .int (zI (m_thrown)), .ref m_sheetSort, .ref m_sheetMany, .ref m_numbers, .int (zI (m_steps)), .int (zI (m_kind)), .int (zI (m_top)), .int (zI (m_round)), .int (zI (m_ax)), .int (zI (m_ay)), .int (zI (m_bx)), .int (zI (m_by)), .ref m_dx, .ref m_dy, .ref m_weight, .ref m_isBarred, .ref m_walks, .ref m_one, .ref m_two, .ref m_light, .ref m_lightThen, .int (zI (m_family)), .ref m_fromX, .ref m_fromY, .ref m_toX, .ref m_toY, .int (zI (m_ruleMany)), .ref m_rule, .ref m_out, .int (zI (m_outs)), .ref m_grid, .ref m_heap, .ref m_ends, .ref m_power, .ref m_by2, .ref m_product, .ref m_levels, .ref m_row, .ref m_then, .ref m_equations], wJ m_equations K.2.2.1 2048 g2] ∧ (∀ j, 0 ≤ j → j < 24 → g2 j = arL (clL 4 p LL) j)) := by
  refine zMet_of (cc := cX9_clears) (nL := 12) (ret := none) (by decide) rfl (Nat.le_of_ble_eq_true rfl) ?_
  rintro C rfl rfl rfl hC hR
  have hinX9 : ∀ w ∈ u_ws RX9 TX9 41, w ∈ wsX9_clears := by decide +kernel
  have hiv := inv_r (arL LL (4 * p + p))
  have hX := hlr (4 * p + p)
  show ZW C 0 0 [wO m 9 [.int (zI (m_status)), .int (zI (m_thrown)), .ref m_sheetSort, .ref m_sheetMany, .ref m_numbers, .int (zI (m_steps)), .int (zI (m_kind)), .int (zI (m_top)), .int (zI (m_round)), .int (zI (m_ax)), .int (zI (m_ay)), .int (zI (m_bx)), .int (zI (m_by)), .ref m_dx, .ref m_dy, .ref m_weight, .ref m_isBarred, .ref m_walks, .ref m_one, .ref m_two, .ref m_light, .ref m_lightThen, .int (zI (m_family)), .ref m_fromX, .ref m_fromY, .ref m_toX, .ref m_toY, .int (zI (m_ruleMany)), .ref m_rule, .ref m_out, .int (zI (m_outs)), .ref m_grid, .ref m_heap, .ref m_ends, .ref m_power, .ref m_by2, .ref m_product, .ref m_levels, .ref m_row, .ref m_then, .ref m_equations], wJ m_equations (zK C).2.2.1 2048 g] [(0, .ref m), (1, .int (zI (p))), (2, .int (zI (p))), (3, .int (zI (p))), (4, .int (zI (4))), (5, .int (zI (6)))] 0 []
  refine z_aload_n hC 0 dX9_clears_0 rfl rfl ?_
  refine z_get hC (T := TX9) (N := 41) hinX9 0 40 dX9_clears_1 rfl rfl (by decide) (List.mem_of_getElem? (i := 1) rfl) rfl rfl ?_
  refine z_iload hC 4 dX9_clears_4 rfl ?_
  refine z_iload_n hC 2 dX9_clears_6 rfl rfl ?_
  refine z_imul hC (4 * p) dX9_clears_7 rfl ?_
  refine z_iload_n hC 3 dX9_clears_8 rfl rfl ?_
  refine z_iadd hC ((4 * p) + p) dX9_clears_9 rfl ?_
  refine z_lald hC 1 dX9_clears_10 rfl (by omega) ?_
  refine z_topl (b := arL LL (4 * p + p)) (by exact hl _ (by omega) (by omega)) ?_
  refine z_callS hC [.long (zL (arL LL (4 * p + p)))] 1 dX9_clears_11 (c_X9_inverse (zl C) (zD C) (zK C) (arL LL (4 * p + p)) (by first | assumption | omega)) gX9_clears_X9_inverse rfl rfl rfl ⟨by decide, by decide, by decide +kernel⟩ ⟨(Nat.le_of_ble_eq_true rfl), (Nat.le_of_ble_eq_true rfl)⟩ rfl [] [0, 1] [wO m 9 [.int (zI (m_status)), .int (zI (m_thrown)), .ref m_sheetSort, .ref m_sheetMany, .ref m_numbers, .int (zI (m_steps)), .int (zI (m_kind)), .int (zI (m_top)), .int (zI (m_round)), .int (zI (m_ax)), .int (zI (m_ay)), .int (zI (m_bx)), .int (zI (m_by)), .ref m_dx, .ref m_dy, .ref m_weight, .ref m_isBarred, .ref m_walks, .ref m_one, .ref m_two, .ref m_light, .ref m_lightThen, .int (zI (m_family)), .ref m_fromX, .ref m_fromY, .ref m_toX, .ref m_toY, .int (zI (m_ruleMany)), .ref m_rule, .ref m_out, .int (zI (m_outs)), .ref m_grid, .ref m_heap, .ref m_ends, .ref m_power, .ref m_by2, .ref m_product, .ref m_levels, .ref m_row, .ref m_then, .ref m_equations], wJ m_equations (zK C).2.2.1 2048 g] [] rfl rfl rfl rfl rfl (by decide) (Nat.le_of_ble_eq_true rfl) ⟨(Nat.le_of_ble_eq_true rfl), (Nat.le_of_ble_eq_true rfl)⟩ ?_
  rintro v_ w_ ⟨r_1, rfl, rfl, rfl⟩
  show ZW C 0 0 [wO m 9 [.int (zI (m_status)), .int (zI (m_thrown)), .ref m_sheetSort, .ref m_sheetMany, .ref m_numbers, .int (zI (m_steps)), .int (zI (m_kind)), .int (zI (m_top)), .int (zI (m_round)), .int (zI (m_ax)), .int (zI (m_ay)), .int (zI (m_bx)), .int (zI (m_by)), .ref m_dx, .ref m_dy, .ref m_weight, .ref m_isBarred, .ref m_walks, .ref m_one, .ref m_two, .ref m_light, .ref m_lightThen, .int (zI (m_family)), .ref m_fromX, .ref m_fromY, .ref m_toX, .ref m_toY, .int (zI (m_ruleMany)), .ref m_rule, .ref m_out, .int (zI (m_outs)), .ref m_grid, .ref m_heap, .ref m_ends, .ref m_power, .ref m_by2, .ref m_product, .ref m_levels, .ref m_row, .ref m_then, .ref m_equations], wJ m_equations (zK C).2.2.1 2048 g] [(0, .ref m), (1, .int (zI (p))), (2, .int (zI (p))), (3, .int (zI (p))), (4, .int (zI (4))), (5, .int (zI (6)))] 14 [.long (zL (inv (arL LL (4 * p + p))))]
  refine z_lstore hC [(6, .long (zL (inv (arL LL (4 * p + p))))), (0, .ref m), (1, .int (zI (p))), (2, .int (zI (p))), (3, .int (zI (p))), (4, .int (zI (4))), (5, .int (zI (6)))] dX9_clears_14 (by decide) rfl ?_
  refine z_iconst hC dX9_clears_16 ?_
  refine z_istore hC [(8, .int (zI (0))), (6, .long (zL (inv (arL LL (4 * p + p))))), (0, .ref m), (1, .int (zI (p))), (2, .int (zI (p))), (3, .int (zI (p))), (4, .int (zI (4))), (5, .int (zI (6)))] dX9_clears_17 (by decide) rfl ?_
  refine z_lv (lv' := [(0, .ref m), (1, .int (zI (p))), (2, .int (zI (p))), (3, .int (zI (p))), (4, .int (zI (4))), (5, .int (zI (6))), (6, .long (zL (inv (arL LL (4 * p + p))))), (8, .int (zI (0)))]) [2, 3, 4, 5, 6, 7, 1, 0] rfl ?_
  have lp19_3 : ∀ (f5 : Nat) (i : Int) (q : Int → Int), (0 ≤ i ∧ i ≤ 4) → (∀ j, 0 ≤ j → j < 24 → q j = if 4 * p ≤ j ∧ j < 4 * p + i then arL LL j * inv (arL LL (4 * p + p)) % 998244353 else arL LL j) → (4 - i).toNat < f5 → ZW C 0 0 [wO m 9 [.int (zI (m_status)), .int (zI (m_thrown)), .ref m_sheetSort, .ref m_sheetMany, .ref m_numbers, .int (zI (m_steps)), .int (zI (m_kind)), .int (zI (m_top)), .int (zI (m_round)), .int (zI (m_ax)), .int (zI (m_ay)), .int (zI (m_bx)), .int (zI (m_by)), .ref m_dx, .ref m_dy, .ref m_weight, .ref m_isBarred, .ref m_walks, .ref m_one, .ref m_two, .ref m_light, .ref m_lightThen, .int (zI (m_family)), .ref m_fromX, .ref m_fromY, .ref m_toX, .ref m_toY, .int (zI (m_ruleMany)), .ref m_rule, .ref m_out, .int (zI (m_outs)), .ref m_grid, .ref m_heap, .ref m_ends, .ref m_power, .ref m_by2, .ref m_product, .ref m_levels, .ref m_row, .ref m_then, .ref m_equations], wJ m_equations (zK C).2.2.1 2048 q] [(0, .ref m), (1, .int (zI (p))), (2, .int (zI (p))), (3, .int (zI (p))), (4, .int (zI (4))), (5, .int (zI (6))), (6, .long (zL (inv (arL LL (4 * p + p))))), (8, .int (zI (i)))] 19 [] := by
    intro f5
    induction f5 with
    | zero => intro _ _ _ _ hf; exact absurd hf (Nat.not_lt_zero _)
    | succ f5 ih19_4 =>
      intro i q vi vq hf_19
      refine z_iload hC 7 dX9_clears_19 rfl ?_
      refine z_iload hC 4 dX9_clears_21 rfl ?_
      refine z_icge hC 91 dX9_clears_23 (by decide) (by omega) (fun c_6 => ?_) (fun c_6 => ?_)
      · skip
        refine z_iconst hC dX9_clears_91 ?_
        refine z_istore hC [(8, .int (zI (0))), (0, .ref m), (1, .int (zI (p))), (2, .int (zI (p))), (3, .int (zI (p))), (4, .int (zI (4))), (5, .int (zI (6))), (6, .long (zL (inv (arL LL (4 * p + p)))))] dX9_clears_92 (by decide) rfl ?_
        refine z_lv (lv' := [(0, .ref m), (1, .int (zI (p))), (2, .int (zI (p))), (3, .int (zI (p))), (4, .int (zI (4))), (5, .int (zI (6))), (6, .long (zL (inv (arL LL (4 * p + p))))), (8, .int (zI (0)))]) [1, 2, 3, 4, 5, 6, 7, 0] rfl ?_
        have lp94_7 : ∀ (f9 : Nat) (r : Int) (q2 : Int → Int), (0 ≤ r ∧ r ≤ 6) → (∀ j, 0 ≤ j → j < 24 → q2 j = if 4 * p ≤ j ∧ j < 4 * p + 4 then arL LL j * inv (arL LL (4 * p + p)) % 998244353 else if j < 4 * r then clF 4 p (arL LL) j else arL LL j) → (∀ j, 0 ≤ j → j < 24 → 0 ≤ q2 j ∧ q2 j < 998244353) → (6 - r).toNat < f9 → ZW C 0 0 [wO m 9 [.int (zI (m_status)), .int (zI (m_thrown)), .ref m_sheetSort, .ref m_sheetMany, .ref m_numbers, .int (zI (m_steps)), .int (zI (m_kind)), .int (zI (m_top)), .int (zI (m_round)), .int (zI (m_ax)), .int (zI (m_ay)), .int (zI (m_bx)), .int (zI (m_by)), .ref m_dx, .ref m_dy, .ref m_weight, .ref m_isBarred, .ref m_walks, .ref m_one, .ref m_two, .ref m_light, .ref m_lightThen, .int (zI (m_family)), .ref m_fromX, .ref m_fromY, .ref m_toX, .ref m_toY, .int (zI (m_ruleMany)), .ref m_rule, .ref m_out, .int (zI (m_outs)), .ref m_grid, .ref m_heap, .ref m_ends, .ref m_power, .ref m_by2, .ref m_product, .ref m_levels, .ref m_row, .ref m_then, .ref m_equations], wJ m_equations (zK C).2.2.1 2048 q2] [(0, .ref m), (1, .int (zI (p))), (2, .int (zI (p))), (3, .int (zI (p))), (4, .int (zI (4))), (5, .int (zI (6))), (6, .long (zL (inv (arL LL (4 * p + p))))), (8, .int (zI (r)))] 94 [] := by
          intro f9
          induction f9 with
          | zero => intro _ _ _ _ _ hf; exact absurd hf (Nat.not_lt_zero _)
          | succ f9 ih94_8 =>
            intro r q2 vr vb vr2 hf_94
            refine z_iload hC 7 dX9_clears_94 rfl ?_
            refine z_iload hC 5 dX9_clears_96 rfl ?_
            refine z_icge hC 203 dX9_clears_98 (by decide) (by omega) (fun c_10 => ?_) (fun c_10 => ?_)
            · skip
              exact z_vret hC hR dX9_clears_203 (Nat.le_of_ble_eq_true rfl) (Nat.le_of_ble_eq_true rfl) ⟨q2, rfl, rfl, by intro j a b; rw [vb j a b, clL_at a (by omega), show r = 6 by omega]; split; (rename_i h; unfold clF; rw [if_pos (by omega)]); (rw [if_pos (by omega)])⟩
            · skip
              have hvr := vr2 (4 * r + p) (by omega) (by omega)
              refine z_aload_n hC 0 dX9_clears_101 rfl rfl ?_
              refine z_get hC (T := TX9) (N := 41) hinX9 0 40 dX9_clears_102 rfl rfl (by decide) (List.mem_of_getElem? (i := 1) rfl) rfl rfl ?_
              refine z_iload hC 4 dX9_clears_105 rfl ?_
              refine z_iload hC 7 dX9_clears_107 rfl ?_
              refine z_imul hC (4 * r) dX9_clears_109 rfl ?_
              refine z_iload_n hC 3 dX9_clears_110 rfl rfl ?_
              refine z_iadd hC ((4 * r) + p) dX9_clears_111 rfl ?_
              refine z_lald hC 1 dX9_clears_112 rfl (by omega) ?_
              refine z_lstore hC [(9, .long (zL (q2 ((4 * r) + p)))), (0, .ref m), (1, .int (zI (p))), (2, .int (zI (p))), (3, .int (zI (p))), (4, .int (zI (4))), (5, .int (zI (6))), (6, .long (zL (inv (arL LL (4 * p + p))))), (8, .int (zI (r)))] dX9_clears_113 (by decide) rfl ?_
              refine z_iload hC 8 dX9_clears_115 rfl ?_
              refine z_iload_n hC 2 dX9_clears_117 rfl rfl ?_
              refine z_iceq hC 197 dX9_clears_118 (by decide) (by omega) (fun c_11 => ?_) (fun c_11 => ?_)
              · skip
                refine z_iinc (a := r) (v := 1) (r := r + 1) hC 8 [(8, .int (zI (r + 1))), (9, .long (zL (q2 ((4 * r) + p)))), (0, .ref m), (1, .int (zI (p))), (2, .int (zI (p))), (3, .int (zI (p))), (4, .int (zI (4))), (5, .int (zI (6))), (6, .long (zL (inv (arL LL (4 * p + p)))))] dX9_clears_197 rfl rfl (by decide) rfl ?_
                refine z_goto hC 94 dX9_clears_200 (by decide) ?_
                refine z_lv (lv' := [(0, .ref m), (1, .int (zI (p))), (2, .int (zI (p))), (3, .int (zI (p))), (4, .int (zI (4))), (5, .int (zI (6))), (6, .long (zL (inv (arL LL (4 * p + p))))), (8, .int (zI (r + 1)))]) [2, 3, 4, 5, 6, 7, 8, 0] rfl ?_
                exact ih94_8 (r + 1) q2 (by omega) (by intro j a b; first | (rw [vc j a b, show i2 = 4 by omega]; split; rfl; (by_cases e : j < 4 * r + 4; (rw [if_pos e, if_pos (by omega)]); (rw [if_neg e, if_neg (by omega)]))) | exact clr_skip4 a b hp (vb j a b) (by omega) (by first | exact Or.inl (by omega) | exact Or.inr (by rw [← hvz]; omega))) (by first | exact vr3 | exact vr2) (by omega)
              · skip
                refine z_lload hC 0 dX9_clears_121 rfl ?_
                refine z_lconst (v := 0) hC dX9_clears_123 rfl ?_
                refine z_lcne hC 131 dX9_clears_124 dX9_clears_125 (by decide) (by omega) (fun c_12 => ?_) (fun c_12 => ?_)
                · skip
                  have hv : q2 (4 * r + p) = arL LL (4 * r + p) := by rw [vb _ (by omega) (by omega), if_neg (by omega), if_neg (by omega)]
                  refine z_iconst hC dX9_clears_131 ?_
                  refine z_istore hC [(11, .int (zI (0))), (9, .long (zL (q2 ((4 * r) + p)))), (0, .ref m), (1, .int (zI (p))), (2, .int (zI (p))), (3, .int (zI (p))), (4, .int (zI (4))), (5, .int (zI (6))), (6, .long (zL (inv (arL LL (4 * p + p))))), (8, .int (zI (r)))] dX9_clears_132 (by decide) rfl ?_
                  refine z_lv (lv' := [(0, .ref m), (1, .int (zI (p))), (2, .int (zI (p))), (3, .int (zI (p))), (4, .int (zI (4))), (5, .int (zI (6))), (6, .long (zL (inv (arL LL (4 * p + p))))), (8, .int (zI (r))), (9, .long (zL (q2 ((4 * r) + p)))), (11, .int (zI (0)))]) [2, 3, 4, 5, 6, 7, 8, 9, 1, 0] rfl ?_
                  have lp134_13 : ∀ (f15 : Nat) (i2 : Int) (q3 : Int → Int), (0 ≤ i2 ∧ i2 ≤ 4) → (∀ j, 0 ≤ j → j < 24 → q3 j = if 4 * p ≤ j ∧ j < 4 * p + 4 then arL LL j * inv (arL LL (4 * p + p)) % 998244353 else if j < 4 * r + i2 then clF 4 p (arL LL) j else arL LL j) → (∀ j, 0 ≤ j → j < 24 → 0 ≤ q3 j ∧ q3 j < 998244353) → (4 - i2).toNat < f15 → ZW C 0 0 [wO m 9 [.int (zI (m_status)), .int (zI (m_thrown)), .ref m_sheetSort, .ref m_sheetMany, .ref m_numbers, .int (zI (m_steps)), .int (zI (m_kind)), .int (zI (m_top)), .int (zI (m_round)), .int (zI (m_ax)), .int (zI (m_ay)), .int (zI (m_bx)), .int (zI (m_by)), .ref m_dx, .ref m_dy, .ref m_weight, .ref m_isBarred, .ref m_walks, .ref m_one, .ref m_two, .ref m_light, .ref m_lightThen, .int (zI (m_family)), .ref m_fromX, .ref m_fromY, .ref m_toX, .ref m_toY, .int (zI (m_ruleMany)), .ref m_rule, .ref m_out, .int (zI (m_outs)), .ref m_grid, .ref m_heap, .ref m_ends, .ref m_power, .ref m_by2, .ref m_product, .ref m_levels, .ref m_row, .ref m_then, .ref m_equations], wJ m_equations (zK C).2.2.1 2048 q3] [(0, .ref m), (1, .int (zI (p))), (2, .int (zI (p))), (3, .int (zI (p))), (4, .int (zI (4))), (5, .int (zI (6))), (6, .long (zL (inv (arL LL (4 * p + p))))), (8, .int (zI (r))), (9, .long (zL (q2 ((4 * r) + p)))), (11, .int (zI (i2)))] 134 [] := by
                    intro f15
                    induction f15 with
                    | zero => intro _ _ _ _ _ hf; exact absurd hf (Nat.not_lt_zero _)
                    | succ f15 ih134_14 =>
                      intro i2 q3 vi2 vc vr3 hf_134
                      refine z_iload hC 9 dX9_clears_134 rfl ?_
                      refine z_iload hC 4 dX9_clears_136 rfl ?_
                      refine z_icge hC 197 dX9_clears_138 (by decide) (by omega) (fun c_16 => ?_) (fun c_16 => ?_)
                      · skip
                        refine z_iinc (a := r) (v := 1) (r := r + 1) hC 7 [(8, .int (zI (r + 1))), (0, .ref m), (1, .int (zI (p))), (2, .int (zI (p))), (3, .int (zI (p))), (4, .int (zI (4))), (5, .int (zI (6))), (6, .long (zL (inv (arL LL (4 * p + p))))), (9, .long (zL (q2 ((4 * r) + p)))), (11, .int (zI (i2)))] dX9_clears_197 rfl rfl (by decide) rfl ?_
                        refine z_goto hC 94 dX9_clears_200 (by decide) ?_
                        refine z_lv (lv' := [(0, .ref m), (1, .int (zI (p))), (2, .int (zI (p))), (3, .int (zI (p))), (4, .int (zI (4))), (5, .int (zI (6))), (6, .long (zL (inv (arL LL (4 * p + p))))), (8, .int (zI (r + 1)))]) [1, 2, 3, 4, 5, 6, 7, 0] rfl ?_
                        exact ih94_8 (r + 1) q3 (by omega) (by intro j a b; first | (rw [vc j a b, show i2 = 4 by omega]; split; rfl; (by_cases e : j < 4 * r + 4; (rw [if_pos e, if_pos (by omega)]); (rw [if_neg e, if_neg (by omega)]))) | exact clr_skip4 a b hp (vb j a b) (by omega) (by first | exact Or.inl (by omega) | exact Or.inr (by rw [← hvz]; omega))) (by first | exact vr3 | exact vr2) (by omega)
                      · skip
                        have hm2 := mod_r (arL LL (4 * p + i2) * inv (arL LL (4 * p + p)))
                        have hm3 := mul_r2 (x := 998244353 - q2 (4 * r + p)) (by omega) hm2
                        have hm4 := hlr (4 * r + i2)
                        refine z_aload_n hC 0 dX9_clears_141 rfl rfl ?_
                        refine z_get hC (T := TX9) (N := 41) hinX9 0 40 dX9_clears_142 rfl rfl (by decide) (List.mem_of_getElem? (i := 1) rfl) rfl rfl ?_
                        refine z_iload hC 4 dX9_clears_145 rfl ?_
                        refine z_iload hC 7 dX9_clears_147 rfl ?_
                        refine z_imul hC (4 * r) dX9_clears_149 rfl ?_
                        refine z_iload hC 9 dX9_clears_150 rfl ?_
                        refine z_iadd hC ((4 * r) + i2) dX9_clears_152 rfl ?_
                        refine z_aload_n hC 0 dX9_clears_153 rfl rfl ?_
                        refine z_get hC (T := TX9) (N := 41) hinX9 0 40 dX9_clears_154 rfl rfl (by decide) (List.mem_of_getElem? (i := 1) rfl) rfl rfl ?_
                        refine z_iload hC 4 dX9_clears_157 rfl ?_
                        refine z_iload hC 7 dX9_clears_159 rfl ?_
                        refine z_imul hC (4 * r) dX9_clears_161 rfl ?_
                        refine z_iload hC 9 dX9_clears_162 rfl ?_
                        refine z_iadd hC ((4 * r) + i2) dX9_clears_164 rfl ?_
                        refine z_lald hC 1 dX9_clears_165 rfl (by omega) ?_
                        refine z_topl (b := arL LL (4 * r + i2)) (by rw [vc _ (by omega) (by omega), if_neg (by omega), if_neg (by omega)]) ?_
                        refine z_ldc2 (v := 998244353) hC (List.mem_of_getElem? (i := 2) rfl) rfl dX9_clears_166 ?_
                        refine z_lload hC 8 dX9_clears_169 rfl ?_
                        refine z_lsub hC (998244353 - (q2 ((4 * r) + p))) dX9_clears_171 rfl ?_
                        refine z_aload_n hC 0 dX9_clears_172 rfl rfl ?_
                        refine z_get hC (T := TX9) (N := 41) hinX9 0 40 dX9_clears_173 rfl rfl (by decide) (List.mem_of_getElem? (i := 1) rfl) rfl rfl ?_
                        refine z_iload hC 4 dX9_clears_176 rfl ?_
                        refine z_iload_n hC 1 dX9_clears_178 rfl rfl ?_
                        refine z_imul hC (4 * p) dX9_clears_179 rfl ?_
                        refine z_iload hC 9 dX9_clears_180 rfl ?_
                        refine z_iadd hC ((4 * p) + i2) dX9_clears_182 rfl ?_
                        refine z_lald hC 1 dX9_clears_183 rfl (by omega) ?_
                        refine z_topl (b := arL LL (4 * p + i2) * inv (arL LL (4 * p + p)) % 998244353) (by rw [vc _ (by omega) (by omega), if_pos (by omega)]) ?_
                        refine z_lmul hC ((998244353 - (q2 ((4 * r) + p))) * (arL LL (4 * p + i2) * inv (arL LL (4 * p + p)) % 998244353)) dX9_clears_184 rfl ?_
                        refine z_ladd hC ((arL LL (4 * r + i2)) + ((998244353 - (q2 ((4 * r) + p))) * (arL LL (4 * p + i2) * inv (arL LL (4 * p + p)) % 998244353))) dX9_clears_185 rfl ?_
                        refine z_ldc2 (v := 998244353) hC (List.mem_of_getElem? (i := 2) rfl) rfl dX9_clears_186 ?_
                        refine z_lrem hC (((arL LL (4 * r + i2)) + ((998244353 - (q2 ((4 * r) + p))) * (arL LL (4 * p + i2) * inv (arL LL (4 * p + p)) % 998244353))) % 998244353) dX9_clears_189 (by omega) rfl ?_
                        refine z_last hC 1 [wO m 9 [.int (zI (m_status)), .int (zI (m_thrown)), .ref m_sheetSort, .ref m_sheetMany, .ref m_numbers, .int (zI (m_steps)), .int (zI (m_kind)), .int (zI (m_top)), .int (zI (m_round)), .int (zI (m_ax)), .int (zI (m_ay)), .int (zI (m_bx)), .int (zI (m_by)), .ref m_dx, .ref m_dy, .ref m_weight, .ref m_isBarred, .ref m_walks, .ref m_one, .ref m_two, .ref m_light, .ref m_lightThen, .int (zI (m_family)), .ref m_fromX, .ref m_fromY, .ref m_toX, .ref m_toY, .int (zI (m_ruleMany)), .ref m_rule, .ref m_out, .int (zI (m_outs)), .ref m_grid, .ref m_heap, .ref m_ends, .ref m_power, .ref m_by2, .ref m_product, .ref m_levels, .ref m_row, .ref m_then, .ref m_equations], wJ m_equations (zK C).2.2.1 2048 (zu q3 ((4 * r) + i2) (((arL LL (4 * r + i2)) + ((998244353 - (q2 ((4 * r) + p))) * (arL LL (4 * p + i2) * inv (arL LL (4 * p + p)) % 998244353))) % 998244353))] dX9_clears_190 rfl (by omega) rfl ?_
                        refine z_iinc (a := i2) (v := 1) (r := i2 + 1) hC 9 [(11, .int (zI (i2 + 1))), (0, .ref m), (1, .int (zI (p))), (2, .int (zI (p))), (3, .int (zI (p))), (4, .int (zI (4))), (5, .int (zI (6))), (6, .long (zL (inv (arL LL (4 * p + p))))), (8, .int (zI (r))), (9, .long (zL (q2 ((4 * r) + p))))] dX9_clears_191 rfl rfl (by decide) rfl ?_
                        refine z_goto hC 134 dX9_clears_194 (by decide) ?_
                        refine z_lv (lv' := [(0, .ref m), (1, .int (zI (p))), (2, .int (zI (p))), (3, .int (zI (p))), (4, .int (zI (4))), (5, .int (zI (6))), (6, .long (zL (inv (arL LL (4 * p + p))))), (8, .int (zI (r))), (9, .long (zL (q2 ((4 * r) + p)))), (11, .int (zI (i2 + 1)))]) [1, 2, 3, 4, 5, 6, 7, 8, 9, 0] rfl ?_
                        exact ih134_14 (i2 + 1) (zu q3 ((4 * r) + i2) (((arL LL (4 * r + i2)) + ((998244353 - (q2 ((4 * r) + p))) * (arL LL (4 * p + i2) * inv (arL LL (4 * p + p)) % 998244353))) % 998244353)) (by omega) (by intro j a b; rw [← Int.add_assoc]; unfold zu; by_cases e : j = 4 * r + i2; (rw [if_pos e, if_neg (by omega), if_pos (by omega), e]; exact clr_new4 (by omega) (by omega) (by omega) hv (by omega)); (rw [if_neg e, vc j a b]; split; rfl; (by_cases e2 : j < 4 * r + i2; (rw [if_pos e2, if_pos (by omega)]); (rw [if_neg e2, if_neg (by omega)])))) (by intro j a b; unfold zu; split; exact mod_r _; exact vr3 j a b) (by omega)
                  exact lp134_13 _ 0 q2 (by omega) (by intro j a b; rw [show 4 * r + 0 = 4 * r by omega]; exact vb j a b) (by exact vr2) (Nat.lt_succ_self _)
                · skip
                  have hvz : q2 (4 * r + p) = arL LL (4 * r + p) := by rw [vb _ (by omega) (by omega), if_neg (by omega), if_neg (by omega)]
                  refine z_goto hC 197 dX9_clears_128 (by decide) ?_
                  refine z_iinc (a := r) (v := 1) (r := r + 1) hC 8 [(8, .int (zI (r + 1))), (9, .long (zL (q2 ((4 * r) + p)))), (0, .ref m), (1, .int (zI (p))), (2, .int (zI (p))), (3, .int (zI (p))), (4, .int (zI (4))), (5, .int (zI (6))), (6, .long (zL (inv (arL LL (4 * p + p)))))] dX9_clears_197 rfl rfl (by decide) rfl ?_
                  refine z_goto hC 94 dX9_clears_200 (by decide) ?_
                  refine z_lv (lv' := [(0, .ref m), (1, .int (zI (p))), (2, .int (zI (p))), (3, .int (zI (p))), (4, .int (zI (4))), (5, .int (zI (6))), (6, .long (zL (inv (arL LL (4 * p + p))))), (8, .int (zI (r + 1)))]) [2, 3, 4, 5, 6, 7, 8, 0] rfl ?_
                  exact ih94_8 (r + 1) q2 (by omega) (by intro j a b; first | (rw [vc j a b, show i2 = 4 by omega]; split; rfl; (by_cases e : j < 4 * r + 4; (rw [if_pos e, if_pos (by omega)]); (rw [if_neg e, if_neg (by omega)]))) | exact clr_skip4 a b hp (vb j a b) (by omega) (by first | exact Or.inl (by omega) | exact Or.inr (by rw [← hvz]; omega))) (by first | exact vr3 | exact vr2) (by omega)
        exact lp94_7 _ 0 q (by omega) (by intro j a b; rw [vq j a b, show i = 4 by omega]; split; rfl; (rw [if_neg (by omega)])) (by intro j a b; rw [vq j a b]; split; exact mod_r _; exact hlr j) (Nat.lt_succ_self _)
      · skip
        have hm1 := mul_r (hlr (4 * p + i)) hiv
        refine z_aload_n hC 0 dX9_clears_26 rfl rfl ?_
        refine z_get hC (T := TX9) (N := 41) hinX9 0 40 dX9_clears_27 rfl rfl (by decide) (List.mem_of_getElem? (i := 1) rfl) rfl rfl ?_
        refine z_iload hC 4 dX9_clears_30 rfl ?_
        refine z_iload_n hC 2 dX9_clears_32 rfl rfl ?_
        refine z_imul hC (4 * p) dX9_clears_33 rfl ?_
        refine z_iload hC 7 dX9_clears_34 rfl ?_
        refine z_iadd hC ((4 * p) + i) dX9_clears_36 rfl ?_
        refine z_lald hC 1 dX9_clears_37 rfl (by omega) ?_
        refine z_topl (b := arL LL (4 * p + i)) (by rw [vq _ (by omega) (by omega), if_neg (by omega)]) ?_
        refine z_lload hC 6 dX9_clears_38 rfl ?_
        refine z_lmul hC ((arL LL (4 * p + i)) * (inv (arL LL (4 * p + p)))) dX9_clears_40 rfl ?_
        refine z_ldc2 (v := 998244353) hC (List.mem_of_getElem? (i := 2) rfl) rfl dX9_clears_41 ?_
        refine z_lrem hC (((arL LL (4 * p + i)) * (inv (arL LL (4 * p + p)))) % 998244353) dX9_clears_44 (by omega) rfl ?_
        refine z_lstore hC [(9, .long (zL (((arL LL (4 * p + i)) * (inv (arL LL (4 * p + p)))) % 998244353))), (0, .ref m), (1, .int (zI (p))), (2, .int (zI (p))), (3, .int (zI (p))), (4, .int (zI (4))), (5, .int (zI (6))), (6, .long (zL (inv (arL LL (4 * p + p))))), (8, .int (zI (i)))] dX9_clears_45 (by decide) rfl ?_
        refine z_aload_n hC 1 dX9_clears_47 rfl rfl ?_
        refine z_get hC (T := TX9) (N := 41) hinX9 0 40 dX9_clears_48 rfl rfl (by decide) (List.mem_of_getElem? (i := 1) rfl) rfl rfl ?_
        refine z_iload hC 5 dX9_clears_51 rfl ?_
        refine z_iload_n hC 3 dX9_clears_53 rfl rfl ?_
        refine z_imul hC (4 * p) dX9_clears_54 rfl ?_
        refine z_iload hC 8 dX9_clears_55 rfl ?_
        refine z_iadd hC ((4 * p) + i) dX9_clears_57 rfl ?_
        refine z_aload_n hC 1 dX9_clears_58 rfl rfl ?_
        refine z_get hC (T := TX9) (N := 41) hinX9 0 40 dX9_clears_59 rfl rfl (by decide) (List.mem_of_getElem? (i := 1) rfl) rfl rfl ?_
        refine z_iload hC 5 dX9_clears_62 rfl ?_
        refine z_iload_n hC 2 dX9_clears_64 rfl rfl ?_
        refine z_imul hC (4 * p) dX9_clears_65 rfl ?_
        refine z_iload hC 8 dX9_clears_66 rfl ?_
        refine z_iadd hC ((4 * p) + i) dX9_clears_68 rfl ?_
        refine z_lald hC 1 dX9_clears_69 rfl (by omega) ?_
        refine z_last hC 1 [wO m 9 [.int (zI (m_status)), .int (zI (m_thrown)), .ref m_sheetSort, .ref m_sheetMany, .ref m_numbers, .int (zI (m_steps)), .int (zI (m_kind)), .int (zI (m_top)), .int (zI (m_round)), .int (zI (m_ax)), .int (zI (m_ay)), .int (zI (m_bx)), .int (zI (m_by)), .ref m_dx, .ref m_dy, .ref m_weight, .ref m_isBarred, .ref m_walks, .ref m_one, .ref m_two, .ref m_light, .ref m_lightThen, .int (zI (m_family)), .ref m_fromX, .ref m_fromY, .ref m_toX, .ref m_toY, .int (zI (m_ruleMany)), .ref m_rule, .ref m_out, .int (zI (m_outs)), .ref m_grid, .ref m_heap, .ref m_ends, .ref m_power, .ref m_by2, .ref m_product, .ref m_levels, .ref m_row, .ref m_then, .ref m_equations], wJ m_equations (zK C).2.2.1 2048 (zu q ((4 * p) + i) (q ((4 * p) + i)))] dX9_clears_70 rfl (by omega) rfl ?_
        refine z_aload_n hC 1 dX9_clears_71 rfl rfl ?_
        refine z_get hC (T := TX9) (N := 41) hinX9 0 40 dX9_clears_72 rfl rfl (by decide) (List.mem_of_getElem? (i := 1) rfl) rfl rfl ?_
        refine z_iload hC 5 dX9_clears_75 rfl ?_
        refine z_iload_n hC 2 dX9_clears_77 rfl rfl ?_
        refine z_imul hC (4 * p) dX9_clears_78 rfl ?_
        refine z_iload hC 8 dX9_clears_79 rfl ?_
        refine z_iadd hC ((4 * p) + i) dX9_clears_81 rfl ?_
        refine z_lload hC 0 dX9_clears_82 rfl ?_
        refine z_last hC 1 [wO m 9 [.int (zI (m_status)), .int (zI (m_thrown)), .ref m_sheetSort, .ref m_sheetMany, .ref m_numbers, .int (zI (m_steps)), .int (zI (m_kind)), .int (zI (m_top)), .int (zI (m_round)), .int (zI (m_ax)), .int (zI (m_ay)), .int (zI (m_bx)), .int (zI (m_by)), .ref m_dx, .ref m_dy, .ref m_weight, .ref m_isBarred, .ref m_walks, .ref m_one, .ref m_two, .ref m_light, .ref m_lightThen, .int (zI (m_family)), .ref m_fromX, .ref m_fromY, .ref m_toX, .ref m_toY, .int (zI (m_ruleMany)), .ref m_rule, .ref m_out, .int (zI (m_outs)), .ref m_grid, .ref m_heap, .ref m_ends, .ref m_power, .ref m_by2, .ref m_product, .ref m_levels, .ref m_row, .ref m_then, .ref m_equations], wJ m_equations (zK C).2.2.1 2048 (zu (zu q ((4 * p) + i) (q ((4 * p) + i))) ((4 * p) + i) (((arL LL (4 * p + i)) * (inv (arL LL (4 * p + p)))) % 998244353))] dX9_clears_84 rfl (by omega) rfl ?_
        refine z_iinc (a := i) (v := 1) (r := i + 1) hC 8 [(8, .int (zI (i + 1))), (9, .long (zL (((arL LL (4 * p + i)) * (inv (arL LL (4 * p + p)))) % 998244353))), (0, .ref m), (1, .int (zI (p))), (2, .int (zI (p))), (3, .int (zI (p))), (4, .int (zI (4))), (5, .int (zI (6))), (6, .long (zL (inv (arL LL (4 * p + p)))))] dX9_clears_85 rfl rfl (by decide) rfl ?_
        refine z_goto hC 19 dX9_clears_88 (by decide) ?_
        refine z_lv (lv' := [(0, .ref m), (1, .int (zI (p))), (2, .int (zI (p))), (3, .int (zI (p))), (4, .int (zI (4))), (5, .int (zI (6))), (6, .long (zL (inv (arL LL (4 * p + p))))), (8, .int (zI (i + 1)))]) [2, 3, 4, 5, 6, 7, 8, 0] rfl ?_
        exact ih19_4 (i + 1) (zu (zu q ((4 * p) + i) (q ((4 * p) + i))) ((4 * p) + i) (((arL LL (4 * p + i)) * (inv (arL LL (4 * p + p)))) % 998244353)) (by omega) (by intro j a b; unfold zu; by_cases e : j = 4 * p + i; (rw [if_pos e, if_pos (by omega), e]); (rw [if_neg e, if_neg e, vq j a b]; by_cases e2 : 4 * p ≤ j ∧ j < 4 * p + i; (rw [if_pos e2, if_pos (by omega)]); (rw [if_neg e2, if_neg (by omega)]))) (by omega)
  exact lp19_3 _ 0 g (by omega) (by intro j a b; rw [if_neg (by omega)]; exact hl j a b) (Nat.lt_succ_self _)

set_option maxHeartbeats 8000000 in
set_option maxRecDepth 100000 in
theorem c_X9_clearsw5 (l : Launch) (D : va_G) (K : ClassId × ClassId × ClassId × ClassId) (m m_sheetSort m_sheetMany m_numbers m_dx m_dy m_weight m_isBarred m_walks m_one m_two m_light m_lightThen m_fromX m_fromY m_toX m_toY m_rule m_out m_grid m_heap m_ends m_power m_by2 m_product m_levels m_row m_then m_equations : Nat) (p m_status m_thrown m_steps m_kind m_top m_round m_ax m_ay m_bx m_by m_family m_ruleMany m_outs : Int) (g : Int → Int) (LL : List Int) (hp : 0 ≤ p ∧ p < 4 ∧ p < 6) (hl : ∀ j, 0 ≤ j → j < 30 → g j = arL LL j) (hlr : ∀ j, 0 ≤ arL LL j ∧ arL LL j < 998244353) : zMet l D K yX9_clears wsX9_clears ({ frames := 1, cells := 0, slots := 0, locals := 26 }) 0 0 [.ref m, .int (zI (p)), .int (zI (p)), .int (zI (p)), .int (zI (5)), .int (zI (6))] [wO m 9 [.int (zI (m_status)), .int (zI (m_thrown)), .ref m_sheetSort, .ref m_sheetMany, .ref m_numbers, .int (zI (m_steps)), .int (zI (m_kind)), .int (zI (m_top)), .int (zI (m_round)), .int (zI (m_ax)), .int (zI (m_ay)), .int (zI (m_bx)), .int (zI (m_by)), .ref m_dx, .ref m_dy, .ref m_weight, .ref m_isBarred, .ref m_walks, .ref m_one, .ref m_two, .ref m_light, .ref m_lightThen, .int (zI (m_family)), .ref m_fromX, .ref m_fromY, .ref m_toX, .ref m_toY, .int (zI (m_ruleMany)), .ref m_rule, .ref m_out, .int (zI (m_outs)), .ref m_grid, .ref m_heap, .ref m_ends, .ref m_power, .ref m_by2, .ref m_product, .ref m_levels, .ref m_row, .ref m_then, .ref m_equations], wJ m_equations K.2.2.1 2048 g] (fun vr_ wr_ => ∃ (g2 : Int → Int), vr_ = none ∧ wr_ = [wO m 9 [.int (zI (m_status)), .int (zI (m_thrown)), .ref m_sheetSort, .ref m_sheetMany, .ref m_numbers, .int (zI (m_steps)), .int (zI (m_kind)), .int (zI (m_top)), .int (zI (m_round)), .int (zI (m_ax)), .int (zI (m_ay)), .int (zI (m_bx)), .int (zI (m_by)), .ref m_dx, .ref m_dy, .ref m_weight, .ref m_isBarred, .ref m_walks, .ref m_one, .ref m_two, .ref m_light, .ref m_lightThen, .int (zI (m_family)), .ref m_fromX, .ref m_fromY, .ref m_toX, .ref m_toY, .int (zI (m_ruleMany)), .ref m_rule, .ref m_out, .int (zI (m_outs)), .ref m_grid, .ref m_heap, .ref m_ends, .ref m_power, .ref m_by2, .ref m_product, .ref m_levels, .ref m_row, .ref m_then, .ref m_equations], wJ m_equations K.2.2.1 2048 g2] ∧ (∀ j, 0 ≤ j → j < 30 → g2 j = arL (clL 5 p LL) j)) := by
  refine zMet_of (cc := cX9_clears) (nL := 12) (ret := none) (by decide) rfl (Nat.le_of_ble_eq_true rfl) ?_
  rintro C rfl rfl rfl hC hR
  have hinX9 : ∀ w ∈ u_ws RX9 TX9 41, w ∈ wsX9_clears := by decide +kernel
  have hiv := inv_r (arL LL (5 * p + p))
  have hX := hlr (5 * p + p)
  show ZW C 0 0 [wO m 9 [.int (zI (m_status)), .int (zI (m_thrown)), .ref m_sheetSort, .ref m_sheetMany, .ref m_numbers, .int (zI (m_steps)), .int (zI (m_kind)), .int (zI (m_top)), .int (zI (m_round)), .int (zI (m_ax)), .int (zI (m_ay)), .int (zI (m_bx)), .int (zI (m_by)), .ref m_dx, .ref m_dy, .ref m_weight, .ref m_isBarred, .ref m_walks, .ref m_one, .ref m_two, .ref m_light, .ref m_lightThen, .int (zI (m_family)), .ref m_fromX, .ref m_fromY, .ref m_toX, .ref m_toY, .int (zI (m_ruleMany)), .ref m_rule, .ref m_out, .int (zI (m_outs)), .ref m_grid, .ref m_heap, .ref m_ends, .ref m_power, .ref m_by2, .ref m_product, .ref m_levels, .ref m_row, .ref m_then, .ref m_equations], wJ m_equations (zK C).2.2.1 2048 g] [(0, .ref m), (1, .int (zI (p))), (2, .int (zI (p))), (3, .int (zI (p))), (4, .int (zI (5))), (5, .int (zI (6)))] 0 []
  refine z_aload_n hC 0 dX9_clears_0 rfl rfl ?_
  refine z_get hC (T := TX9) (N := 41) hinX9 0 40 dX9_clears_1 rfl rfl (by decide) (List.mem_of_getElem? (i := 1) rfl) rfl rfl ?_
  refine z_iload hC 4 dX9_clears_4 rfl ?_
  refine z_iload_n hC 2 dX9_clears_6 rfl rfl ?_
  refine z_imul hC (5 * p) dX9_clears_7 rfl ?_
  refine z_iload_n hC 3 dX9_clears_8 rfl rfl ?_
  refine z_iadd hC ((5 * p) + p) dX9_clears_9 rfl ?_
  refine z_lald hC 1 dX9_clears_10 rfl (by omega) ?_
  refine z_topl (b := arL LL (5 * p + p)) (by exact hl _ (by omega) (by omega)) ?_
  refine z_callS hC [.long (zL (arL LL (5 * p + p)))] 1 dX9_clears_11 (c_X9_inverse (zl C) (zD C) (zK C) (arL LL (5 * p + p)) (by first | assumption | omega)) gX9_clears_X9_inverse rfl rfl rfl ⟨by decide, by decide, by decide +kernel⟩ ⟨(Nat.le_of_ble_eq_true rfl), (Nat.le_of_ble_eq_true rfl)⟩ rfl [] [0, 1] [wO m 9 [.int (zI (m_status)), .int (zI (m_thrown)), .ref m_sheetSort, .ref m_sheetMany, .ref m_numbers, .int (zI (m_steps)), .int (zI (m_kind)), .int (zI (m_top)), .int (zI (m_round)), .int (zI (m_ax)), .int (zI (m_ay)), .int (zI (m_bx)), .int (zI (m_by)), .ref m_dx, .ref m_dy, .ref m_weight, .ref m_isBarred, .ref m_walks, .ref m_one, .ref m_two, .ref m_light, .ref m_lightThen, .int (zI (m_family)), .ref m_fromX, .ref m_fromY, .ref m_toX, .ref m_toY, .int (zI (m_ruleMany)), .ref m_rule, .ref m_out, .int (zI (m_outs)), .ref m_grid, .ref m_heap, .ref m_ends, .ref m_power, .ref m_by2, .ref m_product, .ref m_levels, .ref m_row, .ref m_then, .ref m_equations], wJ m_equations (zK C).2.2.1 2048 g] [] rfl rfl rfl rfl rfl (by decide) (Nat.le_of_ble_eq_true rfl) ⟨(Nat.le_of_ble_eq_true rfl), (Nat.le_of_ble_eq_true rfl)⟩ ?_
  rintro v_ w_ ⟨r_1, rfl, rfl, rfl⟩
  show ZW C 0 0 [wO m 9 [.int (zI (m_status)), .int (zI (m_thrown)), .ref m_sheetSort, .ref m_sheetMany, .ref m_numbers, .int (zI (m_steps)), .int (zI (m_kind)), .int (zI (m_top)), .int (zI (m_round)), .int (zI (m_ax)), .int (zI (m_ay)), .int (zI (m_bx)), .int (zI (m_by)), .ref m_dx, .ref m_dy, .ref m_weight, .ref m_isBarred, .ref m_walks, .ref m_one, .ref m_two, .ref m_light, .ref m_lightThen, .int (zI (m_family)), .ref m_fromX, .ref m_fromY, .ref m_toX, .ref m_toY, .int (zI (m_ruleMany)), .ref m_rule, .ref m_out, .int (zI (m_outs)), .ref m_grid, .ref m_heap, .ref m_ends, .ref m_power, .ref m_by2, .ref m_product, .ref m_levels, .ref m_row, .ref m_then, .ref m_equations], wJ m_equations (zK C).2.2.1 2048 g] [(0, .ref m), (1, .int (zI (p))), (2, .int (zI (p))), (3, .int (zI (p))), (4, .int (zI (5))), (5, .int (zI (6)))] 14 [.long (zL (inv (arL LL (5 * p + p))))]
  refine z_lstore hC [(6, .long (zL (inv (arL LL (5 * p + p))))), (0, .ref m), (1, .int (zI (p))), (2, .int (zI (p))), (3, .int (zI (p))), (4, .int (zI (5))), (5, .int (zI (6)))] dX9_clears_14 (by decide) rfl ?_
  refine z_iconst hC dX9_clears_16 ?_
  refine z_istore hC [(8, .int (zI (0))), (6, .long (zL (inv (arL LL (5 * p + p))))), (0, .ref m), (1, .int (zI (p))), (2, .int (zI (p))), (3, .int (zI (p))), (4, .int (zI (5))), (5, .int (zI (6)))] dX9_clears_17 (by decide) rfl ?_
  refine z_lv (lv' := [(0, .ref m), (1, .int (zI (p))), (2, .int (zI (p))), (3, .int (zI (p))), (4, .int (zI (5))), (5, .int (zI (6))), (6, .long (zL (inv (arL LL (5 * p + p))))), (8, .int (zI (0)))]) [2, 3, 4, 5, 6, 7, 1, 0] rfl ?_
  have lp19_3 : ∀ (f5 : Nat) (i : Int) (q : Int → Int), (0 ≤ i ∧ i ≤ 5) → (∀ j, 0 ≤ j → j < 30 → q j = if 5 * p ≤ j ∧ j < 5 * p + i then arL LL j * inv (arL LL (5 * p + p)) % 998244353 else arL LL j) → (5 - i).toNat < f5 → ZW C 0 0 [wO m 9 [.int (zI (m_status)), .int (zI (m_thrown)), .ref m_sheetSort, .ref m_sheetMany, .ref m_numbers, .int (zI (m_steps)), .int (zI (m_kind)), .int (zI (m_top)), .int (zI (m_round)), .int (zI (m_ax)), .int (zI (m_ay)), .int (zI (m_bx)), .int (zI (m_by)), .ref m_dx, .ref m_dy, .ref m_weight, .ref m_isBarred, .ref m_walks, .ref m_one, .ref m_two, .ref m_light, .ref m_lightThen, .int (zI (m_family)), .ref m_fromX, .ref m_fromY, .ref m_toX, .ref m_toY, .int (zI (m_ruleMany)), .ref m_rule, .ref m_out, .int (zI (m_outs)), .ref m_grid, .ref m_heap, .ref m_ends, .ref m_power, .ref m_by2, .ref m_product, .ref m_levels, .ref m_row, .ref m_then, .ref m_equations], wJ m_equations (zK C).2.2.1 2048 q] [(0, .ref m), (1, .int (zI (p))), (2, .int (zI (p))), (3, .int (zI (p))), (4, .int (zI (5))), (5, .int (zI (6))), (6, .long (zL (inv (arL LL (5 * p + p))))), (8, .int (zI (i)))] 19 [] := by
    intro f5
    induction f5 with
    | zero => intro _ _ _ _ hf; exact absurd hf (Nat.not_lt_zero _)
    | succ f5 ih19_4 =>
      intro i q vi vq hf_19
      refine z_iload hC 7 dX9_clears_19 rfl ?_
      refine z_iload hC 4 dX9_clears_21 rfl ?_
      refine z_icge hC 91 dX9_clears_23 (by decide) (by omega) (fun c_6 => ?_) (fun c_6 => ?_)
      · skip
        refine z_iconst hC dX9_clears_91 ?_
        refine z_istore hC [(8, .int (zI (0))), (0, .ref m), (1, .int (zI (p))), (2, .int (zI (p))), (3, .int (zI (p))), (4, .int (zI (5))), (5, .int (zI (6))), (6, .long (zL (inv (arL LL (5 * p + p)))))] dX9_clears_92 (by decide) rfl ?_
        refine z_lv (lv' := [(0, .ref m), (1, .int (zI (p))), (2, .int (zI (p))), (3, .int (zI (p))), (4, .int (zI (5))), (5, .int (zI (6))), (6, .long (zL (inv (arL LL (5 * p + p))))), (8, .int (zI (0)))]) [1, 2, 3, 4, 5, 6, 7, 0] rfl ?_
        have lp94_7 : ∀ (f9 : Nat) (r : Int) (q2 : Int → Int), (0 ≤ r ∧ r ≤ 6) → (∀ j, 0 ≤ j → j < 30 → q2 j = if 5 * p ≤ j ∧ j < 5 * p + 5 then arL LL j * inv (arL LL (5 * p + p)) % 998244353 else if j < 5 * r then clF 5 p (arL LL) j else arL LL j) → (∀ j, 0 ≤ j → j < 30 → 0 ≤ q2 j ∧ q2 j < 998244353) → (6 - r).toNat < f9 → ZW C 0 0 [wO m 9 [.int (zI (m_status)), .int (zI (m_thrown)), .ref m_sheetSort, .ref m_sheetMany, .ref m_numbers, .int (zI (m_steps)), .int (zI (m_kind)), .int (zI (m_top)), .int (zI (m_round)), .int (zI (m_ax)), .int (zI (m_ay)), .int (zI (m_bx)), .int (zI (m_by)), .ref m_dx, .ref m_dy, .ref m_weight, .ref m_isBarred, .ref m_walks, .ref m_one, .ref m_two, .ref m_light, .ref m_lightThen, .int (zI (m_family)), .ref m_fromX, .ref m_fromY, .ref m_toX, .ref m_toY, .int (zI (m_ruleMany)), .ref m_rule, .ref m_out, .int (zI (m_outs)), .ref m_grid, .ref m_heap, .ref m_ends, .ref m_power, .ref m_by2, .ref m_product, .ref m_levels, .ref m_row, .ref m_then, .ref m_equations], wJ m_equations (zK C).2.2.1 2048 q2] [(0, .ref m), (1, .int (zI (p))), (2, .int (zI (p))), (3, .int (zI (p))), (4, .int (zI (5))), (5, .int (zI (6))), (6, .long (zL (inv (arL LL (5 * p + p))))), (8, .int (zI (r)))] 94 [] := by
          intro f9
          induction f9 with
          | zero => intro _ _ _ _ _ hf; exact absurd hf (Nat.not_lt_zero _)
          | succ f9 ih94_8 =>
            intro r q2 vr vb vr2 hf_94
            refine z_iload hC 7 dX9_clears_94 rfl ?_
            refine z_iload hC 5 dX9_clears_96 rfl ?_
            refine z_icge hC 203 dX9_clears_98 (by decide) (by omega) (fun c_10 => ?_) (fun c_10 => ?_)
            · skip
              exact z_vret hC hR dX9_clears_203 (Nat.le_of_ble_eq_true rfl) (Nat.le_of_ble_eq_true rfl) ⟨q2, rfl, rfl, by intro j a b; rw [vb j a b, clL_at a (by omega), show r = 6 by omega]; split; (rename_i h; unfold clF; rw [if_pos (by omega)]); (rw [if_pos (by omega)])⟩
            · skip
              have hvr := vr2 (5 * r + p) (by omega) (by omega)
              refine z_aload_n hC 0 dX9_clears_101 rfl rfl ?_
              refine z_get hC (T := TX9) (N := 41) hinX9 0 40 dX9_clears_102 rfl rfl (by decide) (List.mem_of_getElem? (i := 1) rfl) rfl rfl ?_
              refine z_iload hC 4 dX9_clears_105 rfl ?_
              refine z_iload hC 7 dX9_clears_107 rfl ?_
              refine z_imul hC (5 * r) dX9_clears_109 rfl ?_
              refine z_iload_n hC 3 dX9_clears_110 rfl rfl ?_
              refine z_iadd hC ((5 * r) + p) dX9_clears_111 rfl ?_
              refine z_lald hC 1 dX9_clears_112 rfl (by omega) ?_
              refine z_lstore hC [(9, .long (zL (q2 ((5 * r) + p)))), (0, .ref m), (1, .int (zI (p))), (2, .int (zI (p))), (3, .int (zI (p))), (4, .int (zI (5))), (5, .int (zI (6))), (6, .long (zL (inv (arL LL (5 * p + p))))), (8, .int (zI (r)))] dX9_clears_113 (by decide) rfl ?_
              refine z_iload hC 8 dX9_clears_115 rfl ?_
              refine z_iload_n hC 2 dX9_clears_117 rfl rfl ?_
              refine z_iceq hC 197 dX9_clears_118 (by decide) (by omega) (fun c_11 => ?_) (fun c_11 => ?_)
              · skip
                refine z_iinc (a := r) (v := 1) (r := r + 1) hC 8 [(8, .int (zI (r + 1))), (9, .long (zL (q2 ((5 * r) + p)))), (0, .ref m), (1, .int (zI (p))), (2, .int (zI (p))), (3, .int (zI (p))), (4, .int (zI (5))), (5, .int (zI (6))), (6, .long (zL (inv (arL LL (5 * p + p)))))] dX9_clears_197 rfl rfl (by decide) rfl ?_
                refine z_goto hC 94 dX9_clears_200 (by decide) ?_
                refine z_lv (lv' := [(0, .ref m), (1, .int (zI (p))), (2, .int (zI (p))), (3, .int (zI (p))), (4, .int (zI (5))), (5, .int (zI (6))), (6, .long (zL (inv (arL LL (5 * p + p))))), (8, .int (zI (r + 1)))]) [2, 3, 4, 5, 6, 7, 8, 0] rfl ?_
                exact ih94_8 (r + 1) q2 (by omega) (by intro j a b; first | (rw [vc j a b, show i2 = 5 by omega]; split; rfl; (by_cases e : j < 5 * r + 5; (rw [if_pos e, if_pos (by omega)]); (rw [if_neg e, if_neg (by omega)]))) | exact clr_skip5 a b hp (vb j a b) (by omega) (by first | exact Or.inl (by omega) | exact Or.inr (by rw [← hvz]; omega))) (by first | exact vr3 | exact vr2) (by omega)
              · skip
                refine z_lload hC 0 dX9_clears_121 rfl ?_
                refine z_lconst (v := 0) hC dX9_clears_123 rfl ?_
                refine z_lcne hC 131 dX9_clears_124 dX9_clears_125 (by decide) (by omega) (fun c_12 => ?_) (fun c_12 => ?_)
                · skip
                  have hv : q2 (5 * r + p) = arL LL (5 * r + p) := by rw [vb _ (by omega) (by omega), if_neg (by omega), if_neg (by omega)]
                  refine z_iconst hC dX9_clears_131 ?_
                  refine z_istore hC [(11, .int (zI (0))), (9, .long (zL (q2 ((5 * r) + p)))), (0, .ref m), (1, .int (zI (p))), (2, .int (zI (p))), (3, .int (zI (p))), (4, .int (zI (5))), (5, .int (zI (6))), (6, .long (zL (inv (arL LL (5 * p + p))))), (8, .int (zI (r)))] dX9_clears_132 (by decide) rfl ?_
                  refine z_lv (lv' := [(0, .ref m), (1, .int (zI (p))), (2, .int (zI (p))), (3, .int (zI (p))), (4, .int (zI (5))), (5, .int (zI (6))), (6, .long (zL (inv (arL LL (5 * p + p))))), (8, .int (zI (r))), (9, .long (zL (q2 ((5 * r) + p)))), (11, .int (zI (0)))]) [2, 3, 4, 5, 6, 7, 8, 9, 1, 0] rfl ?_
                  have lp134_13 : ∀ (f15 : Nat) (i2 : Int) (q3 : Int → Int), (0 ≤ i2 ∧ i2 ≤ 5) → (∀ j, 0 ≤ j → j < 30 → q3 j = if 5 * p ≤ j ∧ j < 5 * p + 5 then arL LL j * inv (arL LL (5 * p + p)) % 998244353 else if j < 5 * r + i2 then clF 5 p (arL LL) j else arL LL j) → (∀ j, 0 ≤ j → j < 30 → 0 ≤ q3 j ∧ q3 j < 998244353) → (5 - i2).toNat < f15 → ZW C 0 0 [wO m 9 [.int (zI (m_status)), .int (zI (m_thrown)), .ref m_sheetSort, .ref m_sheetMany, .ref m_numbers, .int (zI (m_steps)), .int (zI (m_kind)), .int (zI (m_top)), .int (zI (m_round)), .int (zI (m_ax)), .int (zI (m_ay)), .int (zI (m_bx)), .int (zI (m_by)), .ref m_dx, .ref m_dy, .ref m_weight, .ref m_isBarred, .ref m_walks, .ref m_one, .ref m_two, .ref m_light, .ref m_lightThen, .int (zI (m_family)), .ref m_fromX, .ref m_fromY, .ref m_toX, .ref m_toY, .int (zI (m_ruleMany)), .ref m_rule, .ref m_out, .int (zI (m_outs)), .ref m_grid, .ref m_heap, .ref m_ends, .ref m_power, .ref m_by2, .ref m_product, .ref m_levels, .ref m_row, .ref m_then, .ref m_equations], wJ m_equations (zK C).2.2.1 2048 q3] [(0, .ref m), (1, .int (zI (p))), (2, .int (zI (p))), (3, .int (zI (p))), (4, .int (zI (5))), (5, .int (zI (6))), (6, .long (zL (inv (arL LL (5 * p + p))))), (8, .int (zI (r))), (9, .long (zL (q2 ((5 * r) + p)))), (11, .int (zI (i2)))] 134 [] := by
                    intro f15
                    induction f15 with
                    | zero => intro _ _ _ _ _ hf; exact absurd hf (Nat.not_lt_zero _)
                    | succ f15 ih134_14 =>
                      intro i2 q3 vi2 vc vr3 hf_134
                      refine z_iload hC 9 dX9_clears_134 rfl ?_
                      refine z_iload hC 4 dX9_clears_136 rfl ?_
                      refine z_icge hC 197 dX9_clears_138 (by decide) (by omega) (fun c_16 => ?_) (fun c_16 => ?_)
                      · skip
                        refine z_iinc (a := r) (v := 1) (r := r + 1) hC 7 [(8, .int (zI (r + 1))), (0, .ref m), (1, .int (zI (p))), (2, .int (zI (p))), (3, .int (zI (p))), (4, .int (zI (5))), (5, .int (zI (6))), (6, .long (zL (inv (arL LL (5 * p + p))))), (9, .long (zL (q2 ((5 * r) + p)))), (11, .int (zI (i2)))] dX9_clears_197 rfl rfl (by decide) rfl ?_
                        refine z_goto hC 94 dX9_clears_200 (by decide) ?_
                        refine z_lv (lv' := [(0, .ref m), (1, .int (zI (p))), (2, .int (zI (p))), (3, .int (zI (p))), (4, .int (zI (5))), (5, .int (zI (6))), (6, .long (zL (inv (arL LL (5 * p + p))))), (8, .int (zI (r + 1)))]) [1, 2, 3, 4, 5, 6, 7, 0] rfl ?_
                        exact ih94_8 (r + 1) q3 (by omega) (by intro j a b; first | (rw [vc j a b, show i2 = 5 by omega]; split; rfl; (by_cases e : j < 5 * r + 5; (rw [if_pos e, if_pos (by omega)]); (rw [if_neg e, if_neg (by omega)]))) | exact clr_skip5 a b hp (vb j a b) (by omega) (by first | exact Or.inl (by omega) | exact Or.inr (by rw [← hvz]; omega))) (by first | exact vr3 | exact vr2) (by omega)
                      · skip
                        have hm2 := mod_r (arL LL (5 * p + i2) * inv (arL LL (5 * p + p)))
                        have hm3 := mul_r2 (x := 998244353 - q2 (5 * r + p)) (by omega) hm2
                        have hm4 := hlr (5 * r + i2)
                        refine z_aload_n hC 0 dX9_clears_141 rfl rfl ?_
                        refine z_get hC (T := TX9) (N := 41) hinX9 0 40 dX9_clears_142 rfl rfl (by decide) (List.mem_of_getElem? (i := 1) rfl) rfl rfl ?_
                        refine z_iload hC 4 dX9_clears_145 rfl ?_
                        refine z_iload hC 7 dX9_clears_147 rfl ?_
                        refine z_imul hC (5 * r) dX9_clears_149 rfl ?_
                        refine z_iload hC 9 dX9_clears_150 rfl ?_
                        refine z_iadd hC ((5 * r) + i2) dX9_clears_152 rfl ?_
                        refine z_aload_n hC 0 dX9_clears_153 rfl rfl ?_
                        refine z_get hC (T := TX9) (N := 41) hinX9 0 40 dX9_clears_154 rfl rfl (by decide) (List.mem_of_getElem? (i := 1) rfl) rfl rfl ?_
                        refine z_iload hC 4 dX9_clears_157 rfl ?_
                        refine z_iload hC 7 dX9_clears_159 rfl ?_
                        refine z_imul hC (5 * r) dX9_clears_161 rfl ?_
                        refine z_iload hC 9 dX9_clears_162 rfl ?_
                        refine z_iadd hC ((5 * r) + i2) dX9_clears_164 rfl ?_
                        refine z_lald hC 1 dX9_clears_165 rfl (by omega) ?_
                        refine z_topl (b := arL LL (5 * r + i2)) (by rw [vc _ (by omega) (by omega), if_neg (by omega), if_neg (by omega)]) ?_
                        refine z_ldc2 (v := 998244353) hC (List.mem_of_getElem? (i := 2) rfl) rfl dX9_clears_166 ?_
                        refine z_lload hC 8 dX9_clears_169 rfl ?_
                        refine z_lsub hC (998244353 - (q2 ((5 * r) + p))) dX9_clears_171 rfl ?_
                        refine z_aload_n hC 0 dX9_clears_172 rfl rfl ?_
                        refine z_get hC (T := TX9) (N := 41) hinX9 0 40 dX9_clears_173 rfl rfl (by decide) (List.mem_of_getElem? (i := 1) rfl) rfl rfl ?_
                        refine z_iload hC 4 dX9_clears_176 rfl ?_
                        refine z_iload_n hC 1 dX9_clears_178 rfl rfl ?_
                        refine z_imul hC (5 * p) dX9_clears_179 rfl ?_
                        refine z_iload hC 9 dX9_clears_180 rfl ?_
                        refine z_iadd hC ((5 * p) + i2) dX9_clears_182 rfl ?_
                        refine z_lald hC 1 dX9_clears_183 rfl (by omega) ?_
                        refine z_topl (b := arL LL (5 * p + i2) * inv (arL LL (5 * p + p)) % 998244353) (by rw [vc _ (by omega) (by omega), if_pos (by omega)]) ?_
                        refine z_lmul hC ((998244353 - (q2 ((5 * r) + p))) * (arL LL (5 * p + i2) * inv (arL LL (5 * p + p)) % 998244353)) dX9_clears_184 rfl ?_
                        refine z_ladd hC ((arL LL (5 * r + i2)) + ((998244353 - (q2 ((5 * r) + p))) * (arL LL (5 * p + i2) * inv (arL LL (5 * p + p)) % 998244353))) dX9_clears_185 rfl ?_
                        refine z_ldc2 (v := 998244353) hC (List.mem_of_getElem? (i := 2) rfl) rfl dX9_clears_186 ?_
                        refine z_lrem hC (((arL LL (5 * r + i2)) + ((998244353 - (q2 ((5 * r) + p))) * (arL LL (5 * p + i2) * inv (arL LL (5 * p + p)) % 998244353))) % 998244353) dX9_clears_189 (by omega) rfl ?_
                        refine z_last hC 1 [wO m 9 [.int (zI (m_status)), .int (zI (m_thrown)), .ref m_sheetSort, .ref m_sheetMany, .ref m_numbers, .int (zI (m_steps)), .int (zI (m_kind)), .int (zI (m_top)), .int (zI (m_round)), .int (zI (m_ax)), .int (zI (m_ay)), .int (zI (m_bx)), .int (zI (m_by)), .ref m_dx, .ref m_dy, .ref m_weight, .ref m_isBarred, .ref m_walks, .ref m_one, .ref m_two, .ref m_light, .ref m_lightThen, .int (zI (m_family)), .ref m_fromX, .ref m_fromY, .ref m_toX, .ref m_toY, .int (zI (m_ruleMany)), .ref m_rule, .ref m_out, .int (zI (m_outs)), .ref m_grid, .ref m_heap, .ref m_ends, .ref m_power, .ref m_by2, .ref m_product, .ref m_levels, .ref m_row, .ref m_then, .ref m_equations], wJ m_equations (zK C).2.2.1 2048 (zu q3 ((5 * r) + i2) (((arL LL (5 * r + i2)) + ((998244353 - (q2 ((5 * r) + p))) * (arL LL (5 * p + i2) * inv (arL LL (5 * p + p)) % 998244353))) % 998244353))] dX9_clears_190 rfl (by omega) rfl ?_
                        refine z_iinc (a := i2) (v := 1) (r := i2 + 1) hC 9 [(11, .int (zI (i2 + 1))), (0, .ref m), (1, .int (zI (p))), (2, .int (zI (p))), (3, .int (zI (p))), (4, .int (zI (5))), (5, .int (zI (6))), (6, .long (zL (inv (arL LL (5 * p + p))))), (8, .int (zI (r))), (9, .long (zL (q2 ((5 * r) + p))))] dX9_clears_191 rfl rfl (by decide) rfl ?_
                        refine z_goto hC 134 dX9_clears_194 (by decide) ?_
                        refine z_lv (lv' := [(0, .ref m), (1, .int (zI (p))), (2, .int (zI (p))), (3, .int (zI (p))), (4, .int (zI (5))), (5, .int (zI (6))), (6, .long (zL (inv (arL LL (5 * p + p))))), (8, .int (zI (r))), (9, .long (zL (q2 ((5 * r) + p)))), (11, .int (zI (i2 + 1)))]) [1, 2, 3, 4, 5, 6, 7, 8, 9, 0] rfl ?_
                        exact ih134_14 (i2 + 1) (zu q3 ((5 * r) + i2) (((arL LL (5 * r + i2)) + ((998244353 - (q2 ((5 * r) + p))) * (arL LL (5 * p + i2) * inv (arL LL (5 * p + p)) % 998244353))) % 998244353)) (by omega) (by intro j a b; rw [← Int.add_assoc]; unfold zu; by_cases e : j = 5 * r + i2; (rw [if_pos e, if_neg (by omega), if_pos (by omega), e]; exact clr_new5 (by omega) (by omega) (by omega) hv (by omega)); (rw [if_neg e, vc j a b]; split; rfl; (by_cases e2 : j < 5 * r + i2; (rw [if_pos e2, if_pos (by omega)]); (rw [if_neg e2, if_neg (by omega)])))) (by intro j a b; unfold zu; split; exact mod_r _; exact vr3 j a b) (by omega)
                  exact lp134_13 _ 0 q2 (by omega) (by intro j a b; rw [show 5 * r + 0 = 5 * r by omega]; exact vb j a b) (by exact vr2) (Nat.lt_succ_self _)
                · skip
                  have hvz : q2 (5 * r + p) = arL LL (5 * r + p) := by rw [vb _ (by omega) (by omega), if_neg (by omega), if_neg (by omega)]
                  refine z_goto hC 197 dX9_clears_128 (by decide) ?_
                  refine z_iinc (a := r) (v := 1) (r := r + 1) hC 8 [(8, .int (zI (r + 1))), (9, .long (zL (q2 ((5 * r) + p)))), (0, .ref m), (1, .int (zI (p))), (2, .int (zI (p))), (3, .int (zI (p))), (4, .int (zI (5))), (5, .int (zI (6))), (6, .long (zL (inv (arL LL (5 * p + p)))))] dX9_clears_197 rfl rfl (by decide) rfl ?_
                  refine z_goto hC 94 dX9_clears_200 (by decide) ?_
                  refine z_lv (lv' := [(0, .ref m), (1, .int (zI (p))), (2, .int (zI (p))), (3, .int (zI (p))), (4, .int (zI (5))), (5, .int (zI (6))), (6, .long (zL (inv (arL LL (5 * p + p))))), (8, .int (zI (r + 1)))]) [2, 3, 4, 5, 6, 7, 8, 0] rfl ?_
                  exact ih94_8 (r + 1) q2 (by omega) (by intro j a b; first | (rw [vc j a b, show i2 = 5 by omega]; split; rfl; (by_cases e : j < 5 * r + 5; (rw [if_pos e, if_pos (by omega)]); (rw [if_neg e, if_neg (by omega)]))) | exact clr_skip5 a b hp (vb j a b) (by omega) (by first | exact Or.inl (by omega) | exact Or.inr (by rw [← hvz]; omega))) (by first | exact vr3 | exact vr2) (by omega)
        exact lp94_7 _ 0 q (by omega) (by intro j a b; rw [vq j a b, show i = 5 by omega]; split; rfl; (rw [if_neg (by omega)])) (by intro j a b; rw [vq j a b]; split; exact mod_r _; exact hlr j) (Nat.lt_succ_self _)
      · skip
        have hm1 := mul_r (hlr (5 * p + i)) hiv
        refine z_aload_n hC 0 dX9_clears_26 rfl rfl ?_
        refine z_get hC (T := TX9) (N := 41) hinX9 0 40 dX9_clears_27 rfl rfl (by decide) (List.mem_of_getElem? (i := 1) rfl) rfl rfl ?_
        refine z_iload hC 4 dX9_clears_30 rfl ?_
        refine z_iload_n hC 2 dX9_clears_32 rfl rfl ?_
        refine z_imul hC (5 * p) dX9_clears_33 rfl ?_
        refine z_iload hC 7 dX9_clears_34 rfl ?_
        refine z_iadd hC ((5 * p) + i) dX9_clears_36 rfl ?_
        refine z_lald hC 1 dX9_clears_37 rfl (by omega) ?_
        refine z_topl (b := arL LL (5 * p + i)) (by rw [vq _ (by omega) (by omega), if_neg (by omega)]) ?_
        refine z_lload hC 6 dX9_clears_38 rfl ?_
        refine z_lmul hC ((arL LL (5 * p + i)) * (inv (arL LL (5 * p + p)))) dX9_clears_40 rfl ?_
        refine z_ldc2 (v := 998244353) hC (List.mem_of_getElem? (i := 2) rfl) rfl dX9_clears_41 ?_
        refine z_lrem hC (((arL LL (5 * p + i)) * (inv (arL LL (5 * p + p)))) % 998244353) dX9_clears_44 (by omega) rfl ?_
        refine z_lstore hC [(9, .long (zL (((arL LL (5 * p + i)) * (inv (arL LL (5 * p + p)))) % 998244353))), (0, .ref m), (1, .int (zI (p))), (2, .int (zI (p))), (3, .int (zI (p))), (4, .int (zI (5))), (5, .int (zI (6))), (6, .long (zL (inv (arL LL (5 * p + p))))), (8, .int (zI (i)))] dX9_clears_45 (by decide) rfl ?_
        refine z_aload_n hC 1 dX9_clears_47 rfl rfl ?_
        refine z_get hC (T := TX9) (N := 41) hinX9 0 40 dX9_clears_48 rfl rfl (by decide) (List.mem_of_getElem? (i := 1) rfl) rfl rfl ?_
        refine z_iload hC 5 dX9_clears_51 rfl ?_
        refine z_iload_n hC 3 dX9_clears_53 rfl rfl ?_
        refine z_imul hC (5 * p) dX9_clears_54 rfl ?_
        refine z_iload hC 8 dX9_clears_55 rfl ?_
        refine z_iadd hC ((5 * p) + i) dX9_clears_57 rfl ?_
        refine z_aload_n hC 1 dX9_clears_58 rfl rfl ?_
        refine z_get hC (T := TX9) (N := 41) hinX9 0 40 dX9_clears_59 rfl rfl (by decide) (List.mem_of_getElem? (i := 1) rfl) rfl rfl ?_
        refine z_iload hC 5 dX9_clears_62 rfl ?_
        refine z_iload_n hC 2 dX9_clears_64 rfl rfl ?_
        refine z_imul hC (5 * p) dX9_clears_65 rfl ?_
        refine z_iload hC 8 dX9_clears_66 rfl ?_
        refine z_iadd hC ((5 * p) + i) dX9_clears_68 rfl ?_
        refine z_lald hC 1 dX9_clears_69 rfl (by omega) ?_
        refine z_last hC 1 [wO m 9 [.int (zI (m_status)), .int (zI (m_thrown)), .ref m_sheetSort, .ref m_sheetMany, .ref m_numbers, .int (zI (m_steps)), .int (zI (m_kind)), .int (zI (m_top)), .int (zI (m_round)), .int (zI (m_ax)), .int (zI (m_ay)), .int (zI (m_bx)), .int (zI (m_by)), .ref m_dx, .ref m_dy, .ref m_weight, .ref m_isBarred, .ref m_walks, .ref m_one, .ref m_two, .ref m_light, .ref m_lightThen, .int (zI (m_family)), .ref m_fromX, .ref m_fromY, .ref m_toX, .ref m_toY, .int (zI (m_ruleMany)), .ref m_rule, .ref m_out, .int (zI (m_outs)), .ref m_grid, .ref m_heap, .ref m_ends, .ref m_power, .ref m_by2, .ref m_product, .ref m_levels, .ref m_row, .ref m_then, .ref m_equations], wJ m_equations (zK C).2.2.1 2048 (zu q ((5 * p) + i) (q ((5 * p) + i)))] dX9_clears_70 rfl (by omega) rfl ?_
        refine z_aload_n hC 1 dX9_clears_71 rfl rfl ?_
        refine z_get hC (T := TX9) (N := 41) hinX9 0 40 dX9_clears_72 rfl rfl (by decide) (List.mem_of_getElem? (i := 1) rfl) rfl rfl ?_
        refine z_iload hC 5 dX9_clears_75 rfl ?_
        refine z_iload_n hC 2 dX9_clears_77 rfl rfl ?_
        refine z_imul hC (5 * p) dX9_clears_78 rfl ?_
        refine z_iload hC 8 dX9_clears_79 rfl ?_
        refine z_iadd hC ((5 * p) + i) dX9_clears_81 rfl ?_
        refine z_lload hC 0 dX9_clears_82 rfl ?_
        refine z_last hC 1 [wO m 9 [.int (zI (m_status)), .int (zI (m_thrown)), .ref m_sheetSort, .ref m_sheetMany, .ref m_numbers, .int (zI (m_steps)), .int (zI (m_kind)), .int (zI (m_top)), .int (zI (m_round)), .int (zI (m_ax)), .int (zI (m_ay)), .int (zI (m_bx)), .int (zI (m_by)), .ref m_dx, .ref m_dy, .ref m_weight, .ref m_isBarred, .ref m_walks, .ref m_one, .ref m_two, .ref m_light, .ref m_lightThen, .int (zI (m_family)), .ref m_fromX, .ref m_fromY, .ref m_toX, .ref m_toY, .int (zI (m_ruleMany)), .ref m_rule, .ref m_out, .int (zI (m_outs)), .ref m_grid, .ref m_heap, .ref m_ends, .ref m_power, .ref m_by2, .ref m_product, .ref m_levels, .ref m_row, .ref m_then, .ref m_equations], wJ m_equations (zK C).2.2.1 2048 (zu (zu q ((5 * p) + i) (q ((5 * p) + i))) ((5 * p) + i) (((arL LL (5 * p + i)) * (inv (arL LL (5 * p + p)))) % 998244353))] dX9_clears_84 rfl (by omega) rfl ?_
        refine z_iinc (a := i) (v := 1) (r := i + 1) hC 8 [(8, .int (zI (i + 1))), (9, .long (zL (((arL LL (5 * p + i)) * (inv (arL LL (5 * p + p)))) % 998244353))), (0, .ref m), (1, .int (zI (p))), (2, .int (zI (p))), (3, .int (zI (p))), (4, .int (zI (5))), (5, .int (zI (6))), (6, .long (zL (inv (arL LL (5 * p + p)))))] dX9_clears_85 rfl rfl (by decide) rfl ?_
        refine z_goto hC 19 dX9_clears_88 (by decide) ?_
        refine z_lv (lv' := [(0, .ref m), (1, .int (zI (p))), (2, .int (zI (p))), (3, .int (zI (p))), (4, .int (zI (5))), (5, .int (zI (6))), (6, .long (zL (inv (arL LL (5 * p + p))))), (8, .int (zI (i + 1)))]) [2, 3, 4, 5, 6, 7, 8, 0] rfl ?_
        exact ih19_4 (i + 1) (zu (zu q ((5 * p) + i) (q ((5 * p) + i))) ((5 * p) + i) (((arL LL (5 * p + i)) * (inv (arL LL (5 * p + p)))) % 998244353)) (by omega) (by intro j a b; unfold zu; by_cases e : j = 5 * p + i; (rw [if_pos e, if_pos (by omega), e]); (rw [if_neg e, if_neg e, vq j a b]; by_cases e2 : 5 * p ≤ j ∧ j < 5 * p + i; (rw [if_pos e2, if_pos (by omega)]); (rw [if_neg e2, if_neg (by omega)]))) (by omega)
  exact lp19_3 _ 0 g (by omega) (by intro j a b; rw [if_neg (by omega)]; exact hl j a b) (Nat.lt_succ_self _)

set_option maxHeartbeats 8000000 in
set_option maxRecDepth 100000 in
theorem c_X9_clearsw6 (l : Launch) (D : va_G) (K : ClassId × ClassId × ClassId × ClassId) (m m_sheetSort m_sheetMany m_numbers m_dx m_dy m_weight m_isBarred m_walks m_one m_two m_light m_lightThen m_fromX m_fromY m_toX m_toY m_rule m_out m_grid m_heap m_ends m_power m_by2 m_product m_levels m_row m_then m_equations : Nat) (p m_status m_thrown m_steps m_kind m_top m_round m_ax m_ay m_bx m_by m_family m_ruleMany m_outs : Int) (g : Int → Int) (LL : List Int) (hp : 0 ≤ p ∧ p < 5 ∧ p < 6) (hl : ∀ j, 0 ≤ j → j < 36 → g j = arL LL j) (hlr : ∀ j, 0 ≤ arL LL j ∧ arL LL j < 998244353) : zMet l D K yX9_clears wsX9_clears ({ frames := 1, cells := 0, slots := 0, locals := 26 }) 0 0 [.ref m, .int (zI (p)), .int (zI (p)), .int (zI (p)), .int (zI (6)), .int (zI (6))] [wO m 9 [.int (zI (m_status)), .int (zI (m_thrown)), .ref m_sheetSort, .ref m_sheetMany, .ref m_numbers, .int (zI (m_steps)), .int (zI (m_kind)), .int (zI (m_top)), .int (zI (m_round)), .int (zI (m_ax)), .int (zI (m_ay)), .int (zI (m_bx)), .int (zI (m_by)), .ref m_dx, .ref m_dy, .ref m_weight, .ref m_isBarred, .ref m_walks, .ref m_one, .ref m_two, .ref m_light, .ref m_lightThen, .int (zI (m_family)), .ref m_fromX, .ref m_fromY, .ref m_toX, .ref m_toY, .int (zI (m_ruleMany)), .ref m_rule, .ref m_out, .int (zI (m_outs)), .ref m_grid, .ref m_heap, .ref m_ends, .ref m_power, .ref m_by2, .ref m_product, .ref m_levels, .ref m_row, .ref m_then, .ref m_equations], wJ m_equations K.2.2.1 2048 g] (fun vr_ wr_ => ∃ (g2 : Int → Int), vr_ = none ∧ wr_ = [wO m 9 [.int (zI (m_status)), .int (zI (m_thrown)), .ref m_sheetSort, .ref m_sheetMany, .ref m_numbers, .int (zI (m_steps)), .int (zI (m_kind)), .int (zI (m_top)), .int (zI (m_round)), .int (zI (m_ax)), .int (zI (m_ay)), .int (zI (m_bx)), .int (zI (m_by)), .ref m_dx, .ref m_dy, .ref m_weight, .ref m_isBarred, .ref m_walks, .ref m_one, .ref m_two, .ref m_light, .ref m_lightThen, .int (zI (m_family)), .ref m_fromX, .ref m_fromY, .ref m_toX, .ref m_toY, .int (zI (m_ruleMany)), .ref m_rule, .ref m_out, .int (zI (m_outs)), .ref m_grid, .ref m_heap, .ref m_ends, .ref m_power, .ref m_by2, .ref m_product, .ref m_levels, .ref m_row, .ref m_then, .ref m_equations], wJ m_equations K.2.2.1 2048 g2] ∧ (∀ j, 0 ≤ j → j < 36 → g2 j = arL (clL 6 p LL) j)) := by
  refine zMet_of (cc := cX9_clears) (nL := 12) (ret := none) (by decide) rfl (Nat.le_of_ble_eq_true rfl) ?_
  rintro C rfl rfl rfl hC hR
  have hinX9 : ∀ w ∈ u_ws RX9 TX9 41, w ∈ wsX9_clears := by decide +kernel
  have hiv := inv_r (arL LL (6 * p + p))
  have hX := hlr (6 * p + p)
  show ZW C 0 0 [wO m 9 [.int (zI (m_status)), .int (zI (m_thrown)), .ref m_sheetSort, .ref m_sheetMany, .ref m_numbers, .int (zI (m_steps)), .int (zI (m_kind)), .int (zI (m_top)), .int (zI (m_round)), .int (zI (m_ax)), .int (zI (m_ay)), .int (zI (m_bx)), .int (zI (m_by)), .ref m_dx, .ref m_dy, .ref m_weight, .ref m_isBarred, .ref m_walks, .ref m_one, .ref m_two, .ref m_light, .ref m_lightThen, .int (zI (m_family)), .ref m_fromX, .ref m_fromY, .ref m_toX, .ref m_toY, .int (zI (m_ruleMany)), .ref m_rule, .ref m_out, .int (zI (m_outs)), .ref m_grid, .ref m_heap, .ref m_ends, .ref m_power, .ref m_by2, .ref m_product, .ref m_levels, .ref m_row, .ref m_then, .ref m_equations], wJ m_equations (zK C).2.2.1 2048 g] [(0, .ref m), (1, .int (zI (p))), (2, .int (zI (p))), (3, .int (zI (p))), (4, .int (zI (6))), (5, .int (zI (6)))] 0 []
  refine z_aload_n hC 0 dX9_clears_0 rfl rfl ?_
  refine z_get hC (T := TX9) (N := 41) hinX9 0 40 dX9_clears_1 rfl rfl (by decide) (List.mem_of_getElem? (i := 1) rfl) rfl rfl ?_
  refine z_iload hC 4 dX9_clears_4 rfl ?_
  refine z_iload_n hC 2 dX9_clears_6 rfl rfl ?_
  refine z_imul hC (6 * p) dX9_clears_7 rfl ?_
  refine z_iload_n hC 3 dX9_clears_8 rfl rfl ?_
  refine z_iadd hC ((6 * p) + p) dX9_clears_9 rfl ?_
  refine z_lald hC 1 dX9_clears_10 rfl (by omega) ?_
  refine z_topl (b := arL LL (6 * p + p)) (by exact hl _ (by omega) (by omega)) ?_
  refine z_callS hC [.long (zL (arL LL (6 * p + p)))] 1 dX9_clears_11 (c_X9_inverse (zl C) (zD C) (zK C) (arL LL (6 * p + p)) (by first | assumption | omega)) gX9_clears_X9_inverse rfl rfl rfl ⟨by decide, by decide, by decide +kernel⟩ ⟨(Nat.le_of_ble_eq_true rfl), (Nat.le_of_ble_eq_true rfl)⟩ rfl [] [0, 1] [wO m 9 [.int (zI (m_status)), .int (zI (m_thrown)), .ref m_sheetSort, .ref m_sheetMany, .ref m_numbers, .int (zI (m_steps)), .int (zI (m_kind)), .int (zI (m_top)), .int (zI (m_round)), .int (zI (m_ax)), .int (zI (m_ay)), .int (zI (m_bx)), .int (zI (m_by)), .ref m_dx, .ref m_dy, .ref m_weight, .ref m_isBarred, .ref m_walks, .ref m_one, .ref m_two, .ref m_light, .ref m_lightThen, .int (zI (m_family)), .ref m_fromX, .ref m_fromY, .ref m_toX, .ref m_toY, .int (zI (m_ruleMany)), .ref m_rule, .ref m_out, .int (zI (m_outs)), .ref m_grid, .ref m_heap, .ref m_ends, .ref m_power, .ref m_by2, .ref m_product, .ref m_levels, .ref m_row, .ref m_then, .ref m_equations], wJ m_equations (zK C).2.2.1 2048 g] [] rfl rfl rfl rfl rfl (by decide) (Nat.le_of_ble_eq_true rfl) ⟨(Nat.le_of_ble_eq_true rfl), (Nat.le_of_ble_eq_true rfl)⟩ ?_
  rintro v_ w_ ⟨r_1, rfl, rfl, rfl⟩
  show ZW C 0 0 [wO m 9 [.int (zI (m_status)), .int (zI (m_thrown)), .ref m_sheetSort, .ref m_sheetMany, .ref m_numbers, .int (zI (m_steps)), .int (zI (m_kind)), .int (zI (m_top)), .int (zI (m_round)), .int (zI (m_ax)), .int (zI (m_ay)), .int (zI (m_bx)), .int (zI (m_by)), .ref m_dx, .ref m_dy, .ref m_weight, .ref m_isBarred, .ref m_walks, .ref m_one, .ref m_two, .ref m_light, .ref m_lightThen, .int (zI (m_family)), .ref m_fromX, .ref m_fromY, .ref m_toX, .ref m_toY, .int (zI (m_ruleMany)), .ref m_rule, .ref m_out, .int (zI (m_outs)), .ref m_grid, .ref m_heap, .ref m_ends, .ref m_power, .ref m_by2, .ref m_product, .ref m_levels, .ref m_row, .ref m_then, .ref m_equations], wJ m_equations (zK C).2.2.1 2048 g] [(0, .ref m), (1, .int (zI (p))), (2, .int (zI (p))), (3, .int (zI (p))), (4, .int (zI (6))), (5, .int (zI (6)))] 14 [.long (zL (inv (arL LL (6 * p + p))))]
  refine z_lstore hC [(6, .long (zL (inv (arL LL (6 * p + p))))), (0, .ref m), (1, .int (zI (p))), (2, .int (zI (p))), (3, .int (zI (p))), (4, .int (zI (6))), (5, .int (zI (6)))] dX9_clears_14 (by decide) rfl ?_
  refine z_iconst hC dX9_clears_16 ?_
  refine z_istore hC [(8, .int (zI (0))), (6, .long (zL (inv (arL LL (6 * p + p))))), (0, .ref m), (1, .int (zI (p))), (2, .int (zI (p))), (3, .int (zI (p))), (4, .int (zI (6))), (5, .int (zI (6)))] dX9_clears_17 (by decide) rfl ?_
  refine z_lv (lv' := [(0, .ref m), (1, .int (zI (p))), (2, .int (zI (p))), (3, .int (zI (p))), (4, .int (zI (6))), (5, .int (zI (6))), (6, .long (zL (inv (arL LL (6 * p + p))))), (8, .int (zI (0)))]) [2, 3, 4, 5, 6, 7, 1, 0] rfl ?_
  have lp19_3 : ∀ (f5 : Nat) (i : Int) (q : Int → Int), (0 ≤ i ∧ i ≤ 6) → (∀ j, 0 ≤ j → j < 36 → q j = if 6 * p ≤ j ∧ j < 6 * p + i then arL LL j * inv (arL LL (6 * p + p)) % 998244353 else arL LL j) → (6 - i).toNat < f5 → ZW C 0 0 [wO m 9 [.int (zI (m_status)), .int (zI (m_thrown)), .ref m_sheetSort, .ref m_sheetMany, .ref m_numbers, .int (zI (m_steps)), .int (zI (m_kind)), .int (zI (m_top)), .int (zI (m_round)), .int (zI (m_ax)), .int (zI (m_ay)), .int (zI (m_bx)), .int (zI (m_by)), .ref m_dx, .ref m_dy, .ref m_weight, .ref m_isBarred, .ref m_walks, .ref m_one, .ref m_two, .ref m_light, .ref m_lightThen, .int (zI (m_family)), .ref m_fromX, .ref m_fromY, .ref m_toX, .ref m_toY, .int (zI (m_ruleMany)), .ref m_rule, .ref m_out, .int (zI (m_outs)), .ref m_grid, .ref m_heap, .ref m_ends, .ref m_power, .ref m_by2, .ref m_product, .ref m_levels, .ref m_row, .ref m_then, .ref m_equations], wJ m_equations (zK C).2.2.1 2048 q] [(0, .ref m), (1, .int (zI (p))), (2, .int (zI (p))), (3, .int (zI (p))), (4, .int (zI (6))), (5, .int (zI (6))), (6, .long (zL (inv (arL LL (6 * p + p))))), (8, .int (zI (i)))] 19 [] := by
    intro f5
    induction f5 with
    | zero => intro _ _ _ _ hf; exact absurd hf (Nat.not_lt_zero _)
    | succ f5 ih19_4 =>
      intro i q vi vq hf_19
      refine z_iload hC 7 dX9_clears_19 rfl ?_
      refine z_iload hC 4 dX9_clears_21 rfl ?_
      refine z_icge hC 91 dX9_clears_23 (by decide) (by omega) (fun c_6 => ?_) (fun c_6 => ?_)
      · skip
        refine z_iconst hC dX9_clears_91 ?_
        refine z_istore hC [(8, .int (zI (0))), (0, .ref m), (1, .int (zI (p))), (2, .int (zI (p))), (3, .int (zI (p))), (4, .int (zI (6))), (5, .int (zI (6))), (6, .long (zL (inv (arL LL (6 * p + p)))))] dX9_clears_92 (by decide) rfl ?_
        refine z_lv (lv' := [(0, .ref m), (1, .int (zI (p))), (2, .int (zI (p))), (3, .int (zI (p))), (4, .int (zI (6))), (5, .int (zI (6))), (6, .long (zL (inv (arL LL (6 * p + p))))), (8, .int (zI (0)))]) [1, 2, 3, 4, 5, 6, 7, 0] rfl ?_
        have lp94_7 : ∀ (f9 : Nat) (r : Int) (q2 : Int → Int), (0 ≤ r ∧ r ≤ 6) → (∀ j, 0 ≤ j → j < 36 → q2 j = if 6 * p ≤ j ∧ j < 6 * p + 6 then arL LL j * inv (arL LL (6 * p + p)) % 998244353 else if j < 6 * r then clF 6 p (arL LL) j else arL LL j) → (∀ j, 0 ≤ j → j < 36 → 0 ≤ q2 j ∧ q2 j < 998244353) → (6 - r).toNat < f9 → ZW C 0 0 [wO m 9 [.int (zI (m_status)), .int (zI (m_thrown)), .ref m_sheetSort, .ref m_sheetMany, .ref m_numbers, .int (zI (m_steps)), .int (zI (m_kind)), .int (zI (m_top)), .int (zI (m_round)), .int (zI (m_ax)), .int (zI (m_ay)), .int (zI (m_bx)), .int (zI (m_by)), .ref m_dx, .ref m_dy, .ref m_weight, .ref m_isBarred, .ref m_walks, .ref m_one, .ref m_two, .ref m_light, .ref m_lightThen, .int (zI (m_family)), .ref m_fromX, .ref m_fromY, .ref m_toX, .ref m_toY, .int (zI (m_ruleMany)), .ref m_rule, .ref m_out, .int (zI (m_outs)), .ref m_grid, .ref m_heap, .ref m_ends, .ref m_power, .ref m_by2, .ref m_product, .ref m_levels, .ref m_row, .ref m_then, .ref m_equations], wJ m_equations (zK C).2.2.1 2048 q2] [(0, .ref m), (1, .int (zI (p))), (2, .int (zI (p))), (3, .int (zI (p))), (4, .int (zI (6))), (5, .int (zI (6))), (6, .long (zL (inv (arL LL (6 * p + p))))), (8, .int (zI (r)))] 94 [] := by
          intro f9
          induction f9 with
          | zero => intro _ _ _ _ _ hf; exact absurd hf (Nat.not_lt_zero _)
          | succ f9 ih94_8 =>
            intro r q2 vr vb vr2 hf_94
            refine z_iload hC 7 dX9_clears_94 rfl ?_
            refine z_iload hC 5 dX9_clears_96 rfl ?_
            refine z_icge hC 203 dX9_clears_98 (by decide) (by omega) (fun c_10 => ?_) (fun c_10 => ?_)
            · skip
              exact z_vret hC hR dX9_clears_203 (Nat.le_of_ble_eq_true rfl) (Nat.le_of_ble_eq_true rfl) ⟨q2, rfl, rfl, by intro j a b; rw [vb j a b, clL_at a (by omega), show r = 6 by omega]; split; (rename_i h; unfold clF; rw [if_pos (by omega)]); (rw [if_pos (by omega)])⟩
            · skip
              have hvr := vr2 (6 * r + p) (by omega) (by omega)
              refine z_aload_n hC 0 dX9_clears_101 rfl rfl ?_
              refine z_get hC (T := TX9) (N := 41) hinX9 0 40 dX9_clears_102 rfl rfl (by decide) (List.mem_of_getElem? (i := 1) rfl) rfl rfl ?_
              refine z_iload hC 4 dX9_clears_105 rfl ?_
              refine z_iload hC 7 dX9_clears_107 rfl ?_
              refine z_imul hC (6 * r) dX9_clears_109 rfl ?_
              refine z_iload_n hC 3 dX9_clears_110 rfl rfl ?_
              refine z_iadd hC ((6 * r) + p) dX9_clears_111 rfl ?_
              refine z_lald hC 1 dX9_clears_112 rfl (by omega) ?_
              refine z_lstore hC [(9, .long (zL (q2 ((6 * r) + p)))), (0, .ref m), (1, .int (zI (p))), (2, .int (zI (p))), (3, .int (zI (p))), (4, .int (zI (6))), (5, .int (zI (6))), (6, .long (zL (inv (arL LL (6 * p + p))))), (8, .int (zI (r)))] dX9_clears_113 (by decide) rfl ?_
              refine z_iload hC 8 dX9_clears_115 rfl ?_
              refine z_iload_n hC 2 dX9_clears_117 rfl rfl ?_
              refine z_iceq hC 197 dX9_clears_118 (by decide) (by omega) (fun c_11 => ?_) (fun c_11 => ?_)
              · skip
                refine z_iinc (a := r) (v := 1) (r := r + 1) hC 8 [(8, .int (zI (r + 1))), (9, .long (zL (q2 ((6 * r) + p)))), (0, .ref m), (1, .int (zI (p))), (2, .int (zI (p))), (3, .int (zI (p))), (4, .int (zI (6))), (5, .int (zI (6))), (6, .long (zL (inv (arL LL (6 * p + p)))))] dX9_clears_197 rfl rfl (by decide) rfl ?_
                refine z_goto hC 94 dX9_clears_200 (by decide) ?_
                refine z_lv (lv' := [(0, .ref m), (1, .int (zI (p))), (2, .int (zI (p))), (3, .int (zI (p))), (4, .int (zI (6))), (5, .int (zI (6))), (6, .long (zL (inv (arL LL (6 * p + p))))), (8, .int (zI (r + 1)))]) [2, 3, 4, 5, 6, 7, 8, 0] rfl ?_
                exact ih94_8 (r + 1) q2 (by omega) (by intro j a b; first | (rw [vc j a b, show i2 = 6 by omega]; split; rfl; (by_cases e : j < 6 * r + 6; (rw [if_pos e, if_pos (by omega)]); (rw [if_neg e, if_neg (by omega)]))) | exact clr_skip6 a b hp (vb j a b) (by omega) (by first | exact Or.inl (by omega) | exact Or.inr (by rw [← hvz]; omega))) (by first | exact vr3 | exact vr2) (by omega)
              · skip
                refine z_lload hC 0 dX9_clears_121 rfl ?_
                refine z_lconst (v := 0) hC dX9_clears_123 rfl ?_
                refine z_lcne hC 131 dX9_clears_124 dX9_clears_125 (by decide) (by omega) (fun c_12 => ?_) (fun c_12 => ?_)
                · skip
                  have hv : q2 (6 * r + p) = arL LL (6 * r + p) := by rw [vb _ (by omega) (by omega), if_neg (by omega), if_neg (by omega)]
                  refine z_iconst hC dX9_clears_131 ?_
                  refine z_istore hC [(11, .int (zI (0))), (9, .long (zL (q2 ((6 * r) + p)))), (0, .ref m), (1, .int (zI (p))), (2, .int (zI (p))), (3, .int (zI (p))), (4, .int (zI (6))), (5, .int (zI (6))), (6, .long (zL (inv (arL LL (6 * p + p))))), (8, .int (zI (r)))] dX9_clears_132 (by decide) rfl ?_
                  refine z_lv (lv' := [(0, .ref m), (1, .int (zI (p))), (2, .int (zI (p))), (3, .int (zI (p))), (4, .int (zI (6))), (5, .int (zI (6))), (6, .long (zL (inv (arL LL (6 * p + p))))), (8, .int (zI (r))), (9, .long (zL (q2 ((6 * r) + p)))), (11, .int (zI (0)))]) [2, 3, 4, 5, 6, 7, 8, 9, 1, 0] rfl ?_
                  have lp134_13 : ∀ (f15 : Nat) (i2 : Int) (q3 : Int → Int), (0 ≤ i2 ∧ i2 ≤ 6) → (∀ j, 0 ≤ j → j < 36 → q3 j = if 6 * p ≤ j ∧ j < 6 * p + 6 then arL LL j * inv (arL LL (6 * p + p)) % 998244353 else if j < 6 * r + i2 then clF 6 p (arL LL) j else arL LL j) → (∀ j, 0 ≤ j → j < 36 → 0 ≤ q3 j ∧ q3 j < 998244353) → (6 - i2).toNat < f15 → ZW C 0 0 [wO m 9 [.int (zI (m_status)), .int (zI (m_thrown)), .ref m_sheetSort, .ref m_sheetMany, .ref m_numbers, .int (zI (m_steps)), .int (zI (m_kind)), .int (zI (m_top)), .int (zI (m_round)), .int (zI (m_ax)), .int (zI (m_ay)), .int (zI (m_bx)), .int (zI (m_by)), .ref m_dx, .ref m_dy, .ref m_weight, .ref m_isBarred, .ref m_walks, .ref m_one, .ref m_two, .ref m_light, .ref m_lightThen, .int (zI (m_family)), .ref m_fromX, .ref m_fromY, .ref m_toX, .ref m_toY, .int (zI (m_ruleMany)), .ref m_rule, .ref m_out, .int (zI (m_outs)), .ref m_grid, .ref m_heap, .ref m_ends, .ref m_power, .ref m_by2, .ref m_product, .ref m_levels, .ref m_row, .ref m_then, .ref m_equations], wJ m_equations (zK C).2.2.1 2048 q3] [(0, .ref m), (1, .int (zI (p))), (2, .int (zI (p))), (3, .int (zI (p))), (4, .int (zI (6))), (5, .int (zI (6))), (6, .long (zL (inv (arL LL (6 * p + p))))), (8, .int (zI (r))), (9, .long (zL (q2 ((6 * r) + p)))), (11, .int (zI (i2)))] 134 [] := by
                    intro f15
                    induction f15 with
                    | zero => intro _ _ _ _ _ hf; exact absurd hf (Nat.not_lt_zero _)
                    | succ f15 ih134_14 =>
                      intro i2 q3 vi2 vc vr3 hf_134
                      refine z_iload hC 9 dX9_clears_134 rfl ?_
                      refine z_iload hC 4 dX9_clears_136 rfl ?_
                      refine z_icge hC 197 dX9_clears_138 (by decide) (by omega) (fun c_16 => ?_) (fun c_16 => ?_)
                      · skip
                        refine z_iinc (a := r) (v := 1) (r := r + 1) hC 7 [(8, .int (zI (r + 1))), (0, .ref m), (1, .int (zI (p))), (2, .int (zI (p))), (3, .int (zI (p))), (4, .int (zI (6))), (5, .int (zI (6))), (6, .long (zL (inv (arL LL (6 * p + p))))), (9, .long (zL (q2 ((6 * r) + p)))), (11, .int (zI (i2)))] dX9_clears_197 rfl rfl (by decide) rfl ?_
                        refine z_goto hC 94 dX9_clears_200 (by decide) ?_
                        refine z_lv (lv' := [(0, .ref m), (1, .int (zI (p))), (2, .int (zI (p))), (3, .int (zI (p))), (4, .int (zI (6))), (5, .int (zI (6))), (6, .long (zL (inv (arL LL (6 * p + p))))), (8, .int (zI (r + 1)))]) [1, 2, 3, 4, 5, 6, 7, 0] rfl ?_
                        exact ih94_8 (r + 1) q3 (by omega) (by intro j a b; first | (rw [vc j a b, show i2 = 6 by omega]; split; rfl; (by_cases e : j < 6 * r + 6; (rw [if_pos e, if_pos (by omega)]); (rw [if_neg e, if_neg (by omega)]))) | exact clr_skip6 a b hp (vb j a b) (by omega) (by first | exact Or.inl (by omega) | exact Or.inr (by rw [← hvz]; omega))) (by first | exact vr3 | exact vr2) (by omega)
                      · skip
                        have hm2 := mod_r (arL LL (6 * p + i2) * inv (arL LL (6 * p + p)))
                        have hm3 := mul_r2 (x := 998244353 - q2 (6 * r + p)) (by omega) hm2
                        have hm4 := hlr (6 * r + i2)
                        refine z_aload_n hC 0 dX9_clears_141 rfl rfl ?_
                        refine z_get hC (T := TX9) (N := 41) hinX9 0 40 dX9_clears_142 rfl rfl (by decide) (List.mem_of_getElem? (i := 1) rfl) rfl rfl ?_
                        refine z_iload hC 4 dX9_clears_145 rfl ?_
                        refine z_iload hC 7 dX9_clears_147 rfl ?_
                        refine z_imul hC (6 * r) dX9_clears_149 rfl ?_
                        refine z_iload hC 9 dX9_clears_150 rfl ?_
                        refine z_iadd hC ((6 * r) + i2) dX9_clears_152 rfl ?_
                        refine z_aload_n hC 0 dX9_clears_153 rfl rfl ?_
                        refine z_get hC (T := TX9) (N := 41) hinX9 0 40 dX9_clears_154 rfl rfl (by decide) (List.mem_of_getElem? (i := 1) rfl) rfl rfl ?_
                        refine z_iload hC 4 dX9_clears_157 rfl ?_
                        refine z_iload hC 7 dX9_clears_159 rfl ?_
                        refine z_imul hC (6 * r) dX9_clears_161 rfl ?_
                        refine z_iload hC 9 dX9_clears_162 rfl ?_
                        refine z_iadd hC ((6 * r) + i2) dX9_clears_164 rfl ?_
                        refine z_lald hC 1 dX9_clears_165 rfl (by omega) ?_
                        refine z_topl (b := arL LL (6 * r + i2)) (by rw [vc _ (by omega) (by omega), if_neg (by omega), if_neg (by omega)]) ?_
                        refine z_ldc2 (v := 998244353) hC (List.mem_of_getElem? (i := 2) rfl) rfl dX9_clears_166 ?_
                        refine z_lload hC 8 dX9_clears_169 rfl ?_
                        refine z_lsub hC (998244353 - (q2 ((6 * r) + p))) dX9_clears_171 rfl ?_
                        refine z_aload_n hC 0 dX9_clears_172 rfl rfl ?_
                        refine z_get hC (T := TX9) (N := 41) hinX9 0 40 dX9_clears_173 rfl rfl (by decide) (List.mem_of_getElem? (i := 1) rfl) rfl rfl ?_
                        refine z_iload hC 4 dX9_clears_176 rfl ?_
                        refine z_iload_n hC 1 dX9_clears_178 rfl rfl ?_
                        refine z_imul hC (6 * p) dX9_clears_179 rfl ?_
                        refine z_iload hC 9 dX9_clears_180 rfl ?_
                        refine z_iadd hC ((6 * p) + i2) dX9_clears_182 rfl ?_
                        refine z_lald hC 1 dX9_clears_183 rfl (by omega) ?_
                        refine z_topl (b := arL LL (6 * p + i2) * inv (arL LL (6 * p + p)) % 998244353) (by rw [vc _ (by omega) (by omega), if_pos (by omega)]) ?_
                        refine z_lmul hC ((998244353 - (q2 ((6 * r) + p))) * (arL LL (6 * p + i2) * inv (arL LL (6 * p + p)) % 998244353)) dX9_clears_184 rfl ?_
                        refine z_ladd hC ((arL LL (6 * r + i2)) + ((998244353 - (q2 ((6 * r) + p))) * (arL LL (6 * p + i2) * inv (arL LL (6 * p + p)) % 998244353))) dX9_clears_185 rfl ?_
                        refine z_ldc2 (v := 998244353) hC (List.mem_of_getElem? (i := 2) rfl) rfl dX9_clears_186 ?_
                        refine z_lrem hC (((arL LL (6 * r + i2)) + ((998244353 - (q2 ((6 * r) + p))) * (arL LL (6 * p + i2) * inv (arL LL (6 * p + p)) % 998244353))) % 998244353) dX9_clears_189 (by omega) rfl ?_
                        refine z_last hC 1 [wO m 9 [.int (zI (m_status)), .int (zI (m_thrown)), .ref m_sheetSort, .ref m_sheetMany, .ref m_numbers, .int (zI (m_steps)), .int (zI (m_kind)), .int (zI (m_top)), .int (zI (m_round)), .int (zI (m_ax)), .int (zI (m_ay)), .int (zI (m_bx)), .int (zI (m_by)), .ref m_dx, .ref m_dy, .ref m_weight, .ref m_isBarred, .ref m_walks, .ref m_one, .ref m_two, .ref m_light, .ref m_lightThen, .int (zI (m_family)), .ref m_fromX, .ref m_fromY, .ref m_toX, .ref m_toY, .int (zI (m_ruleMany)), .ref m_rule, .ref m_out, .int (zI (m_outs)), .ref m_grid, .ref m_heap, .ref m_ends, .ref m_power, .ref m_by2, .ref m_product, .ref m_levels, .ref m_row, .ref m_then, .ref m_equations], wJ m_equations (zK C).2.2.1 2048 (zu q3 ((6 * r) + i2) (((arL LL (6 * r + i2)) + ((998244353 - (q2 ((6 * r) + p))) * (arL LL (6 * p + i2) * inv (arL LL (6 * p + p)) % 998244353))) % 998244353))] dX9_clears_190 rfl (by omega) rfl ?_
                        refine z_iinc (a := i2) (v := 1) (r := i2 + 1) hC 9 [(11, .int (zI (i2 + 1))), (0, .ref m), (1, .int (zI (p))), (2, .int (zI (p))), (3, .int (zI (p))), (4, .int (zI (6))), (5, .int (zI (6))), (6, .long (zL (inv (arL LL (6 * p + p))))), (8, .int (zI (r))), (9, .long (zL (q2 ((6 * r) + p))))] dX9_clears_191 rfl rfl (by decide) rfl ?_
                        refine z_goto hC 134 dX9_clears_194 (by decide) ?_
                        refine z_lv (lv' := [(0, .ref m), (1, .int (zI (p))), (2, .int (zI (p))), (3, .int (zI (p))), (4, .int (zI (6))), (5, .int (zI (6))), (6, .long (zL (inv (arL LL (6 * p + p))))), (8, .int (zI (r))), (9, .long (zL (q2 ((6 * r) + p)))), (11, .int (zI (i2 + 1)))]) [1, 2, 3, 4, 5, 6, 7, 8, 9, 0] rfl ?_
                        exact ih134_14 (i2 + 1) (zu q3 ((6 * r) + i2) (((arL LL (6 * r + i2)) + ((998244353 - (q2 ((6 * r) + p))) * (arL LL (6 * p + i2) * inv (arL LL (6 * p + p)) % 998244353))) % 998244353)) (by omega) (by intro j a b; rw [← Int.add_assoc]; unfold zu; by_cases e : j = 6 * r + i2; (rw [if_pos e, if_neg (by omega), if_pos (by omega), e]; exact clr_new6 (by omega) (by omega) (by omega) hv (by omega)); (rw [if_neg e, vc j a b]; split; rfl; (by_cases e2 : j < 6 * r + i2; (rw [if_pos e2, if_pos (by omega)]); (rw [if_neg e2, if_neg (by omega)])))) (by intro j a b; unfold zu; split; exact mod_r _; exact vr3 j a b) (by omega)
                  exact lp134_13 _ 0 q2 (by omega) (by intro j a b; rw [show 6 * r + 0 = 6 * r by omega]; exact vb j a b) (by exact vr2) (Nat.lt_succ_self _)
                · skip
                  have hvz : q2 (6 * r + p) = arL LL (6 * r + p) := by rw [vb _ (by omega) (by omega), if_neg (by omega), if_neg (by omega)]
                  refine z_goto hC 197 dX9_clears_128 (by decide) ?_
                  refine z_iinc (a := r) (v := 1) (r := r + 1) hC 8 [(8, .int (zI (r + 1))), (9, .long (zL (q2 ((6 * r) + p)))), (0, .ref m), (1, .int (zI (p))), (2, .int (zI (p))), (3, .int (zI (p))), (4, .int (zI (6))), (5, .int (zI (6))), (6, .long (zL (inv (arL LL (6 * p + p)))))] dX9_clears_197 rfl rfl (by decide) rfl ?_
                  refine z_goto hC 94 dX9_clears_200 (by decide) ?_
                  refine z_lv (lv' := [(0, .ref m), (1, .int (zI (p))), (2, .int (zI (p))), (3, .int (zI (p))), (4, .int (zI (6))), (5, .int (zI (6))), (6, .long (zL (inv (arL LL (6 * p + p))))), (8, .int (zI (r + 1)))]) [2, 3, 4, 5, 6, 7, 8, 0] rfl ?_
                  exact ih94_8 (r + 1) q2 (by omega) (by intro j a b; first | (rw [vc j a b, show i2 = 6 by omega]; split; rfl; (by_cases e : j < 6 * r + 6; (rw [if_pos e, if_pos (by omega)]); (rw [if_neg e, if_neg (by omega)]))) | exact clr_skip6 a b hp (vb j a b) (by omega) (by first | exact Or.inl (by omega) | exact Or.inr (by rw [← hvz]; omega))) (by first | exact vr3 | exact vr2) (by omega)
        exact lp94_7 _ 0 q (by omega) (by intro j a b; rw [vq j a b, show i = 6 by omega]; split; rfl; (rw [if_neg (by omega)])) (by intro j a b; rw [vq j a b]; split; exact mod_r _; exact hlr j) (Nat.lt_succ_self _)
      · skip
        have hm1 := mul_r (hlr (6 * p + i)) hiv
        refine z_aload_n hC 0 dX9_clears_26 rfl rfl ?_
        refine z_get hC (T := TX9) (N := 41) hinX9 0 40 dX9_clears_27 rfl rfl (by decide) (List.mem_of_getElem? (i := 1) rfl) rfl rfl ?_
        refine z_iload hC 4 dX9_clears_30 rfl ?_
        refine z_iload_n hC 2 dX9_clears_32 rfl rfl ?_
        refine z_imul hC (6 * p) dX9_clears_33 rfl ?_
        refine z_iload hC 7 dX9_clears_34 rfl ?_
        refine z_iadd hC ((6 * p) + i) dX9_clears_36 rfl ?_
        refine z_lald hC 1 dX9_clears_37 rfl (by omega) ?_
        refine z_topl (b := arL LL (6 * p + i)) (by rw [vq _ (by omega) (by omega), if_neg (by omega)]) ?_
        refine z_lload hC 6 dX9_clears_38 rfl ?_
        refine z_lmul hC ((arL LL (6 * p + i)) * (inv (arL LL (6 * p + p)))) dX9_clears_40 rfl ?_
        refine z_ldc2 (v := 998244353) hC (List.mem_of_getElem? (i := 2) rfl) rfl dX9_clears_41 ?_
        refine z_lrem hC (((arL LL (6 * p + i)) * (inv (arL LL (6 * p + p)))) % 998244353) dX9_clears_44 (by omega) rfl ?_
        refine z_lstore hC [(9, .long (zL (((arL LL (6 * p + i)) * (inv (arL LL (6 * p + p)))) % 998244353))), (0, .ref m), (1, .int (zI (p))), (2, .int (zI (p))), (3, .int (zI (p))), (4, .int (zI (6))), (5, .int (zI (6))), (6, .long (zL (inv (arL LL (6 * p + p))))), (8, .int (zI (i)))] dX9_clears_45 (by decide) rfl ?_
        refine z_aload_n hC 1 dX9_clears_47 rfl rfl ?_
        refine z_get hC (T := TX9) (N := 41) hinX9 0 40 dX9_clears_48 rfl rfl (by decide) (List.mem_of_getElem? (i := 1) rfl) rfl rfl ?_
        refine z_iload hC 5 dX9_clears_51 rfl ?_
        refine z_iload_n hC 3 dX9_clears_53 rfl rfl ?_
        refine z_imul hC (6 * p) dX9_clears_54 rfl ?_
        refine z_iload hC 8 dX9_clears_55 rfl ?_
        refine z_iadd hC ((6 * p) + i) dX9_clears_57 rfl ?_
        refine z_aload_n hC 1 dX9_clears_58 rfl rfl ?_
        refine z_get hC (T := TX9) (N := 41) hinX9 0 40 dX9_clears_59 rfl rfl (by decide) (List.mem_of_getElem? (i := 1) rfl) rfl rfl ?_
        refine z_iload hC 5 dX9_clears_62 rfl ?_
        refine z_iload_n hC 2 dX9_clears_64 rfl rfl ?_
        refine z_imul hC (6 * p) dX9_clears_65 rfl ?_
        refine z_iload hC 8 dX9_clears_66 rfl ?_
        refine z_iadd hC ((6 * p) + i) dX9_clears_68 rfl ?_
        refine z_lald hC 1 dX9_clears_69 rfl (by omega) ?_
        refine z_last hC 1 [wO m 9 [.int (zI (m_status)), .int (zI (m_thrown)), .ref m_sheetSort, .ref m_sheetMany, .ref m_numbers, .int (zI (m_steps)), .int (zI (m_kind)), .int (zI (m_top)), .int (zI (m_round)), .int (zI (m_ax)), .int (zI (m_ay)), .int (zI (m_bx)), .int (zI (m_by)), .ref m_dx, .ref m_dy, .ref m_weight, .ref m_isBarred, .ref m_walks, .ref m_one, .ref m_two, .ref m_light, .ref m_lightThen, .int (zI (m_family)), .ref m_fromX, .ref m_fromY, .ref m_toX, .ref m_toY, .int (zI (m_ruleMany)), .ref m_rule, .ref m_out, .int (zI (m_outs)), .ref m_grid, .ref m_heap, .ref m_ends, .ref m_power, .ref m_by2, .ref m_product, .ref m_levels, .ref m_row, .ref m_then, .ref m_equations], wJ m_equations (zK C).2.2.1 2048 (zu q ((6 * p) + i) (q ((6 * p) + i)))] dX9_clears_70 rfl (by omega) rfl ?_
        refine z_aload_n hC 1 dX9_clears_71 rfl rfl ?_
        refine z_get hC (T := TX9) (N := 41) hinX9 0 40 dX9_clears_72 rfl rfl (by decide) (List.mem_of_getElem? (i := 1) rfl) rfl rfl ?_
        refine z_iload hC 5 dX9_clears_75 rfl ?_
        refine z_iload_n hC 2 dX9_clears_77 rfl rfl ?_
        refine z_imul hC (6 * p) dX9_clears_78 rfl ?_
        refine z_iload hC 8 dX9_clears_79 rfl ?_
        refine z_iadd hC ((6 * p) + i) dX9_clears_81 rfl ?_
        refine z_lload hC 0 dX9_clears_82 rfl ?_
        refine z_last hC 1 [wO m 9 [.int (zI (m_status)), .int (zI (m_thrown)), .ref m_sheetSort, .ref m_sheetMany, .ref m_numbers, .int (zI (m_steps)), .int (zI (m_kind)), .int (zI (m_top)), .int (zI (m_round)), .int (zI (m_ax)), .int (zI (m_ay)), .int (zI (m_bx)), .int (zI (m_by)), .ref m_dx, .ref m_dy, .ref m_weight, .ref m_isBarred, .ref m_walks, .ref m_one, .ref m_two, .ref m_light, .ref m_lightThen, .int (zI (m_family)), .ref m_fromX, .ref m_fromY, .ref m_toX, .ref m_toY, .int (zI (m_ruleMany)), .ref m_rule, .ref m_out, .int (zI (m_outs)), .ref m_grid, .ref m_heap, .ref m_ends, .ref m_power, .ref m_by2, .ref m_product, .ref m_levels, .ref m_row, .ref m_then, .ref m_equations], wJ m_equations (zK C).2.2.1 2048 (zu (zu q ((6 * p) + i) (q ((6 * p) + i))) ((6 * p) + i) (((arL LL (6 * p + i)) * (inv (arL LL (6 * p + p)))) % 998244353))] dX9_clears_84 rfl (by omega) rfl ?_
        refine z_iinc (a := i) (v := 1) (r := i + 1) hC 8 [(8, .int (zI (i + 1))), (9, .long (zL (((arL LL (6 * p + i)) * (inv (arL LL (6 * p + p)))) % 998244353))), (0, .ref m), (1, .int (zI (p))), (2, .int (zI (p))), (3, .int (zI (p))), (4, .int (zI (6))), (5, .int (zI (6))), (6, .long (zL (inv (arL LL (6 * p + p)))))] dX9_clears_85 rfl rfl (by decide) rfl ?_
        refine z_goto hC 19 dX9_clears_88 (by decide) ?_
        refine z_lv (lv' := [(0, .ref m), (1, .int (zI (p))), (2, .int (zI (p))), (3, .int (zI (p))), (4, .int (zI (6))), (5, .int (zI (6))), (6, .long (zL (inv (arL LL (6 * p + p))))), (8, .int (zI (i + 1)))]) [2, 3, 4, 5, 6, 7, 8, 0] rfl ?_
        exact ih19_4 (i + 1) (zu (zu q ((6 * p) + i) (q ((6 * p) + i))) ((6 * p) + i) (((arL LL (6 * p + i)) * (inv (arL LL (6 * p + p)))) % 998244353)) (by omega) (by intro j a b; unfold zu; by_cases e : j = 6 * p + i; (rw [if_pos e, if_pos (by omega), e]); (rw [if_neg e, if_neg e, vq j a b]; by_cases e2 : 6 * p ≤ j ∧ j < 6 * p + i; (rw [if_pos e2, if_pos (by omega)]); (rw [if_neg e2, if_neg (by omega)]))) (by omega)
  exact lp19_3 _ 0 g (by omega) (by intro j a b; rw [if_neg (by omega)]; exact hl j a b) (Nat.lt_succ_self _)

set_option maxHeartbeats 8000000 in
set_option maxRecDepth 100000 in
theorem c_X9_clearsw7 (l : Launch) (D : va_G) (K : ClassId × ClassId × ClassId × ClassId) (m m_sheetSort m_sheetMany m_numbers m_dx m_dy m_weight m_isBarred m_walks m_one m_two m_light m_lightThen m_fromX m_fromY m_toX m_toY m_rule m_out m_grid m_heap m_ends m_power m_by2 m_product m_levels m_row m_then m_equations : Nat) (p m_status m_thrown m_steps m_kind m_top m_round m_ax m_ay m_bx m_by m_family m_ruleMany m_outs : Int) (g : Int → Int) (LL : List Int) (hp : 0 ≤ p ∧ p < 6 ∧ p < 6) (hl : ∀ j, 0 ≤ j → j < 42 → g j = arL LL j) (hlr : ∀ j, 0 ≤ arL LL j ∧ arL LL j < 998244353) : zMet l D K yX9_clears wsX9_clears ({ frames := 1, cells := 0, slots := 0, locals := 26 }) 0 0 [.ref m, .int (zI (p)), .int (zI (p)), .int (zI (p)), .int (zI (7)), .int (zI (6))] [wO m 9 [.int (zI (m_status)), .int (zI (m_thrown)), .ref m_sheetSort, .ref m_sheetMany, .ref m_numbers, .int (zI (m_steps)), .int (zI (m_kind)), .int (zI (m_top)), .int (zI (m_round)), .int (zI (m_ax)), .int (zI (m_ay)), .int (zI (m_bx)), .int (zI (m_by)), .ref m_dx, .ref m_dy, .ref m_weight, .ref m_isBarred, .ref m_walks, .ref m_one, .ref m_two, .ref m_light, .ref m_lightThen, .int (zI (m_family)), .ref m_fromX, .ref m_fromY, .ref m_toX, .ref m_toY, .int (zI (m_ruleMany)), .ref m_rule, .ref m_out, .int (zI (m_outs)), .ref m_grid, .ref m_heap, .ref m_ends, .ref m_power, .ref m_by2, .ref m_product, .ref m_levels, .ref m_row, .ref m_then, .ref m_equations], wJ m_equations K.2.2.1 2048 g] (fun vr_ wr_ => ∃ (g2 : Int → Int), vr_ = none ∧ wr_ = [wO m 9 [.int (zI (m_status)), .int (zI (m_thrown)), .ref m_sheetSort, .ref m_sheetMany, .ref m_numbers, .int (zI (m_steps)), .int (zI (m_kind)), .int (zI (m_top)), .int (zI (m_round)), .int (zI (m_ax)), .int (zI (m_ay)), .int (zI (m_bx)), .int (zI (m_by)), .ref m_dx, .ref m_dy, .ref m_weight, .ref m_isBarred, .ref m_walks, .ref m_one, .ref m_two, .ref m_light, .ref m_lightThen, .int (zI (m_family)), .ref m_fromX, .ref m_fromY, .ref m_toX, .ref m_toY, .int (zI (m_ruleMany)), .ref m_rule, .ref m_out, .int (zI (m_outs)), .ref m_grid, .ref m_heap, .ref m_ends, .ref m_power, .ref m_by2, .ref m_product, .ref m_levels, .ref m_row, .ref m_then, .ref m_equations], wJ m_equations K.2.2.1 2048 g2] ∧ (∀ j, 0 ≤ j → j < 42 → g2 j = arL (clL 7 p LL) j)) := by
  refine zMet_of (cc := cX9_clears) (nL := 12) (ret := none) (by decide) rfl (Nat.le_of_ble_eq_true rfl) ?_
  rintro C rfl rfl rfl hC hR
  have hinX9 : ∀ w ∈ u_ws RX9 TX9 41, w ∈ wsX9_clears := by decide +kernel
  have hiv := inv_r (arL LL (7 * p + p))
  have hX := hlr (7 * p + p)
  show ZW C 0 0 [wO m 9 [.int (zI (m_status)), .int (zI (m_thrown)), .ref m_sheetSort, .ref m_sheetMany, .ref m_numbers, .int (zI (m_steps)), .int (zI (m_kind)), .int (zI (m_top)), .int (zI (m_round)), .int (zI (m_ax)), .int (zI (m_ay)), .int (zI (m_bx)), .int (zI (m_by)), .ref m_dx, .ref m_dy, .ref m_weight, .ref m_isBarred, .ref m_walks, .ref m_one, .ref m_two, .ref m_light, .ref m_lightThen, .int (zI (m_family)), .ref m_fromX, .ref m_fromY, .ref m_toX, .ref m_toY, .int (zI (m_ruleMany)), .ref m_rule, .ref m_out, .int (zI (m_outs)), .ref m_grid, .ref m_heap, .ref m_ends, .ref m_power, .ref m_by2, .ref m_product, .ref m_levels, .ref m_row, .ref m_then, .ref m_equations], wJ m_equations (zK C).2.2.1 2048 g] [(0, .ref m), (1, .int (zI (p))), (2, .int (zI (p))), (3, .int (zI (p))), (4, .int (zI (7))), (5, .int (zI (6)))] 0 []
  refine z_aload_n hC 0 dX9_clears_0 rfl rfl ?_
  refine z_get hC (T := TX9) (N := 41) hinX9 0 40 dX9_clears_1 rfl rfl (by decide) (List.mem_of_getElem? (i := 1) rfl) rfl rfl ?_
  refine z_iload hC 4 dX9_clears_4 rfl ?_
  refine z_iload_n hC 2 dX9_clears_6 rfl rfl ?_
  refine z_imul hC (7 * p) dX9_clears_7 rfl ?_
  refine z_iload_n hC 3 dX9_clears_8 rfl rfl ?_
  refine z_iadd hC ((7 * p) + p) dX9_clears_9 rfl ?_
  refine z_lald hC 1 dX9_clears_10 rfl (by omega) ?_
  refine z_topl (b := arL LL (7 * p + p)) (by exact hl _ (by omega) (by omega)) ?_
  refine z_callS hC [.long (zL (arL LL (7 * p + p)))] 1 dX9_clears_11 (c_X9_inverse (zl C) (zD C) (zK C) (arL LL (7 * p + p)) (by first | assumption | omega)) gX9_clears_X9_inverse rfl rfl rfl ⟨by decide, by decide, by decide +kernel⟩ ⟨(Nat.le_of_ble_eq_true rfl), (Nat.le_of_ble_eq_true rfl)⟩ rfl [] [0, 1] [wO m 9 [.int (zI (m_status)), .int (zI (m_thrown)), .ref m_sheetSort, .ref m_sheetMany, .ref m_numbers, .int (zI (m_steps)), .int (zI (m_kind)), .int (zI (m_top)), .int (zI (m_round)), .int (zI (m_ax)), .int (zI (m_ay)), .int (zI (m_bx)), .int (zI (m_by)), .ref m_dx, .ref m_dy, .ref m_weight, .ref m_isBarred, .ref m_walks, .ref m_one, .ref m_two, .ref m_light, .ref m_lightThen, .int (zI (m_family)), .ref m_fromX, .ref m_fromY, .ref m_toX, .ref m_toY, .int (zI (m_ruleMany)), .ref m_rule, .ref m_out, .int (zI (m_outs)), .ref m_grid, .ref m_heap, .ref m_ends, .ref m_power, .ref m_by2, .ref m_product, .ref m_levels, .ref m_row, .ref m_then, .ref m_equations], wJ m_equations (zK C).2.2.1 2048 g] [] rfl rfl rfl rfl rfl (by decide) (Nat.le_of_ble_eq_true rfl) ⟨(Nat.le_of_ble_eq_true rfl), (Nat.le_of_ble_eq_true rfl)⟩ ?_
  rintro v_ w_ ⟨r_1, rfl, rfl, rfl⟩
  show ZW C 0 0 [wO m 9 [.int (zI (m_status)), .int (zI (m_thrown)), .ref m_sheetSort, .ref m_sheetMany, .ref m_numbers, .int (zI (m_steps)), .int (zI (m_kind)), .int (zI (m_top)), .int (zI (m_round)), .int (zI (m_ax)), .int (zI (m_ay)), .int (zI (m_bx)), .int (zI (m_by)), .ref m_dx, .ref m_dy, .ref m_weight, .ref m_isBarred, .ref m_walks, .ref m_one, .ref m_two, .ref m_light, .ref m_lightThen, .int (zI (m_family)), .ref m_fromX, .ref m_fromY, .ref m_toX, .ref m_toY, .int (zI (m_ruleMany)), .ref m_rule, .ref m_out, .int (zI (m_outs)), .ref m_grid, .ref m_heap, .ref m_ends, .ref m_power, .ref m_by2, .ref m_product, .ref m_levels, .ref m_row, .ref m_then, .ref m_equations], wJ m_equations (zK C).2.2.1 2048 g] [(0, .ref m), (1, .int (zI (p))), (2, .int (zI (p))), (3, .int (zI (p))), (4, .int (zI (7))), (5, .int (zI (6)))] 14 [.long (zL (inv (arL LL (7 * p + p))))]
  refine z_lstore hC [(6, .long (zL (inv (arL LL (7 * p + p))))), (0, .ref m), (1, .int (zI (p))), (2, .int (zI (p))), (3, .int (zI (p))), (4, .int (zI (7))), (5, .int (zI (6)))] dX9_clears_14 (by decide) rfl ?_
  refine z_iconst hC dX9_clears_16 ?_
  refine z_istore hC [(8, .int (zI (0))), (6, .long (zL (inv (arL LL (7 * p + p))))), (0, .ref m), (1, .int (zI (p))), (2, .int (zI (p))), (3, .int (zI (p))), (4, .int (zI (7))), (5, .int (zI (6)))] dX9_clears_17 (by decide) rfl ?_
  refine z_lv (lv' := [(0, .ref m), (1, .int (zI (p))), (2, .int (zI (p))), (3, .int (zI (p))), (4, .int (zI (7))), (5, .int (zI (6))), (6, .long (zL (inv (arL LL (7 * p + p))))), (8, .int (zI (0)))]) [2, 3, 4, 5, 6, 7, 1, 0] rfl ?_
  have lp19_3 : ∀ (f5 : Nat) (i : Int) (q : Int → Int), (0 ≤ i ∧ i ≤ 7) → (∀ j, 0 ≤ j → j < 42 → q j = if 7 * p ≤ j ∧ j < 7 * p + i then arL LL j * inv (arL LL (7 * p + p)) % 998244353 else arL LL j) → (7 - i).toNat < f5 → ZW C 0 0 [wO m 9 [.int (zI (m_status)), .int (zI (m_thrown)), .ref m_sheetSort, .ref m_sheetMany, .ref m_numbers, .int (zI (m_steps)), .int (zI (m_kind)), .int (zI (m_top)), .int (zI (m_round)), .int (zI (m_ax)), .int (zI (m_ay)), .int (zI (m_bx)), .int (zI (m_by)), .ref m_dx, .ref m_dy, .ref m_weight, .ref m_isBarred, .ref m_walks, .ref m_one, .ref m_two, .ref m_light, .ref m_lightThen, .int (zI (m_family)), .ref m_fromX, .ref m_fromY, .ref m_toX, .ref m_toY, .int (zI (m_ruleMany)), .ref m_rule, .ref m_out, .int (zI (m_outs)), .ref m_grid, .ref m_heap, .ref m_ends, .ref m_power, .ref m_by2, .ref m_product, .ref m_levels, .ref m_row, .ref m_then, .ref m_equations], wJ m_equations (zK C).2.2.1 2048 q] [(0, .ref m), (1, .int (zI (p))), (2, .int (zI (p))), (3, .int (zI (p))), (4, .int (zI (7))), (5, .int (zI (6))), (6, .long (zL (inv (arL LL (7 * p + p))))), (8, .int (zI (i)))] 19 [] := by
    intro f5
    induction f5 with
    | zero => intro _ _ _ _ hf; exact absurd hf (Nat.not_lt_zero _)
    | succ f5 ih19_4 =>
      intro i q vi vq hf_19
      refine z_iload hC 7 dX9_clears_19 rfl ?_
      refine z_iload hC 4 dX9_clears_21 rfl ?_
      refine z_icge hC 91 dX9_clears_23 (by decide) (by omega) (fun c_6 => ?_) (fun c_6 => ?_)
      · skip
        refine z_iconst hC dX9_clears_91 ?_
        refine z_istore hC [(8, .int (zI (0))), (0, .ref m), (1, .int (zI (p))), (2, .int (zI (p))), (3, .int (zI (p))), (4, .int (zI (7))), (5, .int (zI (6))), (6, .long (zL (inv (arL LL (7 * p + p)))))] dX9_clears_92 (by decide) rfl ?_
        refine z_lv (lv' := [(0, .ref m), (1, .int (zI (p))), (2, .int (zI (p))), (3, .int (zI (p))), (4, .int (zI (7))), (5, .int (zI (6))), (6, .long (zL (inv (arL LL (7 * p + p))))), (8, .int (zI (0)))]) [1, 2, 3, 4, 5, 6, 7, 0] rfl ?_
        have lp94_7 : ∀ (f9 : Nat) (r : Int) (q2 : Int → Int), (0 ≤ r ∧ r ≤ 6) → (∀ j, 0 ≤ j → j < 42 → q2 j = if 7 * p ≤ j ∧ j < 7 * p + 7 then arL LL j * inv (arL LL (7 * p + p)) % 998244353 else if j < 7 * r then clF 7 p (arL LL) j else arL LL j) → (∀ j, 0 ≤ j → j < 42 → 0 ≤ q2 j ∧ q2 j < 998244353) → (6 - r).toNat < f9 → ZW C 0 0 [wO m 9 [.int (zI (m_status)), .int (zI (m_thrown)), .ref m_sheetSort, .ref m_sheetMany, .ref m_numbers, .int (zI (m_steps)), .int (zI (m_kind)), .int (zI (m_top)), .int (zI (m_round)), .int (zI (m_ax)), .int (zI (m_ay)), .int (zI (m_bx)), .int (zI (m_by)), .ref m_dx, .ref m_dy, .ref m_weight, .ref m_isBarred, .ref m_walks, .ref m_one, .ref m_two, .ref m_light, .ref m_lightThen, .int (zI (m_family)), .ref m_fromX, .ref m_fromY, .ref m_toX, .ref m_toY, .int (zI (m_ruleMany)), .ref m_rule, .ref m_out, .int (zI (m_outs)), .ref m_grid, .ref m_heap, .ref m_ends, .ref m_power, .ref m_by2, .ref m_product, .ref m_levels, .ref m_row, .ref m_then, .ref m_equations], wJ m_equations (zK C).2.2.1 2048 q2] [(0, .ref m), (1, .int (zI (p))), (2, .int (zI (p))), (3, .int (zI (p))), (4, .int (zI (7))), (5, .int (zI (6))), (6, .long (zL (inv (arL LL (7 * p + p))))), (8, .int (zI (r)))] 94 [] := by
          intro f9
          induction f9 with
          | zero => intro _ _ _ _ _ hf; exact absurd hf (Nat.not_lt_zero _)
          | succ f9 ih94_8 =>
            intro r q2 vr vb vr2 hf_94
            refine z_iload hC 7 dX9_clears_94 rfl ?_
            refine z_iload hC 5 dX9_clears_96 rfl ?_
            refine z_icge hC 203 dX9_clears_98 (by decide) (by omega) (fun c_10 => ?_) (fun c_10 => ?_)
            · skip
              exact z_vret hC hR dX9_clears_203 (Nat.le_of_ble_eq_true rfl) (Nat.le_of_ble_eq_true rfl) ⟨q2, rfl, rfl, by intro j a b; rw [vb j a b, clL_at a (by omega), show r = 6 by omega]; split; (rename_i h; unfold clF; rw [if_pos (by omega)]); (rw [if_pos (by omega)])⟩
            · skip
              have hvr := vr2 (7 * r + p) (by omega) (by omega)
              refine z_aload_n hC 0 dX9_clears_101 rfl rfl ?_
              refine z_get hC (T := TX9) (N := 41) hinX9 0 40 dX9_clears_102 rfl rfl (by decide) (List.mem_of_getElem? (i := 1) rfl) rfl rfl ?_
              refine z_iload hC 4 dX9_clears_105 rfl ?_
              refine z_iload hC 7 dX9_clears_107 rfl ?_
              refine z_imul hC (7 * r) dX9_clears_109 rfl ?_
              refine z_iload_n hC 3 dX9_clears_110 rfl rfl ?_
              refine z_iadd hC ((7 * r) + p) dX9_clears_111 rfl ?_
              refine z_lald hC 1 dX9_clears_112 rfl (by omega) ?_
              refine z_lstore hC [(9, .long (zL (q2 ((7 * r) + p)))), (0, .ref m), (1, .int (zI (p))), (2, .int (zI (p))), (3, .int (zI (p))), (4, .int (zI (7))), (5, .int (zI (6))), (6, .long (zL (inv (arL LL (7 * p + p))))), (8, .int (zI (r)))] dX9_clears_113 (by decide) rfl ?_
              refine z_iload hC 8 dX9_clears_115 rfl ?_
              refine z_iload_n hC 2 dX9_clears_117 rfl rfl ?_
              refine z_iceq hC 197 dX9_clears_118 (by decide) (by omega) (fun c_11 => ?_) (fun c_11 => ?_)
              · skip
                refine z_iinc (a := r) (v := 1) (r := r + 1) hC 8 [(8, .int (zI (r + 1))), (9, .long (zL (q2 ((7 * r) + p)))), (0, .ref m), (1, .int (zI (p))), (2, .int (zI (p))), (3, .int (zI (p))), (4, .int (zI (7))), (5, .int (zI (6))), (6, .long (zL (inv (arL LL (7 * p + p)))))] dX9_clears_197 rfl rfl (by decide) rfl ?_
                refine z_goto hC 94 dX9_clears_200 (by decide) ?_
                refine z_lv (lv' := [(0, .ref m), (1, .int (zI (p))), (2, .int (zI (p))), (3, .int (zI (p))), (4, .int (zI (7))), (5, .int (zI (6))), (6, .long (zL (inv (arL LL (7 * p + p))))), (8, .int (zI (r + 1)))]) [2, 3, 4, 5, 6, 7, 8, 0] rfl ?_
                exact ih94_8 (r + 1) q2 (by omega) (by intro j a b; first | (rw [vc j a b, show i2 = 7 by omega]; split; rfl; (by_cases e : j < 7 * r + 7; (rw [if_pos e, if_pos (by omega)]); (rw [if_neg e, if_neg (by omega)]))) | exact clr_skip7 a b hp (vb j a b) (by omega) (by first | exact Or.inl (by omega) | exact Or.inr (by rw [← hvz]; omega))) (by first | exact vr3 | exact vr2) (by omega)
              · skip
                refine z_lload hC 0 dX9_clears_121 rfl ?_
                refine z_lconst (v := 0) hC dX9_clears_123 rfl ?_
                refine z_lcne hC 131 dX9_clears_124 dX9_clears_125 (by decide) (by omega) (fun c_12 => ?_) (fun c_12 => ?_)
                · skip
                  have hv : q2 (7 * r + p) = arL LL (7 * r + p) := by rw [vb _ (by omega) (by omega), if_neg (by omega), if_neg (by omega)]
                  refine z_iconst hC dX9_clears_131 ?_
                  refine z_istore hC [(11, .int (zI (0))), (9, .long (zL (q2 ((7 * r) + p)))), (0, .ref m), (1, .int (zI (p))), (2, .int (zI (p))), (3, .int (zI (p))), (4, .int (zI (7))), (5, .int (zI (6))), (6, .long (zL (inv (arL LL (7 * p + p))))), (8, .int (zI (r)))] dX9_clears_132 (by decide) rfl ?_
                  refine z_lv (lv' := [(0, .ref m), (1, .int (zI (p))), (2, .int (zI (p))), (3, .int (zI (p))), (4, .int (zI (7))), (5, .int (zI (6))), (6, .long (zL (inv (arL LL (7 * p + p))))), (8, .int (zI (r))), (9, .long (zL (q2 ((7 * r) + p)))), (11, .int (zI (0)))]) [2, 3, 4, 5, 6, 7, 8, 9, 1, 0] rfl ?_
                  have lp134_13 : ∀ (f15 : Nat) (i2 : Int) (q3 : Int → Int), (0 ≤ i2 ∧ i2 ≤ 7) → (∀ j, 0 ≤ j → j < 42 → q3 j = if 7 * p ≤ j ∧ j < 7 * p + 7 then arL LL j * inv (arL LL (7 * p + p)) % 998244353 else if j < 7 * r + i2 then clF 7 p (arL LL) j else arL LL j) → (∀ j, 0 ≤ j → j < 42 → 0 ≤ q3 j ∧ q3 j < 998244353) → (7 - i2).toNat < f15 → ZW C 0 0 [wO m 9 [.int (zI (m_status)), .int (zI (m_thrown)), .ref m_sheetSort, .ref m_sheetMany, .ref m_numbers, .int (zI (m_steps)), .int (zI (m_kind)), .int (zI (m_top)), .int (zI (m_round)), .int (zI (m_ax)), .int (zI (m_ay)), .int (zI (m_bx)), .int (zI (m_by)), .ref m_dx, .ref m_dy, .ref m_weight, .ref m_isBarred, .ref m_walks, .ref m_one, .ref m_two, .ref m_light, .ref m_lightThen, .int (zI (m_family)), .ref m_fromX, .ref m_fromY, .ref m_toX, .ref m_toY, .int (zI (m_ruleMany)), .ref m_rule, .ref m_out, .int (zI (m_outs)), .ref m_grid, .ref m_heap, .ref m_ends, .ref m_power, .ref m_by2, .ref m_product, .ref m_levels, .ref m_row, .ref m_then, .ref m_equations], wJ m_equations (zK C).2.2.1 2048 q3] [(0, .ref m), (1, .int (zI (p))), (2, .int (zI (p))), (3, .int (zI (p))), (4, .int (zI (7))), (5, .int (zI (6))), (6, .long (zL (inv (arL LL (7 * p + p))))), (8, .int (zI (r))), (9, .long (zL (q2 ((7 * r) + p)))), (11, .int (zI (i2)))] 134 [] := by
                    intro f15
                    induction f15 with
                    | zero => intro _ _ _ _ _ hf; exact absurd hf (Nat.not_lt_zero _)
                    | succ f15 ih134_14 =>
                      intro i2 q3 vi2 vc vr3 hf_134
                      refine z_iload hC 9 dX9_clears_134 rfl ?_
                      refine z_iload hC 4 dX9_clears_136 rfl ?_
                      refine z_icge hC 197 dX9_clears_138 (by decide) (by omega) (fun c_16 => ?_) (fun c_16 => ?_)
                      · skip
                        refine z_iinc (a := r) (v := 1) (r := r + 1) hC 7 [(8, .int (zI (r + 1))), (0, .ref m), (1, .int (zI (p))), (2, .int (zI (p))), (3, .int (zI (p))), (4, .int (zI (7))), (5, .int (zI (6))), (6, .long (zL (inv (arL LL (7 * p + p))))), (9, .long (zL (q2 ((7 * r) + p)))), (11, .int (zI (i2)))] dX9_clears_197 rfl rfl (by decide) rfl ?_
                        refine z_goto hC 94 dX9_clears_200 (by decide) ?_
                        refine z_lv (lv' := [(0, .ref m), (1, .int (zI (p))), (2, .int (zI (p))), (3, .int (zI (p))), (4, .int (zI (7))), (5, .int (zI (6))), (6, .long (zL (inv (arL LL (7 * p + p))))), (8, .int (zI (r + 1)))]) [1, 2, 3, 4, 5, 6, 7, 0] rfl ?_
                        exact ih94_8 (r + 1) q3 (by omega) (by intro j a b; first | (rw [vc j a b, show i2 = 7 by omega]; split; rfl; (by_cases e : j < 7 * r + 7; (rw [if_pos e, if_pos (by omega)]); (rw [if_neg e, if_neg (by omega)]))) | exact clr_skip7 a b hp (vb j a b) (by omega) (by first | exact Or.inl (by omega) | exact Or.inr (by rw [← hvz]; omega))) (by first | exact vr3 | exact vr2) (by omega)
                      · skip
                        have hm2 := mod_r (arL LL (7 * p + i2) * inv (arL LL (7 * p + p)))
                        have hm3 := mul_r2 (x := 998244353 - q2 (7 * r + p)) (by omega) hm2
                        have hm4 := hlr (7 * r + i2)
                        refine z_aload_n hC 0 dX9_clears_141 rfl rfl ?_
                        refine z_get hC (T := TX9) (N := 41) hinX9 0 40 dX9_clears_142 rfl rfl (by decide) (List.mem_of_getElem? (i := 1) rfl) rfl rfl ?_
                        refine z_iload hC 4 dX9_clears_145 rfl ?_
                        refine z_iload hC 7 dX9_clears_147 rfl ?_
                        refine z_imul hC (7 * r) dX9_clears_149 rfl ?_
                        refine z_iload hC 9 dX9_clears_150 rfl ?_
                        refine z_iadd hC ((7 * r) + i2) dX9_clears_152 rfl ?_
                        refine z_aload_n hC 0 dX9_clears_153 rfl rfl ?_
                        refine z_get hC (T := TX9) (N := 41) hinX9 0 40 dX9_clears_154 rfl rfl (by decide) (List.mem_of_getElem? (i := 1) rfl) rfl rfl ?_
                        refine z_iload hC 4 dX9_clears_157 rfl ?_
                        refine z_iload hC 7 dX9_clears_159 rfl ?_
                        refine z_imul hC (7 * r) dX9_clears_161 rfl ?_
                        refine z_iload hC 9 dX9_clears_162 rfl ?_
                        refine z_iadd hC ((7 * r) + i2) dX9_clears_164 rfl ?_
                        refine z_lald hC 1 dX9_clears_165 rfl (by omega) ?_
                        refine z_topl (b := arL LL (7 * r + i2)) (by rw [vc _ (by omega) (by omega), if_neg (by omega), if_neg (by omega)]) ?_
                        refine z_ldc2 (v := 998244353) hC (List.mem_of_getElem? (i := 2) rfl) rfl dX9_clears_166 ?_
                        refine z_lload hC 8 dX9_clears_169 rfl ?_
                        refine z_lsub hC (998244353 - (q2 ((7 * r) + p))) dX9_clears_171 rfl ?_
                        refine z_aload_n hC 0 dX9_clears_172 rfl rfl ?_
                        refine z_get hC (T := TX9) (N := 41) hinX9 0 40 dX9_clears_173 rfl rfl (by decide) (List.mem_of_getElem? (i := 1) rfl) rfl rfl ?_
                        refine z_iload hC 4 dX9_clears_176 rfl ?_
                        refine z_iload_n hC 1 dX9_clears_178 rfl rfl ?_
                        refine z_imul hC (7 * p) dX9_clears_179 rfl ?_
                        refine z_iload hC 9 dX9_clears_180 rfl ?_
                        refine z_iadd hC ((7 * p) + i2) dX9_clears_182 rfl ?_
                        refine z_lald hC 1 dX9_clears_183 rfl (by omega) ?_
                        refine z_topl (b := arL LL (7 * p + i2) * inv (arL LL (7 * p + p)) % 998244353) (by rw [vc _ (by omega) (by omega), if_pos (by omega)]) ?_
                        refine z_lmul hC ((998244353 - (q2 ((7 * r) + p))) * (arL LL (7 * p + i2) * inv (arL LL (7 * p + p)) % 998244353)) dX9_clears_184 rfl ?_
                        refine z_ladd hC ((arL LL (7 * r + i2)) + ((998244353 - (q2 ((7 * r) + p))) * (arL LL (7 * p + i2) * inv (arL LL (7 * p + p)) % 998244353))) dX9_clears_185 rfl ?_
                        refine z_ldc2 (v := 998244353) hC (List.mem_of_getElem? (i := 2) rfl) rfl dX9_clears_186 ?_
                        refine z_lrem hC (((arL LL (7 * r + i2)) + ((998244353 - (q2 ((7 * r) + p))) * (arL LL (7 * p + i2) * inv (arL LL (7 * p + p)) % 998244353))) % 998244353) dX9_clears_189 (by omega) rfl ?_
                        refine z_last hC 1 [wO m 9 [.int (zI (m_status)), .int (zI (m_thrown)), .ref m_sheetSort, .ref m_sheetMany, .ref m_numbers, .int (zI (m_steps)), .int (zI (m_kind)), .int (zI (m_top)), .int (zI (m_round)), .int (zI (m_ax)), .int (zI (m_ay)), .int (zI (m_bx)), .int (zI (m_by)), .ref m_dx, .ref m_dy, .ref m_weight, .ref m_isBarred, .ref m_walks, .ref m_one, .ref m_two, .ref m_light, .ref m_lightThen, .int (zI (m_family)), .ref m_fromX, .ref m_fromY, .ref m_toX, .ref m_toY, .int (zI (m_ruleMany)), .ref m_rule, .ref m_out, .int (zI (m_outs)), .ref m_grid, .ref m_heap, .ref m_ends, .ref m_power, .ref m_by2, .ref m_product, .ref m_levels, .ref m_row, .ref m_then, .ref m_equations], wJ m_equations (zK C).2.2.1 2048 (zu q3 ((7 * r) + i2) (((arL LL (7 * r + i2)) + ((998244353 - (q2 ((7 * r) + p))) * (arL LL (7 * p + i2) * inv (arL LL (7 * p + p)) % 998244353))) % 998244353))] dX9_clears_190 rfl (by omega) rfl ?_
                        refine z_iinc (a := i2) (v := 1) (r := i2 + 1) hC 9 [(11, .int (zI (i2 + 1))), (0, .ref m), (1, .int (zI (p))), (2, .int (zI (p))), (3, .int (zI (p))), (4, .int (zI (7))), (5, .int (zI (6))), (6, .long (zL (inv (arL LL (7 * p + p))))), (8, .int (zI (r))), (9, .long (zL (q2 ((7 * r) + p))))] dX9_clears_191 rfl rfl (by decide) rfl ?_
                        refine z_goto hC 134 dX9_clears_194 (by decide) ?_
                        refine z_lv (lv' := [(0, .ref m), (1, .int (zI (p))), (2, .int (zI (p))), (3, .int (zI (p))), (4, .int (zI (7))), (5, .int (zI (6))), (6, .long (zL (inv (arL LL (7 * p + p))))), (8, .int (zI (r))), (9, .long (zL (q2 ((7 * r) + p)))), (11, .int (zI (i2 + 1)))]) [1, 2, 3, 4, 5, 6, 7, 8, 9, 0] rfl ?_
                        exact ih134_14 (i2 + 1) (zu q3 ((7 * r) + i2) (((arL LL (7 * r + i2)) + ((998244353 - (q2 ((7 * r) + p))) * (arL LL (7 * p + i2) * inv (arL LL (7 * p + p)) % 998244353))) % 998244353)) (by omega) (by intro j a b; rw [← Int.add_assoc]; unfold zu; by_cases e : j = 7 * r + i2; (rw [if_pos e, if_neg (by omega), if_pos (by omega), e]; exact clr_new7 (by omega) (by omega) (by omega) hv (by omega)); (rw [if_neg e, vc j a b]; split; rfl; (by_cases e2 : j < 7 * r + i2; (rw [if_pos e2, if_pos (by omega)]); (rw [if_neg e2, if_neg (by omega)])))) (by intro j a b; unfold zu; split; exact mod_r _; exact vr3 j a b) (by omega)
                  exact lp134_13 _ 0 q2 (by omega) (by intro j a b; rw [show 7 * r + 0 = 7 * r by omega]; exact vb j a b) (by exact vr2) (Nat.lt_succ_self _)
                · skip
                  have hvz : q2 (7 * r + p) = arL LL (7 * r + p) := by rw [vb _ (by omega) (by omega), if_neg (by omega), if_neg (by omega)]
                  refine z_goto hC 197 dX9_clears_128 (by decide) ?_
                  refine z_iinc (a := r) (v := 1) (r := r + 1) hC 8 [(8, .int (zI (r + 1))), (9, .long (zL (q2 ((7 * r) + p)))), (0, .ref m), (1, .int (zI (p))), (2, .int (zI (p))), (3, .int (zI (p))), (4, .int (zI (7))), (5, .int (zI (6))), (6, .long (zL (inv (arL LL (7 * p + p)))))] dX9_clears_197 rfl rfl (by decide) rfl ?_
                  refine z_goto hC 94 dX9_clears_200 (by decide) ?_
                  refine z_lv (lv' := [(0, .ref m), (1, .int (zI (p))), (2, .int (zI (p))), (3, .int (zI (p))), (4, .int (zI (7))), (5, .int (zI (6))), (6, .long (zL (inv (arL LL (7 * p + p))))), (8, .int (zI (r + 1)))]) [2, 3, 4, 5, 6, 7, 8, 0] rfl ?_
                  exact ih94_8 (r + 1) q2 (by omega) (by intro j a b; first | (rw [vc j a b, show i2 = 7 by omega]; split; rfl; (by_cases e : j < 7 * r + 7; (rw [if_pos e, if_pos (by omega)]); (rw [if_neg e, if_neg (by omega)]))) | exact clr_skip7 a b hp (vb j a b) (by omega) (by first | exact Or.inl (by omega) | exact Or.inr (by rw [← hvz]; omega))) (by first | exact vr3 | exact vr2) (by omega)
        exact lp94_7 _ 0 q (by omega) (by intro j a b; rw [vq j a b, show i = 7 by omega]; split; rfl; (rw [if_neg (by omega)])) (by intro j a b; rw [vq j a b]; split; exact mod_r _; exact hlr j) (Nat.lt_succ_self _)
      · skip
        have hm1 := mul_r (hlr (7 * p + i)) hiv
        refine z_aload_n hC 0 dX9_clears_26 rfl rfl ?_
        refine z_get hC (T := TX9) (N := 41) hinX9 0 40 dX9_clears_27 rfl rfl (by decide) (List.mem_of_getElem? (i := 1) rfl) rfl rfl ?_
        refine z_iload hC 4 dX9_clears_30 rfl ?_
        refine z_iload_n hC 2 dX9_clears_32 rfl rfl ?_
        refine z_imul hC (7 * p) dX9_clears_33 rfl ?_
        refine z_iload hC 7 dX9_clears_34 rfl ?_
        refine z_iadd hC ((7 * p) + i) dX9_clears_36 rfl ?_
        refine z_lald hC 1 dX9_clears_37 rfl (by omega) ?_
        refine z_topl (b := arL LL (7 * p + i)) (by rw [vq _ (by omega) (by omega), if_neg (by omega)]) ?_
        refine z_lload hC 6 dX9_clears_38 rfl ?_
        refine z_lmul hC ((arL LL (7 * p + i)) * (inv (arL LL (7 * p + p)))) dX9_clears_40 rfl ?_
        refine z_ldc2 (v := 998244353) hC (List.mem_of_getElem? (i := 2) rfl) rfl dX9_clears_41 ?_
        refine z_lrem hC (((arL LL (7 * p + i)) * (inv (arL LL (7 * p + p)))) % 998244353) dX9_clears_44 (by omega) rfl ?_
        refine z_lstore hC [(9, .long (zL (((arL LL (7 * p + i)) * (inv (arL LL (7 * p + p)))) % 998244353))), (0, .ref m), (1, .int (zI (p))), (2, .int (zI (p))), (3, .int (zI (p))), (4, .int (zI (7))), (5, .int (zI (6))), (6, .long (zL (inv (arL LL (7 * p + p))))), (8, .int (zI (i)))] dX9_clears_45 (by decide) rfl ?_
        refine z_aload_n hC 1 dX9_clears_47 rfl rfl ?_
        refine z_get hC (T := TX9) (N := 41) hinX9 0 40 dX9_clears_48 rfl rfl (by decide) (List.mem_of_getElem? (i := 1) rfl) rfl rfl ?_
        refine z_iload hC 5 dX9_clears_51 rfl ?_
        refine z_iload_n hC 3 dX9_clears_53 rfl rfl ?_
        refine z_imul hC (7 * p) dX9_clears_54 rfl ?_
        refine z_iload hC 8 dX9_clears_55 rfl ?_
        refine z_iadd hC ((7 * p) + i) dX9_clears_57 rfl ?_
        refine z_aload_n hC 1 dX9_clears_58 rfl rfl ?_
        refine z_get hC (T := TX9) (N := 41) hinX9 0 40 dX9_clears_59 rfl rfl (by decide) (List.mem_of_getElem? (i := 1) rfl) rfl rfl ?_
        refine z_iload hC 5 dX9_clears_62 rfl ?_
        refine z_iload_n hC 2 dX9_clears_64 rfl rfl ?_
        refine z_imul hC (7 * p) dX9_clears_65 rfl ?_
        refine z_iload hC 8 dX9_clears_66 rfl ?_
        refine z_iadd hC ((7 * p) + i) dX9_clears_68 rfl ?_
        refine z_lald hC 1 dX9_clears_69 rfl (by omega) ?_
        refine z_last hC 1 [wO m 9 [.int (zI (m_status)), .int (zI (m_thrown)), .ref m_sheetSort, .ref m_sheetMany, .ref m_numbers, .int (zI (m_steps)), .int (zI (m_kind)), .int (zI (m_top)), .int (zI (m_round)), .int (zI (m_ax)), .int (zI (m_ay)), .int (zI (m_bx)), .int (zI (m_by)), .ref m_dx, .ref m_dy, .ref m_weight, .ref m_isBarred, .ref m_walks, .ref m_one, .ref m_two, .ref m_light, .ref m_lightThen, .int (zI (m_family)), .ref m_fromX, .ref m_fromY, .ref m_toX, .ref m_toY, .int (zI (m_ruleMany)), .ref m_rule, .ref m_out, .int (zI (m_outs)), .ref m_grid, .ref m_heap, .ref m_ends, .ref m_power, .ref m_by2, .ref m_product, .ref m_levels, .ref m_row, .ref m_then, .ref m_equations], wJ m_equations (zK C).2.2.1 2048 (zu q ((7 * p) + i) (q ((7 * p) + i)))] dX9_clears_70 rfl (by omega) rfl ?_
        refine z_aload_n hC 1 dX9_clears_71 rfl rfl ?_
        refine z_get hC (T := TX9) (N := 41) hinX9 0 40 dX9_clears_72 rfl rfl (by decide) (List.mem_of_getElem? (i := 1) rfl) rfl rfl ?_
        refine z_iload hC 5 dX9_clears_75 rfl ?_
        refine z_iload_n hC 2 dX9_clears_77 rfl rfl ?_
        refine z_imul hC (7 * p) dX9_clears_78 rfl ?_
        refine z_iload hC 8 dX9_clears_79 rfl ?_
        refine z_iadd hC ((7 * p) + i) dX9_clears_81 rfl ?_
        refine z_lload hC 0 dX9_clears_82 rfl ?_
        refine z_last hC 1 [wO m 9 [.int (zI (m_status)), .int (zI (m_thrown)), .ref m_sheetSort, .ref m_sheetMany, .ref m_numbers, .int (zI (m_steps)), .int (zI (m_kind)), .int (zI (m_top)), .int (zI (m_round)), .int (zI (m_ax)), .int (zI (m_ay)), .int (zI (m_bx)), .int (zI (m_by)), .ref m_dx, .ref m_dy, .ref m_weight, .ref m_isBarred, .ref m_walks, .ref m_one, .ref m_two, .ref m_light, .ref m_lightThen, .int (zI (m_family)), .ref m_fromX, .ref m_fromY, .ref m_toX, .ref m_toY, .int (zI (m_ruleMany)), .ref m_rule, .ref m_out, .int (zI (m_outs)), .ref m_grid, .ref m_heap, .ref m_ends, .ref m_power, .ref m_by2, .ref m_product, .ref m_levels, .ref m_row, .ref m_then, .ref m_equations], wJ m_equations (zK C).2.2.1 2048 (zu (zu q ((7 * p) + i) (q ((7 * p) + i))) ((7 * p) + i) (((arL LL (7 * p + i)) * (inv (arL LL (7 * p + p)))) % 998244353))] dX9_clears_84 rfl (by omega) rfl ?_
        refine z_iinc (a := i) (v := 1) (r := i + 1) hC 8 [(8, .int (zI (i + 1))), (9, .long (zL (((arL LL (7 * p + i)) * (inv (arL LL (7 * p + p)))) % 998244353))), (0, .ref m), (1, .int (zI (p))), (2, .int (zI (p))), (3, .int (zI (p))), (4, .int (zI (7))), (5, .int (zI (6))), (6, .long (zL (inv (arL LL (7 * p + p)))))] dX9_clears_85 rfl rfl (by decide) rfl ?_
        refine z_goto hC 19 dX9_clears_88 (by decide) ?_
        refine z_lv (lv' := [(0, .ref m), (1, .int (zI (p))), (2, .int (zI (p))), (3, .int (zI (p))), (4, .int (zI (7))), (5, .int (zI (6))), (6, .long (zL (inv (arL LL (7 * p + p))))), (8, .int (zI (i + 1)))]) [2, 3, 4, 5, 6, 7, 8, 0] rfl ?_
        exact ih19_4 (i + 1) (zu (zu q ((7 * p) + i) (q ((7 * p) + i))) ((7 * p) + i) (((arL LL (7 * p + i)) * (inv (arL LL (7 * p + p)))) % 998244353)) (by omega) (by intro j a b; unfold zu; by_cases e : j = 7 * p + i; (rw [if_pos e, if_pos (by omega), e]); (rw [if_neg e, if_neg e, vq j a b]; by_cases e2 : 7 * p ≤ j ∧ j < 7 * p + i; (rw [if_pos e2, if_pos (by omega)]); (rw [if_neg e2, if_neg (by omega)]))) (by omega)
  exact lp19_3 _ 0 g (by omega) (by intro j a b; rw [if_neg (by omega)]; exact hl j a b) (Nat.lt_succ_self _)
