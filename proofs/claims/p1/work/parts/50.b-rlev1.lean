theorem z_ldcw {C : zC} {cc : ByteArray} {y : MethodName} {Ts : List Cond} {rm : Room} {nL : Nat} {k n : Nat} {ws : va_W} {lv : List (Nat × Value)} {pc : Nat} {st : List Value} (hC : zOK C cc y Ts rm nL) {ix : Nat} {w : Int32} {v : Int} (hk : Cond.constant y.cls ix w ∈ Ts) (hw : w = zI v) (hd : decode cc pc = .ok (.ldc_w ix, 3)) (kk : ZW C k n ws lv (pc + 3) (.int (zI v) :: st)) : ZW C k n ws lv pc st := by
  obtain ⟨p, l, e, R, s, m, args, below, meth, c, Q, A, nL', D, cA⟩ := C
  intro H locs ls hP hD hS hl
  subst hw
  exact lv_ldcw hC.1 hC.2.1 hC.2.2.2.2.1 (hC.2.2.2.2.2.1 _ hk) hd (kk H locs ls hP hD hS hl)
theorem mat_sum {A B : Int → Int} {a b : Nat} {s h : Int} (hs : 0 ≤ s ∧ s ≤ 5) (hA : ∀ k, 0 ≤ k → k ≤ 5 → A k = EX a s k % 998244353) (hB : ∀ k, 0 ≤ k → k ≤ 5 → B k = EX b k h % 998244353) : sumZ (fun k => A k * B k) 6 % 998244353 = EX (a + b) s h % 998244353 := by
  rw [← EX_ck hs b h]
  refine sum_mod (fun k k0 k1 => ?_)
  rw [hA k k0 (by omega), hB k k0 (by omega), mul_mod1, mul_mod2]
def flS (y j : Int) (n : Nat) : Int := sumZ (fun k => if 0 ≤ y + sdy k ∧ y + sdy k ≤ 5 ∧ j = 31 * y + y + sdy k then 1 else 0) n
def flA (j : Int) (n : Nat) : Int := sumZ (fun y => flS y j 4) n
theorem flS_s {y j k : Int} (h : 0 ≤ k) : flS y j (k + 1).toNat = flS y j k.toNat + (if 0 ≤ y + sdy k ∧ y + sdy k ≤ 5 ∧ j = 31 * y + y + sdy k then 1 else 0) := by
  unfold flS
  rw [sumZ_s h]
theorem flA_s {y j : Int} (h : 0 ≤ y) : flA j (y + 1).toNat = flA j y.toNat + flS y j 4 := by
  unfold flA
  rw [sumZ_s h]
theorem flA_fin {i j : Int} (hi : 0 ≤ i) (hi2 : i ≤ 5) (hj : 0 ≤ j) (hj2 : j ≤ 5) : flA (31 * i + j) 6 = EX 1 i j % 998244353 := by
  have h : ∀ a b : Fin 6, flA (31 * ((a : Nat) : Int) + ((b : Nat) : Int)) 6 = EX 1 ((a : Nat) : Int) ((b : Nat) : Int) % 998244353 := by decide
  have h2 := h ⟨i.toNat, by omega⟩ ⟨j.toNat, by omega⟩
  rw [show (((⟨i.toNat, by omega⟩ : Fin 6) : Nat) : Int) = i from Int.toNat_of_nonneg hi, show (((⟨j.toNat, by omega⟩ : Fin 6) : Nat) : Int) = j from Int.toNat_of_nonneg hj] at h2
  exact h2
theorem fl_push {q q2 : Int → Int} {y k j S : Int} (hk : 0 ≤ k) (h : q j = S + flS y j k.toNat) (h2 : (¬ (0 ≤ y + sdy k ∧ y + sdy k ≤ 5) ∧ q2 = q) ∨ ((0 ≤ y + sdy k ∧ y + sdy k ≤ 5) ∧ q2 = zu q (31 * y + y + sdy k) (q (31 * y + y + sdy k) + 1))) : q2 j = S + flS y j (k + 1).toNat := by
  rw [flS_s hk]
  rcases h2 with ⟨h3, rfl⟩ | ⟨h3, rfl⟩
  · rw [if_neg (fun z => h3 ⟨z.1, z.2.1⟩), h]
    omega
  · unfold zu
    by_cases e : j = 31 * y + y + sdy k
    · rw [if_pos e, if_pos ⟨h3.1, h3.2, e⟩, ← e, h]
      omega
    · rw [if_neg e, if_neg (fun z => e z.2.2), h]
      omega
theorem idn_fin {w : Int → Int} {i j : Int} (hw : ∀ j, 0 ≤ j → j < 961 → w j = if j % 32 = 0 then 1 else 0) (hi : 0 ≤ i) (hi2 : i ≤ 5) (hj : 0 ≤ j) (hj2 : j ≤ 5) : w (31 * i + j) = EX 0 i j % 998244353 := by
  rw [hw _ (by omega) (by omega)]
  show _ = (if i = j then (1 : Int) else 0) % 998244353
  by_cases e : i = j
  · rw [if_pos e, if_pos (by omega)]
    rfl
  · rw [if_neg e, if_neg (by omega)]
    rfl
theorem far_stepN {n left : Int} {e s : Nat} (h : n = (e : Int) + (s : Int) * left) (h0 : 0 ≤ left) : n = ((e + s * (left % 2).toNat : Nat) : Int) + ((s + s : Nat) : Int) * (left / 2) := by
  rw [h, Int.natCast_add, Int.natCast_mul, Int.natCast_add, Int.toNat_of_nonneg (by omega : 0 ≤ left % 2)]
  have e1 : left = left % 2 + 2 * (left / 2) := by omega
  have e2 : (s : Int) * left = (s : Int) * (left % 2) + (s : Int) * (2 * (left / 2)) := by rw [← Int.mul_add, ← e1]
  have e3 : (s : Int) * (2 * (left / 2)) = ((s : Int) + s) * (left / 2) := by rw [← Int.mul_assoc, Int.mul_comm (s : Int) 2, Int.two_mul]
  omega
theorem row_0 {q : Int → Int} (h : ∀ j, 0 ≤ j → j < 31 → q j = if j = 0 then 1 else 0) : ∀ y, 0 ≤ y → y ≤ 5 → q y = EX (0 : Int).toNat 0 y % 998244353 := by
  intro y a b
  rw [h y a (by omega)]
  show _ = (if 0 = y then (1 : Int) else 0) % 998244353
  by_cases e : y = 0
  · subst e
    rfl
  · rw [if_neg e, if_neg (show ¬ 0 = y by omega)]
    rfl
set_option maxHeartbeats 4000000 in
set_option maxRecDepth 100000 in
theorem c_X9_isBetween (l : Launch) (D : va_G) (K : ClassId × ClassId × ClassId × ClassId) (m m_sheetSort m_sheetMany m_numbers m_dx m_dy m_weight m_isBarred m_walks m_one m_two m_light m_lightThen m_fromX m_fromY m_toX m_toY m_rule m_out m_grid m_heap m_ends m_power m_by2 m_product m_levels m_row m_then m_equations : Nat) (m_status m_thrown m_kind m_round m_ax m_bx m_family m_ruleMany m_outs : Int) : zMet l D K yX9_isBetween wsX9_isBetween ({ frames := 0, cells := 0, slots := 0, locals := 0 }) 0 0 [.ref m] [wO m 9 [.int (zI (m_status)), .int (zI (m_thrown)), .ref m_sheetSort, .ref m_sheetMany, .ref m_numbers, .int (zI (4)), .int (zI (m_kind)), .int (zI (5)), .int (zI (m_round)), .int (zI (m_ax)), .int (zI (0)), .int (zI (m_bx)), .int (zI (0)), .ref m_dx, .ref m_dy, .ref m_weight, .ref m_isBarred, .ref m_walks, .ref m_one, .ref m_two, .ref m_light, .ref m_lightThen, .int (zI (m_family)), .ref m_fromX, .ref m_fromY, .ref m_toX, .ref m_toY, .int (zI (m_ruleMany)), .ref m_rule, .ref m_out, .int (zI (m_outs)), .ref m_grid, .ref m_heap, .ref m_ends, .ref m_power, .ref m_by2, .ref m_product, .ref m_levels, .ref m_row, .ref m_then, .ref m_equations]] (fun vr_ wr_ => ∃ (r : Int), vr_ = some (.int (zI (r))) ∧ wr_ = [wO m 9 [.int (zI (m_status)), .int (zI (m_thrown)), .ref m_sheetSort, .ref m_sheetMany, .ref m_numbers, .int (zI (4)), .int (zI (m_kind)), .int (zI (5)), .int (zI (m_round)), .int (zI (m_ax)), .int (zI (0)), .int (zI (m_bx)), .int (zI (0)), .ref m_dx, .ref m_dy, .ref m_weight, .ref m_isBarred, .ref m_walks, .ref m_one, .ref m_two, .ref m_light, .ref m_lightThen, .int (zI (m_family)), .ref m_fromX, .ref m_fromY, .ref m_toX, .ref m_toY, .int (zI (m_ruleMany)), .ref m_rule, .ref m_out, .int (zI (m_outs)), .ref m_grid, .ref m_heap, .ref m_ends, .ref m_power, .ref m_by2, .ref m_product, .ref m_levels, .ref m_row, .ref m_then, .ref m_equations]] ∧ (r = 1)) := by
  refine zMet_of (cc := cX9_isBetween) (nL := 1) (ret := (some .boolean)) (by decide) rfl (Nat.le_of_ble_eq_true rfl) ?_
  rintro C rfl rfl rfl hC hR
  have hinX9 : ∀ w ∈ u_ws RX9 TX9 41, w ∈ wsX9_isBetween := by decide +kernel
  show ZW C 0 0 [wO m 9 [.int (zI (m_status)), .int (zI (m_thrown)), .ref m_sheetSort, .ref m_sheetMany, .ref m_numbers, .int (zI (4)), .int (zI (m_kind)), .int (zI (5)), .int (zI (m_round)), .int (zI (m_ax)), .int (zI (0)), .int (zI (m_bx)), .int (zI (0)), .ref m_dx, .ref m_dy, .ref m_weight, .ref m_isBarred, .ref m_walks, .ref m_one, .ref m_two, .ref m_light, .ref m_lightThen, .int (zI (m_family)), .ref m_fromX, .ref m_fromY, .ref m_toX, .ref m_toY, .int (zI (m_ruleMany)), .ref m_rule, .ref m_out, .int (zI (m_outs)), .ref m_grid, .ref m_heap, .ref m_ends, .ref m_power, .ref m_by2, .ref m_product, .ref m_levels, .ref m_row, .ref m_then, .ref m_equations]] [(0, .ref m)] 0 []
  refine z_aload_n hC 0 dX9_isBetween_0 rfl rfl ?_
  refine z_get hC (T := TX9) (N := 41) hinX9 0 10 dX9_isBetween_1 rfl rfl (by decide) (List.mem_of_getElem? (i := 1) rfl) rfl rfl ?_
  refine z_iflt hC 40 dX9_isBetween_4 (by decide) (by omega) (fun c_1 => by exfalso; omega) (fun c_1 => ?_)
  refine z_aload_n hC 0 dX9_isBetween_7 rfl rfl ?_
  refine z_get hC (T := TX9) (N := 41) hinX9 0 10 dX9_isBetween_8 rfl rfl (by decide) (List.mem_of_getElem? (i := 1) rfl) rfl rfl ?_
  refine z_aload_n hC 0 dX9_isBetween_11 rfl rfl ?_
  refine z_get hC (T := TX9) (N := 41) hinX9 0 7 dX9_isBetween_12 rfl rfl (by decide) (List.mem_of_getElem? (i := 2) rfl) rfl rfl ?_
  refine z_icgt hC 40 dX9_isBetween_15 (by decide) (by omega) (fun c_2 => by exfalso; omega) (fun c_2 => ?_)
  refine z_aload_n hC 0 dX9_isBetween_18 rfl rfl ?_
  refine z_get hC (T := TX9) (N := 41) hinX9 0 12 dX9_isBetween_19 rfl rfl (by decide) (List.mem_of_getElem? (i := 3) rfl) rfl rfl ?_
  refine z_iflt hC 40 dX9_isBetween_22 (by decide) (by omega) (fun c_3 => by exfalso; omega) (fun c_3 => ?_)
  refine z_aload_n hC 0 dX9_isBetween_25 rfl rfl ?_
  refine z_get hC (T := TX9) (N := 41) hinX9 0 12 dX9_isBetween_26 rfl rfl (by decide) (List.mem_of_getElem? (i := 3) rfl) rfl rfl ?_
  refine z_aload_n hC 0 dX9_isBetween_29 rfl rfl ?_
  refine z_get hC (T := TX9) (N := 41) hinX9 0 7 dX9_isBetween_30 rfl rfl (by decide) (List.mem_of_getElem? (i := 2) rfl) rfl rfl ?_
  refine z_icgt hC 40 dX9_isBetween_33 (by decide) (by omega) (fun c_4 => by exfalso; omega) (fun c_4 => ?_)
  refine z_iconst hC dX9_isBetween_36 ?_
  refine z_goto hC 41 dX9_isBetween_37 (by decide) ?_
  exact z_zret hC hR dX9_isBetween_41 (by omega) (Nat.le_of_ble_eq_true rfl) (Nat.le_of_ble_eq_true rfl) ⟨1, rfl, rfl, by rfl⟩

set_option maxHeartbeats 4000000 in
set_option maxRecDepth 100000 in
theorem c_X9_inverse (l : Launch) (D : va_G) (K : ClassId × ClassId × ClassId × ClassId) (vv : Int) (hv : 0 ≤ vv ∧ vv < 998244353) : zMet l D K yX9_inverse wsX9_inverse ({ frames := 0, cells := 0, slots := 0, locals := 0 }) 0 0 [.long (zL (vv))] [] (fun vr_ wr_ => ∃ (r : Int), vr_ = some (.long (zL (r))) ∧ wr_ = [] ∧ (r = inv vv)) := by
  refine zMet_of (cc := cX9_inverse) (nL := 7) (ret := (some .long)) (by decide) rfl (Nat.le_of_ble_eq_true rfl) ?_
  rintro C rfl rfl rfl hC hR
  show ZW C 0 0 [] [(0, .long (zL (vv)))] 0 []
  refine z_lconst (v := 1) hC dX9_inverse_0 rfl ?_
  refine z_lstore_n hC [(2, .long (zL (1))), (0, .long (zL (vv)))] dX9_inverse_1 rfl (by decide) rfl ?_
  refine z_lload_n hC 1 dX9_inverse_2 rfl rfl ?_
  refine z_lstore hC [(4, .long (zL (vv))), (2, .long (zL (1))), (0, .long (zL (vv)))] dX9_inverse_3 (by decide) rfl ?_
  refine z_ldcw (v := 998244351) hC (List.mem_of_getElem? (i := 1) rfl) rfl dX9_inverse_5 ?_
  refine z_istore hC [(6, .int (zI (998244351))), (4, .long (zL (vv))), (2, .long (zL (1))), (0, .long (zL (vv)))] dX9_inverse_8 (by decide) rfl ?_
  refine z_lv (lv' := [(0, .long (zL (vv))), (2, .long (zL (1))), (4, .long (zL (vv))), (6, .int (zI (998244351)))]) [3, 2, 1, 0] rfl ?_
  have lp10_1 : ∀ (f3 : Nat) (q : Int) (p : Int) (e : Int), (0 ≤ e ∧ e < 998244353) → (0 ≤ p ∧ p < 998244353) → (0 ≤ q ∧ q < 998244353) → (∃ f : Nat, invI f p q e = inv vv ∧ e < 2 ^ f) → (e).toNat < f3 → ZW C 0 0 [] [(0, .long (zL (vv))), (2, .long (zL (q))), (4, .long (zL (p))), (6, .int (zI (e)))] 10 [] := by
    intro f3
    induction f3 with
    | zero => intro _ _ _ _ _ _ _ hf; exact absurd hf (Nat.not_lt_zero _)
    | succ f3 ih10_2 =>
      intro q p e ve vp vq0 vi hf_10
      refine z_iload hC 3 dX9_inverse_10 rfl ?_
      refine z_ifle hC 52 dX9_inverse_12 (by decide) (by omega) (fun c_4 => ?_) (fun c_4 => ?_)
      · skip
        refine z_lload_n hC 1 dX9_inverse_52 rfl rfl ?_
        exact z_lret hC hR dX9_inverse_53 (Nat.le_of_ble_eq_true rfl) (Nat.le_of_ble_eq_true rfl) ⟨q, rfl, rfl, by exact inv_e vi (by omega)⟩
      · skip
        have hp1 := mul_r vq0 vp
        have hp2 := mul_r vp vp
        have hp3 := mod_r (q * p)
        have hp4 := mod_r (p * p)
        refine z_iload hC 3 dX9_inverse_15 rfl ?_
        refine z_iconst hC dX9_inverse_17 ?_
        refine z_iand2 hC dX9_inverse_18 ?_
        refine z_iconst hC dX9_inverse_19 ?_
        refine z_icne hC 32 dX9_inverse_20 (by decide) (by omega) (fun c_5 => ?_) (fun c_5 => ?_)
        · skip
          refine z_lload hC 2 dX9_inverse_32 rfl ?_
          refine z_lload hC 2 dX9_inverse_34 rfl ?_
          refine z_lmul hC (p * p) dX9_inverse_36 rfl ?_
          refine z_ldc2 (v := 998244353) hC (List.mem_of_getElem? (i := 2) rfl) rfl dX9_inverse_37 ?_
          refine z_lrem hC ((p * p) % 998244353) dX9_inverse_40 (by omega) rfl ?_
          refine z_lstore hC [(4, .long (zL ((p * p) % 998244353))), (0, .long (zL (vv))), (2, .long (zL (q))), (6, .int (zI (e)))] dX9_inverse_41 (by decide) rfl ?_
          refine z_iload hC 3 dX9_inverse_43 rfl ?_
          refine z_iconst hC dX9_inverse_45 ?_
          refine z_ishr hC dX9_inverse_46 ?_
          refine z_topi (b := e / 2) (by exact zishr_1 (by omega)) ?_
          refine z_istore hC [(6, .int (zI (e / 2))), (4, .long (zL ((p * p) % 998244353))), (0, .long (zL (vv))), (2, .long (zL (q)))] dX9_inverse_47 (by decide) rfl ?_
          refine z_goto hC 10 dX9_inverse_49 (by decide) ?_
          refine z_lv (lv' := [(0, .long (zL (vv))), (2, .long (zL (q))), (4, .long (zL ((p * p) % 998244353))), (6, .int (zI (e / 2)))]) [2, 3, 1, 0] rfl ?_
          exact ih10_2 q ((p * p) % 998244353) (e / 2) (by omega) (by omega) (by omega) (by first | exact inv_s vi (by omega) (Or.inl ⟨by omega, rfl⟩) | exact inv_s vi (by omega) (Or.inr ⟨by omega, rfl⟩)) (by omega)
        · skip
          refine z_lload_n hC 1 dX9_inverse_23 rfl rfl ?_
          refine z_lload hC 2 dX9_inverse_24 rfl ?_
          refine z_lmul hC (q * p) dX9_inverse_26 rfl ?_
          refine z_ldc2 (v := 998244353) hC (List.mem_of_getElem? (i := 2) rfl) rfl dX9_inverse_27 ?_
          refine z_lrem hC ((q * p) % 998244353) dX9_inverse_30 (by omega) rfl ?_
          refine z_lstore_n hC [(2, .long (zL ((q * p) % 998244353))), (0, .long (zL (vv))), (4, .long (zL (p))), (6, .int (zI (e)))] dX9_inverse_31 rfl (by decide) rfl ?_
          refine z_lload hC 2 dX9_inverse_32 rfl ?_
          refine z_lload hC 2 dX9_inverse_34 rfl ?_
          refine z_lmul hC (p * p) dX9_inverse_36 rfl ?_
          refine z_ldc2 (v := 998244353) hC (List.mem_of_getElem? (i := 2) rfl) rfl dX9_inverse_37 ?_
          refine z_lrem hC ((p * p) % 998244353) dX9_inverse_40 (by omega) rfl ?_
          refine z_lstore hC [(4, .long (zL ((p * p) % 998244353))), (2, .long (zL ((q * p) % 998244353))), (0, .long (zL (vv))), (6, .int (zI (e)))] dX9_inverse_41 (by decide) rfl ?_
          refine z_iload hC 3 dX9_inverse_43 rfl ?_
          refine z_iconst hC dX9_inverse_45 ?_
          refine z_ishr hC dX9_inverse_46 ?_
          refine z_topi (b := e / 2) (by exact zishr_1 (by omega)) ?_
          refine z_istore hC [(6, .int (zI (e / 2))), (4, .long (zL ((p * p) % 998244353))), (2, .long (zL ((q * p) % 998244353))), (0, .long (zL (vv)))] dX9_inverse_47 (by decide) rfl ?_
          refine z_goto hC 10 dX9_inverse_49 (by decide) ?_
          refine z_lv (lv' := [(0, .long (zL (vv))), (2, .long (zL ((q * p) % 998244353))), (4, .long (zL ((p * p) % 998244353))), (6, .int (zI (e / 2)))]) [3, 2, 1, 0] rfl ?_
          exact ih10_2 ((q * p) % 998244353) ((p * p) % 998244353) (e / 2) (by omega) (by omega) (by omega) (by first | exact inv_s vi (by omega) (Or.inl ⟨by omega, rfl⟩) | exact inv_s vi (by omega) (Or.inr ⟨by omega, rfl⟩)) (by omega)
  exact lp10_1 _ 1 vv 998244351 (by omega) (by omega) (by omega) (by exact ⟨31, rfl, by decide⟩) (Nat.lt_succ_self _)

set_option maxHeartbeats 4000000 in
set_option maxRecDepth 100000 in
theorem c_X9_multiplyp (l : Launch) (D : va_G) (K : ClassId × ClassId × ClassId × ClassId) (m m_power m_by2 m_sheetSort m_sheetMany m_numbers m_dx m_dy m_weight m_isBarred m_walks m_one m_two m_light m_lightThen m_fromX m_fromY m_toX m_toY m_rule m_out m_grid m_heap m_ends m_product m_levels m_row m_then m_equations : Nat) (m_status m_thrown m_kind m_round m_ax m_bx m_family m_ruleMany m_outs : Int) (pw b2 pd : Int → Int) (aa : Nat) (bb : Nat) (hA : ∀ i j, 0 ≤ i → i ≤ 5 → 0 ≤ j → j ≤ 5 → pw (31 * i + j) = EX aa i j % 998244353) (hB : ∀ i j, 0 ≤ i → i ≤ 5 → 0 ≤ j → j ≤ 5 → b2 (31 * i + j) = EX bb i j % 998244353) : zMet l D K yX9_multiply wsX9_multiply ({ frames := 0, cells := 0, slots := 0, locals := 0 }) 0 0 [.ref m, .ref m_power, .ref m_by2, .ref m_power] [wO m 9 [.int (zI (m_status)), .int (zI (m_thrown)), .ref m_sheetSort, .ref m_sheetMany, .ref m_numbers, .int (zI (4)), .int (zI (m_kind)), .int (zI (5)), .int (zI (m_round)), .int (zI (m_ax)), .int (zI (0)), .int (zI (m_bx)), .int (zI (0)), .ref m_dx, .ref m_dy, .ref m_weight, .ref m_isBarred, .ref m_walks, .ref m_one, .ref m_two, .ref m_light, .ref m_lightThen, .int (zI (m_family)), .ref m_fromX, .ref m_fromY, .ref m_toX, .ref m_toY, .int (zI (m_ruleMany)), .ref m_rule, .ref m_out, .int (zI (m_outs)), .ref m_grid, .ref m_heap, .ref m_ends, .ref m_power, .ref m_by2, .ref m_product, .ref m_levels, .ref m_row, .ref m_then, .ref m_equations], wJ m_power K.2.2.1 961 pw, wJ m_by2 K.2.2.1 961 b2, wJ m_product K.2.2.1 961 pd] (fun vr_ wr_ => ∃ (w2 : Int → Int) (pd2 : Int → Int), vr_ = none ∧ wr_ = [wO m 9 [.int (zI (m_status)), .int (zI (m_thrown)), .ref m_sheetSort, .ref m_sheetMany, .ref m_numbers, .int (zI (4)), .int (zI (m_kind)), .int (zI (5)), .int (zI (m_round)), .int (zI (m_ax)), .int (zI (0)), .int (zI (m_bx)), .int (zI (0)), .ref m_dx, .ref m_dy, .ref m_weight, .ref m_isBarred, .ref m_walks, .ref m_one, .ref m_two, .ref m_light, .ref m_lightThen, .int (zI (m_family)), .ref m_fromX, .ref m_fromY, .ref m_toX, .ref m_toY, .int (zI (m_ruleMany)), .ref m_rule, .ref m_out, .int (zI (m_outs)), .ref m_grid, .ref m_heap, .ref m_ends, .ref m_power, .ref m_by2, .ref m_product, .ref m_levels, .ref m_row, .ref m_then, .ref m_equations], wJ m_power K.2.2.1 961 w2, wJ m_by2 K.2.2.1 961 b2, wJ m_product K.2.2.1 961 pd2] ∧ (∀ i j, 0 ≤ i → i ≤ 5 → 0 ≤ j → j ≤ 5 → w2 (31 * i + j) = EX (aa + bb) i j % 998244353)) := by
  refine zMet_of (cc := cX9_multiply) (nL := 10) (ret := none) (by decide) rfl (Nat.le_of_ble_eq_true rfl) ?_
  rintro C rfl rfl rfl hC hR
  have hinX9 : ∀ w ∈ u_ws RX9 TX9 41, w ∈ wsX9_multiply := by decide +kernel
  show ZW C 0 0 [wO m 9 [.int (zI (m_status)), .int (zI (m_thrown)), .ref m_sheetSort, .ref m_sheetMany, .ref m_numbers, .int (zI (4)), .int (zI (m_kind)), .int (zI (5)), .int (zI (m_round)), .int (zI (m_ax)), .int (zI (0)), .int (zI (m_bx)), .int (zI (0)), .ref m_dx, .ref m_dy, .ref m_weight, .ref m_isBarred, .ref m_walks, .ref m_one, .ref m_two, .ref m_light, .ref m_lightThen, .int (zI (m_family)), .ref m_fromX, .ref m_fromY, .ref m_toX, .ref m_toY, .int (zI (m_ruleMany)), .ref m_rule, .ref m_out, .int (zI (m_outs)), .ref m_grid, .ref m_heap, .ref m_ends, .ref m_power, .ref m_by2, .ref m_product, .ref m_levels, .ref m_row, .ref m_then, .ref m_equations], wJ m_power (zK C).2.2.1 961 pw, wJ m_by2 (zK C).2.2.1 961 b2, wJ m_product (zK C).2.2.1 961 pd] [(0, .ref m), (1, .ref m_power), (2, .ref m_by2), (3, .ref m_power)] 0 []
  refine z_aload_n hC 0 dX9_multiply_0 rfl rfl ?_
  refine z_get hC (T := TX9) (N := 41) hinX9 0 7 dX9_multiply_1 rfl rfl (by decide) (List.mem_of_getElem? (i := 1) rfl) rfl rfl ?_
  refine z_iconst hC dX9_multiply_4 ?_
  refine z_iadd hC (6) dX9_multiply_5 (by decide) ?_
  refine z_istore hC [(4, .int (zI (6))), (0, .ref m), (1, .ref m_power), (2, .ref m_by2), (3, .ref m_power)] dX9_multiply_6 (by decide) rfl ?_
  refine z_iconst hC dX9_multiply_8 ?_
  refine z_istore hC [(5, .int (zI (0))), (4, .int (zI (6))), (0, .ref m), (1, .ref m_power), (2, .ref m_by2), (3, .ref m_power)] dX9_multiply_9 (by decide) rfl ?_
  refine z_lv (lv' := [(0, .ref m), (1, .ref m_power), (2, .ref m_by2), (3, .ref m_power), (4, .int (zI (6))), (5, .int (zI (0)))]) [2, 3, 4, 5, 1, 0] rfl ?_
  have lp11_1 : ∀ (f3 : Nat) (i : Int) (q : Int → Int), (0 ≤ i ∧ i ≤ 6) → (∀ r c, 0 ≤ r → r < i → 0 ≤ c → c ≤ 5 → q (31 * r + c) = EX (aa + bb) r c % 998244353) → (6 - i).toNat < f3 → ZW C 0 0 [wO m 9 [.int (zI (m_status)), .int (zI (m_thrown)), .ref m_sheetSort, .ref m_sheetMany, .ref m_numbers, .int (zI (4)), .int (zI (m_kind)), .int (zI (5)), .int (zI (m_round)), .int (zI (m_ax)), .int (zI (0)), .int (zI (m_bx)), .int (zI (0)), .ref m_dx, .ref m_dy, .ref m_weight, .ref m_isBarred, .ref m_walks, .ref m_one, .ref m_two, .ref m_light, .ref m_lightThen, .int (zI (m_family)), .ref m_fromX, .ref m_fromY, .ref m_toX, .ref m_toY, .int (zI (m_ruleMany)), .ref m_rule, .ref m_out, .int (zI (m_outs)), .ref m_grid, .ref m_heap, .ref m_ends, .ref m_power, .ref m_by2, .ref m_product, .ref m_levels, .ref m_row, .ref m_then, .ref m_equations], wJ m_power (zK C).2.2.1 961 pw, wJ m_by2 (zK C).2.2.1 961 b2, wJ m_product (zK C).2.2.1 961 q] [(0, .ref m), (1, .ref m_power), (2, .ref m_by2), (3, .ref m_power), (4, .int (zI (6))), (5, .int (zI (i)))] 11 [] := by
    intro f3
    induction f3 with
    | zero => intro _ _ _ _ hf; exact absurd hf (Nat.not_lt_zero _)
    | succ f3 ih11_2 =>
      intro i q vi va hf_11
      refine z_iload hC 5 dX9_multiply_11 rfl ?_
      refine z_iload hC 4 dX9_multiply_13 rfl ?_
      refine z_icge hC 104 dX9_multiply_15 (by decide) (by omega) (fun c_4 => ?_) (fun c_4 => ?_)
      · skip
        refine z_iconst hC dX9_multiply_104 ?_
        refine z_istore hC [(5, .int (zI (0))), (0, .ref m), (1, .ref m_power), (2, .ref m_by2), (3, .ref m_power), (4, .int (zI (6)))] dX9_multiply_105 (by decide) rfl ?_
        refine z_lv (lv' := [(0, .ref m), (1, .ref m_power), (2, .ref m_by2), (3, .ref m_power), (4, .int (zI (6))), (5, .int (zI (0)))]) [1, 2, 3, 4, 5, 0] rfl ?_
        have lp107_5 : ∀ (f7 : Nat) (t : Int) (wq : Int → Int), (0 ≤ t ∧ t ≤ 961) → (∀ j, 0 ≤ j → j < t → wq j = q j) → (961 - t).toNat < f7 → ZW C 0 0 [wO m 9 [.int (zI (m_status)), .int (zI (m_thrown)), .ref m_sheetSort, .ref m_sheetMany, .ref m_numbers, .int (zI (4)), .int (zI (m_kind)), .int (zI (5)), .int (zI (m_round)), .int (zI (m_ax)), .int (zI (0)), .int (zI (m_bx)), .int (zI (0)), .ref m_dx, .ref m_dy, .ref m_weight, .ref m_isBarred, .ref m_walks, .ref m_one, .ref m_two, .ref m_light, .ref m_lightThen, .int (zI (m_family)), .ref m_fromX, .ref m_fromY, .ref m_toX, .ref m_toY, .int (zI (m_ruleMany)), .ref m_rule, .ref m_out, .int (zI (m_outs)), .ref m_grid, .ref m_heap, .ref m_ends, .ref m_power, .ref m_by2, .ref m_product, .ref m_levels, .ref m_row, .ref m_then, .ref m_equations], wJ m_power (zK C).2.2.1 961 wq, wJ m_by2 (zK C).2.2.1 961 b2, wJ m_product (zK C).2.2.1 961 q] [(0, .ref m), (1, .ref m_power), (2, .ref m_by2), (3, .ref m_power), (4, .int (zI (6))), (5, .int (zI (t)))] 107 [] := by
          intro f7
          induction f7 with
          | zero => intro _ _ _ _ hf; exact absurd hf (Nat.not_lt_zero _)
          | succ f7 ih107_6 =>
            intro t wq vt vw hf_107
            refine z_iload hC 5 dX9_multiply_107 rfl ?_
            refine z_sipush hC dX9_multiply_109 (by decide) ?_
            refine z_icge hC 132 dX9_multiply_112 (by decide) (by omega) (fun c_8 => ?_) (fun c_8 => ?_)
            · skip
              exact z_vret hC hR dX9_multiply_132 (Nat.le_of_ble_eq_true rfl) (Nat.le_of_ble_eq_true rfl) ⟨wq, q, rfl, rfl, by intro r c r0 r1 c0 c1; rw [vw _ (by omega) (by omega)]; exact va r c r0 (by omega) c0 c1⟩
            · skip
              refine z_aload_n hC 3 dX9_multiply_115 rfl rfl ?_
              refine z_iload hC 5 dX9_multiply_116 rfl ?_
              refine z_aload_n hC 0 dX9_multiply_118 rfl rfl ?_
              refine z_get hC (T := TX9) (N := 41) hinX9 0 36 dX9_multiply_119 rfl rfl (by decide) (List.mem_of_getElem? (i := 3) rfl) rfl rfl ?_
              refine z_iload hC 5 dX9_multiply_122 rfl ?_
              refine z_lald hC 3 dX9_multiply_124 rfl (by omega) ?_
              refine z_last hC 1 [wO m 9 [.int (zI (m_status)), .int (zI (m_thrown)), .ref m_sheetSort, .ref m_sheetMany, .ref m_numbers, .int (zI (4)), .int (zI (m_kind)), .int (zI (5)), .int (zI (m_round)), .int (zI (m_ax)), .int (zI (0)), .int (zI (m_bx)), .int (zI (0)), .ref m_dx, .ref m_dy, .ref m_weight, .ref m_isBarred, .ref m_walks, .ref m_one, .ref m_two, .ref m_light, .ref m_lightThen, .int (zI (m_family)), .ref m_fromX, .ref m_fromY, .ref m_toX, .ref m_toY, .int (zI (m_ruleMany)), .ref m_rule, .ref m_out, .int (zI (m_outs)), .ref m_grid, .ref m_heap, .ref m_ends, .ref m_power, .ref m_by2, .ref m_product, .ref m_levels, .ref m_row, .ref m_then, .ref m_equations], wJ m_power (zK C).2.2.1 961 (zu wq t (q t)), wJ m_by2 (zK C).2.2.1 961 b2, wJ m_product (zK C).2.2.1 961 q] dX9_multiply_125 rfl (by omega) rfl ?_
              refine z_iinc (a := t) (v := 1) (r := t + 1) hC 5 [(5, .int (zI (t + 1))), (0, .ref m), (1, .ref m_power), (2, .ref m_by2), (3, .ref m_power), (4, .int (zI (6)))] dX9_multiply_126 rfl rfl (by decide) rfl ?_
              refine z_goto hC 107 dX9_multiply_129 (by decide) ?_
              refine z_lv (lv' := [(0, .ref m), (1, .ref m_power), (2, .ref m_by2), (3, .ref m_power), (4, .int (zI (6))), (5, .int (zI (t + 1)))]) [1, 2, 3, 4, 5, 0] rfl ?_
              exact ih107_6 (t + 1) (zu wq t (q t)) (by omega) (by intro j a b; unfold zu; by_cases e : j = t; (rw [if_pos e, e]); (rw [if_neg e]; exact vw j a (by omega))) (by omega)
        exact lp107_5 _ 0 pw (by omega) (by intro j a b; omega) (Nat.lt_succ_self _)
      · skip
        refine z_iconst hC dX9_multiply_18 ?_
        refine z_istore hC [(6, .int (zI (0))), (0, .ref m), (1, .ref m_power), (2, .ref m_by2), (3, .ref m_power), (4, .int (zI (6))), (5, .int (zI (i)))] dX9_multiply_19 (by decide) rfl ?_
        refine z_lv (lv' := [(0, .ref m), (1, .ref m_power), (2, .ref m_by2), (3, .ref m_power), (4, .int (zI (6))), (5, .int (zI (i))), (6, .int (zI (0)))]) [1, 2, 3, 4, 5, 6, 0] rfl ?_
        have lp21_9 : ∀ (f11 : Nat) (j : Int) (q2 : Int → Int), (0 ≤ j ∧ j ≤ 6) → (∀ r c, 0 ≤ r → r < i → 0 ≤ c → c ≤ 5 → q2 (31 * r + c) = EX (aa + bb) r c % 998244353) → (∀ c, 0 ≤ c → c < j → q2 (31 * i + c) = EX (aa + bb) i c % 998244353) → (6 - j).toNat < f11 → ZW C 0 0 [wO m 9 [.int (zI (m_status)), .int (zI (m_thrown)), .ref m_sheetSort, .ref m_sheetMany, .ref m_numbers, .int (zI (4)), .int (zI (m_kind)), .int (zI (5)), .int (zI (m_round)), .int (zI (m_ax)), .int (zI (0)), .int (zI (m_bx)), .int (zI (0)), .ref m_dx, .ref m_dy, .ref m_weight, .ref m_isBarred, .ref m_walks, .ref m_one, .ref m_two, .ref m_light, .ref m_lightThen, .int (zI (m_family)), .ref m_fromX, .ref m_fromY, .ref m_toX, .ref m_toY, .int (zI (m_ruleMany)), .ref m_rule, .ref m_out, .int (zI (m_outs)), .ref m_grid, .ref m_heap, .ref m_ends, .ref m_power, .ref m_by2, .ref m_product, .ref m_levels, .ref m_row, .ref m_then, .ref m_equations], wJ m_power (zK C).2.2.1 961 pw, wJ m_by2 (zK C).2.2.1 961 b2, wJ m_product (zK C).2.2.1 961 q2] [(0, .ref m), (1, .ref m_power), (2, .ref m_by2), (3, .ref m_power), (4, .int (zI (6))), (5, .int (zI (i))), (6, .int (zI (j)))] 21 [] := by
          intro f11
          induction f11 with
          | zero => intro _ _ _ _ _ hf; exact absurd hf (Nat.not_lt_zero _)
          | succ f11 ih21_10 =>
            intro j q2 vj va2 vc2 hf_21
            refine z_iload hC 6 dX9_multiply_21 rfl ?_
            refine z_iload hC 4 dX9_multiply_23 rfl ?_
            refine z_icge hC 98 dX9_multiply_25 (by decide) (by omega) (fun c_12 => ?_) (fun c_12 => ?_)
            · skip
              refine z_iinc (a := i) (v := 1) (r := i + 1) hC 5 [(5, .int (zI (i + 1))), (0, .ref m), (1, .ref m_power), (2, .ref m_by2), (3, .ref m_power), (4, .int (zI (6))), (6, .int (zI (j)))] dX9_multiply_98 rfl rfl (by decide) rfl ?_
              refine z_goto hC 11 dX9_multiply_101 (by decide) ?_
              refine z_lv (lv' := [(0, .ref m), (1, .ref m_power), (2, .ref m_by2), (3, .ref m_power), (4, .int (zI (6))), (5, .int (zI (i + 1)))]) [1, 2, 3, 4, 5, 0] rfl ?_
              exact ih11_2 (i + 1) q2 (by omega) (by intro r c r0 r1 c0 c1; by_cases e : r = i; (rw [e]; exact vc2 c c0 (by omega)); exact va2 r c r0 (by omega) c0 c1) (by omega)
            · skip
              refine z_lconst (v := 0) hC dX9_multiply_28 rfl ?_
              refine z_lstore hC [(7, .long (zL (0))), (0, .ref m), (1, .ref m_power), (2, .ref m_by2), (3, .ref m_power), (4, .int (zI (6))), (5, .int (zI (i))), (6, .int (zI (j)))] dX9_multiply_29 (by decide) rfl ?_
              refine z_iconst hC dX9_multiply_31 ?_
              refine z_istore hC [(9, .int (zI (0))), (7, .long (zL (0))), (0, .ref m), (1, .ref m_power), (2, .ref m_by2), (3, .ref m_power), (4, .int (zI (6))), (5, .int (zI (i))), (6, .int (zI (j)))] dX9_multiply_32 (by decide) rfl ?_
              refine z_lv (lv' := [(0, .ref m), (1, .ref m_power), (2, .ref m_by2), (3, .ref m_power), (4, .int (zI (6))), (5, .int (zI (i))), (6, .int (zI (j))), (7, .long (zL (0))), (9, .int (zI (0)))]) [2, 3, 4, 5, 6, 7, 8, 1, 0] rfl ?_
              have lp34_13 : ∀ (f15 : Nat) (al : Int) (k : Int), (0 ≤ k ∧ k ≤ 6) → (al = sumZ (fun k => pw (31 * i + k) * b2 (31 * k + j)) k.toNat % 998244353) → (0 ≤ al ∧ al < 998244353) → (6 - k).toNat < f15 → ZW C 0 0 [wO m 9 [.int (zI (m_status)), .int (zI (m_thrown)), .ref m_sheetSort, .ref m_sheetMany, .ref m_numbers, .int (zI (4)), .int (zI (m_kind)), .int (zI (5)), .int (zI (m_round)), .int (zI (m_ax)), .int (zI (0)), .int (zI (m_bx)), .int (zI (0)), .ref m_dx, .ref m_dy, .ref m_weight, .ref m_isBarred, .ref m_walks, .ref m_one, .ref m_two, .ref m_light, .ref m_lightThen, .int (zI (m_family)), .ref m_fromX, .ref m_fromY, .ref m_toX, .ref m_toY, .int (zI (m_ruleMany)), .ref m_rule, .ref m_out, .int (zI (m_outs)), .ref m_grid, .ref m_heap, .ref m_ends, .ref m_power, .ref m_by2, .ref m_product, .ref m_levels, .ref m_row, .ref m_then, .ref m_equations], wJ m_power (zK C).2.2.1 961 pw, wJ m_by2 (zK C).2.2.1 961 b2, wJ m_product (zK C).2.2.1 961 q2] [(0, .ref m), (1, .ref m_power), (2, .ref m_by2), (3, .ref m_power), (4, .int (zI (6))), (5, .int (zI (i))), (6, .int (zI (j))), (7, .long (zL (al))), (9, .int (zI (k)))] 34 [] := by
                intro f15
                induction f15 with
                | zero => intro _ _ _ _ _ hf; exact absurd hf (Nat.not_lt_zero _)
                | succ f15 ih34_14 =>
                  intro al k vk val var hf_34
                  refine z_iload hC 8 dX9_multiply_34 rfl ?_
                  refine z_iload hC 4 dX9_multiply_36 rfl ?_
                  refine z_icge hC 77 dX9_multiply_38 (by decide) (by omega) (fun c_16 => ?_) (fun c_16 => ?_)
                  · skip
                    refine z_aload_n hC 0 dX9_multiply_77 rfl rfl ?_
                    refine z_get hC (T := TX9) (N := 41) hinX9 0 36 dX9_multiply_78 rfl rfl (by decide) (List.mem_of_getElem? (i := 3) rfl) rfl rfl ?_
                    refine z_bipush hC dX9_multiply_81 (by decide) ?_
                    refine z_iload hC 5 dX9_multiply_83 rfl ?_
                    refine z_imul hC (31 * i) dX9_multiply_85 rfl ?_
                    refine z_iload hC 6 dX9_multiply_86 rfl ?_
                    refine z_iadd hC ((31 * i) + j) dX9_multiply_88 rfl ?_
                    refine z_lload hC 7 dX9_multiply_89 rfl ?_
                    refine z_last hC 3 [wO m 9 [.int (zI (m_status)), .int (zI (m_thrown)), .ref m_sheetSort, .ref m_sheetMany, .ref m_numbers, .int (zI (4)), .int (zI (m_kind)), .int (zI (5)), .int (zI (m_round)), .int (zI (m_ax)), .int (zI (0)), .int (zI (m_bx)), .int (zI (0)), .ref m_dx, .ref m_dy, .ref m_weight, .ref m_isBarred, .ref m_walks, .ref m_one, .ref m_two, .ref m_light, .ref m_lightThen, .int (zI (m_family)), .ref m_fromX, .ref m_fromY, .ref m_toX, .ref m_toY, .int (zI (m_ruleMany)), .ref m_rule, .ref m_out, .int (zI (m_outs)), .ref m_grid, .ref m_heap, .ref m_ends, .ref m_power, .ref m_by2, .ref m_product, .ref m_levels, .ref m_row, .ref m_then, .ref m_equations], wJ m_power (zK C).2.2.1 961 pw, wJ m_by2 (zK C).2.2.1 961 b2, wJ m_product (zK C).2.2.1 961 (zu q2 ((31 * i) + j) al)] dX9_multiply_91 rfl (by omega) rfl ?_
                    refine z_iinc (a := j) (v := 1) (r := j + 1) hC 6 [(6, .int (zI (j + 1))), (0, .ref m), (1, .ref m_power), (2, .ref m_by2), (3, .ref m_power), (4, .int (zI (6))), (5, .int (zI (i))), (7, .long (zL (al))), (9, .int (zI (k)))] dX9_multiply_92 rfl rfl (by decide) rfl ?_
                    refine z_goto hC 21 dX9_multiply_95 (by decide) ?_
                    refine z_lv (lv' := [(0, .ref m), (1, .ref m_power), (2, .ref m_by2), (3, .ref m_power), (4, .int (zI (6))), (5, .int (zI (i))), (6, .int (zI (j + 1)))]) [1, 2, 3, 4, 5, 6, 0] rfl ?_
                    exact ih21_10 (j + 1) (zu q2 ((31 * i) + j) al) (by omega) (by intro r c r0 r1 c0 c1; unfold zu; rw [if_neg (by omega)]; exact va2 r c r0 r1 c0 c1) (by intro c c0 c1; unfold zu; by_cases e : c = j; (rw [if_pos (by omega), e, val, show k = 6 by omega]; exact mat_sum (A := fun k => pw (31 * i + k)) (B := fun k => b2 (31 * k + j)) (by omega) (fun k k0 k1 => hA i k (by omega) (by omega) k0 k1) (fun k k0 k1 => hB k j k0 k1 (by omega) (by omega))); (rw [if_neg (by omega)]; exact vc2 c c0 (by omega))) (by omega)
                  · skip
                    have hq1 : 0 ≤ pw (31 * i + k) ∧ pw (31 * i + k) < 998244353 := by rw [hA i k (by omega) (by omega) (by omega) (by omega)]; exact mod_r _
                    have hq2 : 0 ≤ b2 (31 * k + j) ∧ b2 (31 * k + j) < 998244353 := by rw [hB k j (by omega) (by omega) (by omega) (by omega)]; exact mod_r _
                    have hq3 := mul_r hq1 hq2
                    refine z_lload hC 7 dX9_multiply_41 rfl ?_
                    refine z_aload_n hC 1 dX9_multiply_43 rfl rfl ?_
                    refine z_bipush hC dX9_multiply_44 (by decide) ?_
                    refine z_iload hC 5 dX9_multiply_46 rfl ?_
                    refine z_imul hC (31 * i) dX9_multiply_48 rfl ?_
                    refine z_iload hC 8 dX9_multiply_49 rfl ?_
                    refine z_iadd hC ((31 * i) + k) dX9_multiply_51 rfl ?_
                    refine z_lald hC 1 dX9_multiply_52 rfl (by omega) ?_
                    refine z_aload_n hC 2 dX9_multiply_53 rfl rfl ?_
                    refine z_bipush hC dX9_multiply_54 (by decide) ?_
                    refine z_iload hC 8 dX9_multiply_56 rfl ?_
                    refine z_imul hC (31 * k) dX9_multiply_58 rfl ?_
                    refine z_iload hC 6 dX9_multiply_59 rfl ?_
                    refine z_iadd hC ((31 * k) + j) dX9_multiply_61 rfl ?_
                    refine z_lald hC 2 dX9_multiply_62 rfl (by omega) ?_
                    refine z_lmul hC ((pw ((31 * i) + k)) * (b2 ((31 * k) + j))) dX9_multiply_63 rfl ?_
                    refine z_ladd hC (al + ((pw ((31 * i) + k)) * (b2 ((31 * k) + j)))) dX9_multiply_64 rfl ?_
                    refine z_ldc2 (v := 998244353) hC (List.mem_of_getElem? (i := 2) rfl) rfl dX9_multiply_65 ?_
                    refine z_lrem hC ((al + ((pw ((31 * i) + k)) * (b2 ((31 * k) + j)))) % 998244353) dX9_multiply_68 (by omega) rfl ?_
                    refine z_lstore hC [(7, .long (zL ((al + ((pw ((31 * i) + k)) * (b2 ((31 * k) + j)))) % 998244353))), (0, .ref m), (1, .ref m_power), (2, .ref m_by2), (3, .ref m_power), (4, .int (zI (6))), (5, .int (zI (i))), (6, .int (zI (j))), (9, .int (zI (k)))] dX9_multiply_69 (by decide) rfl ?_
                    refine z_iinc (a := k) (v := 1) (r := k + 1) hC 8 [(9, .int (zI (k + 1))), (7, .long (zL ((al + ((pw ((31 * i) + k)) * (b2 ((31 * k) + j)))) % 998244353))), (0, .ref m), (1, .ref m_power), (2, .ref m_by2), (3, .ref m_power), (4, .int (zI (6))), (5, .int (zI (i))), (6, .int (zI (j)))] dX9_multiply_71 rfl rfl (by decide) rfl ?_
                    refine z_goto hC 34 dX9_multiply_74 (by decide) ?_
                    refine z_lv (lv' := [(0, .ref m), (1, .ref m_power), (2, .ref m_by2), (3, .ref m_power), (4, .int (zI (6))), (5, .int (zI (i))), (6, .int (zI (j))), (7, .long (zL ((al + ((pw ((31 * i) + k)) * (b2 ((31 * k) + j)))) % 998244353))), (9, .int (zI (k + 1)))]) [2, 3, 4, 5, 6, 7, 8, 1, 0] rfl ?_
                    exact ih34_14 ((al + ((pw ((31 * i) + k)) * (b2 ((31 * k) + j)))) % 998244353) (k + 1) (by omega) (by rw [sumZ_s (by omega), val]; omega) (by exact mod_r _) (by omega)
              exact lp34_13 _ 0 0 (by omega) (by rfl) (by omega) (Nat.lt_succ_self _)
        exact lp21_9 _ 0 q (by omega) (by exact va) (by intro c c0 c1; omega) (Nat.lt_succ_self _)
  exact lp11_1 _ 0 pd (by omega) (by intro r c r0 r1; omega) (Nat.lt_succ_self _)

set_option maxHeartbeats 4000000 in
set_option maxRecDepth 100000 in
theorem c_X9_multiplyb (l : Launch) (D : va_G) (K : ClassId × ClassId × ClassId × ClassId) (m m_by2 m_sheetSort m_sheetMany m_numbers m_dx m_dy m_weight m_isBarred m_walks m_one m_two m_light m_lightThen m_fromX m_fromY m_toX m_toY m_rule m_out m_grid m_heap m_ends m_power m_product m_levels m_row m_then m_equations : Nat) (m_status m_thrown m_kind m_round m_ax m_bx m_family m_ruleMany m_outs : Int) (b2 pd : Int → Int) (bb : Nat) (hB : ∀ i j, 0 ≤ i → i ≤ 5 → 0 ≤ j → j ≤ 5 → b2 (31 * i + j) = EX bb i j % 998244353) : zMet l D K yX9_multiply wsX9_multiply ({ frames := 0, cells := 0, slots := 0, locals := 0 }) 0 0 [.ref m, .ref m_by2, .ref m_by2, .ref m_by2] [wO m 9 [.int (zI (m_status)), .int (zI (m_thrown)), .ref m_sheetSort, .ref m_sheetMany, .ref m_numbers, .int (zI (4)), .int (zI (m_kind)), .int (zI (5)), .int (zI (m_round)), .int (zI (m_ax)), .int (zI (0)), .int (zI (m_bx)), .int (zI (0)), .ref m_dx, .ref m_dy, .ref m_weight, .ref m_isBarred, .ref m_walks, .ref m_one, .ref m_two, .ref m_light, .ref m_lightThen, .int (zI (m_family)), .ref m_fromX, .ref m_fromY, .ref m_toX, .ref m_toY, .int (zI (m_ruleMany)), .ref m_rule, .ref m_out, .int (zI (m_outs)), .ref m_grid, .ref m_heap, .ref m_ends, .ref m_power, .ref m_by2, .ref m_product, .ref m_levels, .ref m_row, .ref m_then, .ref m_equations], wJ m_by2 K.2.2.1 961 b2, wJ m_product K.2.2.1 961 pd] (fun vr_ wr_ => ∃ (w2 : Int → Int) (pd2 : Int → Int), vr_ = none ∧ wr_ = [wO m 9 [.int (zI (m_status)), .int (zI (m_thrown)), .ref m_sheetSort, .ref m_sheetMany, .ref m_numbers, .int (zI (4)), .int (zI (m_kind)), .int (zI (5)), .int (zI (m_round)), .int (zI (m_ax)), .int (zI (0)), .int (zI (m_bx)), .int (zI (0)), .ref m_dx, .ref m_dy, .ref m_weight, .ref m_isBarred, .ref m_walks, .ref m_one, .ref m_two, .ref m_light, .ref m_lightThen, .int (zI (m_family)), .ref m_fromX, .ref m_fromY, .ref m_toX, .ref m_toY, .int (zI (m_ruleMany)), .ref m_rule, .ref m_out, .int (zI (m_outs)), .ref m_grid, .ref m_heap, .ref m_ends, .ref m_power, .ref m_by2, .ref m_product, .ref m_levels, .ref m_row, .ref m_then, .ref m_equations], wJ m_by2 K.2.2.1 961 w2, wJ m_product K.2.2.1 961 pd2] ∧ (∀ i j, 0 ≤ i → i ≤ 5 → 0 ≤ j → j ≤ 5 → w2 (31 * i + j) = EX (bb + bb) i j % 998244353)) := by
  refine zMet_of (cc := cX9_multiply) (nL := 10) (ret := none) (by decide) rfl (Nat.le_of_ble_eq_true rfl) ?_
  rintro C rfl rfl rfl hC hR
  have hinX9 : ∀ w ∈ u_ws RX9 TX9 41, w ∈ wsX9_multiply := by decide +kernel
  show ZW C 0 0 [wO m 9 [.int (zI (m_status)), .int (zI (m_thrown)), .ref m_sheetSort, .ref m_sheetMany, .ref m_numbers, .int (zI (4)), .int (zI (m_kind)), .int (zI (5)), .int (zI (m_round)), .int (zI (m_ax)), .int (zI (0)), .int (zI (m_bx)), .int (zI (0)), .ref m_dx, .ref m_dy, .ref m_weight, .ref m_isBarred, .ref m_walks, .ref m_one, .ref m_two, .ref m_light, .ref m_lightThen, .int (zI (m_family)), .ref m_fromX, .ref m_fromY, .ref m_toX, .ref m_toY, .int (zI (m_ruleMany)), .ref m_rule, .ref m_out, .int (zI (m_outs)), .ref m_grid, .ref m_heap, .ref m_ends, .ref m_power, .ref m_by2, .ref m_product, .ref m_levels, .ref m_row, .ref m_then, .ref m_equations], wJ m_by2 (zK C).2.2.1 961 b2, wJ m_product (zK C).2.2.1 961 pd] [(0, .ref m), (1, .ref m_by2), (2, .ref m_by2), (3, .ref m_by2)] 0 []
  refine z_aload_n hC 0 dX9_multiply_0 rfl rfl ?_
  refine z_get hC (T := TX9) (N := 41) hinX9 0 7 dX9_multiply_1 rfl rfl (by decide) (List.mem_of_getElem? (i := 1) rfl) rfl rfl ?_
  refine z_iconst hC dX9_multiply_4 ?_
  refine z_iadd hC (6) dX9_multiply_5 (by decide) ?_
  refine z_istore hC [(4, .int (zI (6))), (0, .ref m), (1, .ref m_by2), (2, .ref m_by2), (3, .ref m_by2)] dX9_multiply_6 (by decide) rfl ?_
  refine z_iconst hC dX9_multiply_8 ?_
  refine z_istore hC [(5, .int (zI (0))), (4, .int (zI (6))), (0, .ref m), (1, .ref m_by2), (2, .ref m_by2), (3, .ref m_by2)] dX9_multiply_9 (by decide) rfl ?_
  refine z_lv (lv' := [(0, .ref m), (1, .ref m_by2), (2, .ref m_by2), (3, .ref m_by2), (4, .int (zI (6))), (5, .int (zI (0)))]) [2, 3, 4, 5, 1, 0] rfl ?_
  have lp11_1 : ∀ (f3 : Nat) (i : Int) (q : Int → Int), (0 ≤ i ∧ i ≤ 6) → (∀ r c, 0 ≤ r → r < i → 0 ≤ c → c ≤ 5 → q (31 * r + c) = EX (bb + bb) r c % 998244353) → (6 - i).toNat < f3 → ZW C 0 0 [wO m 9 [.int (zI (m_status)), .int (zI (m_thrown)), .ref m_sheetSort, .ref m_sheetMany, .ref m_numbers, .int (zI (4)), .int (zI (m_kind)), .int (zI (5)), .int (zI (m_round)), .int (zI (m_ax)), .int (zI (0)), .int (zI (m_bx)), .int (zI (0)), .ref m_dx, .ref m_dy, .ref m_weight, .ref m_isBarred, .ref m_walks, .ref m_one, .ref m_two, .ref m_light, .ref m_lightThen, .int (zI (m_family)), .ref m_fromX, .ref m_fromY, .ref m_toX, .ref m_toY, .int (zI (m_ruleMany)), .ref m_rule, .ref m_out, .int (zI (m_outs)), .ref m_grid, .ref m_heap, .ref m_ends, .ref m_power, .ref m_by2, .ref m_product, .ref m_levels, .ref m_row, .ref m_then, .ref m_equations], wJ m_by2 (zK C).2.2.1 961 b2, wJ m_product (zK C).2.2.1 961 q] [(0, .ref m), (1, .ref m_by2), (2, .ref m_by2), (3, .ref m_by2), (4, .int (zI (6))), (5, .int (zI (i)))] 11 [] := by
    intro f3
    induction f3 with
    | zero => intro _ _ _ _ hf; exact absurd hf (Nat.not_lt_zero _)
    | succ f3 ih11_2 =>
      intro i q vi va hf_11
      refine z_iload hC 5 dX9_multiply_11 rfl ?_
      refine z_iload hC 4 dX9_multiply_13 rfl ?_
      refine z_icge hC 104 dX9_multiply_15 (by decide) (by omega) (fun c_4 => ?_) (fun c_4 => ?_)
      · skip
        refine z_iconst hC dX9_multiply_104 ?_
        refine z_istore hC [(5, .int (zI (0))), (0, .ref m), (1, .ref m_by2), (2, .ref m_by2), (3, .ref m_by2), (4, .int (zI (6)))] dX9_multiply_105 (by decide) rfl ?_
        refine z_lv (lv' := [(0, .ref m), (1, .ref m_by2), (2, .ref m_by2), (3, .ref m_by2), (4, .int (zI (6))), (5, .int (zI (0)))]) [1, 2, 3, 4, 5, 0] rfl ?_
        have lp107_5 : ∀ (f7 : Nat) (t : Int) (wq : Int → Int), (0 ≤ t ∧ t ≤ 961) → (∀ j, 0 ≤ j → j < t → wq j = q j) → (961 - t).toNat < f7 → ZW C 0 0 [wO m 9 [.int (zI (m_status)), .int (zI (m_thrown)), .ref m_sheetSort, .ref m_sheetMany, .ref m_numbers, .int (zI (4)), .int (zI (m_kind)), .int (zI (5)), .int (zI (m_round)), .int (zI (m_ax)), .int (zI (0)), .int (zI (m_bx)), .int (zI (0)), .ref m_dx, .ref m_dy, .ref m_weight, .ref m_isBarred, .ref m_walks, .ref m_one, .ref m_two, .ref m_light, .ref m_lightThen, .int (zI (m_family)), .ref m_fromX, .ref m_fromY, .ref m_toX, .ref m_toY, .int (zI (m_ruleMany)), .ref m_rule, .ref m_out, .int (zI (m_outs)), .ref m_grid, .ref m_heap, .ref m_ends, .ref m_power, .ref m_by2, .ref m_product, .ref m_levels, .ref m_row, .ref m_then, .ref m_equations], wJ m_by2 (zK C).2.2.1 961 wq, wJ m_product (zK C).2.2.1 961 q] [(0, .ref m), (1, .ref m_by2), (2, .ref m_by2), (3, .ref m_by2), (4, .int (zI (6))), (5, .int (zI (t)))] 107 [] := by
          intro f7
          induction f7 with
          | zero => intro _ _ _ _ hf; exact absurd hf (Nat.not_lt_zero _)
          | succ f7 ih107_6 =>
            intro t wq vt vw hf_107
            refine z_iload hC 5 dX9_multiply_107 rfl ?_
            refine z_sipush hC dX9_multiply_109 (by decide) ?_
            refine z_icge hC 132 dX9_multiply_112 (by decide) (by omega) (fun c_8 => ?_) (fun c_8 => ?_)
            · skip
              exact z_vret hC hR dX9_multiply_132 (Nat.le_of_ble_eq_true rfl) (Nat.le_of_ble_eq_true rfl) ⟨wq, q, rfl, rfl, by intro r c r0 r1 c0 c1; rw [vw _ (by omega) (by omega)]; exact va r c r0 (by omega) c0 c1⟩
            · skip
              refine z_aload_n hC 3 dX9_multiply_115 rfl rfl ?_
              refine z_iload hC 5 dX9_multiply_116 rfl ?_
              refine z_aload_n hC 0 dX9_multiply_118 rfl rfl ?_
              refine z_get hC (T := TX9) (N := 41) hinX9 0 36 dX9_multiply_119 rfl rfl (by decide) (List.mem_of_getElem? (i := 3) rfl) rfl rfl ?_
              refine z_iload hC 5 dX9_multiply_122 rfl ?_
              refine z_lald hC 2 dX9_multiply_124 rfl (by omega) ?_
              refine z_last hC 1 [wO m 9 [.int (zI (m_status)), .int (zI (m_thrown)), .ref m_sheetSort, .ref m_sheetMany, .ref m_numbers, .int (zI (4)), .int (zI (m_kind)), .int (zI (5)), .int (zI (m_round)), .int (zI (m_ax)), .int (zI (0)), .int (zI (m_bx)), .int (zI (0)), .ref m_dx, .ref m_dy, .ref m_weight, .ref m_isBarred, .ref m_walks, .ref m_one, .ref m_two, .ref m_light, .ref m_lightThen, .int (zI (m_family)), .ref m_fromX, .ref m_fromY, .ref m_toX, .ref m_toY, .int (zI (m_ruleMany)), .ref m_rule, .ref m_out, .int (zI (m_outs)), .ref m_grid, .ref m_heap, .ref m_ends, .ref m_power, .ref m_by2, .ref m_product, .ref m_levels, .ref m_row, .ref m_then, .ref m_equations], wJ m_by2 (zK C).2.2.1 961 (zu wq t (q t)), wJ m_product (zK C).2.2.1 961 q] dX9_multiply_125 rfl (by omega) rfl ?_
              refine z_iinc (a := t) (v := 1) (r := t + 1) hC 5 [(5, .int (zI (t + 1))), (0, .ref m), (1, .ref m_by2), (2, .ref m_by2), (3, .ref m_by2), (4, .int (zI (6)))] dX9_multiply_126 rfl rfl (by decide) rfl ?_
              refine z_goto hC 107 dX9_multiply_129 (by decide) ?_
              refine z_lv (lv' := [(0, .ref m), (1, .ref m_by2), (2, .ref m_by2), (3, .ref m_by2), (4, .int (zI (6))), (5, .int (zI (t + 1)))]) [1, 2, 3, 4, 5, 0] rfl ?_
              exact ih107_6 (t + 1) (zu wq t (q t)) (by omega) (by intro j a b; unfold zu; by_cases e : j = t; (rw [if_pos e, e]); (rw [if_neg e]; exact vw j a (by omega))) (by omega)
        exact lp107_5 _ 0 b2 (by omega) (by intro j a b; omega) (Nat.lt_succ_self _)
      · skip
        refine z_iconst hC dX9_multiply_18 ?_
        refine z_istore hC [(6, .int (zI (0))), (0, .ref m), (1, .ref m_by2), (2, .ref m_by2), (3, .ref m_by2), (4, .int (zI (6))), (5, .int (zI (i)))] dX9_multiply_19 (by decide) rfl ?_
        refine z_lv (lv' := [(0, .ref m), (1, .ref m_by2), (2, .ref m_by2), (3, .ref m_by2), (4, .int (zI (6))), (5, .int (zI (i))), (6, .int (zI (0)))]) [1, 2, 3, 4, 5, 6, 0] rfl ?_
        have lp21_9 : ∀ (f11 : Nat) (j : Int) (q2 : Int → Int), (0 ≤ j ∧ j ≤ 6) → (∀ r c, 0 ≤ r → r < i → 0 ≤ c → c ≤ 5 → q2 (31 * r + c) = EX (bb + bb) r c % 998244353) → (∀ c, 0 ≤ c → c < j → q2 (31 * i + c) = EX (bb + bb) i c % 998244353) → (6 - j).toNat < f11 → ZW C 0 0 [wO m 9 [.int (zI (m_status)), .int (zI (m_thrown)), .ref m_sheetSort, .ref m_sheetMany, .ref m_numbers, .int (zI (4)), .int (zI (m_kind)), .int (zI (5)), .int (zI (m_round)), .int (zI (m_ax)), .int (zI (0)), .int (zI (m_bx)), .int (zI (0)), .ref m_dx, .ref m_dy, .ref m_weight, .ref m_isBarred, .ref m_walks, .ref m_one, .ref m_two, .ref m_light, .ref m_lightThen, .int (zI (m_family)), .ref m_fromX, .ref m_fromY, .ref m_toX, .ref m_toY, .int (zI (m_ruleMany)), .ref m_rule, .ref m_out, .int (zI (m_outs)), .ref m_grid, .ref m_heap, .ref m_ends, .ref m_power, .ref m_by2, .ref m_product, .ref m_levels, .ref m_row, .ref m_then, .ref m_equations], wJ m_by2 (zK C).2.2.1 961 b2, wJ m_product (zK C).2.2.1 961 q2] [(0, .ref m), (1, .ref m_by2), (2, .ref m_by2), (3, .ref m_by2), (4, .int (zI (6))), (5, .int (zI (i))), (6, .int (zI (j)))] 21 [] := by
          intro f11
          induction f11 with
          | zero => intro _ _ _ _ _ hf; exact absurd hf (Nat.not_lt_zero _)
          | succ f11 ih21_10 =>
            intro j q2 vj va2 vc2 hf_21
            refine z_iload hC 6 dX9_multiply_21 rfl ?_
            refine z_iload hC 4 dX9_multiply_23 rfl ?_
            refine z_icge hC 98 dX9_multiply_25 (by decide) (by omega) (fun c_12 => ?_) (fun c_12 => ?_)
            · skip
              refine z_iinc (a := i) (v := 1) (r := i + 1) hC 5 [(5, .int (zI (i + 1))), (0, .ref m), (1, .ref m_by2), (2, .ref m_by2), (3, .ref m_by2), (4, .int (zI (6))), (6, .int (zI (j)))] dX9_multiply_98 rfl rfl (by decide) rfl ?_
              refine z_goto hC 11 dX9_multiply_101 (by decide) ?_
              refine z_lv (lv' := [(0, .ref m), (1, .ref m_by2), (2, .ref m_by2), (3, .ref m_by2), (4, .int (zI (6))), (5, .int (zI (i + 1)))]) [1, 2, 3, 4, 5, 0] rfl ?_
              exact ih11_2 (i + 1) q2 (by omega) (by intro r c r0 r1 c0 c1; by_cases e : r = i; (rw [e]; exact vc2 c c0 (by omega)); exact va2 r c r0 (by omega) c0 c1) (by omega)
            · skip
              refine z_lconst (v := 0) hC dX9_multiply_28 rfl ?_
              refine z_lstore hC [(7, .long (zL (0))), (0, .ref m), (1, .ref m_by2), (2, .ref m_by2), (3, .ref m_by2), (4, .int (zI (6))), (5, .int (zI (i))), (6, .int (zI (j)))] dX9_multiply_29 (by decide) rfl ?_
              refine z_iconst hC dX9_multiply_31 ?_
              refine z_istore hC [(9, .int (zI (0))), (7, .long (zL (0))), (0, .ref m), (1, .ref m_by2), (2, .ref m_by2), (3, .ref m_by2), (4, .int (zI (6))), (5, .int (zI (i))), (6, .int (zI (j)))] dX9_multiply_32 (by decide) rfl ?_
              refine z_lv (lv' := [(0, .ref m), (1, .ref m_by2), (2, .ref m_by2), (3, .ref m_by2), (4, .int (zI (6))), (5, .int (zI (i))), (6, .int (zI (j))), (7, .long (zL (0))), (9, .int (zI (0)))]) [2, 3, 4, 5, 6, 7, 8, 1, 0] rfl ?_
              have lp34_13 : ∀ (f15 : Nat) (al : Int) (k : Int), (0 ≤ k ∧ k ≤ 6) → (al = sumZ (fun k => b2 (31 * i + k) * b2 (31 * k + j)) k.toNat % 998244353) → (0 ≤ al ∧ al < 998244353) → (6 - k).toNat < f15 → ZW C 0 0 [wO m 9 [.int (zI (m_status)), .int (zI (m_thrown)), .ref m_sheetSort, .ref m_sheetMany, .ref m_numbers, .int (zI (4)), .int (zI (m_kind)), .int (zI (5)), .int (zI (m_round)), .int (zI (m_ax)), .int (zI (0)), .int (zI (m_bx)), .int (zI (0)), .ref m_dx, .ref m_dy, .ref m_weight, .ref m_isBarred, .ref m_walks, .ref m_one, .ref m_two, .ref m_light, .ref m_lightThen, .int (zI (m_family)), .ref m_fromX, .ref m_fromY, .ref m_toX, .ref m_toY, .int (zI (m_ruleMany)), .ref m_rule, .ref m_out, .int (zI (m_outs)), .ref m_grid, .ref m_heap, .ref m_ends, .ref m_power, .ref m_by2, .ref m_product, .ref m_levels, .ref m_row, .ref m_then, .ref m_equations], wJ m_by2 (zK C).2.2.1 961 b2, wJ m_product (zK C).2.2.1 961 q2] [(0, .ref m), (1, .ref m_by2), (2, .ref m_by2), (3, .ref m_by2), (4, .int (zI (6))), (5, .int (zI (i))), (6, .int (zI (j))), (7, .long (zL (al))), (9, .int (zI (k)))] 34 [] := by
                intro f15
                induction f15 with
                | zero => intro _ _ _ _ _ hf; exact absurd hf (Nat.not_lt_zero _)
                | succ f15 ih34_14 =>
                  intro al k vk val var hf_34
                  refine z_iload hC 8 dX9_multiply_34 rfl ?_
                  refine z_iload hC 4 dX9_multiply_36 rfl ?_
                  refine z_icge hC 77 dX9_multiply_38 (by decide) (by omega) (fun c_16 => ?_) (fun c_16 => ?_)
                  · skip
                    refine z_aload_n hC 0 dX9_multiply_77 rfl rfl ?_
                    refine z_get hC (T := TX9) (N := 41) hinX9 0 36 dX9_multiply_78 rfl rfl (by decide) (List.mem_of_getElem? (i := 3) rfl) rfl rfl ?_
                    refine z_bipush hC dX9_multiply_81 (by decide) ?_
                    refine z_iload hC 5 dX9_multiply_83 rfl ?_
                    refine z_imul hC (31 * i) dX9_multiply_85 rfl ?_
                    refine z_iload hC 6 dX9_multiply_86 rfl ?_
                    refine z_iadd hC ((31 * i) + j) dX9_multiply_88 rfl ?_
                    refine z_lload hC 7 dX9_multiply_89 rfl ?_
                    refine z_last hC 2 [wO m 9 [.int (zI (m_status)), .int (zI (m_thrown)), .ref m_sheetSort, .ref m_sheetMany, .ref m_numbers, .int (zI (4)), .int (zI (m_kind)), .int (zI (5)), .int (zI (m_round)), .int (zI (m_ax)), .int (zI (0)), .int (zI (m_bx)), .int (zI (0)), .ref m_dx, .ref m_dy, .ref m_weight, .ref m_isBarred, .ref m_walks, .ref m_one, .ref m_two, .ref m_light, .ref m_lightThen, .int (zI (m_family)), .ref m_fromX, .ref m_fromY, .ref m_toX, .ref m_toY, .int (zI (m_ruleMany)), .ref m_rule, .ref m_out, .int (zI (m_outs)), .ref m_grid, .ref m_heap, .ref m_ends, .ref m_power, .ref m_by2, .ref m_product, .ref m_levels, .ref m_row, .ref m_then, .ref m_equations], wJ m_by2 (zK C).2.2.1 961 b2, wJ m_product (zK C).2.2.1 961 (zu q2 ((31 * i) + j) al)] dX9_multiply_91 rfl (by omega) rfl ?_
                    refine z_iinc (a := j) (v := 1) (r := j + 1) hC 6 [(6, .int (zI (j + 1))), (0, .ref m), (1, .ref m_by2), (2, .ref m_by2), (3, .ref m_by2), (4, .int (zI (6))), (5, .int (zI (i))), (7, .long (zL (al))), (9, .int (zI (k)))] dX9_multiply_92 rfl rfl (by decide) rfl ?_
                    refine z_goto hC 21 dX9_multiply_95 (by decide) ?_
                    refine z_lv (lv' := [(0, .ref m), (1, .ref m_by2), (2, .ref m_by2), (3, .ref m_by2), (4, .int (zI (6))), (5, .int (zI (i))), (6, .int (zI (j + 1)))]) [1, 2, 3, 4, 5, 6, 0] rfl ?_
                    exact ih21_10 (j + 1) (zu q2 ((31 * i) + j) al) (by omega) (by intro r c r0 r1 c0 c1; unfold zu; rw [if_neg (by omega)]; exact va2 r c r0 r1 c0 c1) (by intro c c0 c1; unfold zu; by_cases e : c = j; (rw [if_pos (by omega), e, val, show k = 6 by omega]; exact mat_sum (A := fun k => b2 (31 * i + k)) (B := fun k => b2 (31 * k + j)) (by omega) (fun k k0 k1 => hB i k (by omega) (by omega) k0 k1) (fun k k0 k1 => hB k j k0 k1 (by omega) (by omega))); (rw [if_neg (by omega)]; exact vc2 c c0 (by omega))) (by omega)
                  · skip
                    have hq1 : 0 ≤ b2 (31 * i + k) ∧ b2 (31 * i + k) < 998244353 := by rw [hB i k (by omega) (by omega) (by omega) (by omega)]; exact mod_r _
                    have hq2 : 0 ≤ b2 (31 * k + j) ∧ b2 (31 * k + j) < 998244353 := by rw [hB k j (by omega) (by omega) (by omega) (by omega)]; exact mod_r _
                    have hq3 := mul_r hq1 hq2
                    refine z_lload hC 7 dX9_multiply_41 rfl ?_
                    refine z_aload_n hC 1 dX9_multiply_43 rfl rfl ?_
                    refine z_bipush hC dX9_multiply_44 (by decide) ?_
                    refine z_iload hC 5 dX9_multiply_46 rfl ?_
                    refine z_imul hC (31 * i) dX9_multiply_48 rfl ?_
                    refine z_iload hC 8 dX9_multiply_49 rfl ?_
                    refine z_iadd hC ((31 * i) + k) dX9_multiply_51 rfl ?_
                    refine z_lald hC 1 dX9_multiply_52 rfl (by omega) ?_
                    refine z_aload_n hC 2 dX9_multiply_53 rfl rfl ?_
                    refine z_bipush hC dX9_multiply_54 (by decide) ?_
                    refine z_iload hC 8 dX9_multiply_56 rfl ?_
                    refine z_imul hC (31 * k) dX9_multiply_58 rfl ?_
                    refine z_iload hC 6 dX9_multiply_59 rfl ?_
                    refine z_iadd hC ((31 * k) + j) dX9_multiply_61 rfl ?_
                    refine z_lald hC 1 dX9_multiply_62 rfl (by omega) ?_
                    refine z_lmul hC ((b2 ((31 * i) + k)) * (b2 ((31 * k) + j))) dX9_multiply_63 rfl ?_
                    refine z_ladd hC (al + ((b2 ((31 * i) + k)) * (b2 ((31 * k) + j)))) dX9_multiply_64 rfl ?_
                    refine z_ldc2 (v := 998244353) hC (List.mem_of_getElem? (i := 2) rfl) rfl dX9_multiply_65 ?_
                    refine z_lrem hC ((al + ((b2 ((31 * i) + k)) * (b2 ((31 * k) + j)))) % 998244353) dX9_multiply_68 (by omega) rfl ?_
                    refine z_lstore hC [(7, .long (zL ((al + ((b2 ((31 * i) + k)) * (b2 ((31 * k) + j)))) % 998244353))), (0, .ref m), (1, .ref m_by2), (2, .ref m_by2), (3, .ref m_by2), (4, .int (zI (6))), (5, .int (zI (i))), (6, .int (zI (j))), (9, .int (zI (k)))] dX9_multiply_69 (by decide) rfl ?_
                    refine z_iinc (a := k) (v := 1) (r := k + 1) hC 8 [(9, .int (zI (k + 1))), (7, .long (zL ((al + ((b2 ((31 * i) + k)) * (b2 ((31 * k) + j)))) % 998244353))), (0, .ref m), (1, .ref m_by2), (2, .ref m_by2), (3, .ref m_by2), (4, .int (zI (6))), (5, .int (zI (i))), (6, .int (zI (j)))] dX9_multiply_71 rfl rfl (by decide) rfl ?_
                    refine z_goto hC 34 dX9_multiply_74 (by decide) ?_
                    refine z_lv (lv' := [(0, .ref m), (1, .ref m_by2), (2, .ref m_by2), (3, .ref m_by2), (4, .int (zI (6))), (5, .int (zI (i))), (6, .int (zI (j))), (7, .long (zL ((al + ((b2 ((31 * i) + k)) * (b2 ((31 * k) + j)))) % 998244353))), (9, .int (zI (k + 1)))]) [2, 3, 4, 5, 6, 7, 8, 1, 0] rfl ?_
                    exact ih34_14 ((al + ((b2 ((31 * i) + k)) * (b2 ((31 * k) + j)))) % 998244353) (k + 1) (by omega) (by rw [sumZ_s (by omega), val]; omega) (by exact mod_r _) (by omega)
              exact lp34_13 _ 0 0 (by omega) (by rfl) (by omega) (Nat.lt_succ_self _)
        exact lp21_9 _ 0 q (by omega) (by exact va) (by intro c c0 c1; omega) (Nat.lt_succ_self _)
  exact lp11_1 _ 0 pd (by omega) (by intro r c r0 r1; omega) (Nat.lt_succ_self _)

set_option maxHeartbeats 4000000 in
set_option maxRecDepth 100000 in
theorem c_X9_fillLevels (l : Launch) (D : va_G) (K : ClassId × ClassId × ClassId × ClassId) (m m_sheetSort m_sheetMany m_numbers m_dx m_dy m_weight m_isBarred m_walks m_one m_two m_light m_lightThen m_fromX m_fromY m_toX m_toY m_rule m_out m_grid m_heap m_ends m_power m_by2 m_product m_levels m_row m_then m_equations : Nat) (m_status m_thrown m_kind m_round m_ax m_bx m_family m_ruleMany m_outs : Int) (dy pw b2 : Int → Int) (hdy : ∀ j, 0 ≤ j → j < 8 → dy j = sdy j) : zMet l D K yX9_fillLevels wsX9_fillLevels ({ frames := 0, cells := 0, slots := 0, locals := 0 }) 0 0 [.ref m] [wO m 9 [.int (zI (m_status)), .int (zI (m_thrown)), .ref m_sheetSort, .ref m_sheetMany, .ref m_numbers, .int (zI (4)), .int (zI (m_kind)), .int (zI (5)), .int (zI (m_round)), .int (zI (m_ax)), .int (zI (0)), .int (zI (m_bx)), .int (zI (0)), .ref m_dx, .ref m_dy, .ref m_weight, .ref m_isBarred, .ref m_walks, .ref m_one, .ref m_two, .ref m_light, .ref m_lightThen, .int (zI (m_family)), .ref m_fromX, .ref m_fromY, .ref m_toX, .ref m_toY, .int (zI (m_ruleMany)), .ref m_rule, .ref m_out, .int (zI (m_outs)), .ref m_grid, .ref m_heap, .ref m_ends, .ref m_power, .ref m_by2, .ref m_product, .ref m_levels, .ref m_row, .ref m_then, .ref m_equations], wI m_dy K.2.1 8 dy, wJ m_power K.2.2.1 961 pw, wJ m_by2 K.2.2.1 961 b2] (fun vr_ wr_ => ∃ (pw2 : Int → Int) (b22 : Int → Int), vr_ = none ∧ wr_ = [wO m 9 [.int (zI (m_status)), .int (zI (m_thrown)), .ref m_sheetSort, .ref m_sheetMany, .ref m_numbers, .int (zI (4)), .int (zI (m_kind)), .int (zI (5)), .int (zI (m_round)), .int (zI (m_ax)), .int (zI (0)), .int (zI (m_bx)), .int (zI (0)), .ref m_dx, .ref m_dy, .ref m_weight, .ref m_isBarred, .ref m_walks, .ref m_one, .ref m_two, .ref m_light, .ref m_lightThen, .int (zI (m_family)), .ref m_fromX, .ref m_fromY, .ref m_toX, .ref m_toY, .int (zI (m_ruleMany)), .ref m_rule, .ref m_out, .int (zI (m_outs)), .ref m_grid, .ref m_heap, .ref m_ends, .ref m_power, .ref m_by2, .ref m_product, .ref m_levels, .ref m_row, .ref m_then, .ref m_equations], wI m_dy K.2.1 8 dy, wJ m_power K.2.2.1 961 pw2, wJ m_by2 K.2.2.1 961 b22] ∧ ((∀ i j, 0 ≤ i → i ≤ 5 → 0 ≤ j → j ≤ 5 → pw2 (31 * i + j) = EX 0 i j % 998244353) ∧ (∀ i j, 0 ≤ i → i ≤ 5 → 0 ≤ j → j ≤ 5 → b22 (31 * i + j) = EX 1 i j % 998244353))) := by
  refine zMet_of (cc := cX9_fillLevels) (nL := 3) (ret := none) (by decide) rfl (Nat.le_of_ble_eq_true rfl) ?_
  rintro C rfl rfl rfl hC hR
  have hinX9 : ∀ w ∈ u_ws RX9 TX9 41, w ∈ wsX9_fillLevels := by decide +kernel
  show ZW C 0 0 [wO m 9 [.int (zI (m_status)), .int (zI (m_thrown)), .ref m_sheetSort, .ref m_sheetMany, .ref m_numbers, .int (zI (4)), .int (zI (m_kind)), .int (zI (5)), .int (zI (m_round)), .int (zI (m_ax)), .int (zI (0)), .int (zI (m_bx)), .int (zI (0)), .ref m_dx, .ref m_dy, .ref m_weight, .ref m_isBarred, .ref m_walks, .ref m_one, .ref m_two, .ref m_light, .ref m_lightThen, .int (zI (m_family)), .ref m_fromX, .ref m_fromY, .ref m_toX, .ref m_toY, .int (zI (m_ruleMany)), .ref m_rule, .ref m_out, .int (zI (m_outs)), .ref m_grid, .ref m_heap, .ref m_ends, .ref m_power, .ref m_by2, .ref m_product, .ref m_levels, .ref m_row, .ref m_then, .ref m_equations], wI m_dy (zK C).2.1 8 dy, wJ m_power (zK C).2.2.1 961 pw, wJ m_by2 (zK C).2.2.1 961 b2] [(0, .ref m)] 0 []
  refine z_iconst hC dX9_fillLevels_0 ?_
  refine z_istore_n hC [(1, .int (zI (0))), (0, .ref m)] dX9_fillLevels_1 rfl (by decide) rfl ?_
  refine z_lv (lv' := [(0, .ref m), (1, .int (zI (0)))]) [1, 0] rfl ?_
  have lp2_1 : ∀ (f3 : Nat) (i : Int) (w : Int → Int) (q : Int → Int), (0 ≤ i ∧ i ≤ 961) → (∀ j, 0 ≤ j → j < i → q j = 0) → (∀ j, 0 ≤ j → j < i → w j = if j % 32 = 0 then 1 else 0) → (961 - i).toNat < f3 → ZW C 0 0 [wO m 9 [.int (zI (m_status)), .int (zI (m_thrown)), .ref m_sheetSort, .ref m_sheetMany, .ref m_numbers, .int (zI (4)), .int (zI (m_kind)), .int (zI (5)), .int (zI (m_round)), .int (zI (m_ax)), .int (zI (0)), .int (zI (m_bx)), .int (zI (0)), .ref m_dx, .ref m_dy, .ref m_weight, .ref m_isBarred, .ref m_walks, .ref m_one, .ref m_two, .ref m_light, .ref m_lightThen, .int (zI (m_family)), .ref m_fromX, .ref m_fromY, .ref m_toX, .ref m_toY, .int (zI (m_ruleMany)), .ref m_rule, .ref m_out, .int (zI (m_outs)), .ref m_grid, .ref m_heap, .ref m_ends, .ref m_power, .ref m_by2, .ref m_product, .ref m_levels, .ref m_row, .ref m_then, .ref m_equations], wI m_dy (zK C).2.1 8 dy, wJ m_power (zK C).2.2.1 961 w, wJ m_by2 (zK C).2.2.1 961 q] [(0, .ref m), (1, .int (zI (i)))] 2 [] := by
    intro f3
    induction f3 with
    | zero => intro _ _ _ _ _ _ hf; exact absurd hf (Nat.not_lt_zero _)
    | succ f3 ih2_2 =>
      intro i w q vi vq vw hf_2
      refine z_iload_n hC 1 dX9_fillLevels_2 rfl rfl ?_
      refine z_sipush hC dX9_fillLevels_3 (by decide) ?_
      refine z_icge hC 40 dX9_fillLevels_6 (by decide) (by omega) (fun c_4 => ?_) (fun c_4 => ?_)
      · skip
        refine z_iconst hC dX9_fillLevels_40 ?_
        refine z_istore_n hC [(1, .int (zI (0))), (0, .ref m)] dX9_fillLevels_41 rfl (by decide) rfl ?_
        refine z_lv (lv' := [(0, .ref m), (1, .int (zI (0)))]) [1, 0] rfl ?_
        have lp42_5 : ∀ (f7 : Nat) (y : Int) (q2 : Int → Int), (0 ≤ y ∧ y ≤ 6) → (∀ j, 0 ≤ j → j < 961 → q2 j = flA j y.toNat) → (6 - y).toNat < f7 → ZW C 0 0 [wO m 9 [.int (zI (m_status)), .int (zI (m_thrown)), .ref m_sheetSort, .ref m_sheetMany, .ref m_numbers, .int (zI (4)), .int (zI (m_kind)), .int (zI (5)), .int (zI (m_round)), .int (zI (m_ax)), .int (zI (0)), .int (zI (m_bx)), .int (zI (0)), .ref m_dx, .ref m_dy, .ref m_weight, .ref m_isBarred, .ref m_walks, .ref m_one, .ref m_two, .ref m_light, .ref m_lightThen, .int (zI (m_family)), .ref m_fromX, .ref m_fromY, .ref m_toX, .ref m_toY, .int (zI (m_ruleMany)), .ref m_rule, .ref m_out, .int (zI (m_outs)), .ref m_grid, .ref m_heap, .ref m_ends, .ref m_power, .ref m_by2, .ref m_product, .ref m_levels, .ref m_row, .ref m_then, .ref m_equations], wI m_dy (zK C).2.1 8 dy, wJ m_power (zK C).2.2.1 961 w, wJ m_by2 (zK C).2.2.1 961 q2] [(0, .ref m), (1, .int (zI (y)))] 42 [] := by
          intro f7
          induction f7 with
          | zero => intro _ _ _ _ hf; exact absurd hf (Nat.not_lt_zero _)
          | succ f7 ih42_6 =>
            intro y q2 vy vb hf_42
            refine z_iload_n hC 1 dX9_fillLevels_42 rfl rfl ?_
            refine z_aload_n hC 0 dX9_fillLevels_43 rfl rfl ?_
            refine z_get hC (T := TX9) (N := 41) hinX9 0 7 dX9_fillLevels_44 rfl rfl (by decide) (List.mem_of_getElem? (i := 3) rfl) rfl rfl ?_
            refine z_icgt hC 120 dX9_fillLevels_47 (by decide) (by omega) (fun c_8 => ?_) (fun c_8 => ?_)
            · skip
              exact z_vret hC hR dX9_fillLevels_120 (Nat.le_of_ble_eq_true rfl) (Nat.le_of_ble_eq_true rfl) ⟨w, q2, rfl, rfl, by refine ⟨fun i j a b c d => idn_fin (fun j a b => vw j a (by omega)) a b c d, fun i j a b c d => ?_⟩; rw [vb _ (by omega) (by omega), show y = 6 by omega]; exact flA_fin a b c d⟩
            · skip
              refine z_iconst hC dX9_fillLevels_50 ?_
              refine z_istore_n hC [(2, .int (zI (0))), (0, .ref m), (1, .int (zI (y)))] dX9_fillLevels_51 rfl (by decide) rfl ?_
              refine z_lv (lv' := [(0, .ref m), (1, .int (zI (y))), (2, .int (zI (0)))]) [1, 2, 0] rfl ?_
              have lp52_9 : ∀ (f11 : Nat) (k : Int) (q3 : Int → Int), (0 ≤ k ∧ k ≤ 4) → (∀ j, 0 ≤ j → j < 961 → q3 j = flA j y.toNat + flS y j k.toNat) → (4 - k).toNat < f11 → ZW C 0 0 [wO m 9 [.int (zI (m_status)), .int (zI (m_thrown)), .ref m_sheetSort, .ref m_sheetMany, .ref m_numbers, .int (zI (4)), .int (zI (m_kind)), .int (zI (5)), .int (zI (m_round)), .int (zI (m_ax)), .int (zI (0)), .int (zI (m_bx)), .int (zI (0)), .ref m_dx, .ref m_dy, .ref m_weight, .ref m_isBarred, .ref m_walks, .ref m_one, .ref m_two, .ref m_light, .ref m_lightThen, .int (zI (m_family)), .ref m_fromX, .ref m_fromY, .ref m_toX, .ref m_toY, .int (zI (m_ruleMany)), .ref m_rule, .ref m_out, .int (zI (m_outs)), .ref m_grid, .ref m_heap, .ref m_ends, .ref m_power, .ref m_by2, .ref m_product, .ref m_levels, .ref m_row, .ref m_then, .ref m_equations], wI m_dy (zK C).2.1 8 dy, wJ m_power (zK C).2.2.1 961 w, wJ m_by2 (zK C).2.2.1 961 q3] [(0, .ref m), (1, .int (zI (y))), (2, .int (zI (k)))] 52 [] := by
                intro f11
                induction f11 with
                | zero => intro _ _ _ _ hf; exact absurd hf (Nat.not_lt_zero _)
                | succ f11 ih52_10 =>
                  intro k q3 vk vc hf_52
                  refine z_iload_n hC 2 dX9_fillLevels_52 rfl rfl ?_
                  refine z_aload_n hC 0 dX9_fillLevels_53 rfl rfl ?_
                  refine z_get hC (T := TX9) (N := 41) hinX9 0 5 dX9_fillLevels_54 rfl rfl (by decide) (List.mem_of_getElem? (i := 4) rfl) rfl rfl ?_
                  refine z_icge hC 114 dX9_fillLevels_57 (by decide) (by omega) (fun c_12 => ?_) (fun c_12 => ?_)
                  · skip
                    refine z_iinc (a := y) (v := 1) (r := y + 1) hC 1 [(1, .int (zI (y + 1))), (0, .ref m), (2, .int (zI (k)))] dX9_fillLevels_114 rfl rfl (by decide) rfl ?_
                    refine z_goto hC 42 dX9_fillLevels_117 (by decide) ?_
                    refine z_lv (lv' := [(0, .ref m), (1, .int (zI (y + 1)))]) [1, 0] rfl ?_
                    exact ih42_6 (y + 1) q3 (by omega) (by intro j a b; rw [flA_s (by omega), vc j a b, show k = 4 by omega]; rfl) (by omega)
                  · skip
                    have hsd := sdy_c k
                    refine z_iload_n hC 1 dX9_fillLevels_60 rfl rfl ?_
                    refine z_aload_n hC 0 dX9_fillLevels_61 rfl rfl ?_
                    refine z_get hC (T := TX9) (N := 41) hinX9 0 14 dX9_fillLevels_62 rfl rfl (by decide) (List.mem_of_getElem? (i := 5) rfl) rfl rfl ?_
                    refine z_iload_n hC 2 dX9_fillLevels_65 rfl rfl ?_
                    refine z_iald hC 1 dX9_fillLevels_66 rfl (by omega) ?_
                    refine z_topi (b := sdy k) (by exact hdy k (by omega) (by omega)) ?_
                    refine z_iadd hC (y + (sdy k)) dX9_fillLevels_67 rfl ?_
                    refine z_iflt hC 108 dX9_fillLevels_68 (by decide) (by omega) (fun c_13 => ?_) (fun c_13 => ?_)
                    · skip
                      refine z_iinc (a := k) (v := 1) (r := k + 1) hC 2 [(2, .int (zI (k + 1))), (0, .ref m), (1, .int (zI (y)))] dX9_fillLevels_108 rfl rfl (by decide) rfl ?_
                      refine z_goto hC 52 dX9_fillLevels_111 (by decide) ?_
                      refine z_lv (lv' := [(0, .ref m), (1, .int (zI (y))), (2, .int (zI (k + 1)))]) [1, 2, 0] rfl ?_
                      exact ih52_10 (k + 1) q3 (by omega) (by intro j a b; exact fl_push (by omega) (vc j a b) (by first | exact Or.inl ⟨by omega, rfl⟩ | exact Or.inr ⟨by omega, rfl⟩)) (by omega)
                    · skip
                      refine z_iload_n hC 1 dX9_fillLevels_71 rfl rfl ?_
                      refine z_aload_n hC 0 dX9_fillLevels_72 rfl rfl ?_
                      refine z_get hC (T := TX9) (N := 41) hinX9 0 14 dX9_fillLevels_73 rfl rfl (by decide) (List.mem_of_getElem? (i := 5) rfl) rfl rfl ?_
                      refine z_iload_n hC 2 dX9_fillLevels_76 rfl rfl ?_
                      refine z_iald hC 1 dX9_fillLevels_77 rfl (by omega) ?_
                      refine z_topi (b := sdy k) (by exact hdy k (by omega) (by omega)) ?_
                      refine z_iadd hC (y + (sdy k)) dX9_fillLevels_78 rfl ?_
                      refine z_aload_n hC 0 dX9_fillLevels_79 rfl rfl ?_
                      refine z_get hC (T := TX9) (N := 41) hinX9 0 7 dX9_fillLevels_80 rfl rfl (by decide) (List.mem_of_getElem? (i := 3) rfl) rfl rfl ?_
                      refine z_icgt hC 108 dX9_fillLevels_83 (by decide) (by omega) (fun c_14 => ?_) (fun c_14 => ?_)
                      · skip
                        refine z_iinc (a := k) (v := 1) (r := k + 1) hC 2 [(2, .int (zI (k + 1))), (0, .ref m), (1, .int (zI (y)))] dX9_fillLevels_108 rfl rfl (by decide) rfl ?_
                        refine z_goto hC 52 dX9_fillLevels_111 (by decide) ?_
                        refine z_lv (lv' := [(0, .ref m), (1, .int (zI (y))), (2, .int (zI (k + 1)))]) [1, 2, 0] rfl ?_
                        exact ih52_10 (k + 1) q3 (by omega) (by intro j a b; exact fl_push (by omega) (vc j a b) (by first | exact Or.inl ⟨by omega, rfl⟩ | exact Or.inr ⟨by omega, rfl⟩)) (by omega)
                      · skip
                        refine z_aload_n hC 0 dX9_fillLevels_86 rfl rfl ?_
                        refine z_get hC (T := TX9) (N := 41) hinX9 0 35 dX9_fillLevels_87 rfl rfl (by decide) (List.mem_of_getElem? (i := 1) rfl) rfl rfl ?_
                        refine z_bipush hC dX9_fillLevels_90 (by decide) ?_
                        refine z_iload_n hC 1 dX9_fillLevels_92 rfl rfl ?_
                        refine z_imul hC (31 * y) dX9_fillLevels_93 rfl ?_
                        refine z_iload_n hC 1 dX9_fillLevels_94 rfl rfl ?_
                        refine z_iadd hC ((31 * y) + y) dX9_fillLevels_95 rfl ?_
                        refine z_aload_n hC 0 dX9_fillLevels_96 rfl rfl ?_
                        refine z_get hC (T := TX9) (N := 41) hinX9 0 14 dX9_fillLevels_97 rfl rfl (by decide) (List.mem_of_getElem? (i := 5) rfl) rfl rfl ?_
                        refine z_iload_n hC 2 dX9_fillLevels_100 rfl rfl ?_
                        refine z_iald hC 1 dX9_fillLevels_101 rfl (by omega) ?_
                        refine z_topi (b := sdy k) (by exact hdy k (by omega) (by omega)) ?_
                        refine z_iadd hC (((31 * y) + y) + (sdy k)) dX9_fillLevels_102 rfl ?_
                        refine z_dup2 hC dX9_fillLevels_103 rfl rfl ?_
                        refine z_lald hC 3 dX9_fillLevels_104 rfl (by omega) ?_
                        refine z_lconst (v := 1) hC dX9_fillLevels_105 rfl ?_
                        refine z_ladd hC ((q3 (((31 * y) + y) + (sdy k))) + 1) dX9_fillLevels_106 rfl ?_
                        refine z_last hC 3 [wO m 9 [.int (zI (m_status)), .int (zI (m_thrown)), .ref m_sheetSort, .ref m_sheetMany, .ref m_numbers, .int (zI (4)), .int (zI (m_kind)), .int (zI (5)), .int (zI (m_round)), .int (zI (m_ax)), .int (zI (0)), .int (zI (m_bx)), .int (zI (0)), .ref m_dx, .ref m_dy, .ref m_weight, .ref m_isBarred, .ref m_walks, .ref m_one, .ref m_two, .ref m_light, .ref m_lightThen, .int (zI (m_family)), .ref m_fromX, .ref m_fromY, .ref m_toX, .ref m_toY, .int (zI (m_ruleMany)), .ref m_rule, .ref m_out, .int (zI (m_outs)), .ref m_grid, .ref m_heap, .ref m_ends, .ref m_power, .ref m_by2, .ref m_product, .ref m_levels, .ref m_row, .ref m_then, .ref m_equations], wI m_dy (zK C).2.1 8 dy, wJ m_power (zK C).2.2.1 961 w, wJ m_by2 (zK C).2.2.1 961 (zu q3 (((31 * y) + y) + (sdy k)) ((q3 (((31 * y) + y) + (sdy k))) + 1))] dX9_fillLevels_107 rfl (by omega) rfl ?_
                        refine z_iinc (a := k) (v := 1) (r := k + 1) hC 2 [(2, .int (zI (k + 1))), (0, .ref m), (1, .int (zI (y)))] dX9_fillLevels_108 rfl rfl (by decide) rfl ?_
                        refine z_goto hC 52 dX9_fillLevels_111 (by decide) ?_
                        refine z_lv (lv' := [(0, .ref m), (1, .int (zI (y))), (2, .int (zI (k + 1)))]) [1, 2, 0] rfl ?_
                        exact ih52_10 (k + 1) (zu q3 (((31 * y) + y) + (sdy k)) ((q3 (((31 * y) + y) + (sdy k))) + 1)) (by omega) (by intro j a b; exact fl_push (by omega) (vc j a b) (by first | exact Or.inl ⟨by omega, rfl⟩ | exact Or.inr ⟨by omega, rfl⟩)) (by omega)
              exact lp52_9 _ 0 q2 (by omega) (by intro j a b; rw [vb j a b]; exact (Int.add_zero _).symm) (Nat.lt_succ_self _)
        exact lp42_5 _ 0 q (by omega) (by intro j a b; exact vq j a (by omega)) (Nat.lt_succ_self _)
      · skip
        refine z_aload_n hC 0 dX9_fillLevels_9 rfl rfl ?_
        refine z_get hC (T := TX9) (N := 41) hinX9 0 35 dX9_fillLevels_10 rfl rfl (by decide) (List.mem_of_getElem? (i := 1) rfl) rfl rfl ?_
        refine z_iload_n hC 1 dX9_fillLevels_13 rfl rfl ?_
        refine z_lconst (v := 0) hC dX9_fillLevels_14 rfl ?_
        refine z_last hC 3 [wO m 9 [.int (zI (m_status)), .int (zI (m_thrown)), .ref m_sheetSort, .ref m_sheetMany, .ref m_numbers, .int (zI (4)), .int (zI (m_kind)), .int (zI (5)), .int (zI (m_round)), .int (zI (m_ax)), .int (zI (0)), .int (zI (m_bx)), .int (zI (0)), .ref m_dx, .ref m_dy, .ref m_weight, .ref m_isBarred, .ref m_walks, .ref m_one, .ref m_two, .ref m_light, .ref m_lightThen, .int (zI (m_family)), .ref m_fromX, .ref m_fromY, .ref m_toX, .ref m_toY, .int (zI (m_ruleMany)), .ref m_rule, .ref m_out, .int (zI (m_outs)), .ref m_grid, .ref m_heap, .ref m_ends, .ref m_power, .ref m_by2, .ref m_product, .ref m_levels, .ref m_row, .ref m_then, .ref m_equations], wI m_dy (zK C).2.1 8 dy, wJ m_power (zK C).2.2.1 961 w, wJ m_by2 (zK C).2.2.1 961 (zu q i 0)] dX9_fillLevels_15 rfl (by omega) rfl ?_
        refine z_aload_n hC 0 dX9_fillLevels_16 rfl rfl ?_
        refine z_get hC (T := TX9) (N := 41) hinX9 0 34 dX9_fillLevels_17 rfl rfl (by decide) (List.mem_of_getElem? (i := 2) rfl) rfl rfl ?_
        refine z_iload_n hC 1 dX9_fillLevels_20 rfl rfl ?_
        refine z_iload_n hC 1 dX9_fillLevels_21 rfl rfl ?_
        refine z_bipush hC dX9_fillLevels_22 (by decide) ?_
        refine z_irem hC (i % 32) dX9_fillLevels_24 (by omega) rfl ?_
        refine z_ifne hC 32 dX9_fillLevels_25 (by decide) (by omega) (fun c_15 => ?_) (fun c_15 => ?_)
        · skip
          refine z_lconst (v := 0) hC dX9_fillLevels_32 rfl ?_
          refine z_last hC 2 [wO m 9 [.int (zI (m_status)), .int (zI (m_thrown)), .ref m_sheetSort, .ref m_sheetMany, .ref m_numbers, .int (zI (4)), .int (zI (m_kind)), .int (zI (5)), .int (zI (m_round)), .int (zI (m_ax)), .int (zI (0)), .int (zI (m_bx)), .int (zI (0)), .ref m_dx, .ref m_dy, .ref m_weight, .ref m_isBarred, .ref m_walks, .ref m_one, .ref m_two, .ref m_light, .ref m_lightThen, .int (zI (m_family)), .ref m_fromX, .ref m_fromY, .ref m_toX, .ref m_toY, .int (zI (m_ruleMany)), .ref m_rule, .ref m_out, .int (zI (m_outs)), .ref m_grid, .ref m_heap, .ref m_ends, .ref m_power, .ref m_by2, .ref m_product, .ref m_levels, .ref m_row, .ref m_then, .ref m_equations], wI m_dy (zK C).2.1 8 dy, wJ m_power (zK C).2.2.1 961 (zu w i 0), wJ m_by2 (zK C).2.2.1 961 (zu q i 0)] dX9_fillLevels_33 rfl (by omega) rfl ?_
          refine z_iinc (a := i) (v := 1) (r := i + 1) hC 1 [(1, .int (zI (i + 1))), (0, .ref m)] dX9_fillLevels_34 rfl rfl (by decide) rfl ?_
          refine z_goto hC 2 dX9_fillLevels_37 (by decide) ?_
          refine z_lv (lv' := [(0, .ref m), (1, .int (zI (i + 1)))]) [1, 0] rfl ?_
          exact ih2_2 (i + 1) (zu w i 0) (zu q i 0) (by omega) (by intro j a b; unfold zu; split; rfl; exact vq j a (by omega)) (by intro j a b; unfold zu; by_cases e : j = i; (rw [if_pos e, e]; first | rw [if_pos (by omega)] | rw [if_neg (by omega)]); (rw [if_neg e]; exact vw j a (by omega))) (by omega)
        · skip
          refine z_lconst (v := 1) hC dX9_fillLevels_28 rfl ?_
          refine z_goto hC 33 dX9_fillLevels_29 (by decide) ?_
          refine z_last hC 2 [wO m 9 [.int (zI (m_status)), .int (zI (m_thrown)), .ref m_sheetSort, .ref m_sheetMany, .ref m_numbers, .int (zI (4)), .int (zI (m_kind)), .int (zI (5)), .int (zI (m_round)), .int (zI (m_ax)), .int (zI (0)), .int (zI (m_bx)), .int (zI (0)), .ref m_dx, .ref m_dy, .ref m_weight, .ref m_isBarred, .ref m_walks, .ref m_one, .ref m_two, .ref m_light, .ref m_lightThen, .int (zI (m_family)), .ref m_fromX, .ref m_fromY, .ref m_toX, .ref m_toY, .int (zI (m_ruleMany)), .ref m_rule, .ref m_out, .int (zI (m_outs)), .ref m_grid, .ref m_heap, .ref m_ends, .ref m_power, .ref m_by2, .ref m_product, .ref m_levels, .ref m_row, .ref m_then, .ref m_equations], wI m_dy (zK C).2.1 8 dy, wJ m_power (zK C).2.2.1 961 (zu w i 1), wJ m_by2 (zK C).2.2.1 961 (zu q i 0)] dX9_fillLevels_33 rfl (by omega) rfl ?_
          refine z_iinc (a := i) (v := 1) (r := i + 1) hC 1 [(1, .int (zI (i + 1))), (0, .ref m)] dX9_fillLevels_34 rfl rfl (by decide) rfl ?_
          refine z_goto hC 2 dX9_fillLevels_37 (by decide) ?_
          refine z_lv (lv' := [(0, .ref m), (1, .int (zI (i + 1)))]) [1, 0] rfl ?_
          exact ih2_2 (i + 1) (zu w i 1) (zu q i 0) (by omega) (by intro j a b; unfold zu; split; rfl; exact vq j a (by omega)) (by intro j a b; unfold zu; by_cases e : j = i; (rw [if_pos e, e]; first | rw [if_pos (by omega)] | rw [if_neg (by omega)]); (rw [if_neg e]; exact vw j a (by omega))) (by omega)
  exact lp2_1 _ 0 pw b2 (by omega) (by intro j a b; omega) (by intro j a b; omega) (Nat.lt_succ_self _)

set_option maxHeartbeats 4000000 in
set_option maxRecDepth 100000 in
theorem c_X9_far (l : Launch) (D : va_G) (K : ClassId × ClassId × ClassId × ClassId) (m m_sheetSort m_sheetMany m_numbers m_dx m_dy m_weight m_isBarred m_walks m_one m_two m_light m_lightThen m_fromX m_fromY m_toX m_toY m_rule m_out m_grid m_heap m_ends m_power m_by2 m_product m_levels m_row m_then m_equations : Nat) (n m_status m_thrown m_kind m_round m_ax m_bx m_family m_ruleMany m_outs : Int) (dy pw b2 pd : Int → Int) (hn : zRL n) (hdy : ∀ j, 0 ≤ j → j < 8 → dy j = sdy j) : zMet l D K yX9_far wsX9_far ({ frames := 1, cells := 0, slots := 0, locals := 29 }) 0 0 [.ref m, .long (zL (n))] [wO m 9 [.int (zI (m_status)), .int (zI (m_thrown)), .ref m_sheetSort, .ref m_sheetMany, .ref m_numbers, .int (zI (4)), .int (zI (m_kind)), .int (zI (5)), .int (zI (m_round)), .int (zI (m_ax)), .int (zI (0)), .int (zI (m_bx)), .int (zI (0)), .ref m_dx, .ref m_dy, .ref m_weight, .ref m_isBarred, .ref m_walks, .ref m_one, .ref m_two, .ref m_light, .ref m_lightThen, .int (zI (m_family)), .ref m_fromX, .ref m_fromY, .ref m_toX, .ref m_toY, .int (zI (m_ruleMany)), .ref m_rule, .ref m_out, .int (zI (m_outs)), .ref m_grid, .ref m_heap, .ref m_ends, .ref m_power, .ref m_by2, .ref m_product, .ref m_levels, .ref m_row, .ref m_then, .ref m_equations], wI m_dy K.2.1 8 dy, wJ m_power K.2.2.1 961 pw, wJ m_by2 K.2.2.1 961 b2, wJ m_product K.2.2.1 961 pd] (fun vr_ wr_ => ∃ (r : Int), vr_ = some (.int (zI (r))) ∧ wr_ = [] ∧ ((n < 0 ∧ r = -1) ∨ (0 ≤ n ∧ r = tE n % 998244353))) := by
  refine zMet_of (cc := cX9_far) (nL := 5) (ret := (some .int)) (by decide) rfl (Nat.le_of_ble_eq_true rfl) ?_
  rintro C rfl rfl rfl hC hR
  have hinX9 : ∀ w ∈ u_ws RX9 TX9 41, w ∈ wsX9_far := by decide +kernel
  show ZW C 0 0 [wO m 9 [.int (zI (m_status)), .int (zI (m_thrown)), .ref m_sheetSort, .ref m_sheetMany, .ref m_numbers, .int (zI (4)), .int (zI (m_kind)), .int (zI (5)), .int (zI (m_round)), .int (zI (m_ax)), .int (zI (0)), .int (zI (m_bx)), .int (zI (0)), .ref m_dx, .ref m_dy, .ref m_weight, .ref m_isBarred, .ref m_walks, .ref m_one, .ref m_two, .ref m_light, .ref m_lightThen, .int (zI (m_family)), .ref m_fromX, .ref m_fromY, .ref m_toX, .ref m_toY, .int (zI (m_ruleMany)), .ref m_rule, .ref m_out, .int (zI (m_outs)), .ref m_grid, .ref m_heap, .ref m_ends, .ref m_power, .ref m_by2, .ref m_product, .ref m_levels, .ref m_row, .ref m_then, .ref m_equations], wI m_dy (zK C).2.1 8 dy, wJ m_power (zK C).2.2.1 961 pw, wJ m_by2 (zK C).2.2.1 961 b2, wJ m_product (zK C).2.2.1 961 pd] [(0, .ref m), (1, .long (zL (n)))] 0 []
  refine z_aload_n hC 0 dX9_far_0 rfl rfl ?_
  refine z_iconst hC dX9_far_1 ?_
  refine z_put hC (T := TX9) (N := 41) hinX9 tyX9_ok nmX9 0 1 [wO m 9 [.int (zI (m_status)), .int (zI (0)), .ref m_sheetSort, .ref m_sheetMany, .ref m_numbers, .int (zI (4)), .int (zI (m_kind)), .int (zI (5)), .int (zI (m_round)), .int (zI (m_ax)), .int (zI (0)), .int (zI (m_bx)), .int (zI (0)), .ref m_dx, .ref m_dy, .ref m_weight, .ref m_isBarred, .ref m_walks, .ref m_one, .ref m_two, .ref m_light, .ref m_lightThen, .int (zI (m_family)), .ref m_fromX, .ref m_fromY, .ref m_toX, .ref m_toY, .int (zI (m_ruleMany)), .ref m_rule, .ref m_out, .int (zI (m_outs)), .ref m_grid, .ref m_heap, .ref m_ends, .ref m_power, .ref m_by2, .ref m_product, .ref m_levels, .ref m_row, .ref m_then, .ref m_equations], wI m_dy (zK C).2.1 8 dy, wJ m_power (zK C).2.2.1 961 pw, wJ m_by2 (zK C).2.2.1 961 b2, wJ m_product (zK C).2.2.1 961 pd] dX9_far_2 rfl rfl (by decide) (List.mem_of_getElem? (i := 1) rfl) rfl rfl rfl rfl (Nat.le_of_ble_eq_true rfl) rfl ?_
  refine z_aload_n hC 0 dX9_far_5 rfl rfl ?_
  refine z_iconst hC dX9_far_6 ?_
  refine z_put hC (T := TX9) (N := 41) hinX9 tyX9_ok nmX9 0 0 [wO m 9 [.int (zI (0)), .int (zI (0)), .ref m_sheetSort, .ref m_sheetMany, .ref m_numbers, .int (zI (4)), .int (zI (m_kind)), .int (zI (5)), .int (zI (m_round)), .int (zI (m_ax)), .int (zI (0)), .int (zI (m_bx)), .int (zI (0)), .ref m_dx, .ref m_dy, .ref m_weight, .ref m_isBarred, .ref m_walks, .ref m_one, .ref m_two, .ref m_light, .ref m_lightThen, .int (zI (m_family)), .ref m_fromX, .ref m_fromY, .ref m_toX, .ref m_toY, .int (zI (m_ruleMany)), .ref m_rule, .ref m_out, .int (zI (m_outs)), .ref m_grid, .ref m_heap, .ref m_ends, .ref m_power, .ref m_by2, .ref m_product, .ref m_levels, .ref m_row, .ref m_then, .ref m_equations], wI m_dy (zK C).2.1 8 dy, wJ m_power (zK C).2.2.1 961 pw, wJ m_by2 (zK C).2.2.1 961 b2, wJ m_product (zK C).2.2.1 961 pd] dX9_far_7 rfl rfl (by decide) (List.mem_of_getElem? (i := 2) rfl) rfl rfl rfl rfl (Nat.le_of_ble_eq_true rfl) rfl ?_
  refine z_lload_n hC 1 dX9_far_10 rfl rfl ?_
  refine z_lconst (v := 0) hC dX9_far_11 rfl ?_
  refine z_lcge hC 22 dX9_far_12 dX9_far_13 (by decide) (by omega) (fun c_1 => ?_) (fun c_1 => ?_)
  · skip
    refine z_aload_n hC 0 dX9_far_22 rfl rfl ?_
    refine z_callV hC [] 0 0 dX9_far_23 (c_X9_isBetween (zl C) (zD C) (zK C) m m_sheetSort m_sheetMany m_numbers m_dx m_dy m_weight m_isBarred m_walks m_one m_two m_light m_lightThen m_fromX m_fromY m_toX m_toY m_rule m_out m_grid m_heap m_ends m_power m_by2 m_product m_levels m_row m_then m_equations 0 0 m_kind m_round m_ax m_bx m_family m_ruleMany m_outs ) gX9_far_X9_isBetween rfl rfl rfl ⟨by decide, by decide, by decide +kernel⟩ ⟨(Nat.le_of_ble_eq_true rfl), (Nat.le_of_ble_eq_true rfl)⟩ rfl rfl rfl rfl [0] [1, 2, 3, 4] [wI m_dy (zK C).2.1 8 dy, wJ m_power (zK C).2.2.1 961 pw, wJ m_by2 (zK C).2.2.1 961 b2, wJ m_product (zK C).2.2.1 961 pd] [] rfl rfl rfl rfl rfl (by decide) (Nat.le_of_ble_eq_true rfl) ⟨(Nat.le_of_ble_eq_true rfl), (Nat.le_of_ble_eq_true rfl)⟩ ?_
    rintro v_ w_ ⟨r_2, rfl, rfl, rfl⟩
    show ZW C 0 0 [wI m_dy (zK C).2.1 8 dy, wJ m_power (zK C).2.2.1 961 pw, wJ m_by2 (zK C).2.2.1 961 b2, wJ m_product (zK C).2.2.1 961 pd, wO m 9 [.int (zI (0)), .int (zI (0)), .ref m_sheetSort, .ref m_sheetMany, .ref m_numbers, .int (zI (4)), .int (zI (m_kind)), .int (zI (5)), .int (zI (m_round)), .int (zI (m_ax)), .int (zI (0)), .int (zI (m_bx)), .int (zI (0)), .ref m_dx, .ref m_dy, .ref m_weight, .ref m_isBarred, .ref m_walks, .ref m_one, .ref m_two, .ref m_light, .ref m_lightThen, .int (zI (m_family)), .ref m_fromX, .ref m_fromY, .ref m_toX, .ref m_toY, .int (zI (m_ruleMany)), .ref m_rule, .ref m_out, .int (zI (m_outs)), .ref m_grid, .ref m_heap, .ref m_ends, .ref m_power, .ref m_by2, .ref m_product, .ref m_levels, .ref m_row, .ref m_then, .ref m_equations]] [(0, .ref m), (1, .long (zL (n)))] 26 [.int (zI (1))]
    refine z_ifne hC 36 dX9_far_26 (by decide) (by omega) (fun c_4 => ?_) (fun c_4 => by exfalso; omega)
    refine z_aload_n hC 0 dX9_far_36 rfl rfl ?_
    refine z_callV hC [] 0 0 dX9_far_37 (c_X9_fillLevels (zl C) (zD C) (zK C) m m_sheetSort m_sheetMany m_numbers m_dx m_dy m_weight m_isBarred m_walks m_one m_two m_light m_lightThen m_fromX m_fromY m_toX m_toY m_rule m_out m_grid m_heap m_ends m_power m_by2 m_product m_levels m_row m_then m_equations 0 0 m_kind m_round m_ax m_bx m_family m_ruleMany m_outs dy pw b2 (by first | assumption | omega)) gX9_far_X9_fillLevels rfl rfl rfl ⟨by decide, by decide, by decide +kernel⟩ ⟨(Nat.le_of_ble_eq_true rfl), (Nat.le_of_ble_eq_true rfl)⟩ rfl rfl rfl rfl [4, 0, 1, 2] [3] [wJ m_product (zK C).2.2.1 961 pd] [] rfl rfl rfl rfl rfl (by decide) (Nat.le_of_ble_eq_true rfl) ⟨(Nat.le_of_ble_eq_true rfl), (Nat.le_of_ble_eq_true rfl)⟩ ?_
    rintro v_ w_ ⟨pw2_5, b22_6, rfl, rfl, hfl⟩
    show ZW C 0 0 [wJ m_product (zK C).2.2.1 961 pd, wO m 9 [.int (zI (0)), .int (zI (0)), .ref m_sheetSort, .ref m_sheetMany, .ref m_numbers, .int (zI (4)), .int (zI (m_kind)), .int (zI (5)), .int (zI (m_round)), .int (zI (m_ax)), .int (zI (0)), .int (zI (m_bx)), .int (zI (0)), .ref m_dx, .ref m_dy, .ref m_weight, .ref m_isBarred, .ref m_walks, .ref m_one, .ref m_two, .ref m_light, .ref m_lightThen, .int (zI (m_family)), .ref m_fromX, .ref m_fromY, .ref m_toX, .ref m_toY, .int (zI (m_ruleMany)), .ref m_rule, .ref m_out, .int (zI (m_outs)), .ref m_grid, .ref m_heap, .ref m_ends, .ref m_power, .ref m_by2, .ref m_product, .ref m_levels, .ref m_row, .ref m_then, .ref m_equations], wI m_dy (zK C).2.1 8 dy, wJ m_power (zK C).2.2.1 961 pw2_5, wJ m_by2 (zK C).2.2.1 961 b22_6] [(0, .ref m), (1, .long (zL (n)))] 40 []
    refine z_lload_n hC 1 dX9_far_40 rfl rfl ?_
    refine z_lstore_n hC [(3, .long (zL (n))), (0, .ref m), (1, .long (zL (n)))] dX9_far_41 rfl (by decide) rfl ?_
    refine z_lv (lv' := [(0, .ref m), (1, .long (zL (n))), (3, .long (zL (n)))]) [1, 2, 0] rfl ?_
    have lp42_7 : ∀ (f9 : Nat) (left : Int) (dq : Int → Int) (pq : Int → Int) (bq : Int → Int) (e : Nat) (s : Nat), (0 ≤ left ∧ left ≤ n) → (n = (e : Int) + (s : Int) * left) → (∀ i j, 0 ≤ i → i ≤ 5 → 0 ≤ j → j ≤ 5 → pq (31 * i + j) = EX e i j % 998244353) → (∀ i j, 0 ≤ i → i ≤ 5 → 0 ≤ j → j ≤ 5 → bq (31 * i + j) = EX s i j % 998244353) → (left).toNat < f9 → ZW C 0 0 [wJ m_product (zK C).2.2.1 961 dq, wO m 9 [.int (zI (0)), .int (zI (0)), .ref m_sheetSort, .ref m_sheetMany, .ref m_numbers, .int (zI (4)), .int (zI (m_kind)), .int (zI (5)), .int (zI (m_round)), .int (zI (m_ax)), .int (zI (0)), .int (zI (m_bx)), .int (zI (0)), .ref m_dx, .ref m_dy, .ref m_weight, .ref m_isBarred, .ref m_walks, .ref m_one, .ref m_two, .ref m_light, .ref m_lightThen, .int (zI (m_family)), .ref m_fromX, .ref m_fromY, .ref m_toX, .ref m_toY, .int (zI (m_ruleMany)), .ref m_rule, .ref m_out, .int (zI (m_outs)), .ref m_grid, .ref m_heap, .ref m_ends, .ref m_power, .ref m_by2, .ref m_product, .ref m_levels, .ref m_row, .ref m_then, .ref m_equations], wI m_dy (zK C).2.1 8 dy, wJ m_power (zK C).2.2.1 961 pq, wJ m_by2 (zK C).2.2.1 961 bq] [(0, .ref m), (1, .long (zL (n))), (3, .long (zL (left)))] 42 [] := by
      intro f9
      induction f9 with
      | zero => intro _ _ _ _ _ _ _ _ _ _ hf; exact absurd hf (Nat.not_lt_zero _)
      | succ f9 ih42_8 =>
        intro left dq pq bq e s vl vn vA vB hf_42
        refine z_lload_n hC 2 dX9_far_42 rfl rfl ?_
        refine z_lconst (v := 0) hC dX9_far_43 rfl ?_
        refine z_lcle hC 95 dX9_far_44 dX9_far_45 (by decide) (by omega) (fun c_10 => ?_) (fun c_10 => ?_)
        · skip
          refine z_aload_n hC 0 dX9_far_95 rfl rfl ?_
          refine z_get hC (T := TX9) (N := 41) hinX9 1 34 dX9_far_96 rfl rfl (by decide) (List.mem_of_getElem? (i := 3) rfl) rfl rfl ?_
          refine z_bipush hC dX9_far_99 (by decide) ?_
          refine z_aload_n hC 0 dX9_far_101 rfl rfl ?_
          refine z_get hC (T := TX9) (N := 41) hinX9 1 10 dX9_far_102 rfl rfl (by decide) (List.mem_of_getElem? (i := 5) rfl) rfl rfl ?_
          refine z_imul hC (0) dX9_far_105 (by decide) ?_
          refine z_aload_n hC 0 dX9_far_106 rfl rfl ?_
          refine z_get hC (T := TX9) (N := 41) hinX9 1 12 dX9_far_107 rfl rfl (by decide) (List.mem_of_getElem? (i := 6) rfl) rfl rfl ?_
          refine z_iadd hC (0) dX9_far_110 (by decide) ?_
          refine z_lald hC 3 dX9_far_111 rfl (by omega) ?_
          refine z_l2i hC dX9_far_112 ?_
          refine z_ws (ws' := []) [] rfl rfl ?_
          exact z_iret hC hR dX9_far_113 (Nat.le_of_ble_eq_true rfl) (Nat.le_of_ble_eq_true rfl) ⟨pq 0, rfl, rfl, by right; refine ⟨by omega, ?_⟩; have h0 := vA 0 0 (by omega) (by omega) (by omega) (by omega); have h1 : n.toNat = e := (by rw [show left = 0 by omega, Int.mul_zero] at vn; omega); rw [show (31 : Int) * 0 + 0 = 0 by decide] at h0; unfold tE; rw [h1]; exact h0⟩
        · skip
          refine z_lload_n hC 2 dX9_far_48 rfl rfl ?_
          refine z_lconst (v := 1) hC dX9_far_49 rfl ?_
          refine z_land hC dX9_far_50 ?_
          refine z_topl (b := left % 2) (by exact zand_1 (by omega)) ?_
          refine z_lconst (v := 1) hC dX9_far_51 rfl ?_
          refine z_lcne hC 72 dX9_far_52 dX9_far_53 (by decide) (by omega) (fun c_11 => ?_) (fun c_11 => ?_)
          · skip
            refine z_aload_n hC 0 dX9_far_72 rfl rfl ?_
            refine z_aload_n hC 0 dX9_far_73 rfl rfl ?_
            refine z_get hC (T := TX9) (N := 41) hinX9 1 35 dX9_far_74 rfl rfl (by decide) (List.mem_of_getElem? (i := 4) rfl) rfl rfl ?_
            refine z_aload_n hC 0 dX9_far_77 rfl rfl ?_
            refine z_get hC (T := TX9) (N := 41) hinX9 1 35 dX9_far_78 rfl rfl (by decide) (List.mem_of_getElem? (i := 4) rfl) rfl rfl ?_
            refine z_aload_n hC 0 dX9_far_81 rfl rfl ?_
            refine z_get hC (T := TX9) (N := 41) hinX9 1 35 dX9_far_82 rfl rfl (by decide) (List.mem_of_getElem? (i := 4) rfl) rfl rfl ?_
            refine z_callV hC [.ref m_by2, .ref m_by2, .ref m_by2] 3 0 dX9_far_85 (c_X9_multiplyb (zl C) (zD C) (zK C) m m_by2 m_sheetSort m_sheetMany m_numbers m_dx m_dy m_weight m_isBarred m_walks m_one m_two m_light m_lightThen m_fromX m_fromY m_toX m_toY m_rule m_out m_grid m_heap m_ends m_power m_product m_levels m_row m_then m_equations 0 0 m_kind m_round m_ax m_bx m_family m_ruleMany m_outs bq dq s (by exact vB)) gX9_far_X9_multiply rfl rfl rfl ⟨by decide, by decide, by decide +kernel⟩ ⟨(Nat.le_of_ble_eq_true rfl), (Nat.le_of_ble_eq_true rfl)⟩ rfl rfl rfl rfl [1, 4, 0] [2, 3] [wI m_dy (zK C).2.1 8 dy, wJ m_power (zK C).2.2.1 961 pq] [] rfl rfl rfl rfl rfl (by decide) (Nat.le_of_ble_eq_true rfl) ⟨(Nat.le_of_ble_eq_true rfl), (Nat.le_of_ble_eq_true rfl)⟩ ?_
            rintro v_ w_ ⟨w2_12, pd2_13, rfl, rfl, hmb⟩
            show ZW C 0 0 [wI m_dy (zK C).2.1 8 dy, wJ m_power (zK C).2.2.1 961 pq, wO m 9 [.int (zI (0)), .int (zI (0)), .ref m_sheetSort, .ref m_sheetMany, .ref m_numbers, .int (zI (4)), .int (zI (m_kind)), .int (zI (5)), .int (zI (m_round)), .int (zI (m_ax)), .int (zI (0)), .int (zI (m_bx)), .int (zI (0)), .ref m_dx, .ref m_dy, .ref m_weight, .ref m_isBarred, .ref m_walks, .ref m_one, .ref m_two, .ref m_light, .ref m_lightThen, .int (zI (m_family)), .ref m_fromX, .ref m_fromY, .ref m_toX, .ref m_toY, .int (zI (m_ruleMany)), .ref m_rule, .ref m_out, .int (zI (m_outs)), .ref m_grid, .ref m_heap, .ref m_ends, .ref m_power, .ref m_by2, .ref m_product, .ref m_levels, .ref m_row, .ref m_then, .ref m_equations], wJ m_by2 (zK C).2.2.1 961 w2_12, wJ m_product (zK C).2.2.1 961 pd2_13] [(0, .ref m), (1, .long (zL (n))), (3, .long (zL (left)))] 88 []
            have hfs := far_stepN vn (by omega)
            refine z_lload_n hC 2 dX9_far_88 rfl rfl ?_
            refine z_iconst hC dX9_far_89 ?_
            refine z_lshr hC dX9_far_90 ?_
            refine z_topl (b := left / 2) (by exact zshr_1 (by omega)) ?_
            refine z_lstore_n hC [(3, .long (zL (left / 2))), (0, .ref m), (1, .long (zL (n)))] dX9_far_91 rfl (by decide) rfl ?_
            refine z_goto hC 42 dX9_far_92 (by decide) ?_
            refine z_lv (lv' := [(0, .ref m), (1, .long (zL (n))), (3, .long (zL (left / 2)))]) [1, 2, 0] rfl ?_
            refine z_ws (ws' := [wJ m_product (zK C).2.2.1 961 pd2_13, wO m 9 [.int (zI (0)), .int (zI (0)), .ref m_sheetSort, .ref m_sheetMany, .ref m_numbers, .int (zI (4)), .int (zI (m_kind)), .int (zI (5)), .int (zI (m_round)), .int (zI (m_ax)), .int (zI (0)), .int (zI (m_bx)), .int (zI (0)), .ref m_dx, .ref m_dy, .ref m_weight, .ref m_isBarred, .ref m_walks, .ref m_one, .ref m_two, .ref m_light, .ref m_lightThen, .int (zI (m_family)), .ref m_fromX, .ref m_fromY, .ref m_toX, .ref m_toY, .int (zI (m_ruleMany)), .ref m_rule, .ref m_out, .int (zI (m_outs)), .ref m_grid, .ref m_heap, .ref m_ends, .ref m_power, .ref m_by2, .ref m_product, .ref m_levels, .ref m_row, .ref m_then, .ref m_equations], wI m_dy (zK C).2.1 8 dy, wJ m_power (zK C).2.2.1 961 pq, wJ m_by2 (zK C).2.2.1 961 w2_12]) [4, 2, 0, 1, 3] rfl rfl ?_
            exact ih42_8 (left / 2) pd2_13 pq w2_12 (e + s * (left % 2).toNat) (s + s) (by omega) (by exact hfs) (by first | (rw [show (left % 2).toNat = 1 by omega, Nat.mul_one]; exact hmp) | (rw [show (left % 2).toNat = 0 by omega, Nat.mul_zero, Nat.add_zero]; exact vA)) (by exact hmb) (by omega)
          · skip
            refine z_aload_n hC 0 dX9_far_56 rfl rfl ?_
            refine z_aload_n hC 0 dX9_far_57 rfl rfl ?_
            refine z_get hC (T := TX9) (N := 41) hinX9 1 34 dX9_far_58 rfl rfl (by decide) (List.mem_of_getElem? (i := 3) rfl) rfl rfl ?_
            refine z_aload_n hC 0 dX9_far_61 rfl rfl ?_
            refine z_get hC (T := TX9) (N := 41) hinX9 1 35 dX9_far_62 rfl rfl (by decide) (List.mem_of_getElem? (i := 4) rfl) rfl rfl ?_
            refine z_aload_n hC 0 dX9_far_65 rfl rfl ?_
            refine z_get hC (T := TX9) (N := 41) hinX9 1 34 dX9_far_66 rfl rfl (by decide) (List.mem_of_getElem? (i := 3) rfl) rfl rfl ?_
            refine z_callV hC [.ref m_power, .ref m_by2, .ref m_power] 3 0 dX9_far_69 (c_X9_multiplyp (zl C) (zD C) (zK C) m m_power m_by2 m_sheetSort m_sheetMany m_numbers m_dx m_dy m_weight m_isBarred m_walks m_one m_two m_light m_lightThen m_fromX m_fromY m_toX m_toY m_rule m_out m_grid m_heap m_ends m_product m_levels m_row m_then m_equations 0 0 m_kind m_round m_ax m_bx m_family m_ruleMany m_outs pq bq dq e s (by exact vA) (by exact vB)) gX9_far_X9_multiply rfl rfl rfl ⟨by decide, by decide, by decide +kernel⟩ ⟨(Nat.le_of_ble_eq_true rfl), (Nat.le_of_ble_eq_true rfl)⟩ rfl rfl rfl rfl [1, 3, 4, 0] [2] [wI m_dy (zK C).2.1 8 dy] [] rfl rfl rfl rfl rfl (by decide) (Nat.le_of_ble_eq_true rfl) ⟨(Nat.le_of_ble_eq_true rfl), (Nat.le_of_ble_eq_true rfl)⟩ ?_
            rintro v_ w_ ⟨w2_14, pd2_15, rfl, rfl, hmp⟩
            show ZW C 0 0 [wI m_dy (zK C).2.1 8 dy, wO m 9 [.int (zI (0)), .int (zI (0)), .ref m_sheetSort, .ref m_sheetMany, .ref m_numbers, .int (zI (4)), .int (zI (m_kind)), .int (zI (5)), .int (zI (m_round)), .int (zI (m_ax)), .int (zI (0)), .int (zI (m_bx)), .int (zI (0)), .ref m_dx, .ref m_dy, .ref m_weight, .ref m_isBarred, .ref m_walks, .ref m_one, .ref m_two, .ref m_light, .ref m_lightThen, .int (zI (m_family)), .ref m_fromX, .ref m_fromY, .ref m_toX, .ref m_toY, .int (zI (m_ruleMany)), .ref m_rule, .ref m_out, .int (zI (m_outs)), .ref m_grid, .ref m_heap, .ref m_ends, .ref m_power, .ref m_by2, .ref m_product, .ref m_levels, .ref m_row, .ref m_then, .ref m_equations], wJ m_power (zK C).2.2.1 961 w2_14, wJ m_by2 (zK C).2.2.1 961 bq, wJ m_product (zK C).2.2.1 961 pd2_15] [(0, .ref m), (1, .long (zL (n))), (3, .long (zL (left)))] 72 []
            refine z_aload_n hC 0 dX9_far_72 rfl rfl ?_
            refine z_aload_n hC 0 dX9_far_73 rfl rfl ?_
            refine z_get hC (T := TX9) (N := 41) hinX9 1 35 dX9_far_74 rfl rfl (by decide) (List.mem_of_getElem? (i := 4) rfl) rfl rfl ?_
            refine z_aload_n hC 0 dX9_far_77 rfl rfl ?_
            refine z_get hC (T := TX9) (N := 41) hinX9 1 35 dX9_far_78 rfl rfl (by decide) (List.mem_of_getElem? (i := 4) rfl) rfl rfl ?_
            refine z_aload_n hC 0 dX9_far_81 rfl rfl ?_
            refine z_get hC (T := TX9) (N := 41) hinX9 1 35 dX9_far_82 rfl rfl (by decide) (List.mem_of_getElem? (i := 4) rfl) rfl rfl ?_
            refine z_callV hC [.ref m_by2, .ref m_by2, .ref m_by2] 3 0 dX9_far_85 (c_X9_multiplyb (zl C) (zD C) (zK C) m m_by2 m_sheetSort m_sheetMany m_numbers m_dx m_dy m_weight m_isBarred m_walks m_one m_two m_light m_lightThen m_fromX m_fromY m_toX m_toY m_rule m_out m_grid m_heap m_ends m_power m_product m_levels m_row m_then m_equations 0 0 m_kind m_round m_ax m_bx m_family m_ruleMany m_outs bq pd2_15 s (by exact vB)) gX9_far_X9_multiply rfl rfl rfl ⟨by decide, by decide, by decide +kernel⟩ ⟨(Nat.le_of_ble_eq_true rfl), (Nat.le_of_ble_eq_true rfl)⟩ rfl rfl rfl rfl [1, 3, 4] [0, 2] [wI m_dy (zK C).2.1 8 dy, wJ m_power (zK C).2.2.1 961 w2_14] [] rfl rfl rfl rfl rfl (by decide) (Nat.le_of_ble_eq_true rfl) ⟨(Nat.le_of_ble_eq_true rfl), (Nat.le_of_ble_eq_true rfl)⟩ ?_
            rintro v_ w_ ⟨w2_16, pd2_17, rfl, rfl, hmb⟩
            show ZW C 0 0 [wI m_dy (zK C).2.1 8 dy, wJ m_power (zK C).2.2.1 961 w2_14, wO m 9 [.int (zI (0)), .int (zI (0)), .ref m_sheetSort, .ref m_sheetMany, .ref m_numbers, .int (zI (4)), .int (zI (m_kind)), .int (zI (5)), .int (zI (m_round)), .int (zI (m_ax)), .int (zI (0)), .int (zI (m_bx)), .int (zI (0)), .ref m_dx, .ref m_dy, .ref m_weight, .ref m_isBarred, .ref m_walks, .ref m_one, .ref m_two, .ref m_light, .ref m_lightThen, .int (zI (m_family)), .ref m_fromX, .ref m_fromY, .ref m_toX, .ref m_toY, .int (zI (m_ruleMany)), .ref m_rule, .ref m_out, .int (zI (m_outs)), .ref m_grid, .ref m_heap, .ref m_ends, .ref m_power, .ref m_by2, .ref m_product, .ref m_levels, .ref m_row, .ref m_then, .ref m_equations], wJ m_by2 (zK C).2.2.1 961 w2_16, wJ m_product (zK C).2.2.1 961 pd2_17] [(0, .ref m), (1, .long (zL (n))), (3, .long (zL (left)))] 88 []
            have hfs := far_stepN vn (by omega)
            refine z_lload_n hC 2 dX9_far_88 rfl rfl ?_
            refine z_iconst hC dX9_far_89 ?_
            refine z_lshr hC dX9_far_90 ?_
            refine z_topl (b := left / 2) (by exact zshr_1 (by omega)) ?_
            refine z_lstore_n hC [(3, .long (zL (left / 2))), (0, .ref m), (1, .long (zL (n)))] dX9_far_91 rfl (by decide) rfl ?_
            refine z_goto hC 42 dX9_far_92 (by decide) ?_
            refine z_lv (lv' := [(0, .ref m), (1, .long (zL (n))), (3, .long (zL (left / 2)))]) [1, 2, 0] rfl ?_
            refine z_ws (ws' := [wJ m_product (zK C).2.2.1 961 pd2_17, wO m 9 [.int (zI (0)), .int (zI (0)), .ref m_sheetSort, .ref m_sheetMany, .ref m_numbers, .int (zI (4)), .int (zI (m_kind)), .int (zI (5)), .int (zI (m_round)), .int (zI (m_ax)), .int (zI (0)), .int (zI (m_bx)), .int (zI (0)), .ref m_dx, .ref m_dy, .ref m_weight, .ref m_isBarred, .ref m_walks, .ref m_one, .ref m_two, .ref m_light, .ref m_lightThen, .int (zI (m_family)), .ref m_fromX, .ref m_fromY, .ref m_toX, .ref m_toY, .int (zI (m_ruleMany)), .ref m_rule, .ref m_out, .int (zI (m_outs)), .ref m_grid, .ref m_heap, .ref m_ends, .ref m_power, .ref m_by2, .ref m_product, .ref m_levels, .ref m_row, .ref m_then, .ref m_equations], wI m_dy (zK C).2.1 8 dy, wJ m_power (zK C).2.2.1 961 w2_14, wJ m_by2 (zK C).2.2.1 961 w2_16]) [4, 2, 0, 1, 3] rfl rfl ?_
            exact ih42_8 (left / 2) pd2_17 w2_14 w2_16 (e + s * (left % 2).toNat) (s + s) (by omega) (by exact hfs) (by first | (rw [show (left % 2).toNat = 1 by omega, Nat.mul_one]; exact hmp) | (rw [show (left % 2).toNat = 0 by omega, Nat.mul_zero, Nat.add_zero]; exact vA)) (by exact hmb) (by omega)
    exact lp42_7 _ n pd pw2_5 b22_6 0 1 (by omega) (by show n = 0 + 1 * n; omega) (by exact hfl.1) (by exact hfl.2) (Nat.lt_succ_self _)
  · skip
    refine z_aload_n hC 0 dX9_far_16 rfl rfl ?_
    refine z_iconst hC dX9_far_17 ?_
    refine z_callV hC [.int (zI (2))] 1 0 dX9_far_18 (c_X9_refuse (zl C) (zD C) (zK C) m m_sheetSort m_sheetMany m_numbers m_dx m_dy m_weight m_isBarred m_walks m_one m_two m_light m_lightThen m_fromX m_fromY m_toX m_toY m_rule m_out m_grid m_heap m_ends m_power m_by2 m_product m_levels m_row m_then m_equations 2 0 0 4 m_kind 5 m_round m_ax 0 m_bx 0 m_family m_ruleMany m_outs ) gX9_far_X9_refuse rfl rfl rfl ⟨by decide, by decide, by decide +kernel⟩ ⟨(Nat.le_of_ble_eq_true rfl), (Nat.le_of_ble_eq_true rfl)⟩ rfl rfl rfl rfl [0] [1, 2, 3, 4] [wI m_dy (zK C).2.1 8 dy, wJ m_power (zK C).2.2.1 961 pw, wJ m_by2 (zK C).2.2.1 961 b2, wJ m_product (zK C).2.2.1 961 pd] [] rfl rfl rfl rfl rfl (by decide) (Nat.le_of_ble_eq_true rfl) ⟨(Nat.le_of_ble_eq_true rfl), (Nat.le_of_ble_eq_true rfl)⟩ ?_
    rintro v_ w_ ⟨rfl, rfl, h_18_18⟩
    show ZW C 0 0 [wI m_dy (zK C).2.1 8 dy, wJ m_power (zK C).2.2.1 961 pw, wJ m_by2 (zK C).2.2.1 961 b2, wJ m_product (zK C).2.2.1 961 pd, wO m 9 [.int (zI (2)), .int (zI (0)), .ref m_sheetSort, .ref m_sheetMany, .ref m_numbers, .int (zI (4)), .int (zI (m_kind)), .int (zI (5)), .int (zI (m_round)), .int (zI (m_ax)), .int (zI (0)), .int (zI (m_bx)), .int (zI (0)), .ref m_dx, .ref m_dy, .ref m_weight, .ref m_isBarred, .ref m_walks, .ref m_one, .ref m_two, .ref m_light, .ref m_lightThen, .int (zI (m_family)), .ref m_fromX, .ref m_fromY, .ref m_toX, .ref m_toY, .int (zI (m_ruleMany)), .ref m_rule, .ref m_out, .int (zI (m_outs)), .ref m_grid, .ref m_heap, .ref m_ends, .ref m_power, .ref m_by2, .ref m_product, .ref m_levels, .ref m_row, .ref m_then, .ref m_equations]] [(0, .ref m), (1, .long (zL (n)))] 21 [.int (zI (-1))]
    refine z_ws (ws' := []) [] rfl rfl ?_
    exact z_iret hC hR dX9_far_21 (Nat.le_of_ble_eq_true rfl) (Nat.le_of_ble_eq_true rfl) ⟨-1, rfl, rfl, by omega⟩

set_option maxHeartbeats 4000000 in
set_option maxRecDepth 100000 in
theorem c_X9_fillRow (l : Launch) (D : va_G) (K : ClassId × ClassId × ClassId × ClassId) (m m_sheetSort m_sheetMany m_numbers m_dx m_dy m_weight m_isBarred m_walks m_one m_two m_light m_lightThen m_fromX m_fromY m_toX m_toY m_rule m_out m_grid m_heap m_ends m_power m_by2 m_product m_levels m_row m_then m_equations : Nat) (m_status m_thrown m_kind m_round m_ax m_bx m_family m_ruleMany m_outs : Int) (dy pw b2 rw_ le th : Int → Int) (hdy : ∀ j, 0 ≤ j → j < 8 → dy j = sdy j) : zMet l D K yX9_fillRow wsX9_fillRow ({ frames := 1, cells := 0, slots := 0, locals := 22 }) 0 0 [.ref m] [wO m 9 [.int (zI (m_status)), .int (zI (m_thrown)), .ref m_sheetSort, .ref m_sheetMany, .ref m_numbers, .int (zI (4)), .int (zI (m_kind)), .int (zI (5)), .int (zI (m_round)), .int (zI (m_ax)), .int (zI (0)), .int (zI (m_bx)), .int (zI (0)), .ref m_dx, .ref m_dy, .ref m_weight, .ref m_isBarred, .ref m_walks, .ref m_one, .ref m_two, .ref m_light, .ref m_lightThen, .int (zI (m_family)), .ref m_fromX, .ref m_fromY, .ref m_toX, .ref m_toY, .int (zI (m_ruleMany)), .ref m_rule, .ref m_out, .int (zI (m_outs)), .ref m_grid, .ref m_heap, .ref m_ends, .ref m_power, .ref m_by2, .ref m_product, .ref m_levels, .ref m_row, .ref m_then, .ref m_equations], wI m_dy K.2.1 8 dy, wJ m_power K.2.2.1 961 pw, wJ m_by2 K.2.2.1 961 b2, wJ m_row K.2.2.1 31 rw_, wJ m_levels K.2.2.1 128 le, wJ m_then K.2.2.1 31 th] (fun vr_ wr_ => ∃ (le2 : Int → Int), vr_ = none ∧ wr_ = [wO m 9 [.int (zI (m_status)), .int (zI (m_thrown)), .ref m_sheetSort, .ref m_sheetMany, .ref m_numbers, .int (zI (4)), .int (zI (m_kind)), .int (zI (5)), .int (zI (m_round)), .int (zI (m_ax)), .int (zI (0)), .int (zI (m_bx)), .int (zI (0)), .ref m_dx, .ref m_dy, .ref m_weight, .ref m_isBarred, .ref m_walks, .ref m_one, .ref m_two, .ref m_light, .ref m_lightThen, .int (zI (m_family)), .ref m_fromX, .ref m_fromY, .ref m_toX, .ref m_toY, .int (zI (m_ruleMany)), .ref m_rule, .ref m_out, .int (zI (m_outs)), .ref m_grid, .ref m_heap, .ref m_ends, .ref m_power, .ref m_by2, .ref m_product, .ref m_levels, .ref m_row, .ref m_then, .ref m_equations], wJ m_levels K.2.2.1 128 le2] ∧ (∀ j, 0 ≤ j → j < 128 → le2 j = arL TL j)) := by
  refine zMet_of (cc := cX9_fillRow) (nL := 4) (ret := none) (by decide) rfl (Nat.le_of_ble_eq_true rfl) ?_
  rintro C rfl rfl rfl hC hR
  have hinX9 : ∀ w ∈ u_ws RX9 TX9 41, w ∈ wsX9_fillRow := by decide +kernel
  show ZW C 0 0 [wO m 9 [.int (zI (m_status)), .int (zI (m_thrown)), .ref m_sheetSort, .ref m_sheetMany, .ref m_numbers, .int (zI (4)), .int (zI (m_kind)), .int (zI (5)), .int (zI (m_round)), .int (zI (m_ax)), .int (zI (0)), .int (zI (m_bx)), .int (zI (0)), .ref m_dx, .ref m_dy, .ref m_weight, .ref m_isBarred, .ref m_walks, .ref m_one, .ref m_two, .ref m_light, .ref m_lightThen, .int (zI (m_family)), .ref m_fromX, .ref m_fromY, .ref m_toX, .ref m_toY, .int (zI (m_ruleMany)), .ref m_rule, .ref m_out, .int (zI (m_outs)), .ref m_grid, .ref m_heap, .ref m_ends, .ref m_power, .ref m_by2, .ref m_product, .ref m_levels, .ref m_row, .ref m_then, .ref m_equations], wI m_dy (zK C).2.1 8 dy, wJ m_power (zK C).2.2.1 961 pw, wJ m_by2 (zK C).2.2.1 961 b2, wJ m_row (zK C).2.2.1 31 rw_, wJ m_levels (zK C).2.2.1 128 le, wJ m_then (zK C).2.2.1 31 th] [(0, .ref m)] 0 []
  refine z_aload_n hC 0 dX9_fillRow_0 rfl rfl ?_
  refine z_callV hC [] 0 0 dX9_fillRow_1 (c_X9_fillLevels (zl C) (zD C) (zK C) m m_sheetSort m_sheetMany m_numbers m_dx m_dy m_weight m_isBarred m_walks m_one m_two m_light m_lightThen m_fromX m_fromY m_toX m_toY m_rule m_out m_grid m_heap m_ends m_power m_by2 m_product m_levels m_row m_then m_equations m_status m_thrown m_kind m_round m_ax m_bx m_family m_ruleMany m_outs dy pw b2 (by first | assumption | omega)) gX9_fillRow_X9_fillLevels rfl rfl rfl ⟨by decide, by decide, by decide +kernel⟩ ⟨(Nat.le_of_ble_eq_true rfl), (Nat.le_of_ble_eq_true rfl)⟩ rfl rfl rfl rfl [0, 1, 2, 3] [4, 5, 6] [wJ m_row (zK C).2.2.1 31 rw_, wJ m_levels (zK C).2.2.1 128 le, wJ m_then (zK C).2.2.1 31 th] [] rfl rfl rfl rfl rfl (by decide) (Nat.le_of_ble_eq_true rfl) ⟨(Nat.le_of_ble_eq_true rfl), (Nat.le_of_ble_eq_true rfl)⟩ ?_
  rintro v_ w_ ⟨pw2_1, b22_2, rfl, rfl, hfl⟩
  show ZW C 0 0 [wJ m_row (zK C).2.2.1 31 rw_, wJ m_levels (zK C).2.2.1 128 le, wJ m_then (zK C).2.2.1 31 th, wO m 9 [.int (zI (m_status)), .int (zI (m_thrown)), .ref m_sheetSort, .ref m_sheetMany, .ref m_numbers, .int (zI (4)), .int (zI (m_kind)), .int (zI (5)), .int (zI (m_round)), .int (zI (m_ax)), .int (zI (0)), .int (zI (m_bx)), .int (zI (0)), .ref m_dx, .ref m_dy, .ref m_weight, .ref m_isBarred, .ref m_walks, .ref m_one, .ref m_two, .ref m_light, .ref m_lightThen, .int (zI (m_family)), .ref m_fromX, .ref m_fromY, .ref m_toX, .ref m_toY, .int (zI (m_ruleMany)), .ref m_rule, .ref m_out, .int (zI (m_outs)), .ref m_grid, .ref m_heap, .ref m_ends, .ref m_power, .ref m_by2, .ref m_product, .ref m_levels, .ref m_row, .ref m_then, .ref m_equations], wI m_dy (zK C).2.1 8 dy, wJ m_power (zK C).2.2.1 961 pw2_1, wJ m_by2 (zK C).2.2.1 961 b22_2] [(0, .ref m)] 4 []
  refine z_iconst hC dX9_fillRow_4 ?_
  refine z_istore_n hC [(1, .int (zI (0))), (0, .ref m)] dX9_fillRow_5 rfl (by decide) rfl ?_
  refine z_lv (lv' := [(0, .ref m), (1, .int (zI (0)))]) [1, 0] rfl ?_
  have lp6_3 : ∀ (f5 : Nat) (y0 : Int) (r0 : Int → Int), (0 ≤ y0 ∧ y0 ≤ 31) → (∀ j, 0 ≤ j → j < y0 → r0 j = if j = 0 then 1 else 0) → (31 - y0).toNat < f5 → ZW C 0 0 [wJ m_row (zK C).2.2.1 31 r0, wJ m_levels (zK C).2.2.1 128 le, wJ m_then (zK C).2.2.1 31 th, wO m 9 [.int (zI (m_status)), .int (zI (m_thrown)), .ref m_sheetSort, .ref m_sheetMany, .ref m_numbers, .int (zI (4)), .int (zI (m_kind)), .int (zI (5)), .int (zI (m_round)), .int (zI (m_ax)), .int (zI (0)), .int (zI (m_bx)), .int (zI (0)), .ref m_dx, .ref m_dy, .ref m_weight, .ref m_isBarred, .ref m_walks, .ref m_one, .ref m_two, .ref m_light, .ref m_lightThen, .int (zI (m_family)), .ref m_fromX, .ref m_fromY, .ref m_toX, .ref m_toY, .int (zI (m_ruleMany)), .ref m_rule, .ref m_out, .int (zI (m_outs)), .ref m_grid, .ref m_heap, .ref m_ends, .ref m_power, .ref m_by2, .ref m_product, .ref m_levels, .ref m_row, .ref m_then, .ref m_equations], wI m_dy (zK C).2.1 8 dy, wJ m_power (zK C).2.2.1 961 pw2_1, wJ m_by2 (zK C).2.2.1 961 b22_2] [(0, .ref m), (1, .int (zI (y0)))] 6 [] := by
    intro f5
    induction f5 with
    | zero => intro _ _ _ _ hf; exact absurd hf (Nat.not_lt_zero _)
    | succ f5 ih6_4 =>
      intro y0 r0 vy0 vr0 hf_6
      refine z_iload_n hC 1 dX9_fillRow_6 rfl rfl ?_
      refine z_bipush hC dX9_fillRow_7 (by decide) ?_
      refine z_icge hC 37 dX9_fillRow_9 (by decide) (by omega) (fun c_6 => ?_) (fun c_6 => ?_)
      · skip
        refine z_iconst hC dX9_fillRow_37 ?_
        refine z_istore_n hC [(1, .int (zI (0))), (0, .ref m)] dX9_fillRow_38 rfl (by decide) rfl ?_
        refine z_lv (lv' := [(0, .ref m), (1, .int (zI (0)))]) [1, 0] rfl ?_
        have lp39_7 : ∀ (f9 : Nat) (n : Int) (rq : Int → Int) (lq : Int → Int) (tq0 : Int → Int), (0 ≤ n ∧ n ≤ 128) → (∀ j, 0 ≤ j → j < n → lq j = arL TL j) → (∀ y, 0 ≤ y → y ≤ 5 → rq y = EX n.toNat 0 y % 998244353) → (128 - n).toNat < f9 → ZW C 0 0 [wJ m_row (zK C).2.2.1 31 rq, wJ m_levels (zK C).2.2.1 128 lq, wJ m_then (zK C).2.2.1 31 tq0, wO m 9 [.int (zI (m_status)), .int (zI (m_thrown)), .ref m_sheetSort, .ref m_sheetMany, .ref m_numbers, .int (zI (4)), .int (zI (m_kind)), .int (zI (5)), .int (zI (m_round)), .int (zI (m_ax)), .int (zI (0)), .int (zI (m_bx)), .int (zI (0)), .ref m_dx, .ref m_dy, .ref m_weight, .ref m_isBarred, .ref m_walks, .ref m_one, .ref m_two, .ref m_light, .ref m_lightThen, .int (zI (m_family)), .ref m_fromX, .ref m_fromY, .ref m_toX, .ref m_toY, .int (zI (m_ruleMany)), .ref m_rule, .ref m_out, .int (zI (m_outs)), .ref m_grid, .ref m_heap, .ref m_ends, .ref m_power, .ref m_by2, .ref m_product, .ref m_levels, .ref m_row, .ref m_then, .ref m_equations], wI m_dy (zK C).2.1 8 dy, wJ m_power (zK C).2.2.1 961 pw2_1, wJ m_by2 (zK C).2.2.1 961 b22_2] [(0, .ref m), (1, .int (zI (n)))] 39 [] := by
          intro f9
          induction f9 with
          | zero => intro _ _ _ _ _ _ _ hf; exact absurd hf (Nat.not_lt_zero _)
          | succ f9 ih39_8 =>
            intro n rq lq tq0 vn vl vr hf_39
            refine z_iload_n hC 1 dX9_fillRow_39 rfl rfl ?_
            refine z_sipush hC dX9_fillRow_40 (by decide) ?_
            refine z_icge hC 169 dX9_fillRow_43 (by decide) (by omega) (fun c_10 => ?_) (fun c_10 => ?_)
            · skip
              refine z_ws (ws' := [wO m 9 [.int (zI (m_status)), .int (zI (m_thrown)), .ref m_sheetSort, .ref m_sheetMany, .ref m_numbers, .int (zI (4)), .int (zI (m_kind)), .int (zI (5)), .int (zI (m_round)), .int (zI (m_ax)), .int (zI (0)), .int (zI (m_bx)), .int (zI (0)), .ref m_dx, .ref m_dy, .ref m_weight, .ref m_isBarred, .ref m_walks, .ref m_one, .ref m_two, .ref m_light, .ref m_lightThen, .int (zI (m_family)), .ref m_fromX, .ref m_fromY, .ref m_toX, .ref m_toY, .int (zI (m_ruleMany)), .ref m_rule, .ref m_out, .int (zI (m_outs)), .ref m_grid, .ref m_heap, .ref m_ends, .ref m_power, .ref m_by2, .ref m_product, .ref m_levels, .ref m_row, .ref m_then, .ref m_equations], wJ m_levels (zK C).2.2.1 128 lq]) [3, 1] rfl rfl ?_
              exact z_vret hC hR dX9_fillRow_169 (Nat.le_of_ble_eq_true rfl) (Nat.le_of_ble_eq_true rfl) ⟨lq, rfl, rfl, by intro j a b; exact vl j a (by omega)⟩
            · skip
              refine z_aload_n hC 0 dX9_fillRow_46 rfl rfl ?_
              refine z_get hC (T := TX9) (N := 41) hinX9 3 37 dX9_fillRow_47 rfl rfl (by decide) (List.mem_of_getElem? (i := 3) rfl) rfl rfl ?_
              refine z_iload_n hC 1 dX9_fillRow_50 rfl rfl ?_
              refine z_aload_n hC 0 dX9_fillRow_51 rfl rfl ?_
              refine z_get hC (T := TX9) (N := 41) hinX9 3 38 dX9_fillRow_52 rfl rfl (by decide) (List.mem_of_getElem? (i := 1) rfl) rfl rfl ?_
              refine z_aload_n hC 0 dX9_fillRow_55 rfl rfl ?_
              refine z_get hC (T := TX9) (N := 41) hinX9 3 12 dX9_fillRow_56 rfl rfl (by decide) (List.mem_of_getElem? (i := 4) rfl) rfl rfl ?_
              refine z_lald hC 0 dX9_fillRow_59 rfl (by omega) ?_
              refine z_last hC 1 [wJ m_row (zK C).2.2.1 31 rq, wJ m_levels (zK C).2.2.1 128 (zu lq n (rq 0)), wJ m_then (zK C).2.2.1 31 tq0, wO m 9 [.int (zI (m_status)), .int (zI (m_thrown)), .ref m_sheetSort, .ref m_sheetMany, .ref m_numbers, .int (zI (4)), .int (zI (m_kind)), .int (zI (5)), .int (zI (m_round)), .int (zI (m_ax)), .int (zI (0)), .int (zI (m_bx)), .int (zI (0)), .ref m_dx, .ref m_dy, .ref m_weight, .ref m_isBarred, .ref m_walks, .ref m_one, .ref m_two, .ref m_light, .ref m_lightThen, .int (zI (m_family)), .ref m_fromX, .ref m_fromY, .ref m_toX, .ref m_toY, .int (zI (m_ruleMany)), .ref m_rule, .ref m_out, .int (zI (m_outs)), .ref m_grid, .ref m_heap, .ref m_ends, .ref m_power, .ref m_by2, .ref m_product, .ref m_levels, .ref m_row, .ref m_then, .ref m_equations], wI m_dy (zK C).2.1 8 dy, wJ m_power (zK C).2.2.1 961 pw2_1, wJ m_by2 (zK C).2.2.1 961 b22_2] dX9_fillRow_60 rfl (by omega) rfl ?_
              refine z_iconst hC dX9_fillRow_61 ?_
              refine z_istore_n hC [(2, .int (zI (0))), (0, .ref m), (1, .int (zI (n)))] dX9_fillRow_62 rfl (by decide) rfl ?_
              refine z_lv (lv' := [(0, .ref m), (1, .int (zI (n))), (2, .int (zI (0)))]) [1, 2, 0] rfl ?_
              have lp63_11 : ∀ (f13 : Nat) (y : Int) (tq : Int → Int), (0 ≤ y ∧ y ≤ 6) → (∀ z, 0 ≤ z → z < y → tq z = EX (n + 1).toNat 0 z % 998244353) → (6 - y).toNat < f13 → ZW C 0 0 [wJ m_row (zK C).2.2.1 31 rq, wJ m_levels (zK C).2.2.1 128 (zu lq n (rq 0)), wJ m_then (zK C).2.2.1 31 tq, wO m 9 [.int (zI (m_status)), .int (zI (m_thrown)), .ref m_sheetSort, .ref m_sheetMany, .ref m_numbers, .int (zI (4)), .int (zI (m_kind)), .int (zI (5)), .int (zI (m_round)), .int (zI (m_ax)), .int (zI (0)), .int (zI (m_bx)), .int (zI (0)), .ref m_dx, .ref m_dy, .ref m_weight, .ref m_isBarred, .ref m_walks, .ref m_one, .ref m_two, .ref m_light, .ref m_lightThen, .int (zI (m_family)), .ref m_fromX, .ref m_fromY, .ref m_toX, .ref m_toY, .int (zI (m_ruleMany)), .ref m_rule, .ref m_out, .int (zI (m_outs)), .ref m_grid, .ref m_heap, .ref m_ends, .ref m_power, .ref m_by2, .ref m_product, .ref m_levels, .ref m_row, .ref m_then, .ref m_equations], wI m_dy (zK C).2.1 8 dy, wJ m_power (zK C).2.2.1 961 pw2_1, wJ m_by2 (zK C).2.2.1 961 b22_2] [(0, .ref m), (1, .int (zI (n))), (2, .int (zI (y)))] 63 [] := by
                intro f13
                induction f13 with
                | zero => intro _ _ _ _ hf; exact absurd hf (Nat.not_lt_zero _)
                | succ f13 ih63_12 =>
                  intro y tq vy vt hf_63
                  refine z_iload_n hC 2 dX9_fillRow_63 rfl rfl ?_
                  refine z_aload_n hC 0 dX9_fillRow_64 rfl rfl ?_
                  refine z_get hC (T := TX9) (N := 41) hinX9 3 7 dX9_fillRow_65 rfl rfl (by decide) (List.mem_of_getElem? (i := 5) rfl) rfl rfl ?_
                  refine z_icgt hC 135 dX9_fillRow_68 (by decide) (by omega) (fun c_14 => ?_) (fun c_14 => ?_)
                  · skip
                    refine z_iconst hC dX9_fillRow_135 ?_
                    refine z_istore_n hC [(2, .int (zI (0))), (0, .ref m), (1, .int (zI (n)))] dX9_fillRow_136 rfl (by decide) rfl ?_
                    refine z_lv (lv' := [(0, .ref m), (1, .int (zI (n))), (2, .int (zI (0)))]) [1, 2, 0] rfl ?_
                    have lp137_15 : ∀ (f17 : Nat) (w : Int) (cq : Int → Int), (0 ≤ w ∧ w ≤ 6) → (∀ z, 0 ≤ z → z < w → cq z = EX (n + 1).toNat 0 z % 998244353) → (6 - w).toNat < f17 → ZW C 0 0 [wJ m_row (zK C).2.2.1 31 cq, wJ m_levels (zK C).2.2.1 128 (zu lq n (rq 0)), wJ m_then (zK C).2.2.1 31 tq, wO m 9 [.int (zI (m_status)), .int (zI (m_thrown)), .ref m_sheetSort, .ref m_sheetMany, .ref m_numbers, .int (zI (4)), .int (zI (m_kind)), .int (zI (5)), .int (zI (m_round)), .int (zI (m_ax)), .int (zI (0)), .int (zI (m_bx)), .int (zI (0)), .ref m_dx, .ref m_dy, .ref m_weight, .ref m_isBarred, .ref m_walks, .ref m_one, .ref m_two, .ref m_light, .ref m_lightThen, .int (zI (m_family)), .ref m_fromX, .ref m_fromY, .ref m_toX, .ref m_toY, .int (zI (m_ruleMany)), .ref m_rule, .ref m_out, .int (zI (m_outs)), .ref m_grid, .ref m_heap, .ref m_ends, .ref m_power, .ref m_by2, .ref m_product, .ref m_levels, .ref m_row, .ref m_then, .ref m_equations], wI m_dy (zK C).2.1 8 dy, wJ m_power (zK C).2.2.1 961 pw2_1, wJ m_by2 (zK C).2.2.1 961 b22_2] [(0, .ref m), (1, .int (zI (n))), (2, .int (zI (w)))] 137 [] := by
                      intro f17
                      induction f17 with
                      | zero => intro _ _ _ _ hf; exact absurd hf (Nat.not_lt_zero _)
                      | succ f17 ih137_16 =>
                        intro w cq vw vcp hf_137
                        refine z_iload_n hC 2 dX9_fillRow_137 rfl rfl ?_
                        refine z_aload_n hC 0 dX9_fillRow_138 rfl rfl ?_
                        refine z_get hC (T := TX9) (N := 41) hinX9 3 7 dX9_fillRow_139 rfl rfl (by decide) (List.mem_of_getElem? (i := 5) rfl) rfl rfl ?_
                        refine z_icgt hC 163 dX9_fillRow_142 (by decide) (by omega) (fun c_18 => ?_) (fun c_18 => ?_)
                        · skip
                          refine z_iinc (a := n) (v := 1) (r := n + 1) hC 1 [(1, .int (zI (n + 1))), (0, .ref m), (2, .int (zI (w)))] dX9_fillRow_163 rfl rfl (by decide) rfl ?_
                          refine z_goto hC 39 dX9_fillRow_166 (by decide) ?_
                          refine z_lv (lv' := [(0, .ref m), (1, .int (zI (n + 1)))]) [1, 0] rfl ?_
                          exact ih39_8 (n + 1) cq (zu lq n (rq 0)) tq (by omega) (by intro j a b; unfold zu; by_cases e : j = n; (rw [if_pos e, vr 0 (by omega) (by omega), e, TL_t (by omega) (by omega)]; rfl); (rw [if_neg e]; exact vl j a (by omega))) (by intro z a b; exact vcp z a (by omega)) (by omega)
                        · skip
                          refine z_aload_n hC 0 dX9_fillRow_145 rfl rfl ?_
                          refine z_get hC (T := TX9) (N := 41) hinX9 3 38 dX9_fillRow_146 rfl rfl (by decide) (List.mem_of_getElem? (i := 1) rfl) rfl rfl ?_
                          refine z_iload_n hC 2 dX9_fillRow_149 rfl rfl ?_
                          refine z_aload_n hC 0 dX9_fillRow_150 rfl rfl ?_
                          refine z_get hC (T := TX9) (N := 41) hinX9 3 39 dX9_fillRow_151 rfl rfl (by decide) (List.mem_of_getElem? (i := 6) rfl) rfl rfl ?_
                          refine z_iload_n hC 2 dX9_fillRow_154 rfl rfl ?_
                          refine z_lald hC 2 dX9_fillRow_155 rfl (by omega) ?_
                          refine z_last hC 0 [wJ m_row (zK C).2.2.1 31 (zu cq w (tq w)), wJ m_levels (zK C).2.2.1 128 (zu lq n (rq 0)), wJ m_then (zK C).2.2.1 31 tq, wO m 9 [.int (zI (m_status)), .int (zI (m_thrown)), .ref m_sheetSort, .ref m_sheetMany, .ref m_numbers, .int (zI (4)), .int (zI (m_kind)), .int (zI (5)), .int (zI (m_round)), .int (zI (m_ax)), .int (zI (0)), .int (zI (m_bx)), .int (zI (0)), .ref m_dx, .ref m_dy, .ref m_weight, .ref m_isBarred, .ref m_walks, .ref m_one, .ref m_two, .ref m_light, .ref m_lightThen, .int (zI (m_family)), .ref m_fromX, .ref m_fromY, .ref m_toX, .ref m_toY, .int (zI (m_ruleMany)), .ref m_rule, .ref m_out, .int (zI (m_outs)), .ref m_grid, .ref m_heap, .ref m_ends, .ref m_power, .ref m_by2, .ref m_product, .ref m_levels, .ref m_row, .ref m_then, .ref m_equations], wI m_dy (zK C).2.1 8 dy, wJ m_power (zK C).2.2.1 961 pw2_1, wJ m_by2 (zK C).2.2.1 961 b22_2] dX9_fillRow_156 rfl (by omega) rfl ?_
                          refine z_iinc (a := w) (v := 1) (r := w + 1) hC 2 [(2, .int (zI (w + 1))), (0, .ref m), (1, .int (zI (n)))] dX9_fillRow_157 rfl rfl (by decide) rfl ?_
                          refine z_goto hC 137 dX9_fillRow_160 (by decide) ?_
                          refine z_lv (lv' := [(0, .ref m), (1, .int (zI (n))), (2, .int (zI (w + 1)))]) [1, 2, 0] rfl ?_
                          exact ih137_16 (w + 1) (zu cq w (tq w)) (by omega) (by intro z a b; unfold zu; by_cases e : z = w; (rw [if_pos e, e]; exact vt w (by omega) (by omega)); (rw [if_neg e]; exact vcp z a (by omega))) (by omega)
                    exact lp137_15 _ 0 rq (by omega) (by intro z a b; omega) (Nat.lt_succ_self _)
                  · skip
                    refine z_aload_n hC 0 dX9_fillRow_71 rfl rfl ?_
                    refine z_get hC (T := TX9) (N := 41) hinX9 3 39 dX9_fillRow_72 rfl rfl (by decide) (List.mem_of_getElem? (i := 6) rfl) rfl rfl ?_
                    refine z_iload_n hC 2 dX9_fillRow_75 rfl rfl ?_
                    refine z_lconst (v := 0) hC dX9_fillRow_76 rfl ?_
                    refine z_last hC 2 [wJ m_row (zK C).2.2.1 31 rq, wJ m_levels (zK C).2.2.1 128 (zu lq n (rq 0)), wJ m_then (zK C).2.2.1 31 (zu tq y 0), wO m 9 [.int (zI (m_status)), .int (zI (m_thrown)), .ref m_sheetSort, .ref m_sheetMany, .ref m_numbers, .int (zI (4)), .int (zI (m_kind)), .int (zI (5)), .int (zI (m_round)), .int (zI (m_ax)), .int (zI (0)), .int (zI (m_bx)), .int (zI (0)), .ref m_dx, .ref m_dy, .ref m_weight, .ref m_isBarred, .ref m_walks, .ref m_one, .ref m_two, .ref m_light, .ref m_lightThen, .int (zI (m_family)), .ref m_fromX, .ref m_fromY, .ref m_toX, .ref m_toY, .int (zI (m_ruleMany)), .ref m_rule, .ref m_out, .int (zI (m_outs)), .ref m_grid, .ref m_heap, .ref m_ends, .ref m_power, .ref m_by2, .ref m_product, .ref m_levels, .ref m_row, .ref m_then, .ref m_equations], wI m_dy (zK C).2.1 8 dy, wJ m_power (zK C).2.2.1 961 pw2_1, wJ m_by2 (zK C).2.2.1 961 b22_2] dX9_fillRow_77 rfl (by omega) rfl ?_
                    refine z_iconst hC dX9_fillRow_78 ?_
                    refine z_istore_n hC [(3, .int (zI (0))), (0, .ref m), (1, .int (zI (n))), (2, .int (zI (y)))] dX9_fillRow_79 rfl (by decide) rfl ?_
                    refine z_lv (lv' := [(0, .ref m), (1, .int (zI (n))), (2, .int (zI (y))), (3, .int (zI (0)))]) [1, 2, 3, 0] rfl ?_
                    have lp80_19 : ∀ (f21 : Nat) (k : Int) (tq2 : Int → Int), (0 ≤ k ∧ k ≤ 6) → (∀ z, 0 ≤ z → z < y → tq2 z = EX (n + 1).toNat 0 z % 998244353) → (tq2 y = sumZ (fun k => rq k * b22_2 (31 * k + y)) k.toNat % 998244353) → (6 - k).toNat < f21 → ZW C 0 0 [wJ m_row (zK C).2.2.1 31 rq, wJ m_levels (zK C).2.2.1 128 (zu lq n (rq 0)), wJ m_then (zK C).2.2.1 31 tq2, wO m 9 [.int (zI (m_status)), .int (zI (m_thrown)), .ref m_sheetSort, .ref m_sheetMany, .ref m_numbers, .int (zI (4)), .int (zI (m_kind)), .int (zI (5)), .int (zI (m_round)), .int (zI (m_ax)), .int (zI (0)), .int (zI (m_bx)), .int (zI (0)), .ref m_dx, .ref m_dy, .ref m_weight, .ref m_isBarred, .ref m_walks, .ref m_one, .ref m_two, .ref m_light, .ref m_lightThen, .int (zI (m_family)), .ref m_fromX, .ref m_fromY, .ref m_toX, .ref m_toY, .int (zI (m_ruleMany)), .ref m_rule, .ref m_out, .int (zI (m_outs)), .ref m_grid, .ref m_heap, .ref m_ends, .ref m_power, .ref m_by2, .ref m_product, .ref m_levels, .ref m_row, .ref m_then, .ref m_equations], wI m_dy (zK C).2.1 8 dy, wJ m_power (zK C).2.2.1 961 pw2_1, wJ m_by2 (zK C).2.2.1 961 b22_2] [(0, .ref m), (1, .int (zI (n))), (2, .int (zI (y))), (3, .int (zI (k)))] 80 [] := by
                      intro f21
                      induction f21 with
                      | zero => intro _ _ _ _ _ hf; exact absurd hf (Nat.not_lt_zero _)
                      | succ f21 ih80_20 =>
                        intro k tq2 vk vt2 vs hf_80
                        refine z_iload_n hC 3 dX9_fillRow_80 rfl rfl ?_
                        refine z_aload_n hC 0 dX9_fillRow_81 rfl rfl ?_
                        refine z_get hC (T := TX9) (N := 41) hinX9 3 7 dX9_fillRow_82 rfl rfl (by decide) (List.mem_of_getElem? (i := 5) rfl) rfl rfl ?_
                        refine z_icgt hC 129 dX9_fillRow_85 (by decide) (by omega) (fun c_22 => ?_) (fun c_22 => ?_)
                        · skip
                          refine z_iinc (a := y) (v := 1) (r := y + 1) hC 2 [(2, .int (zI (y + 1))), (0, .ref m), (1, .int (zI (n))), (3, .int (zI (k)))] dX9_fillRow_129 rfl rfl (by decide) rfl ?_
                          refine z_goto hC 63 dX9_fillRow_132 (by decide) ?_
                          refine z_lv (lv' := [(0, .ref m), (1, .int (zI (n))), (2, .int (zI (y + 1)))]) [1, 2, 0] rfl ?_
                          exact ih63_12 (y + 1) tq2 (by omega) (by intro z a b; by_cases e : z = y; (rw [e, vs, show k = 6 by omega, show (n + 1).toNat = n.toNat + 1 by omega]; exact mat_sum (A := rq) (B := fun k => b22_2 (31 * k + y)) (s := 0) (by omega) (fun k a b => vr k a b) (fun k a b => hfl.2 k y a b (by omega) (by omega))); exact vt2 z a (by omega)) (by omega)
                        · skip
                          have hq1 := (vr k (by omega) (by omega))
                          have hq2 := (hfl.2 k y (by omega) (by omega) (by omega) (by omega))
                          have hq3 := mul_r (x := rq k) (y := b22_2 (31 * k + y)) (by omega) (by omega)
                          refine z_aload_n hC 0 dX9_fillRow_88 rfl rfl ?_
                          refine z_get hC (T := TX9) (N := 41) hinX9 3 39 dX9_fillRow_89 rfl rfl (by decide) (List.mem_of_getElem? (i := 6) rfl) rfl rfl ?_
                          refine z_iload_n hC 2 dX9_fillRow_92 rfl rfl ?_
                          refine z_aload_n hC 0 dX9_fillRow_93 rfl rfl ?_
                          refine z_get hC (T := TX9) (N := 41) hinX9 3 39 dX9_fillRow_94 rfl rfl (by decide) (List.mem_of_getElem? (i := 6) rfl) rfl rfl ?_
                          refine z_iload_n hC 2 dX9_fillRow_97 rfl rfl ?_
                          refine z_lald hC 2 dX9_fillRow_98 rfl (by omega) ?_
                          refine z_aload_n hC 0 dX9_fillRow_99 rfl rfl ?_
                          refine z_get hC (T := TX9) (N := 41) hinX9 3 38 dX9_fillRow_100 rfl rfl (by decide) (List.mem_of_getElem? (i := 1) rfl) rfl rfl ?_
                          refine z_iload_n hC 3 dX9_fillRow_103 rfl rfl ?_
                          refine z_lald hC 0 dX9_fillRow_104 rfl (by omega) ?_
                          refine z_aload_n hC 0 dX9_fillRow_105 rfl rfl ?_
                          refine z_get hC (T := TX9) (N := 41) hinX9 3 35 dX9_fillRow_106 rfl rfl (by decide) (List.mem_of_getElem? (i := 7) rfl) rfl rfl ?_
                          refine z_bipush hC dX9_fillRow_109 (by decide) ?_
                          refine z_iload_n hC 3 dX9_fillRow_111 rfl rfl ?_
                          refine z_imul hC (31 * k) dX9_fillRow_112 rfl ?_
                          refine z_iload_n hC 2 dX9_fillRow_113 rfl rfl ?_
                          refine z_iadd hC ((31 * k) + y) dX9_fillRow_114 rfl ?_
                          refine z_lald hC 6 dX9_fillRow_115 rfl (by omega) ?_
                          refine z_lmul hC ((rq k) * (b22_2 ((31 * k) + y))) dX9_fillRow_116 rfl ?_
                          refine z_ladd hC ((tq2 y) + ((rq k) * (b22_2 ((31 * k) + y)))) dX9_fillRow_117 rfl ?_
                          refine z_ldc2 (v := 998244353) hC (List.mem_of_getElem? (i := 8) rfl) rfl dX9_fillRow_118 ?_
                          refine z_lrem hC (((tq2 y) + ((rq k) * (b22_2 ((31 * k) + y)))) % 998244353) dX9_fillRow_121 (by omega) rfl ?_
                          refine z_last hC 2 [wJ m_row (zK C).2.2.1 31 rq, wJ m_levels (zK C).2.2.1 128 (zu lq n (rq 0)), wJ m_then (zK C).2.2.1 31 (zu tq2 y (((tq2 y) + ((rq k) * (b22_2 ((31 * k) + y)))) % 998244353)), wO m 9 [.int (zI (m_status)), .int (zI (m_thrown)), .ref m_sheetSort, .ref m_sheetMany, .ref m_numbers, .int (zI (4)), .int (zI (m_kind)), .int (zI (5)), .int (zI (m_round)), .int (zI (m_ax)), .int (zI (0)), .int (zI (m_bx)), .int (zI (0)), .ref m_dx, .ref m_dy, .ref m_weight, .ref m_isBarred, .ref m_walks, .ref m_one, .ref m_two, .ref m_light, .ref m_lightThen, .int (zI (m_family)), .ref m_fromX, .ref m_fromY, .ref m_toX, .ref m_toY, .int (zI (m_ruleMany)), .ref m_rule, .ref m_out, .int (zI (m_outs)), .ref m_grid, .ref m_heap, .ref m_ends, .ref m_power, .ref m_by2, .ref m_product, .ref m_levels, .ref m_row, .ref m_then, .ref m_equations], wI m_dy (zK C).2.1 8 dy, wJ m_power (zK C).2.2.1 961 pw2_1, wJ m_by2 (zK C).2.2.1 961 b22_2] dX9_fillRow_122 rfl (by omega) rfl ?_
                          refine z_iinc (a := k) (v := 1) (r := k + 1) hC 3 [(3, .int (zI (k + 1))), (0, .ref m), (1, .int (zI (n))), (2, .int (zI (y)))] dX9_fillRow_123 rfl rfl (by decide) rfl ?_
                          refine z_goto hC 80 dX9_fillRow_126 (by decide) ?_
                          refine z_lv (lv' := [(0, .ref m), (1, .int (zI (n))), (2, .int (zI (y))), (3, .int (zI (k + 1)))]) [1, 2, 3, 0] rfl ?_
                          exact ih80_20 (k + 1) (zu tq2 y (((tq2 y) + ((rq k) * (b22_2 ((31 * k) + y)))) % 998244353)) (by omega) (by intro z a b; unfold zu; rw [if_neg (by omega)]; exact vt2 z a b) (by unfold zu; rw [if_pos rfl, vs, sumZ_s (by omega)]; omega) (by omega)
                    exact lp80_19 _ 0 (zu tq y 0) (by omega) (by intro z a b; unfold zu; rw [if_neg (by omega)]; exact vt z a b) (by unfold zu; rw [if_pos rfl]; rfl) (Nat.lt_succ_self _)
              exact lp63_11 _ 0 tq0 (by omega) (by intro z a b; omega) (Nat.lt_succ_self _)
        exact lp39_7 _ 0 r0 le th (by omega) (by intro j a b; omega) (by exact row_0 (fun j a b => vr0 j a (by omega))) (Nat.lt_succ_self _)
      · skip
        refine z_aload_n hC 0 dX9_fillRow_12 rfl rfl ?_
        refine z_get hC (T := TX9) (N := 41) hinX9 3 38 dX9_fillRow_13 rfl rfl (by decide) (List.mem_of_getElem? (i := 1) rfl) rfl rfl ?_
        refine z_iload_n hC 1 dX9_fillRow_16 rfl rfl ?_
        refine z_iload_n hC 1 dX9_fillRow_17 rfl rfl ?_
        refine z_aload_n hC 0 dX9_fillRow_18 rfl rfl ?_
        refine z_get hC (T := TX9) (N := 41) hinX9 3 10 dX9_fillRow_19 rfl rfl (by decide) (List.mem_of_getElem? (i := 2) rfl) rfl rfl ?_
        refine z_icne hC 29 dX9_fillRow_22 (by decide) (by omega) (fun c_23 => ?_) (fun c_23 => ?_)
        · skip
          refine z_lconst (v := 0) hC dX9_fillRow_29 rfl ?_
          refine z_last hC 0 [wJ m_row (zK C).2.2.1 31 (zu r0 y0 0), wJ m_levels (zK C).2.2.1 128 le, wJ m_then (zK C).2.2.1 31 th, wO m 9 [.int (zI (m_status)), .int (zI (m_thrown)), .ref m_sheetSort, .ref m_sheetMany, .ref m_numbers, .int (zI (4)), .int (zI (m_kind)), .int (zI (5)), .int (zI (m_round)), .int (zI (m_ax)), .int (zI (0)), .int (zI (m_bx)), .int (zI (0)), .ref m_dx, .ref m_dy, .ref m_weight, .ref m_isBarred, .ref m_walks, .ref m_one, .ref m_two, .ref m_light, .ref m_lightThen, .int (zI (m_family)), .ref m_fromX, .ref m_fromY, .ref m_toX, .ref m_toY, .int (zI (m_ruleMany)), .ref m_rule, .ref m_out, .int (zI (m_outs)), .ref m_grid, .ref m_heap, .ref m_ends, .ref m_power, .ref m_by2, .ref m_product, .ref m_levels, .ref m_row, .ref m_then, .ref m_equations], wI m_dy (zK C).2.1 8 dy, wJ m_power (zK C).2.2.1 961 pw2_1, wJ m_by2 (zK C).2.2.1 961 b22_2] dX9_fillRow_30 rfl (by omega) rfl ?_
          refine z_iinc (a := y0) (v := 1) (r := y0 + 1) hC 1 [(1, .int (zI (y0 + 1))), (0, .ref m)] dX9_fillRow_31 rfl rfl (by decide) rfl ?_
          refine z_goto hC 6 dX9_fillRow_34 (by decide) ?_
          refine z_lv (lv' := [(0, .ref m), (1, .int (zI (y0 + 1)))]) [1, 0] rfl ?_
          exact ih6_4 (y0 + 1) (zu r0 y0 0) (by omega) (by intro j a b; unfold zu; by_cases e : j = y0; (rw [if_pos e]; first | rw [if_pos (by omega)] | rw [if_neg (by omega)]); (rw [if_neg e]; exact vr0 j a (by omega))) (by omega)
        · skip
          refine z_lconst (v := 1) hC dX9_fillRow_25 rfl ?_
          refine z_goto hC 30 dX9_fillRow_26 (by decide) ?_
          refine z_last hC 0 [wJ m_row (zK C).2.2.1 31 (zu r0 y0 1), wJ m_levels (zK C).2.2.1 128 le, wJ m_then (zK C).2.2.1 31 th, wO m 9 [.int (zI (m_status)), .int (zI (m_thrown)), .ref m_sheetSort, .ref m_sheetMany, .ref m_numbers, .int (zI (4)), .int (zI (m_kind)), .int (zI (5)), .int (zI (m_round)), .int (zI (m_ax)), .int (zI (0)), .int (zI (m_bx)), .int (zI (0)), .ref m_dx, .ref m_dy, .ref m_weight, .ref m_isBarred, .ref m_walks, .ref m_one, .ref m_two, .ref m_light, .ref m_lightThen, .int (zI (m_family)), .ref m_fromX, .ref m_fromY, .ref m_toX, .ref m_toY, .int (zI (m_ruleMany)), .ref m_rule, .ref m_out, .int (zI (m_outs)), .ref m_grid, .ref m_heap, .ref m_ends, .ref m_power, .ref m_by2, .ref m_product, .ref m_levels, .ref m_row, .ref m_then, .ref m_equations], wI m_dy (zK C).2.1 8 dy, wJ m_power (zK C).2.2.1 961 pw2_1, wJ m_by2 (zK C).2.2.1 961 b22_2] dX9_fillRow_30 rfl (by omega) rfl ?_
          refine z_iinc (a := y0) (v := 1) (r := y0 + 1) hC 1 [(1, .int (zI (y0 + 1))), (0, .ref m)] dX9_fillRow_31 rfl rfl (by decide) rfl ?_
          refine z_goto hC 6 dX9_fillRow_34 (by decide) ?_
          refine z_lv (lv' := [(0, .ref m), (1, .int (zI (y0 + 1)))]) [1, 0] rfl ?_
          exact ih6_4 (y0 + 1) (zu r0 y0 1) (by omega) (by intro j a b; unfold zu; by_cases e : j = y0; (rw [if_pos e]; first | rw [if_pos (by omega)] | rw [if_neg (by omega)]); (rw [if_neg e]; exact vr0 j a (by omega))) (by omega)
  exact lp6_3 _ 0 rw_ (by omega) (by intro j a b; omega) (Nat.lt_succ_self _)
