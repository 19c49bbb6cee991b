set_option maxHeartbeats 4000000 in
set_option maxRecDepth 100000 in
theorem c_X1_begin (l : Launch) (D : va_G) (K : ClassId × ClassId × ClassId × ClassId) (f f_xs f_ys f_row f_square : Nat) (nm f_many : Int) (xs ys : Int → Int) : zMet l D K yX1_begin wsX1_begin ({ frames := 0, cells := 0, slots := 0, locals := 0 }) 0 0 [.ref f, .int (zI (nm))] [wO f 1 [.ref f_xs, .ref f_ys, .ref f_row, .ref f_square, .int (zI (f_many))], wI f_xs K.2.1 8 xs, wI f_ys K.2.1 8 ys] (fun vr_ wr_ => ∃ (xs2 : Int → Int) (ys2 : Int → Int), vr_ = none ∧ wr_ = [wO f 1 [.ref f_xs, .ref f_ys, .ref f_row, .ref f_square, .int (zI (nm))], wI f_xs K.2.1 8 xs2, wI f_ys K.2.1 8 ys2] ∧ (∀ j, 0 ≤ j → j < 8 → xs2 j = 0 ∧ ys2 j = 0)) := by
  refine zMet_of (cc := cX1_begin) (nL := 3) (ret := none) (by decide) rfl (Nat.le_of_ble_eq_true rfl) ?_
  rintro C rfl rfl rfl hC hR
  have hinX1 : ∀ w ∈ u_ws RX1 TX1 5, w ∈ wsX1_begin := by decide +kernel
  show ZW C 0 0 [wO f 1 [.ref f_xs, .ref f_ys, .ref f_row, .ref f_square, .int (zI (f_many))], wI f_xs (zK C).2.1 8 xs, wI f_ys (zK C).2.1 8 ys] [(0, .ref f), (1, .int (zI (nm)))] 0 []
  refine z_aload_n hC 0 dX1_begin_0 rfl rfl ?_
  refine z_iload_n hC 1 dX1_begin_1 rfl rfl ?_
  refine z_put hC (T := TX1) (N := 5) hinX1 tyX1_ok nmX1 0 4 [wO f 1 [.ref f_xs, .ref f_ys, .ref f_row, .ref f_square, .int (zI (nm))], wI f_xs (zK C).2.1 8 xs, wI f_ys (zK C).2.1 8 ys] dX1_begin_2 rfl rfl (by decide) (List.mem_of_getElem? (i := 1) rfl) rfl rfl rfl rfl (Nat.le_of_ble_eq_true rfl) rfl ?_
  refine z_iconst hC dX1_begin_5 ?_
  refine z_istore_n hC [(2, .int (zI (0))), (0, .ref f), (1, .int (zI (nm)))] dX1_begin_6 rfl (by decide) rfl ?_
  refine z_lv (lv' := [(0, .ref f), (1, .int (zI (nm))), (2, .int (zI (0)))]) [1, 2, 0] rfl ?_
  have lp7_1 : ∀ (f3 : Nat) (i : Int) (g : Int → Int) (g2 : Int → Int), (0 ≤ i ∧ i ≤ 8) → (∀ j, 0 ≤ j → j < i → g j = 0 ∧ g2 j = 0) → (8 - i).toNat < f3 → ZW C 0 0 [wO f 1 [.ref f_xs, .ref f_ys, .ref f_row, .ref f_square, .int (zI (nm))], wI f_xs (zK C).2.1 8 g, wI f_ys (zK C).2.1 8 g2] [(0, .ref f), (1, .int (zI (nm))), (2, .int (zI (i)))] 7 [] := by
    intro f3
    induction f3 with
    | zero => intro _ _ _ _ _ hf; exact absurd hf (Nat.not_lt_zero _)
    | succ f3 ih7_2 =>
      intro i g g2 vi vg hf_7
      refine z_iload_n hC 2 dX1_begin_7 rfl rfl ?_
      refine z_bipush hC dX1_begin_8 (by decide) ?_
      refine z_icge hC 33 dX1_begin_10 (by decide) (by omega) (fun c_4 => ?_) (fun c_4 => ?_)
      · skip
        exact z_vret hC hR dX1_begin_33 (Nat.le_of_ble_eq_true rfl) (Nat.le_of_ble_eq_true rfl) ⟨g, g2, rfl, rfl, by intro j h0 h1; exact vg j h0 (by omega)⟩
      · skip
        refine z_aload_n hC 0 dX1_begin_13 rfl rfl ?_
        refine z_get hC (T := TX1) (N := 5) hinX1 0 0 dX1_begin_14 rfl rfl (by decide) (List.mem_of_getElem? (i := 2) rfl) rfl rfl ?_
        refine z_iload_n hC 2 dX1_begin_17 rfl rfl ?_
        refine z_iconst hC dX1_begin_18 ?_
        refine z_iast hC 1 [wO f 1 [.ref f_xs, .ref f_ys, .ref f_row, .ref f_square, .int (zI (nm))], wI f_xs (zK C).2.1 8 (zu g i 0), wI f_ys (zK C).2.1 8 g2] dX1_begin_19 rfl (by omega) rfl ?_
        refine z_aload_n hC 0 dX1_begin_20 rfl rfl ?_
        refine z_get hC (T := TX1) (N := 5) hinX1 0 1 dX1_begin_21 rfl rfl (by decide) (List.mem_of_getElem? (i := 3) rfl) rfl rfl ?_
        refine z_iload_n hC 2 dX1_begin_24 rfl rfl ?_
        refine z_iconst hC dX1_begin_25 ?_
        refine z_iast hC 2 [wO f 1 [.ref f_xs, .ref f_ys, .ref f_row, .ref f_square, .int (zI (nm))], wI f_xs (zK C).2.1 8 (zu g i 0), wI f_ys (zK C).2.1 8 (zu g2 i 0)] dX1_begin_26 rfl (by omega) rfl ?_
        refine z_iinc (a := i) (v := 1) (r := i + 1) hC 2 [(2, .int (zI (i + 1))), (0, .ref f), (1, .int (zI (nm)))] dX1_begin_27 rfl rfl (by decide) rfl ?_
        refine z_goto hC 7 dX1_begin_30 (by decide) ?_
        refine z_lv (lv' := [(0, .ref f), (1, .int (zI (nm))), (2, .int (zI (i + 1)))]) [1, 2, 0] rfl ?_
        exact ih7_2 (i + 1) (zu g i 0) (zu g2 i 0) (by omega) (by intro j h0 h1; unfold zu; by_cases e : j = i; (rw [if_pos e, if_pos e]; exact ⟨rfl, rfl⟩); (rw [if_neg e, if_neg e]; exact vg j h0 (by omega))) (by omega)
  exact lp7_1 _ 0 xs ys (by omega) (by intro j h0 h1; omega) (Nat.lt_succ_self _)

set_option maxHeartbeats 4000000 in
set_option maxRecDepth 100000 in
theorem c_X1_has (l : Launch) (D : va_G) (K : ClassId × ClassId × ClassId × ClassId) (f f_xs f_ys f_row f_square : Nat) (k f_many : Int) (hk : zR k) (hf_many : zR f_many) : zMet l D K yX1_has wsX1_has ({ frames := 0, cells := 0, slots := 0, locals := 0 }) 0 0 [.ref f, .int (zI (k))] [wO f 1 [.ref f_xs, .ref f_ys, .ref f_row, .ref f_square, .int (zI (f_many))]] (fun vr_ wr_ => ∃ (r : Int), vr_ = some (.int (zI (r))) ∧ wr_ = [wO f 1 [.ref f_xs, .ref f_ys, .ref f_row, .ref f_square, .int (zI (f_many))]] ∧ ((0 ≤ k ∧ k < f_many ∧ k < 4 ∧ r = 1) ∨ (¬ (0 ≤ k ∧ k < f_many ∧ k < 4) ∧ r = 0))) := by
  refine zMet_of (cc := cX1_has) (nL := 2) (ret := (some .boolean)) (by decide) rfl (Nat.le_of_ble_eq_true rfl) ?_
  rintro C rfl rfl rfl hC hR
  have hinX1 : ∀ w ∈ u_ws RX1 TX1 5, w ∈ wsX1_has := by decide +kernel
  show ZW C 0 0 [wO f 1 [.ref f_xs, .ref f_ys, .ref f_row, .ref f_square, .int (zI (f_many))]] [(0, .ref f), (1, .int (zI (k)))] 0 []
  refine z_iload_n hC 1 dX1_has_0 rfl rfl ?_
  refine z_iflt hC 21 dX1_has_1 (by decide) (by omega) (fun c_1 => ?_) (fun c_1 => ?_)
  · skip
    refine z_iconst hC dX1_has_21 ?_
    exact z_zret hC hR dX1_has_22 (by omega) (Nat.le_of_ble_eq_true rfl) (Nat.le_of_ble_eq_true rfl) ⟨0, rfl, rfl, by omega⟩
  · skip
    refine z_iload_n hC 1 dX1_has_4 rfl rfl ?_
    refine z_aload_n hC 0 dX1_has_5 rfl rfl ?_
    refine z_get hC (T := TX1) (N := 5) hinX1 0 4 dX1_has_6 rfl rfl (by decide) (List.mem_of_getElem? (i := 1) rfl) rfl rfl ?_
    refine z_icge hC 21 dX1_has_9 (by decide) (by omega) (fun c_2 => ?_) (fun c_2 => ?_)
    · skip
      refine z_iconst hC dX1_has_21 ?_
      exact z_zret hC hR dX1_has_22 (by omega) (Nat.le_of_ble_eq_true rfl) (Nat.le_of_ble_eq_true rfl) ⟨0, rfl, rfl, by omega⟩
    · skip
      refine z_iload_n hC 1 dX1_has_12 rfl rfl ?_
      refine z_iconst hC dX1_has_13 ?_
      refine z_icge hC 21 dX1_has_14 (by decide) (by omega) (fun c_3 => ?_) (fun c_3 => ?_)
      · skip
        refine z_iconst hC dX1_has_21 ?_
        exact z_zret hC hR dX1_has_22 (by omega) (Nat.le_of_ble_eq_true rfl) (Nat.le_of_ble_eq_true rfl) ⟨0, rfl, rfl, by omega⟩
      · skip
        refine z_iconst hC dX1_has_17 ?_
        refine z_goto hC 22 dX1_has_18 (by decide) ?_
        exact z_zret hC hR dX1_has_22 (by omega) (Nat.le_of_ble_eq_true rfl) (Nat.le_of_ble_eq_true rfl) ⟨1, rfl, rfl, by omega⟩

set_option maxHeartbeats 4000000 in
set_option maxRecDepth 100000 in
theorem c_X1_setPlace (l : Launch) (D : va_G) (K : ClassId × ClassId × ClassId × ClassId) (f f_xs f_ys f_row f_square : Nat) (k e x y f_many : Int) (xs ys : Int → Int) (hk : 0 ≤ k ∧ k < f_many ∧ f_many ≤ 4) (he : e = 0 ∨ e = 1) : zMet l D K yX1_setPlace wsX1_setPlace ({ frames := 1, cells := 0, slots := 0, locals := 21 }) 0 0 [.ref f, .int (zI (k)), .int (zI (e)), .int (zI (x)), .int (zI (y))] [wO f 1 [.ref f_xs, .ref f_ys, .ref f_row, .ref f_square, .int (zI (f_many))], wI f_xs K.2.1 8 xs, wI f_ys K.2.1 8 ys] (fun vr_ wr_ => ∃ (xs2 : Int → Int) (ys2 : Int → Int), vr_ = none ∧ wr_ = [wO f 1 [.ref f_xs, .ref f_ys, .ref f_row, .ref f_square, .int (zI (f_many))], wI f_xs K.2.1 8 xs2, wI f_ys K.2.1 8 ys2] ∧ (xs2 = zu xs (k + 4 * e) x ∧ ys2 = zu ys (k + 4 * e) y)) := by
  refine zMet_of (cc := cX1_setPlace) (nL := 6) (ret := none) (by decide) rfl (Nat.le_of_ble_eq_true rfl) ?_
  rintro C rfl rfl rfl hC hR
  have hinX1 : ∀ w ∈ u_ws RX1 TX1 5, w ∈ wsX1_setPlace := by decide +kernel
  show ZW C 0 0 [wO f 1 [.ref f_xs, .ref f_ys, .ref f_row, .ref f_square, .int (zI (f_many))], wI f_xs (zK C).2.1 8 xs, wI f_ys (zK C).2.1 8 ys] [(0, .ref f), (1, .int (zI (k))), (2, .int (zI (e))), (3, .int (zI (x))), (4, .int (zI (y)))] 0 []
  refine z_aload_n hC 0 dX1_setPlace_0 rfl rfl ?_
  refine z_iload_n hC 1 dX1_setPlace_1 rfl rfl ?_
  refine z_callV hC [.int (zI (k))] 1 0 dX1_setPlace_2 (c_X1_has (zl C) (zD C) (zK C) f f_xs f_ys f_row f_square k f_many (by first | assumption | omega) (by first | assumption | omega)) gX1_setPlace_X1_has rfl rfl rfl ⟨by decide, by decide, by decide +kernel⟩ ⟨(Nat.le_of_ble_eq_true rfl), (Nat.le_of_ble_eq_true rfl)⟩ rfl rfl rfl rfl [0] [1, 2] [wI f_xs (zK C).2.1 8 xs, wI f_ys (zK C).2.1 8 ys] [] rfl rfl rfl rfl rfl (by decide) (Nat.le_of_ble_eq_true rfl) ⟨(Nat.le_of_ble_eq_true rfl), (Nat.le_of_ble_eq_true rfl)⟩ ?_
  rintro v_ w_ ⟨r_1, rfl, rfl, h_2_2⟩
  show ZW C 0 0 [wI f_xs (zK C).2.1 8 xs, wI f_ys (zK C).2.1 8 ys, wO f 1 [.ref f_xs, .ref f_ys, .ref f_row, .ref f_square, .int (zI (f_many))]] [(0, .ref f), (1, .int (zI (k))), (2, .int (zI (e))), (3, .int (zI (x))), (4, .int (zI (y)))] 5 [.int (zI (r_1))]
  refine z_ifeq hC 38 dX1_setPlace_5 (by decide) (by omega) (fun c_3 => by exfalso; omega) (fun c_3 => ?_)
  refine z_iload_n hC 2 dX1_setPlace_8 rfl rfl ?_
  refine z_ifeq hC 18 dX1_setPlace_9 (by decide) (by omega) (fun c_4 => ?_) (fun c_4 => ?_)
  · skip
    refine z_iload_n hC 1 dX1_setPlace_18 rfl rfl ?_
    refine z_istore hC [(5, .int (zI (k))), (0, .ref f), (1, .int (zI (k))), (2, .int (zI (e))), (3, .int (zI (x))), (4, .int (zI (y)))] dX1_setPlace_19 (by decide) rfl ?_
    refine z_aload_n hC 1 dX1_setPlace_21 rfl rfl ?_
    refine z_get hC (T := TX1) (N := 5) hinX1 2 0 dX1_setPlace_22 rfl rfl (by decide) (List.mem_of_getElem? (i := 1) rfl) rfl rfl ?_
    refine z_iload hC 0 dX1_setPlace_25 rfl ?_
    refine z_iload_n hC 4 dX1_setPlace_27 rfl rfl ?_
    refine z_iast hC 0 [wI f_xs (zK C).2.1 8 (zu xs k x), wI f_ys (zK C).2.1 8 ys, wO f 1 [.ref f_xs, .ref f_ys, .ref f_row, .ref f_square, .int (zI (f_many))]] dX1_setPlace_28 rfl (by omega) rfl ?_
    refine z_aload_n hC 1 dX1_setPlace_29 rfl rfl ?_
    refine z_get hC (T := TX1) (N := 5) hinX1 2 1 dX1_setPlace_30 rfl rfl (by decide) (List.mem_of_getElem? (i := 2) rfl) rfl rfl ?_
    refine z_iload hC 0 dX1_setPlace_33 rfl ?_
    refine z_iload hC 5 dX1_setPlace_35 rfl ?_
    refine z_iast hC 1 [wI f_xs (zK C).2.1 8 (zu xs k x), wI f_ys (zK C).2.1 8 (zu ys k y), wO f 1 [.ref f_xs, .ref f_ys, .ref f_row, .ref f_square, .int (zI (f_many))]] dX1_setPlace_37 rfl (by omega) rfl ?_
    refine z_ws (ws' := [wO f 1 [.ref f_xs, .ref f_ys, .ref f_row, .ref f_square, .int (zI (f_many))], wI f_xs (zK C).2.1 8 (zu xs k x), wI f_ys (zK C).2.1 8 (zu ys k y)]) [2, 0, 1] rfl rfl ?_
    exact z_vret hC hR dX1_setPlace_38 (Nat.le_of_ble_eq_true rfl) (Nat.le_of_ble_eq_true rfl) ⟨zu xs k x, zu ys k y, rfl, rfl, by first | exact ⟨by rw [show k + 4 * e = k by omega], by rw [show k + 4 * e = k by omega]⟩ | exact ⟨by rw [show k + 4 * e = k + 4 by omega], by rw [show k + 4 * e = k + 4 by omega]⟩ | omega⟩
  · skip
    refine z_iload_n hC 1 dX1_setPlace_12 rfl rfl ?_
    refine z_iconst hC dX1_setPlace_13 ?_
    refine z_iadd hC (k + 4) dX1_setPlace_14 rfl ?_
    refine z_goto hC 19 dX1_setPlace_15 (by decide) ?_
    refine z_istore hC [(5, .int (zI (k + 4))), (0, .ref f), (1, .int (zI (k))), (2, .int (zI (e))), (3, .int (zI (x))), (4, .int (zI (y)))] dX1_setPlace_19 (by decide) rfl ?_
    refine z_aload_n hC 1 dX1_setPlace_21 rfl rfl ?_
    refine z_get hC (T := TX1) (N := 5) hinX1 2 0 dX1_setPlace_22 rfl rfl (by decide) (List.mem_of_getElem? (i := 1) rfl) rfl rfl ?_
    refine z_iload hC 0 dX1_setPlace_25 rfl ?_
    refine z_iload_n hC 4 dX1_setPlace_27 rfl rfl ?_
    refine z_iast hC 0 [wI f_xs (zK C).2.1 8 (zu xs (k + 4) x), wI f_ys (zK C).2.1 8 ys, wO f 1 [.ref f_xs, .ref f_ys, .ref f_row, .ref f_square, .int (zI (f_many))]] dX1_setPlace_28 rfl (by omega) rfl ?_
    refine z_aload_n hC 1 dX1_setPlace_29 rfl rfl ?_
    refine z_get hC (T := TX1) (N := 5) hinX1 2 1 dX1_setPlace_30 rfl rfl (by decide) (List.mem_of_getElem? (i := 2) rfl) rfl rfl ?_
    refine z_iload hC 0 dX1_setPlace_33 rfl ?_
    refine z_iload hC 5 dX1_setPlace_35 rfl ?_
    refine z_iast hC 1 [wI f_xs (zK C).2.1 8 (zu xs (k + 4) x), wI f_ys (zK C).2.1 8 (zu ys (k + 4) y), wO f 1 [.ref f_xs, .ref f_ys, .ref f_row, .ref f_square, .int (zI (f_many))]] dX1_setPlace_37 rfl (by omega) rfl ?_
    refine z_ws (ws' := [wO f 1 [.ref f_xs, .ref f_ys, .ref f_row, .ref f_square, .int (zI (f_many))], wI f_xs (zK C).2.1 8 (zu xs (k + 4) x), wI f_ys (zK C).2.1 8 (zu ys (k + 4) y)]) [2, 0, 1] rfl rfl ?_
    exact z_vret hC hR dX1_setPlace_38 (Nat.le_of_ble_eq_true rfl) (Nat.le_of_ble_eq_true rfl) ⟨zu xs (k + 4) x, zu ys (k + 4) y, rfl, rfl, by first | exact ⟨by rw [show k + 4 * e = k by omega], by rw [show k + 4 * e = k by omega]⟩ | exact ⟨by rw [show k + 4 * e = k + 4 by omega], by rw [show k + 4 * e = k + 4 by omega]⟩ | omega⟩

set_option maxHeartbeats 4000000 in
set_option maxRecDepth 100000 in
theorem c_X8_family (l : Launch) (D : va_G) (K : ClassId × ClassId × ClassId × ClassId) (x x_sheets x_plane f x_heights x_levels x_words x_shown x_powers f_xs f_ys f_row f_square : Nat) (many x_shownCount x_status f_many : Int) (xs ys : Int → Int) (x_ways x_weigher : Value) (hmany : zR many) : zMet l D K yX8_family wsX8_family ({ frames := 1, cells := 0, slots := 0, locals := 22 }) 0 0 [.ref x, .int (zI (many))] [wO x 8 [.ref x_sheets, .ref x_plane, .ref f, .ref x_heights, .ref x_levels, .ref x_words, .ref x_shown, .ref x_powers, .int (zI (x_shownCount)), .int (zI (x_status)), x_ways, x_weigher], wO f 1 [.ref f_xs, .ref f_ys, .ref f_row, .ref f_square, .int (zI (f_many))], wI f_xs K.2.1 8 xs, wI f_ys K.2.1 8 ys] (fun vr_ wr_ => ∃ (r : Int) (s2 : Int) (fm2 : Int) (xs2 : Int → Int) (ys2 : Int → Int), vr_ = some (.int (zI (r))) ∧ wr_ = [wO x 8 [.ref x_sheets, .ref x_plane, .ref f, .ref x_heights, .ref x_levels, .ref x_words, .ref x_shown, .ref x_powers, .int (zI (x_shownCount)), .int (zI (s2)), x_ways, x_weigher], wO f 1 [.ref f_xs, .ref f_ys, .ref f_row, .ref f_square, .int (zI (fm2))], wI f_xs K.2.1 8 xs2, wI f_ys K.2.1 8 ys2] ∧ (((1 ≤ many ∧ many ≤ 4 ∧ r = 1 ∧ s2 = 0 ∧ fm2 = many) ∨ (¬ (1 ≤ many ∧ many ≤ 4) ∧ r = 0 ∧ s2 = 2 ∧ fm2 = f_many)) ∧ (r = 1 → ∀ j, 0 ≤ j → j < 8 → xs2 j = 0 ∧ ys2 j = 0) ∧ (r = 0 → xs2 = xs ∧ ys2 = ys))) := by
  refine zMet_of (cc := cX8_family) (nL := 2) (ret := (some .boolean)) (by decide) rfl (Nat.le_of_ble_eq_true rfl) ?_
  rintro C rfl rfl rfl hC hR
  have hinX8 : ∀ w ∈ u_ws RX8 TX8 12, w ∈ wsX8_family := by decide +kernel
  show ZW C 0 0 [wO x 8 [.ref x_sheets, .ref x_plane, .ref f, .ref x_heights, .ref x_levels, .ref x_words, .ref x_shown, .ref x_powers, .int (zI (x_shownCount)), .int (zI (x_status)), x_ways, x_weigher], wO f 1 [.ref f_xs, .ref f_ys, .ref f_row, .ref f_square, .int (zI (f_many))], wI f_xs (zK C).2.1 8 xs, wI f_ys (zK C).2.1 8 ys] [(0, .ref x), (1, .int (zI (many)))] 0 []
  refine z_iload_n hC 1 dX8_family_0 rfl rfl ?_
  refine z_iconst hC dX8_family_1 ?_
  refine z_iconst hC dX8_family_2 ?_
  refine z_callS hC [.int (zI (many)), .int (zI (1)), .int (zI (4))] 3 dX8_family_3 (c_X8_within (zl C) (zD C) (zK C) many 1 4 (by first | assumption | omega) (by first | assumption | omega) (by first | assumption | omega)) gX8_family_X8_within rfl rfl rfl ⟨by decide, by decide, by decide +kernel⟩ ⟨(Nat.le_of_ble_eq_true rfl), (Nat.le_of_ble_eq_true rfl)⟩ rfl [] [0, 1, 2, 3] [wO x 8 [.ref x_sheets, .ref x_plane, .ref f, .ref x_heights, .ref x_levels, .ref x_words, .ref x_shown, .ref x_powers, .int (zI (x_shownCount)), .int (zI (x_status)), x_ways, x_weigher], wO f 1 [.ref f_xs, .ref f_ys, .ref f_row, .ref f_square, .int (zI (f_many))], wI f_xs (zK C).2.1 8 xs, wI f_ys (zK C).2.1 8 ys] [] rfl rfl rfl rfl rfl (by decide) (Nat.le_of_ble_eq_true rfl) ⟨(Nat.le_of_ble_eq_true rfl), (Nat.le_of_ble_eq_true rfl)⟩ ?_
  rintro v_ w_ ⟨r_1, rfl, rfl, h_3_2⟩
  show ZW C 0 0 [wO x 8 [.ref x_sheets, .ref x_plane, .ref f, .ref x_heights, .ref x_levels, .ref x_words, .ref x_shown, .ref x_powers, .int (zI (x_shownCount)), .int (zI (x_status)), x_ways, x_weigher], wO f 1 [.ref f_xs, .ref f_ys, .ref f_row, .ref f_square, .int (zI (f_many))], wI f_xs (zK C).2.1 8 xs, wI f_ys (zK C).2.1 8 ys] [(0, .ref x), (1, .int (zI (many)))] 6 [.int (zI (r_1))]
  refine z_ifne hC 15 dX8_family_6 (by decide) (by omega) (fun c_3 => ?_) (fun c_3 => ?_)
  · skip
    refine z_aload_n hC 0 dX8_family_15 rfl rfl ?_
    refine z_get hC (T := TX8) (N := 12) hinX8 0 2 dX8_family_16 rfl rfl (by decide) (List.mem_of_getElem? (i := 1) rfl) rfl rfl ?_
    refine z_iload_n hC 1 dX8_family_19 rfl rfl ?_
    refine z_callV hC [.int (zI (many))] 1 0 dX8_family_20 (c_X1_begin (zl C) (zD C) (zK C) f f_xs f_ys f_row f_square many f_many xs ys ) gX8_family_X1_begin rfl rfl rfl ⟨by decide, by decide, by decide +kernel⟩ ⟨(Nat.le_of_ble_eq_true rfl), (Nat.le_of_ble_eq_true rfl)⟩ rfl rfl rfl rfl [1, 2, 3] [0] [wO x 8 [.ref x_sheets, .ref x_plane, .ref f, .ref x_heights, .ref x_levels, .ref x_words, .ref x_shown, .ref x_powers, .int (zI (x_shownCount)), .int (zI (x_status)), x_ways, x_weigher]] [] rfl rfl rfl rfl rfl (by decide) (Nat.le_of_ble_eq_true rfl) ⟨(Nat.le_of_ble_eq_true rfl), (Nat.le_of_ble_eq_true rfl)⟩ ?_
    rintro v_ w_ ⟨xs2_4, ys2_5, rfl, rfl, hb⟩
    show ZW C 0 0 [wO x 8 [.ref x_sheets, .ref x_plane, .ref f, .ref x_heights, .ref x_levels, .ref x_words, .ref x_shown, .ref x_powers, .int (zI (x_shownCount)), .int (zI (x_status)), x_ways, x_weigher], wO f 1 [.ref f_xs, .ref f_ys, .ref f_row, .ref f_square, .int (zI (many))], wI f_xs (zK C).2.1 8 xs2_4, wI f_ys (zK C).2.1 8 ys2_5] [(0, .ref x), (1, .int (zI (many)))] 23 []
    refine z_aload_n hC 0 dX8_family_23 rfl rfl ?_
    refine z_callV hC [] 0 0 dX8_family_24 (c_X8_granted (zl C) (zD C) (zK C) x x_sheets x_plane f x_heights x_levels x_words x_shown x_powers x_shownCount x_status x_ways x_weigher ) gX8_family_X8_granted rfl rfl rfl ⟨by decide, by decide, by decide +kernel⟩ ⟨(Nat.le_of_ble_eq_true rfl), (Nat.le_of_ble_eq_true rfl)⟩ rfl rfl rfl rfl [0] [1, 2, 3] [wO f 1 [.ref f_xs, .ref f_ys, .ref f_row, .ref f_square, .int (zI (many))], wI f_xs (zK C).2.1 8 xs2_4, wI f_ys (zK C).2.1 8 ys2_5] [] rfl rfl rfl rfl rfl (by decide) (Nat.le_of_ble_eq_true rfl) ⟨(Nat.le_of_ble_eq_true rfl), (Nat.le_of_ble_eq_true rfl)⟩ ?_
    rintro v_ w_ ⟨rfl, rfl, h_24_6⟩
    show ZW C 0 0 [wO f 1 [.ref f_xs, .ref f_ys, .ref f_row, .ref f_square, .int (zI (many))], wI f_xs (zK C).2.1 8 xs2_4, wI f_ys (zK C).2.1 8 ys2_5, wO x 8 [.ref x_sheets, .ref x_plane, .ref f, .ref x_heights, .ref x_levels, .ref x_words, .ref x_shown, .ref x_powers, .int (zI (x_shownCount)), .int (zI (0)), x_ways, x_weigher]] [(0, .ref x), (1, .int (zI (many)))] 27 [.int (zI (1))]
    refine z_ws (ws' := [wO x 8 [.ref x_sheets, .ref x_plane, .ref f, .ref x_heights, .ref x_levels, .ref x_words, .ref x_shown, .ref x_powers, .int (zI (x_shownCount)), .int (zI (0)), x_ways, x_weigher], wO f 1 [.ref f_xs, .ref f_ys, .ref f_row, .ref f_square, .int (zI (many))], wI f_xs (zK C).2.1 8 xs2_4, wI f_ys (zK C).2.1 8 ys2_5]) [3, 0, 1, 2] rfl rfl ?_
    exact z_zret hC hR dX8_family_27 (by omega) (Nat.le_of_ble_eq_true rfl) (Nat.le_of_ble_eq_true rfl) ⟨1, 0, many, xs2_4, ys2_5, rfl, rfl, by first | exact ⟨by omega, fun h => by exfalso; omega, fun _ => ⟨rfl, rfl⟩⟩ | exact ⟨by omega, fun _ => hb, fun h => by exfalso; omega⟩ | omega⟩
  · skip
    refine z_aload_n hC 0 dX8_family_9 rfl rfl ?_
    refine z_iconst hC dX8_family_10 ?_
    refine z_callV hC [.int (zI (2))] 1 0 dX8_family_11 (c_X8_denied (zl C) (zD C) (zK C) x x_sheets x_plane f x_heights x_levels x_words x_shown x_powers 2 x_shownCount x_status x_ways x_weigher ) gX8_family_X8_denied rfl rfl rfl ⟨by decide, by decide, by decide +kernel⟩ ⟨(Nat.le_of_ble_eq_true rfl), (Nat.le_of_ble_eq_true rfl)⟩ rfl rfl rfl rfl [0] [1, 2, 3] [wO f 1 [.ref f_xs, .ref f_ys, .ref f_row, .ref f_square, .int (zI (f_many))], wI f_xs (zK C).2.1 8 xs, wI f_ys (zK C).2.1 8 ys] [] rfl rfl rfl rfl rfl (by decide) (Nat.le_of_ble_eq_true rfl) ⟨(Nat.le_of_ble_eq_true rfl), (Nat.le_of_ble_eq_true rfl)⟩ ?_
    rintro v_ w_ ⟨rfl, rfl, h_11_7⟩
    show ZW C 0 0 [wO f 1 [.ref f_xs, .ref f_ys, .ref f_row, .ref f_square, .int (zI (f_many))], wI f_xs (zK C).2.1 8 xs, wI f_ys (zK C).2.1 8 ys, wO x 8 [.ref x_sheets, .ref x_plane, .ref f, .ref x_heights, .ref x_levels, .ref x_words, .ref x_shown, .ref x_powers, .int (zI (x_shownCount)), .int (zI (2)), x_ways, x_weigher]] [(0, .ref x), (1, .int (zI (many)))] 14 [.int (zI (0))]
    refine z_ws (ws' := [wO x 8 [.ref x_sheets, .ref x_plane, .ref f, .ref x_heights, .ref x_levels, .ref x_words, .ref x_shown, .ref x_powers, .int (zI (x_shownCount)), .int (zI (2)), x_ways, x_weigher], wO f 1 [.ref f_xs, .ref f_ys, .ref f_row, .ref f_square, .int (zI (f_many))], wI f_xs (zK C).2.1 8 xs, wI f_ys (zK C).2.1 8 ys]) [3, 0, 1, 2] rfl rfl ?_
    exact z_zret hC hR dX8_family_14 (by omega) (Nat.le_of_ble_eq_true rfl) (Nat.le_of_ble_eq_true rfl) ⟨0, 2, f_many, xs, ys, rfl, rfl, by first | exact ⟨by omega, fun h => by exfalso; omega, fun _ => ⟨rfl, rfl⟩⟩ | exact ⟨by omega, fun _ => hb, fun h => by exfalso; omega⟩ | omega⟩

set_option maxHeartbeats 4000000 in
set_option maxRecDepth 100000 in
theorem c_X8_place (l : Launch) (D : va_G) (K : ClassId × ClassId × ClassId × ClassId) (x x_sheets x_plane f x_heights x_levels x_words x_shown x_powers f_xs f_ys f_row f_square : Nat) (k e x_ y x_shownCount x_status f_many : Int) (xs ys : Int → Int) (x_ways x_weigher : Value) (hk : zR k) (hx_ : zR x_) (hy : zR y) (he : e = 0 ∨ e = 1) (hfm : 0 ≤ f_many ∧ f_many ≤ 4) : zMet l D K yX8_place wsX8_place ({ frames := 2, cells := 0, slots := 0, locals := 46 }) 0 0 [.ref x, .int (zI (k)), .int (zI (e)), .int (zI (x_)), .int (zI (y))] [wO x 8 [.ref x_sheets, .ref x_plane, .ref f, .ref x_heights, .ref x_levels, .ref x_words, .ref x_shown, .ref x_powers, .int (zI (x_shownCount)), .int (zI (x_status)), x_ways, x_weigher], wO f 1 [.ref f_xs, .ref f_ys, .ref f_row, .ref f_square, .int (zI (f_many))], wI f_xs K.2.1 8 xs, wI f_ys K.2.1 8 ys] (fun vr_ wr_ => ∃ (r : Int) (s2 : Int) (xs2 : Int → Int) (ys2 : Int → Int), vr_ = some (.int (zI (r))) ∧ wr_ = [wO x 8 [.ref x_sheets, .ref x_plane, .ref f, .ref x_heights, .ref x_levels, .ref x_words, .ref x_shown, .ref x_powers, .int (zI (x_shownCount)), .int (zI (s2)), x_ways, x_weigher], wO f 1 [.ref f_xs, .ref f_ys, .ref f_row, .ref f_square, .int (zI (f_many))], wI f_xs K.2.1 8 xs2, wI f_ys K.2.1 8 ys2] ∧ (((¬ (-30 ≤ x_ ∧ x_ ≤ 30 ∧ -30 ≤ y ∧ y ≤ 30) ∧ r = 0 ∧ s2 = 2) ∨ (-30 ≤ x_ ∧ x_ ≤ 30 ∧ -30 ≤ y ∧ y ≤ 30 ∧ ¬ (0 ≤ k ∧ k < f_many) ∧ r = 0 ∧ s2 = 8) ∨ (-30 ≤ x_ ∧ x_ ≤ 30 ∧ -30 ≤ y ∧ y ≤ 30 ∧ 0 ≤ k ∧ k < f_many ∧ r = 1 ∧ s2 = 0)) ∧ (r = 1 → xs2 = zu xs (k + 4 * e) x_ ∧ ys2 = zu ys (k + 4 * e) y) ∧ (r = 0 → xs2 = xs ∧ ys2 = ys))) := by
  refine zMet_of (cc := cX8_place) (nL := 5) (ret := (some .boolean)) (by decide) rfl (Nat.le_of_ble_eq_true rfl) ?_
  rintro C rfl rfl rfl hC hR
  have hinX8 : ∀ w ∈ u_ws RX8 TX8 12, w ∈ wsX8_place := by decide +kernel
  show ZW C 0 0 [wO x 8 [.ref x_sheets, .ref x_plane, .ref f, .ref x_heights, .ref x_levels, .ref x_words, .ref x_shown, .ref x_powers, .int (zI (x_shownCount)), .int (zI (x_status)), x_ways, x_weigher], wO f 1 [.ref f_xs, .ref f_ys, .ref f_row, .ref f_square, .int (zI (f_many))], wI f_xs (zK C).2.1 8 xs, wI f_ys (zK C).2.1 8 ys] [(0, .ref x), (1, .int (zI (k))), (2, .int (zI (e))), (3, .int (zI (x_))), (4, .int (zI (y)))] 0 []
  refine z_iload_n hC 3 dX8_place_0 rfl rfl ?_
  refine z_iload hC 4 dX8_place_1 rfl ?_
  refine z_callS hC [.int (zI (x_)), .int (zI (y))] 2 dX8_place_3 (c_X4_isSquare (zl C) (zD C) (zK C) x_ y (by first | assumption | omega) (by first | assumption | omega)) gX8_place_X4_isSquare rfl rfl rfl ⟨by decide, by decide, by decide +kernel⟩ ⟨(Nat.le_of_ble_eq_true rfl), (Nat.le_of_ble_eq_true rfl)⟩ rfl [] [0, 1, 2, 3] [wO x 8 [.ref x_sheets, .ref x_plane, .ref f, .ref x_heights, .ref x_levels, .ref x_words, .ref x_shown, .ref x_powers, .int (zI (x_shownCount)), .int (zI (x_status)), x_ways, x_weigher], wO f 1 [.ref f_xs, .ref f_ys, .ref f_row, .ref f_square, .int (zI (f_many))], wI f_xs (zK C).2.1 8 xs, wI f_ys (zK C).2.1 8 ys] [] rfl rfl rfl rfl rfl (by decide) (Nat.le_of_ble_eq_true rfl) ⟨(Nat.le_of_ble_eq_true rfl), (Nat.le_of_ble_eq_true rfl)⟩ ?_
  rintro v_ w_ ⟨r_1, rfl, rfl, h_3_2⟩
  show ZW C 0 0 [wO x 8 [.ref x_sheets, .ref x_plane, .ref f, .ref x_heights, .ref x_levels, .ref x_words, .ref x_shown, .ref x_powers, .int (zI (x_shownCount)), .int (zI (x_status)), x_ways, x_weigher], wO f 1 [.ref f_xs, .ref f_ys, .ref f_row, .ref f_square, .int (zI (f_many))], wI f_xs (zK C).2.1 8 xs, wI f_ys (zK C).2.1 8 ys] [(0, .ref x), (1, .int (zI (k))), (2, .int (zI (e))), (3, .int (zI (x_))), (4, .int (zI (y)))] 6 [.int (zI (r_1))]
  refine z_ifne hC 15 dX8_place_6 (by decide) (by omega) (fun c_3 => ?_) (fun c_3 => ?_)
  · skip
    refine z_aload_n hC 0 dX8_place_15 rfl rfl ?_
    refine z_get hC (T := TX8) (N := 12) hinX8 0 2 dX8_place_16 rfl rfl (by decide) (List.mem_of_getElem? (i := 1) rfl) rfl rfl ?_
    refine z_iload_n hC 1 dX8_place_19 rfl rfl ?_
    refine z_callV hC [.int (zI (k))] 1 0 dX8_place_20 (c_X1_has (zl C) (zD C) (zK C) f f_xs f_ys f_row f_square k f_many (by first | assumption | omega) (by first | assumption | omega)) gX8_place_X1_has rfl rfl rfl ⟨by decide, by decide, by decide +kernel⟩ ⟨(Nat.le_of_ble_eq_true rfl), (Nat.le_of_ble_eq_true rfl)⟩ rfl rfl rfl rfl [1] [0, 2, 3] [wO x 8 [.ref x_sheets, .ref x_plane, .ref f, .ref x_heights, .ref x_levels, .ref x_words, .ref x_shown, .ref x_powers, .int (zI (x_shownCount)), .int (zI (x_status)), x_ways, x_weigher], wI f_xs (zK C).2.1 8 xs, wI f_ys (zK C).2.1 8 ys] [] rfl rfl rfl rfl rfl (by decide) (Nat.le_of_ble_eq_true rfl) ⟨(Nat.le_of_ble_eq_true rfl), (Nat.le_of_ble_eq_true rfl)⟩ ?_
    rintro v_ w_ ⟨r_4, rfl, rfl, h_20_5⟩
    show ZW C 0 0 [wO x 8 [.ref x_sheets, .ref x_plane, .ref f, .ref x_heights, .ref x_levels, .ref x_words, .ref x_shown, .ref x_powers, .int (zI (x_shownCount)), .int (zI (x_status)), x_ways, x_weigher], wI f_xs (zK C).2.1 8 xs, wI f_ys (zK C).2.1 8 ys, wO f 1 [.ref f_xs, .ref f_ys, .ref f_row, .ref f_square, .int (zI (f_many))]] [(0, .ref x), (1, .int (zI (k))), (2, .int (zI (e))), (3, .int (zI (x_))), (4, .int (zI (y)))] 23 [.int (zI (r_4))]
    refine z_ifne hC 33 dX8_place_23 (by decide) (by omega) (fun c_6 => ?_) (fun c_6 => ?_)
    · skip
      refine z_aload_n hC 0 dX8_place_33 rfl rfl ?_
      refine z_get hC (T := TX8) (N := 12) hinX8 0 2 dX8_place_34 rfl rfl (by decide) (List.mem_of_getElem? (i := 1) rfl) rfl rfl ?_
      refine z_iload_n hC 1 dX8_place_37 rfl rfl ?_
      refine z_iload_n hC 2 dX8_place_38 rfl rfl ?_
      refine z_iload_n hC 3 dX8_place_39 rfl rfl ?_
      refine z_iload hC 4 dX8_place_40 rfl ?_
      refine z_callV hC [.int (zI (k)), .int (zI (e)), .int (zI (x_)), .int (zI (y))] 4 0 dX8_place_42 (c_X1_setPlace (zl C) (zD C) (zK C) f f_xs f_ys f_row f_square k e x_ y f_many xs ys (by first | assumption | omega) (by first | assumption | omega)) gX8_place_X1_setPlace rfl rfl rfl ⟨by decide, by decide, by decide +kernel⟩ ⟨(Nat.le_of_ble_eq_true rfl), (Nat.le_of_ble_eq_true rfl)⟩ rfl rfl rfl rfl [3, 1, 2] [0] [wO x 8 [.ref x_sheets, .ref x_plane, .ref f, .ref x_heights, .ref x_levels, .ref x_words, .ref x_shown, .ref x_powers, .int (zI (x_shownCount)), .int (zI (x_status)), x_ways, x_weigher]] [] rfl rfl rfl rfl rfl (by decide) (Nat.le_of_ble_eq_true rfl) ⟨(Nat.le_of_ble_eq_true rfl), (Nat.le_of_ble_eq_true rfl)⟩ ?_
      rintro v_ w_ ⟨xs2_7, ys2_8, rfl, rfl, hp⟩
      show ZW C 0 0 [wO x 8 [.ref x_sheets, .ref x_plane, .ref f, .ref x_heights, .ref x_levels, .ref x_words, .ref x_shown, .ref x_powers, .int (zI (x_shownCount)), .int (zI (x_status)), x_ways, x_weigher], wO f 1 [.ref f_xs, .ref f_ys, .ref f_row, .ref f_square, .int (zI (f_many))], wI f_xs (zK C).2.1 8 xs2_7, wI f_ys (zK C).2.1 8 ys2_8] [(0, .ref x), (1, .int (zI (k))), (2, .int (zI (e))), (3, .int (zI (x_))), (4, .int (zI (y)))] 45 []
      refine z_aload_n hC 0 dX8_place_45 rfl rfl ?_
      refine z_callV hC [] 0 0 dX8_place_46 (c_X8_granted (zl C) (zD C) (zK C) x x_sheets x_plane f x_heights x_levels x_words x_shown x_powers x_shownCount x_status x_ways x_weigher ) gX8_place_X8_granted rfl rfl rfl ⟨by decide, by decide, by decide +kernel⟩ ⟨(Nat.le_of_ble_eq_true rfl), (Nat.le_of_ble_eq_true rfl)⟩ rfl rfl rfl rfl [0] [1, 2, 3] [wO f 1 [.ref f_xs, .ref f_ys, .ref f_row, .ref f_square, .int (zI (f_many))], wI f_xs (zK C).2.1 8 xs2_7, wI f_ys (zK C).2.1 8 ys2_8] [] rfl rfl rfl rfl rfl (by decide) (Nat.le_of_ble_eq_true rfl) ⟨(Nat.le_of_ble_eq_true rfl), (Nat.le_of_ble_eq_true rfl)⟩ ?_
      rintro v_ w_ ⟨rfl, rfl, h_46_9⟩
      show ZW C 0 0 [wO f 1 [.ref f_xs, .ref f_ys, .ref f_row, .ref f_square, .int (zI (f_many))], wI f_xs (zK C).2.1 8 xs2_7, wI f_ys (zK C).2.1 8 ys2_8, wO x 8 [.ref x_sheets, .ref x_plane, .ref f, .ref x_heights, .ref x_levels, .ref x_words, .ref x_shown, .ref x_powers, .int (zI (x_shownCount)), .int (zI (0)), x_ways, x_weigher]] [(0, .ref x), (1, .int (zI (k))), (2, .int (zI (e))), (3, .int (zI (x_))), (4, .int (zI (y)))] 49 [.int (zI (1))]
      refine z_ws (ws' := [wO x 8 [.ref x_sheets, .ref x_plane, .ref f, .ref x_heights, .ref x_levels, .ref x_words, .ref x_shown, .ref x_powers, .int (zI (x_shownCount)), .int (zI (0)), x_ways, x_weigher], wO f 1 [.ref f_xs, .ref f_ys, .ref f_row, .ref f_square, .int (zI (f_many))], wI f_xs (zK C).2.1 8 xs2_7, wI f_ys (zK C).2.1 8 ys2_8]) [3, 0, 1, 2] rfl rfl ?_
      exact z_zret hC hR dX8_place_49 (by omega) (Nat.le_of_ble_eq_true rfl) (Nat.le_of_ble_eq_true rfl) ⟨1, 0, xs2_7, ys2_8, rfl, rfl, by first | exact ⟨by (first | (left; omega) | (right; left; omega) | (right; right; omega) | omega), fun h => by exfalso; omega, fun _ => ⟨rfl, rfl⟩⟩ | exact ⟨by (first | (left; omega) | (right; left; omega) | (right; right; omega) | omega), fun _ => hp, fun h => by exfalso; omega⟩ | omega⟩
    · skip
      refine z_aload_n hC 0 dX8_place_26 rfl rfl ?_
      refine z_bipush hC dX8_place_27 (by decide) ?_
      refine z_callV hC [.int (zI (8))] 1 0 dX8_place_29 (c_X8_denied (zl C) (zD C) (zK C) x x_sheets x_plane f x_heights x_levels x_words x_shown x_powers 8 x_shownCount x_status x_ways x_weigher ) gX8_place_X8_denied rfl rfl rfl ⟨by decide, by decide, by decide +kernel⟩ ⟨(Nat.le_of_ble_eq_true rfl), (Nat.le_of_ble_eq_true rfl)⟩ rfl rfl rfl rfl [0] [1, 2, 3] [wI f_xs (zK C).2.1 8 xs, wI f_ys (zK C).2.1 8 ys, wO f 1 [.ref f_xs, .ref f_ys, .ref f_row, .ref f_square, .int (zI (f_many))]] [] rfl rfl rfl rfl rfl (by decide) (Nat.le_of_ble_eq_true rfl) ⟨(Nat.le_of_ble_eq_true rfl), (Nat.le_of_ble_eq_true rfl)⟩ ?_
      rintro v_ w_ ⟨rfl, rfl, h_29_10⟩
      show ZW C 0 0 [wI f_xs (zK C).2.1 8 xs, wI f_ys (zK C).2.1 8 ys, wO f 1 [.ref f_xs, .ref f_ys, .ref f_row, .ref f_square, .int (zI (f_many))], wO x 8 [.ref x_sheets, .ref x_plane, .ref f, .ref x_heights, .ref x_levels, .ref x_words, .ref x_shown, .ref x_powers, .int (zI (x_shownCount)), .int (zI (8)), x_ways, x_weigher]] [(0, .ref x), (1, .int (zI (k))), (2, .int (zI (e))), (3, .int (zI (x_))), (4, .int (zI (y)))] 32 [.int (zI (0))]
      refine z_ws (ws' := [wO x 8 [.ref x_sheets, .ref x_plane, .ref f, .ref x_heights, .ref x_levels, .ref x_words, .ref x_shown, .ref x_powers, .int (zI (x_shownCount)), .int (zI (8)), x_ways, x_weigher], wO f 1 [.ref f_xs, .ref f_ys, .ref f_row, .ref f_square, .int (zI (f_many))], wI f_xs (zK C).2.1 8 xs, wI f_ys (zK C).2.1 8 ys]) [3, 2, 0, 1] rfl rfl ?_
      exact z_zret hC hR dX8_place_32 (by omega) (Nat.le_of_ble_eq_true rfl) (Nat.le_of_ble_eq_true rfl) ⟨0, 8, xs, ys, rfl, rfl, by first | exact ⟨by (first | (left; omega) | (right; left; omega) | (right; right; omega) | omega), fun h => by exfalso; omega, fun _ => ⟨rfl, rfl⟩⟩ | exact ⟨by (first | (left; omega) | (right; left; omega) | (right; right; omega) | omega), fun _ => hp, fun h => by exfalso; omega⟩ | omega⟩
  · skip
    refine z_aload_n hC 0 dX8_place_9 rfl rfl ?_
    refine z_iconst hC dX8_place_10 ?_
    refine z_callV hC [.int (zI (2))] 1 0 dX8_place_11 (c_X8_denied (zl C) (zD C) (zK C) x x_sheets x_plane f x_heights x_levels x_words x_shown x_powers 2 x_shownCount x_status x_ways x_weigher ) gX8_place_X8_denied rfl rfl rfl ⟨by decide, by decide, by decide +kernel⟩ ⟨(Nat.le_of_ble_eq_true rfl), (Nat.le_of_ble_eq_true rfl)⟩ rfl rfl rfl rfl [0] [1, 2, 3] [wO f 1 [.ref f_xs, .ref f_ys, .ref f_row, .ref f_square, .int (zI (f_many))], wI f_xs (zK C).2.1 8 xs, wI f_ys (zK C).2.1 8 ys] [] rfl rfl rfl rfl rfl (by decide) (Nat.le_of_ble_eq_true rfl) ⟨(Nat.le_of_ble_eq_true rfl), (Nat.le_of_ble_eq_true rfl)⟩ ?_
    rintro v_ w_ ⟨rfl, rfl, h_11_11⟩
    show ZW C 0 0 [wO f 1 [.ref f_xs, .ref f_ys, .ref f_row, .ref f_square, .int (zI (f_many))], wI f_xs (zK C).2.1 8 xs, wI f_ys (zK C).2.1 8 ys, wO x 8 [.ref x_sheets, .ref x_plane, .ref f, .ref x_heights, .ref x_levels, .ref x_words, .ref x_shown, .ref x_powers, .int (zI (x_shownCount)), .int (zI (2)), x_ways, x_weigher]] [(0, .ref x), (1, .int (zI (k))), (2, .int (zI (e))), (3, .int (zI (x_))), (4, .int (zI (y)))] 14 [.int (zI (0))]
    refine z_ws (ws' := [wO x 8 [.ref x_sheets, .ref x_plane, .ref f, .ref x_heights, .ref x_levels, .ref x_words, .ref x_shown, .ref x_powers, .int (zI (x_shownCount)), .int (zI (2)), x_ways, x_weigher], wO f 1 [.ref f_xs, .ref f_ys, .ref f_row, .ref f_square, .int (zI (f_many))], wI f_xs (zK C).2.1 8 xs, wI f_ys (zK C).2.1 8 ys]) [3, 0, 1, 2] rfl rfl ?_
    exact z_zret hC hR dX8_place_14 (by omega) (Nat.le_of_ble_eq_true rfl) (Nat.le_of_ble_eq_true rfl) ⟨0, 2, xs, ys, rfl, rfl, by first | exact ⟨by (first | (left; omega) | (right; left; omega) | (right; right; omega) | omega), fun h => by exfalso; omega, fun _ => ⟨rfl, rfl⟩⟩ | exact ⟨by (first | (left; omega) | (right; left; omega) | (right; right; omega) | omega), fun _ => hp, fun h => by exfalso; omega⟩ | omega⟩
