set_option maxHeartbeats 4000000 in
set_option maxRecDepth 100000 in
theorem c_X1_begin (l : Launch) (D : va_G) (K : ClassId × ClassId × ClassId × ClassId) (f f_xs f_ys f_row f_square : Nat) (nm f_many : Int) (xs ys : Int → Int) : zMet l D K yX1_begin wsX1_begin ({ frames := 0, cells := 0, slots := 0, locals := 0 }) 0 0 [.ref f, .int (zI (nm))] [wO f 1 [.ref f_xs, .ref f_ys, .ref f_row, .ref f_square, .int (zI (f_many))], wI f_xs K.2.1 8 xs, wI f_ys K.2.1 8 ys] (fun vr_ wr_ => vr_ = none ∧ wr_ = [] ∧ (True)) := by
  refine zMet_of (cc := cX1_begin) (nL := 3) (ret := none) (by decide) rfl (Nat.le_of_ble_eq_true rfl) ?_
  rintro C rfl rfl rfl hC hR
  have hinX1 : ∀ w ∈ u_ws RX1 TX1 5, w ∈ wsX1_begin := by decide +kernel
  show ZW C 0 0 [wO f 1 [.ref f_xs, .ref f_ys, .ref f_row, .ref f_square, .int (zI (f_many))], wI f_xs (zK C).2.1 8 xs, wI f_ys (zK C).2.1 8 ys] [(0, .ref f), (1, .int (zI (nm)))] 0 []
  refine z_aload_n hC 0 dX1_begin_0 rfl rfl ?_
  refine z_iload_n hC 1 dX1_begin_1 rfl rfl ?_
  refine z_put hC (T := TX1) (N := 5) hinX1 tyX1_ok nmX1 0 4 [wO f 1 [.ref f_xs, .ref f_ys, .ref f_row, .ref f_square, .int (zI (nm))], wI f_xs (zK C).2.1 8 xs, wI f_ys (zK C).2.1 8 ys] dX1_begin_2 rfl rfl (by decide) (List.mem_of_getElem? (i := 1) rfl) rfl rfl rfl rfl (Nat.le_of_ble_eq_true rfl) rfl ?_
  refine z_iconst hC dX1_begin_5 ?_
  refine z_istore_n hC [(2, .int (zI (0))), (0, .ref f), (1, .int (zI (nm)))] dX1_begin_6 rfl (by decide) rfl ?_
  refine z_lv (lv' := [(0, .ref f), (1, .int (zI (nm))), (2, .int (zI (0)))]) [1, 2, 0] rfl ?_
  have lp7_1 : ∀ (f3 : Nat) (i : Int) (g : Int → Int) (g2 : Int → Int), (0 ≤ i ∧ i ≤ 8) → (8 - i).toNat < f3 → ZW C 0 0 [wO f 1 [.ref f_xs, .ref f_ys, .ref f_row, .ref f_square, .int (zI (nm))], wI f_xs (zK C).2.1 8 g, wI f_ys (zK C).2.1 8 g2] [(0, .ref f), (1, .int (zI (nm))), (2, .int (zI (i)))] 7 [] := by
    intro f3
    induction f3 with
    | zero => intro _ _ _ _ hf; exact absurd hf (Nat.not_lt_zero _)
    | succ f3 ih7_2 =>
      intro i g g2 vi hf_7
      refine z_iload_n hC 2 dX1_begin_7 rfl rfl ?_
      refine z_bipush hC dX1_begin_8 (by decide) ?_
      refine z_icge hC 33 dX1_begin_10 (by decide) (by omega) (fun c_4 => ?_) (fun c_4 => ?_)
      · skip
        refine z_ws (ws' := []) [] rfl rfl ?_
        exact z_vret hC hR dX1_begin_33 (Nat.le_of_ble_eq_true rfl) (Nat.le_of_ble_eq_true rfl) ⟨rfl, rfl, by trivial⟩
      · skip
        refine z_aload_n hC 0 dX1_begin_13 rfl rfl ?_
        refine z_get hC (T := TX1) (N := 5) hinX1 0 0 dX1_begin_14 rfl rfl (by decide) (List.mem_of_getElem? (i := 2) rfl) rfl rfl ?_
        refine z_iload_n hC 2 dX1_begin_17 rfl rfl ?_
        refine z_iconst hC dX1_begin_18 ?_
        refine z_iast hC 1 [wO f 1 [.ref f_xs, .ref f_ys, .ref f_row, .ref f_square, .int (zI (nm))], wI f_xs (zK C).2.1 8 (zu g i 0), wI f_ys (zK C).2.1 8 g2] dX1_begin_19 rfl (by omega) rfl ?_
        refine z_aload_n hC 0 dX1_begin_20 rfl rfl ?_
        refine z_get hC (T := TX1) (N := 5) hinX1 0 1 dX1_begin_21 rfl rfl (by decide) (List.mem_of_getElem? (i := 3) rfl) rfl rfl ?_
        refine z_iload_n hC 2 dX1_begin_24 rfl rfl ?_
        refine z_iconst hC dX1_begin_25 ?_
        refine z_iast hC 2 [wO f 1 [.ref f_xs, .ref f_ys, .ref f_row, .ref f_square, .int (zI (nm))], wI f_xs (zK C).2.1 8 (zu g i 0), wI f_ys (zK C).2.1 8 (zu g2 i 0)] dX1_begin_26 rfl (by omega) rfl ?_
        refine z_iinc (a := i) (v := 1) (r := i + 1) hC 2 [(2, .int (zI (i + 1))), (0, .ref f), (1, .int (zI (nm)))] dX1_begin_27 rfl rfl (by decide) rfl ?_
        refine z_goto hC 7 dX1_begin_30 (by decide) ?_
        refine z_lv (lv' := [(0, .ref f), (1, .int (zI (nm))), (2, .int (zI (i + 1)))]) [1, 2, 0] rfl ?_
        exact ih7_2 (i + 1) (zu g i 0) (zu g2 i 0) (by omega) (by omega)
  exact lp7_1 _ 0 xs ys (by omega) (Nat.lt_succ_self _)

set_option maxHeartbeats 4000000 in
set_option maxRecDepth 100000 in
theorem c_X1_has (l : Launch) (D : va_G) (K : ClassId × ClassId × ClassId × ClassId) (f f_xs f_ys f_row f_square : Nat) (k f_many : Int) (hk : zR k) (hf_many : zR f_many) : zMet l D K yX1_has wsX1_has ({ frames := 0, cells := 0, slots := 0, locals := 0 }) 0 0 [.ref f, .int (zI (k))] [wO f 1 [.ref f_xs, .ref f_ys, .ref f_row, .ref f_square, .int (zI (f_many))]] (fun vr_ wr_ => ∃ (r : Int), vr_ = some (.int (zI (r))) ∧ wr_ = [wO f 1 [.ref f_xs, .ref f_ys, .ref f_row, .ref f_square, .int (zI (f_many))]] ∧ ((0 ≤ k ∧ k < f_many ∧ k < 4 ∧ r = 1) ∨ (¬ (0 ≤ k ∧ k < f_many ∧ k < 4) ∧ r = 0))) := by
  refine zMet_of (cc := cX1_has) (nL := 2) (ret := (some .boolean)) (by decide) rfl (Nat.le_of_ble_eq_true rfl) ?_
  rintro C rfl rfl rfl hC hR
  have hinX1 : ∀ w ∈ u_ws RX1 TX1 5, w ∈ wsX1_has := by decide +kernel
  show ZW C 0 0 [wO f 1 [.ref f_xs, .ref f_ys, .ref f_row, .ref f_square, .int (zI (f_many))]] [(0, .ref f), (1, .int (zI (k)))] 0 []
  refine z_iload_n hC 1 dX1_has_0 rfl rfl ?_
  refine z_iflt hC 21 dX1_has_1 (by decide) (by omega) (fun c_1 => ?_) (fun c_1 => ?_)
  · skip
    refine z_iconst hC dX1_has_21 ?_
    exact z_zret hC hR dX1_has_22 (by omega) (Nat.le_of_ble_eq_true rfl) (Nat.le_of_ble_eq_true rfl) ⟨0, rfl, rfl, by omega⟩
  · skip
    refine z_iload_n hC 1 dX1_has_4 rfl rfl ?_
    refine z_aload_n hC 0 dX1_has_5 rfl rfl ?_
    refine z_get hC (T := TX1) (N := 5) hinX1 0 4 dX1_has_6 rfl rfl (by decide) (List.mem_of_getElem? (i := 1) rfl) rfl rfl ?_
    refine z_icge hC 21 dX1_has_9 (by decide) (by omega) (fun c_2 => ?_) (fun c_2 => ?_)
    · skip
      refine z_iconst hC dX1_has_21 ?_
      exact z_zret hC hR dX1_has_22 (by omega) (Nat.le_of_ble_eq_true rfl) (Nat.le_of_ble_eq_true rfl) ⟨0, rfl, rfl, by omega⟩
    · skip
      refine z_iload_n hC 1 dX1_has_12 rfl rfl ?_
      refine z_iconst hC dX1_has_13 ?_
      refine z_icge hC 21 dX1_has_14 (by decide) (by omega) (fun c_3 => ?_) (fun c_3 => ?_)
      · skip
        refine z_iconst hC dX1_has_21 ?_
        exact z_zret hC hR dX1_has_22 (by omega) (Nat.le_of_ble_eq_true rfl) (Nat.le_of_ble_eq_true rfl) ⟨0, rfl, rfl, by omega⟩
      · skip
        refine z_iconst hC dX1_has_17 ?_
        refine z_goto hC 22 dX1_has_18 (by decide) ?_
        exact z_zret hC hR dX1_has_22 (by omega) (Nat.le_of_ble_eq_true rfl) (Nat.le_of_ble_eq_true rfl) ⟨1, rfl, rfl, by omega⟩

set_option maxHeartbeats 4000000 in
set_option maxRecDepth 100000 in
theorem c_X8_family (l : Launch) (D : va_G) (K : ClassId × ClassId × ClassId × ClassId) (x x_sheets x_plane f x_heights x_levels x_words x_shown x_powers f_xs f_ys f_row f_square : Nat) (many x_shownCount x_status f_many : Int) (xs ys : Int → Int) (x_ways x_weigher : Value) (hmany : zR many) : zMet l D K yX8_family wsX8_family ({ frames := 1, cells := 0, slots := 0, locals := 22 }) 0 0 [.ref x, .int (zI (many))] [wO x 8 [.ref x_sheets, .ref x_plane, .ref f, .ref x_heights, .ref x_levels, .ref x_words, .ref x_shown, .ref x_powers, .int (zI (x_shownCount)), .int (zI (x_status)), x_ways, x_weigher], wO f 1 [.ref f_xs, .ref f_ys, .ref f_row, .ref f_square, .int (zI (f_many))], wI f_xs K.2.1 8 xs, wI f_ys K.2.1 8 ys] (fun vr_ wr_ => ∃ (r : Int), vr_ = some (.int (zI (r))) ∧ wr_ = [] ∧ ((1 ≤ many ∧ many ≤ 4 ∧ r = 1) ∨ (¬ (1 ≤ many ∧ many ≤ 4) ∧ r = 0))) := by
  refine zMet_of (cc := cX8_family) (nL := 2) (ret := (some .boolean)) (by decide) rfl (Nat.le_of_ble_eq_true rfl) ?_
  rintro C rfl rfl rfl hC hR
  have hinX8 : ∀ w ∈ u_ws RX8 TX8 12, w ∈ wsX8_family := by decide +kernel
  show ZW C 0 0 [wO x 8 [.ref x_sheets, .ref x_plane, .ref f, .ref x_heights, .ref x_levels, .ref x_words, .ref x_shown, .ref x_powers, .int (zI (x_shownCount)), .int (zI (x_status)), x_ways, x_weigher], wO f 1 [.ref f_xs, .ref f_ys, .ref f_row, .ref f_square, .int (zI (f_many))], wI f_xs (zK C).2.1 8 xs, wI f_ys (zK C).2.1 8 ys] [(0, .ref x), (1, .int (zI (many)))] 0 []
  refine z_iload_n hC 1 dX8_family_0 rfl rfl ?_
  refine z_iconst hC dX8_family_1 ?_
  refine z_iconst hC dX8_family_2 ?_
  refine z_callS hC [.int (zI (many)), .int (zI (1)), .int (zI (4))] 3 dX8_family_3 (c_X8_within (zl C) (zD C) (zK C) many 1 4 (by first | assumption | omega) (by first | assumption | omega) (by first | assumption | omega)) gX8_family_X8_within rfl rfl rfl ⟨by decide, by decide, by decide +kernel⟩ ⟨(Nat.le_of_ble_eq_true rfl), (Nat.le_of_ble_eq_true rfl)⟩ rfl [] [0, 1, 2, 3] [wO x 8 [.ref x_sheets, .ref x_plane, .ref f, .ref x_heights, .ref x_levels, .ref x_words, .ref x_shown, .ref x_powers, .int (zI (x_shownCount)), .int (zI (x_status)), x_ways, x_weigher], wO f 1 [.ref f_xs, .ref f_ys, .ref f_row, .ref f_square, .int (zI (f_many))], wI f_xs (zK C).2.1 8 xs, wI f_ys (zK C).2.1 8 ys] [] rfl rfl rfl rfl rfl (by decide) (Nat.le_of_ble_eq_true rfl) ⟨(Nat.le_of_ble_eq_true rfl), (Nat.le_of_ble_eq_true rfl)⟩ ?_
  rintro v_ w_ ⟨r_1, rfl, rfl, h_3_2⟩
  show ZW C 0 0 [wO x 8 [.ref x_sheets, .ref x_plane, .ref f, .ref x_heights, .ref x_levels, .ref x_words, .ref x_shown, .ref x_powers, .int (zI (x_shownCount)), .int (zI (x_status)), x_ways, x_weigher], wO f 1 [.ref f_xs, .ref f_ys, .ref f_row, .ref f_square, .int (zI (f_many))], wI f_xs (zK C).2.1 8 xs, wI f_ys (zK C).2.1 8 ys] [(0, .ref x), (1, .int (zI (many)))] 6 [.int (zI (r_1))]
  refine z_ifne hC 15 dX8_family_6 (by decide) (by omega) (fun c_3 => ?_) (fun c_3 => ?_)
  · skip
    refine z_aload_n hC 0 dX8_family_15 rfl rfl ?_
    refine z_get hC (T := TX8) (N := 12) hinX8 0 2 dX8_family_16 rfl rfl (by decide) (List.mem_of_getElem? (i := 1) rfl) rfl rfl ?_
    refine z_iload_n hC 1 dX8_family_19 rfl rfl ?_
    refine z_callV hC [.int (zI (many))] 1 0 dX8_family_20 (c_X1_begin (zl C) (zD C) (zK C) f f_xs f_ys f_row f_square many f_many xs ys ) gX8_family_X1_begin rfl rfl rfl ⟨by decide, by decide, by decide +kernel⟩ ⟨(Nat.le_of_ble_eq_true rfl), (Nat.le_of_ble_eq_true rfl)⟩ rfl rfl rfl rfl [1, 2, 3] [0] [wO x 8 [.ref x_sheets, .ref x_plane, .ref f, .ref x_heights, .ref x_levels, .ref x_words, .ref x_shown, .ref x_powers, .int (zI (x_shownCount)), .int (zI (x_status)), x_ways, x_weigher]] [] rfl rfl rfl rfl rfl (by decide) (Nat.le_of_ble_eq_true rfl) ⟨(Nat.le_of_ble_eq_true rfl), (Nat.le_of_ble_eq_true rfl)⟩ ?_
    rintro v_ w_ ⟨rfl, rfl, h_20_4⟩
    show ZW C 0 0 [wO x 8 [.ref x_sheets, .ref x_plane, .ref f, .ref x_heights, .ref x_levels, .ref x_words, .ref x_shown, .ref x_powers, .int (zI (x_shownCount)), .int (zI (x_status)), x_ways, x_weigher]] [(0, .ref x), (1, .int (zI (many)))] 23 []
    refine z_aload_n hC 0 dX8_family_23 rfl rfl ?_
    refine z_callV hC [] 0 0 dX8_family_24 (c_X8_granted (zl C) (zD C) (zK C) x x_sheets x_plane f x_heights x_levels x_words x_shown x_powers x_shownCount x_status x_ways x_weigher ) gX8_family_X8_granted rfl rfl rfl ⟨by decide, by decide, by decide +kernel⟩ ⟨(Nat.le_of_ble_eq_true rfl), (Nat.le_of_ble_eq_true rfl)⟩ rfl rfl rfl rfl [0] [] [] [] rfl rfl rfl rfl rfl (by decide) (Nat.le_of_ble_eq_true rfl) ⟨(Nat.le_of_ble_eq_true rfl), (Nat.le_of_ble_eq_true rfl)⟩ ?_
    rintro v_ w_ ⟨rfl, rfl, h_24_5⟩
    show ZW C 0 0 [wO x 8 [.ref x_sheets, .ref x_plane, .ref f, .ref x_heights, .ref x_levels, .ref x_words, .ref x_shown, .ref x_powers, .int (zI (x_shownCount)), .int (zI (0)), x_ways, x_weigher]] [(0, .ref x), (1, .int (zI (many)))] 27 [.int (zI (1))]
    refine z_ws (ws' := []) [] rfl rfl ?_
    exact z_zret hC hR dX8_family_27 (by omega) (Nat.le_of_ble_eq_true rfl) (Nat.le_of_ble_eq_true rfl) ⟨1, rfl, rfl, by omega⟩
  · skip
    refine z_aload_n hC 0 dX8_family_9 rfl rfl ?_
    refine z_iconst hC dX8_family_10 ?_
    refine z_callV hC [.int (zI (2))] 1 0 dX8_family_11 (c_X8_denied (zl C) (zD C) (zK C) x x_sheets x_plane f x_heights x_levels x_words x_shown x_powers 2 x_shownCount x_status x_ways x_weigher ) gX8_family_X8_denied rfl rfl rfl ⟨by decide, by decide, by decide +kernel⟩ ⟨(Nat.le_of_ble_eq_true rfl), (Nat.le_of_ble_eq_true rfl)⟩ rfl rfl rfl rfl [0] [1, 2, 3] [wO f 1 [.ref f_xs, .ref f_ys, .ref f_row, .ref f_square, .int (zI (f_many))], wI f_xs (zK C).2.1 8 xs, wI f_ys (zK C).2.1 8 ys] [] rfl rfl rfl rfl rfl (by decide) (Nat.le_of_ble_eq_true rfl) ⟨(Nat.le_of_ble_eq_true rfl), (Nat.le_of_ble_eq_true rfl)⟩ ?_
    rintro v_ w_ ⟨rfl, rfl, h_11_6⟩
    show ZW C 0 0 [wO f 1 [.ref f_xs, .ref f_ys, .ref f_row, .ref f_square, .int (zI (f_many))], wI f_xs (zK C).2.1 8 xs, wI f_ys (zK C).2.1 8 ys, wO x 8 [.ref x_sheets, .ref x_plane, .ref f, .ref x_heights, .ref x_levels, .ref x_words, .ref x_shown, .ref x_powers, .int (zI (x_shownCount)), .int (zI (2)), x_ways, x_weigher]] [(0, .ref x), (1, .int (zI (many)))] 14 [.int (zI (0))]
    refine z_ws (ws' := []) [] rfl rfl ?_
    exact z_zret hC hR dX8_family_14 (by omega) (Nat.le_of_ble_eq_true rfl) (Nat.le_of_ble_eq_true rfl) ⟨0, rfl, rfl, by omega⟩

set_option maxHeartbeats 4000000 in
set_option maxRecDepth 100000 in
theorem c_X8_place (l : Launch) (D : va_G) (K : ClassId × ClassId × ClassId × ClassId) (x x_sheets x_plane f x_heights x_levels x_words x_shown x_powers f_xs f_ys f_row f_square : Nat) (k e x_ y x_shownCount x_status : Int) (x_ways x_weigher : Value) (hk : zR k) (he : zR e) (hx_ : zR x_) (hy : zR y) : zMet l D K yX8_place wsX8_place ({ frames := 1, cells := 0, slots := 0, locals := 21 }) 0 0 [.ref x, .int (zI (k)), .int (zI (e)), .int (zI (x_)), .int (zI (y))] [wO x 8 [.ref x_sheets, .ref x_plane, .ref f, .ref x_heights, .ref x_levels, .ref x_words, .ref x_shown, .ref x_powers, .int (zI (x_shownCount)), .int (zI (x_status)), x_ways, x_weigher], wO f 1 [.ref f_xs, .ref f_ys, .ref f_row, .ref f_square, .int (zI (0))]] (fun vr_ wr_ => ∃ (r : Int), vr_ = some (.int (zI (r))) ∧ wr_ = [] ∧ (r = 0)) := by
  refine zMet_of (cc := cX8_place) (nL := 5) (ret := (some .boolean)) (by decide) rfl (Nat.le_of_ble_eq_true rfl) ?_
  rintro C rfl rfl rfl hC hR
  have hinX8 : ∀ w ∈ u_ws RX8 TX8 12, w ∈ wsX8_place := by decide +kernel
  show ZW C 0 0 [wO x 8 [.ref x_sheets, .ref x_plane, .ref f, .ref x_heights, .ref x_levels, .ref x_words, .ref x_shown, .ref x_powers, .int (zI (x_shownCount)), .int (zI (x_status)), x_ways, x_weigher], wO f 1 [.ref f_xs, .ref f_ys, .ref f_row, .ref f_square, .int (zI (0))]] [(0, .ref x), (1, .int (zI (k))), (2, .int (zI (e))), (3, .int (zI (x_))), (4, .int (zI (y)))] 0 []
  refine z_iload_n hC 3 dX8_place_0 rfl rfl ?_
  refine z_iload hC 4 dX8_place_1 rfl ?_
  refine z_callS hC [.int (zI (x_)), .int (zI (y))] 2 dX8_place_3 (c_X4_isSquare (zl C) (zD C) (zK C) x_ y (by first | assumption | omega) (by first | assumption | omega)) gX8_place_X4_isSquare rfl rfl rfl ⟨by decide, by decide, by decide +kernel⟩ ⟨(Nat.le_of_ble_eq_true rfl), (Nat.le_of_ble_eq_true rfl)⟩ rfl [] [0, 1] [wO x 8 [.ref x_sheets, .ref x_plane, .ref f, .ref x_heights, .ref x_levels, .ref x_words, .ref x_shown, .ref x_powers, .int (zI (x_shownCount)), .int (zI (x_status)), x_ways, x_weigher], wO f 1 [.ref f_xs, .ref f_ys, .ref f_row, .ref f_square, .int (zI (0))]] [] rfl rfl rfl rfl rfl (by decide) (Nat.le_of_ble_eq_true rfl) ⟨(Nat.le_of_ble_eq_true rfl), (Nat.le_of_ble_eq_true rfl)⟩ ?_
  rintro v_ w_ ⟨r_1, rfl, rfl, h_3_2⟩
  show ZW C 0 0 [wO x 8 [.ref x_sheets, .ref x_plane, .ref f, .ref x_heights, .ref x_levels, .ref x_words, .ref x_shown, .ref x_powers, .int (zI (x_shownCount)), .int (zI (x_status)), x_ways, x_weigher], wO f 1 [.ref f_xs, .ref f_ys, .ref f_row, .ref f_square, .int (zI (0))]] [(0, .ref x), (1, .int (zI (k))), (2, .int (zI (e))), (3, .int (zI (x_))), (4, .int (zI (y)))] 6 [.int (zI (r_1))]
  refine z_ifne hC 15 dX8_place_6 (by decide) (by omega) (fun c_3 => ?_) (fun c_3 => ?_)
  · skip
    refine z_aload_n hC 0 dX8_place_15 rfl rfl ?_
    refine z_get hC (T := TX8) (N := 12) hinX8 0 2 dX8_place_16 rfl rfl (by decide) (List.mem_of_getElem? (i := 1) rfl) rfl rfl ?_
    refine z_iload_n hC 1 dX8_place_19 rfl rfl ?_
    refine z_callV hC [.int (zI (k))] 1 0 dX8_place_20 (c_X1_has (zl C) (zD C) (zK C) f f_xs f_ys f_row f_square k 0 (by first | assumption | omega) (by first | assumption | omega)) gX8_place_X1_has rfl rfl rfl ⟨by decide, by decide, by decide +kernel⟩ ⟨(Nat.le_of_ble_eq_true rfl), (Nat.le_of_ble_eq_true rfl)⟩ rfl rfl rfl rfl [1] [0] [wO x 8 [.ref x_sheets, .ref x_plane, .ref f, .ref x_heights, .ref x_levels, .ref x_words, .ref x_shown, .ref x_powers, .int (zI (x_shownCount)), .int (zI (x_status)), x_ways, x_weigher]] [] rfl rfl rfl rfl rfl (by decide) (Nat.le_of_ble_eq_true rfl) ⟨(Nat.le_of_ble_eq_true rfl), (Nat.le_of_ble_eq_true rfl)⟩ ?_
    rintro v_ w_ ⟨r_4, rfl, rfl, h_20_5⟩
    show ZW C 0 0 [wO x 8 [.ref x_sheets, .ref x_plane, .ref f, .ref x_heights, .ref x_levels, .ref x_words, .ref x_shown, .ref x_powers, .int (zI (x_shownCount)), .int (zI (x_status)), x_ways, x_weigher], wO f 1 [.ref f_xs, .ref f_ys, .ref f_row, .ref f_square, .int (zI (0))]] [(0, .ref x), (1, .int (zI (k))), (2, .int (zI (e))), (3, .int (zI (x_))), (4, .int (zI (y)))] 23 [.int (zI (r_4))]
    refine z_ifne hC 33 dX8_place_23 (by decide) (by omega) (fun c_6 => by exfalso; omega) (fun c_6 => ?_)
    refine z_aload_n hC 0 dX8_place_26 rfl rfl ?_
    refine z_bipush hC dX8_place_27 (by decide) ?_
    refine z_callV hC [.int (zI (8))] 1 0 dX8_place_29 (c_X8_denied (zl C) (zD C) (zK C) x x_sheets x_plane f x_heights x_levels x_words x_shown x_powers 8 x_shownCount x_status x_ways x_weigher ) gX8_place_X8_denied rfl rfl rfl ⟨by decide, by decide, by decide +kernel⟩ ⟨(Nat.le_of_ble_eq_true rfl), (Nat.le_of_ble_eq_true rfl)⟩ rfl rfl rfl rfl [0] [1] [wO f 1 [.ref f_xs, .ref f_ys, .ref f_row, .ref f_square, .int (zI (0))]] [] rfl rfl rfl rfl rfl (by decide) (Nat.le_of_ble_eq_true rfl) ⟨(Nat.le_of_ble_eq_true rfl), (Nat.le_of_ble_eq_true rfl)⟩ ?_
    rintro v_ w_ ⟨rfl, rfl, h_29_7⟩
    show ZW C 0 0 [wO f 1 [.ref f_xs, .ref f_ys, .ref f_row, .ref f_square, .int (zI (0))], wO x 8 [.ref x_sheets, .ref x_plane, .ref f, .ref x_heights, .ref x_levels, .ref x_words, .ref x_shown, .ref x_powers, .int (zI (x_shownCount)), .int (zI (8)), x_ways, x_weigher]] [(0, .ref x), (1, .int (zI (k))), (2, .int (zI (e))), (3, .int (zI (x_))), (4, .int (zI (y)))] 32 [.int (zI (0))]
    refine z_ws (ws' := []) [] rfl rfl ?_
    exact z_zret hC hR dX8_place_32 (by omega) (Nat.le_of_ble_eq_true rfl) (Nat.le_of_ble_eq_true rfl) ⟨0, rfl, rfl, by omega⟩
  · skip
    refine z_aload_n hC 0 dX8_place_9 rfl rfl ?_
    refine z_iconst hC dX8_place_10 ?_
    refine z_callV hC [.int (zI (2))] 1 0 dX8_place_11 (c_X8_denied (zl C) (zD C) (zK C) x x_sheets x_plane f x_heights x_levels x_words x_shown x_powers 2 x_shownCount x_status x_ways x_weigher ) gX8_place_X8_denied rfl rfl rfl ⟨by decide, by decide, by decide +kernel⟩ ⟨(Nat.le_of_ble_eq_true rfl), (Nat.le_of_ble_eq_true rfl)⟩ rfl rfl rfl rfl [0] [1] [wO f 1 [.ref f_xs, .ref f_ys, .ref f_row, .ref f_square, .int (zI (0))]] [] rfl rfl rfl rfl rfl (by decide) (Nat.le_of_ble_eq_true rfl) ⟨(Nat.le_of_ble_eq_true rfl), (Nat.le_of_ble_eq_true rfl)⟩ ?_
    rintro v_ w_ ⟨rfl, rfl, h_11_8⟩
    show ZW C 0 0 [wO f 1 [.ref f_xs, .ref f_ys, .ref f_row, .ref f_square, .int (zI (0))], wO x 8 [.ref x_sheets, .ref x_plane, .ref f, .ref x_heights, .ref x_levels, .ref x_words, .ref x_shown, .ref x_powers, .int (zI (x_shownCount)), .int (zI (2)), x_ways, x_weigher]] [(0, .ref x), (1, .int (zI (k))), (2, .int (zI (e))), (3, .int (zI (x_))), (4, .int (zI (y)))] 14 [.int (zI (0))]
    refine z_ws (ws' := []) [] rfl rfl ?_
    exact z_zret hC hR dX8_place_14 (by omega) (Nat.le_of_ble_eq_true rfl) (Nat.le_of_ble_eq_true rfl) ⟨0, rfl, rfl, by omega⟩

set_option maxHeartbeats 4000000 in
set_option maxRecDepth 100000 in
theorem c_X8_table (l : Launch) (D : va_G) (K : ClassId × ClassId × ClassId × ClassId) (x x_sheets x_plane f x_heights x_levels x_words x_shown x_powers f_xs f_ys f_row f_square : Nat) (i j x_shownCount x_status : Int) (x_ways x_weigher : Value) (hi : zR i) (hj : zR j) : zMet l D K yX8_table wsX8_table ({ frames := 1, cells := 0, slots := 0, locals := 21 }) 0 0 [.ref x, .int (zI (i)), .int (zI (j))] [wO x 8 [.ref x_sheets, .ref x_plane, .ref f, .ref x_heights, .ref x_levels, .ref x_words, .ref x_shown, .ref x_powers, .int (zI (x_shownCount)), .int (zI (x_status)), x_ways, x_weigher], wO f 1 [.ref f_xs, .ref f_ys, .ref f_row, .ref f_square, .int (zI (0))]] (fun vr_ wr_ => ∃ (r : Int), vr_ = some (.int (zI (r))) ∧ wr_ = [] ∧ (r = -1)) := by
  refine zMet_of (cc := cX8_table) (nL := 4) (ret := (some .int)) (by decide) rfl (Nat.le_of_ble_eq_true rfl) ?_
  rintro C rfl rfl rfl hC hR
  have hinX8 : ∀ w ∈ u_ws RX8 TX8 12, w ∈ wsX8_table := by decide +kernel
  show ZW C 0 0 [wO x 8 [.ref x_sheets, .ref x_plane, .ref f, .ref x_heights, .ref x_levels, .ref x_words, .ref x_shown, .ref x_powers, .int (zI (x_shownCount)), .int (zI (x_status)), x_ways, x_weigher], wO f 1 [.ref f_xs, .ref f_ys, .ref f_row, .ref f_square, .int (zI (0))]] [(0, .ref x), (1, .int (zI (i))), (2, .int (zI (j)))] 0 []
  refine z_aload_n hC 0 dX8_table_0 rfl rfl ?_
  refine z_get hC (T := TX8) (N := 12) hinX8 0 2 dX8_table_1 rfl rfl (by decide) (List.mem_of_getElem? (i := 1) rfl) rfl rfl ?_
  refine z_iload_n hC 1 dX8_table_4 rfl rfl ?_
  refine z_callV hC [.int (zI (i))] 1 0 dX8_table_5 (c_X1_has (zl C) (zD C) (zK C) f f_xs f_ys f_row f_square i 0 (by first | assumption | omega) (by first | assumption | omega)) gX8_table_X1_has rfl rfl rfl ⟨by decide, by decide, by decide +kernel⟩ ⟨(Nat.le_of_ble_eq_true rfl), (Nat.le_of_ble_eq_true rfl)⟩ rfl rfl rfl rfl [1] [0] [wO x 8 [.ref x_sheets, .ref x_plane, .ref f, .ref x_heights, .ref x_levels, .ref x_words, .ref x_shown, .ref x_powers, .int (zI (x_shownCount)), .int (zI (x_status)), x_ways, x_weigher]] [] rfl rfl rfl rfl rfl (by decide) (Nat.le_of_ble_eq_true rfl) ⟨(Nat.le_of_ble_eq_true rfl), (Nat.le_of_ble_eq_true rfl)⟩ ?_
  rintro v_ w_ ⟨r_1, rfl, rfl, h_5_2⟩
  show ZW C 0 0 [wO x 8 [.ref x_sheets, .ref x_plane, .ref f, .ref x_heights, .ref x_levels, .ref x_words, .ref x_shown, .ref x_powers, .int (zI (x_shownCount)), .int (zI (x_status)), x_ways, x_weigher], wO f 1 [.ref f_xs, .ref f_ys, .ref f_row, .ref f_square, .int (zI (0))]] [(0, .ref x), (1, .int (zI (i))), (2, .int (zI (j)))] 8 [.int (zI (r_1))]
  refine z_ifeq hC 22 dX8_table_8 (by decide) (by omega) (fun c_3 => ?_) (fun c_3 => by exfalso; omega)
  refine z_aload_n hC 0 dX8_table_22 rfl rfl ?_
  refine z_bipush hC dX8_table_23 (by decide) ?_
  refine z_callV hC [.int (zI (8))] 1 0 dX8_table_25 (c_X8_refused (zl C) (zD C) (zK C) x x_sheets x_plane f x_heights x_levels x_words x_shown x_powers 8 x_shownCount x_status x_ways x_weigher ) gX8_table_X8_refused rfl rfl rfl ⟨by decide, by decide, by decide +kernel⟩ ⟨(Nat.le_of_ble_eq_true rfl), (Nat.le_of_ble_eq_true rfl)⟩ rfl rfl rfl rfl [0] [1] [wO f 1 [.ref f_xs, .ref f_ys, .ref f_row, .ref f_square, .int (zI (0))]] [] rfl rfl rfl rfl rfl (by decide) (Nat.le_of_ble_eq_true rfl) ⟨(Nat.le_of_ble_eq_true rfl), (Nat.le_of_ble_eq_true rfl)⟩ ?_
  rintro v_ w_ ⟨rfl, rfl, h_25_4⟩
  show ZW C 0 0 [wO f 1 [.ref f_xs, .ref f_ys, .ref f_row, .ref f_square, .int (zI (0))], wO x 8 [.ref x_sheets, .ref x_plane, .ref f, .ref x_heights, .ref x_levels, .ref x_words, .ref x_shown, .ref x_powers, .int (zI (x_shownCount)), .int (zI (8)), x_ways, x_weigher]] [(0, .ref x), (1, .int (zI (i))), (2, .int (zI (j)))] 28 [.int (zI (-1))]
  refine z_ws (ws' := []) [] rfl rfl ?_
  exact z_iret hC hR dX8_table_28 (Nat.le_of_ble_eq_true rfl) (Nat.le_of_ble_eq_true rfl) ⟨-1, rfl, rfl, by omega⟩

set_option maxHeartbeats 4000000 in
set_option maxRecDepth 100000 in
theorem c_X8_worth (l : Launch) (D : va_G) (K : ClassId × ClassId × ClassId × ClassId) (x x_sheets x_plane f x_heights x_levels x_words x_shown x_powers f_xs f_ys f_row f_square : Nat) (x_shownCount x_status : Int) (x_ways x_weigher : Value) : zMet l D K yX8_worth wsX8_worth ({ frames := 1, cells := 0, slots := 0, locals := 21 }) 0 0 [.ref x] [wO x 8 [.ref x_sheets, .ref x_plane, .ref f, .ref x_heights, .ref x_levels, .ref x_words, .ref x_shown, .ref x_powers, .int (zI (x_shownCount)), .int (zI (x_status)), x_ways, x_weigher], wO f 1 [.ref f_xs, .ref f_ys, .ref f_row, .ref f_square, .int (zI (0))]] (fun vr_ wr_ => ∃ (r : Int), vr_ = some (.long (zL (r))) ∧ wr_ = [] ∧ (r = -1)) := by
  refine zMet_of (cc := cX8_worth) (nL := 1) (ret := (some .long)) (by decide) rfl (Nat.le_of_ble_eq_true rfl) ?_
  rintro C rfl rfl rfl hC hR
  have hinX8 : ∀ w ∈ u_ws RX8 TX8 12, w ∈ wsX8_worth := by decide +kernel
  show ZW C 0 0 [wO x 8 [.ref x_sheets, .ref x_plane, .ref f, .ref x_heights, .ref x_levels, .ref x_words, .ref x_shown, .ref x_powers, .int (zI (x_shownCount)), .int (zI (x_status)), x_ways, x_weigher], wO f 1 [.ref f_xs, .ref f_ys, .ref f_row, .ref f_square, .int (zI (0))]] [(0, .ref x)] 0 []
  refine z_aload_n hC 0 dX8_worth_0 rfl rfl ?_
  refine z_get hC (T := TX8) (N := 12) hinX8 0 2 dX8_worth_1 rfl rfl (by decide) (List.mem_of_getElem? (i := 1) rfl) rfl rfl ?_
  refine z_iconst hC dX8_worth_4 ?_
  refine z_callV hC [.int (zI (0))] 1 0 dX8_worth_5 (c_X1_has (zl C) (zD C) (zK C) f f_xs f_ys f_row f_square 0 0 (by first | assumption | omega) (by first | assumption | omega)) gX8_worth_X1_has rfl rfl rfl ⟨by decide, by decide, by decide +kernel⟩ ⟨(Nat.le_of_ble_eq_true rfl), (Nat.le_of_ble_eq_true rfl)⟩ rfl rfl rfl rfl [1] [0] [wO x 8 [.ref x_sheets, .ref x_plane, .ref f, .ref x_heights, .ref x_levels, .ref x_words, .ref x_shown, .ref x_powers, .int (zI (x_shownCount)), .int (zI (x_status)), x_ways, x_weigher]] [] rfl rfl rfl rfl rfl (by decide) (Nat.le_of_ble_eq_true rfl) ⟨(Nat.le_of_ble_eq_true rfl), (Nat.le_of_ble_eq_true rfl)⟩ ?_
  rintro v_ w_ ⟨r_1, rfl, rfl, h_5_2⟩
  show ZW C 0 0 [wO x 8 [.ref x_sheets, .ref x_plane, .ref f, .ref x_heights, .ref x_levels, .ref x_words, .ref x_shown, .ref x_powers, .int (zI (x_shownCount)), .int (zI (x_status)), x_ways, x_weigher], wO f 1 [.ref f_xs, .ref f_ys, .ref f_row, .ref f_square, .int (zI (0))]] [(0, .ref x)] 8 [.int (zI (r_1))]
  refine z_ifne hC 19 dX8_worth_8 (by decide) (by omega) (fun c_3 => by exfalso; omega) (fun c_3 => ?_)
  refine z_aload_n hC 0 dX8_worth_11 rfl rfl ?_
  refine z_bipush hC dX8_worth_12 (by decide) ?_
  refine z_callV hC [.int (zI (8))] 1 0 dX8_worth_14 (c_X8_refused (zl C) (zD C) (zK C) x x_sheets x_plane f x_heights x_levels x_words x_shown x_powers 8 x_shownCount x_status x_ways x_weigher ) gX8_worth_X8_refused rfl rfl rfl ⟨by decide, by decide, by decide +kernel⟩ ⟨(Nat.le_of_ble_eq_true rfl), (Nat.le_of_ble_eq_true rfl)⟩ rfl rfl rfl rfl [0] [1] [wO f 1 [.ref f_xs, .ref f_ys, .ref f_row, .ref f_square, .int (zI (0))]] [] rfl rfl rfl rfl rfl (by decide) (Nat.le_of_ble_eq_true rfl) ⟨(Nat.le_of_ble_eq_true rfl), (Nat.le_of_ble_eq_true rfl)⟩ ?_
  rintro v_ w_ ⟨rfl, rfl, h_14_4⟩
  show ZW C 0 0 [wO f 1 [.ref f_xs, .ref f_ys, .ref f_row, .ref f_square, .int (zI (0))], wO x 8 [.ref x_sheets, .ref x_plane, .ref f, .ref x_heights, .ref x_levels, .ref x_words, .ref x_shown, .ref x_powers, .int (zI (x_shownCount)), .int (zI (8)), x_ways, x_weigher]] [(0, .ref x)] 17 [.int (zI (-1))]
  refine z_i2l hC dX8_worth_17 (by omega) ?_
  refine z_ws (ws' := []) [] rfl rfl ?_
  exact z_lret hC hR dX8_worth_18 (Nat.le_of_ble_eq_true rfl) (Nat.le_of_ble_eq_true rfl) ⟨-1, rfl, rfl, by omega⟩

set_option maxHeartbeats 4000000 in
set_option maxRecDepth 100000 in
theorem c_X3_keeps (l : Launch) (D : va_G) (K : ClassId × ClassId × ClassId × ClassId) (v v_terms v_now v_then v_link v_older v_spare v_parts v_rest v_product v_keptParts : Nat) (k v_degree v_keptDegree : Int) (hk : zR k) (hv_keptDegree : zR v_keptDegree) : zMet l D K yX3_keeps wsX3_keeps ({ frames := 0, cells := 0, slots := 0, locals := 0 }) 0 0 [.ref v, .int (zI (k))] [wO v 3 [.ref v_terms, .ref v_now, .ref v_then, .ref v_link, .ref v_older, .ref v_spare, .ref v_parts, .ref v_rest, .ref v_product, .ref v_keptParts, .int (zI (v_degree)), .int (zI (v_keptDegree))]] (fun vr_ wr_ => ∃ (r : Int), vr_ = some (.int (zI (r))) ∧ wr_ = [wO v 3 [.ref v_terms, .ref v_now, .ref v_then, .ref v_link, .ref v_older, .ref v_spare, .ref v_parts, .ref v_rest, .ref v_product, .ref v_keptParts, .int (zI (v_degree)), .int (zI (v_keptDegree))]] ∧ ((1 ≤ k ∧ k ≤ v_keptDegree ∧ k < 64 ∧ r = 1) ∨ (¬ (1 ≤ k ∧ k ≤ v_keptDegree ∧ k < 64) ∧ r = 0))) := by
  refine zMet_of (cc := cX3_keeps) (nL := 2) (ret := (some .boolean)) (by decide) rfl (Nat.le_of_ble_eq_true rfl) ?_
  rintro C rfl rfl rfl hC hR
  have hinX3 : ∀ w ∈ u_ws RX3 TX3 12, w ∈ wsX3_keeps := by decide +kernel
  show ZW C 0 0 [wO v 3 [.ref v_terms, .ref v_now, .ref v_then, .ref v_link, .ref v_older, .ref v_spare, .ref v_parts, .ref v_rest, .ref v_product, .ref v_keptParts, .int (zI (v_degree)), .int (zI (v_keptDegree))]] [(0, .ref v), (1, .int (zI (k)))] 0 []
  refine z_iload_n hC 1 dX3_keeps_0 rfl rfl ?_
  refine z_iconst hC dX3_keeps_1 ?_
  refine z_iclt hC 23 dX3_keeps_2 (by decide) (by omega) (fun c_1 => ?_) (fun c_1 => ?_)
  · skip
    refine z_iconst hC dX3_keeps_23 ?_
    exact z_zret hC hR dX3_keeps_24 (by omega) (Nat.le_of_ble_eq_true rfl) (Nat.le_of_ble_eq_true rfl) ⟨0, rfl, rfl, by omega⟩
  · skip
    refine z_iload_n hC 1 dX3_keeps_5 rfl rfl ?_
    refine z_aload_n hC 0 dX3_keeps_6 rfl rfl ?_
    refine z_get hC (T := TX3) (N := 12) hinX3 0 11 dX3_keeps_7 rfl rfl (by decide) (List.mem_of_getElem? (i := 1) rfl) rfl rfl ?_
    refine z_icgt hC 23 dX3_keeps_10 (by decide) (by omega) (fun c_2 => ?_) (fun c_2 => ?_)
    · skip
      refine z_iconst hC dX3_keeps_23 ?_
      exact z_zret hC hR dX3_keeps_24 (by omega) (Nat.le_of_ble_eq_true rfl) (Nat.le_of_ble_eq_true rfl) ⟨0, rfl, rfl, by omega⟩
    · skip
      refine z_iload_n hC 1 dX3_keeps_13 rfl rfl ?_
      refine z_bipush hC dX3_keeps_14 (by decide) ?_
      refine z_icge hC 23 dX3_keeps_16 (by decide) (by omega) (fun c_3 => ?_) (fun c_3 => ?_)
      · skip
        refine z_iconst hC dX3_keeps_23 ?_
        exact z_zret hC hR dX3_keeps_24 (by omega) (Nat.le_of_ble_eq_true rfl) (Nat.le_of_ble_eq_true rfl) ⟨0, rfl, rfl, by omega⟩
      · skip
        refine z_iconst hC dX3_keeps_19 ?_
        refine z_goto hC 24 dX3_keeps_20 (by decide) ?_
        exact z_zret hC hR dX3_keeps_24 (by omega) (Nat.le_of_ble_eq_true rfl) (Nat.le_of_ble_eq_true rfl) ⟨1, rfl, rfl, by omega⟩

set_option maxHeartbeats 4000000 in
set_option maxRecDepth 100000 in
theorem c_X8_part (l : Launch) (D : va_G) (K : ClassId × ClassId × ClassId × ClassId) (x x_sheets x_plane x_kin x_heights v x_words x_shown x_powers v_terms v_now v_then v_link v_older v_spare v_parts v_rest v_product v_keptParts : Nat) (k x_shownCount x_status v_degree : Int) (x_ways x_weigher : Value) (hk : zR k) : zMet l D K yX8_part wsX8_part ({ frames := 1, cells := 0, slots := 0, locals := 21 }) 0 0 [.ref x, .int (zI (k))] [wO x 8 [.ref x_sheets, .ref x_plane, .ref x_kin, .ref x_heights, .ref v, .ref x_words, .ref x_shown, .ref x_powers, .int (zI (x_shownCount)), .int (zI (x_status)), x_ways, x_weigher], wO v 3 [.ref v_terms, .ref v_now, .ref v_then, .ref v_link, .ref v_older, .ref v_spare, .ref v_parts, .ref v_rest, .ref v_product, .ref v_keptParts, .int (zI (v_degree)), .int (zI (0))]] (fun vr_ wr_ => ∃ (r : Int), vr_ = some (.int (zI (r))) ∧ wr_ = [] ∧ (r = -1)) := by
  refine zMet_of (cc := cX8_part) (nL := 2) (ret := (some .int)) (by decide) rfl (Nat.le_of_ble_eq_true rfl) ?_
  rintro C rfl rfl rfl hC hR
  have hinX8 : ∀ w ∈ u_ws RX8 TX8 12, w ∈ wsX8_part := by decide +kernel
  show ZW C 0 0 [wO x 8 [.ref x_sheets, .ref x_plane, .ref x_kin, .ref x_heights, .ref v, .ref x_words, .ref x_shown, .ref x_powers, .int (zI (x_shownCount)), .int (zI (x_status)), x_ways, x_weigher], wO v 3 [.ref v_terms, .ref v_now, .ref v_then, .ref v_link, .ref v_older, .ref v_spare, .ref v_parts, .ref v_rest, .ref v_product, .ref v_keptParts, .int (zI (v_degree)), .int (zI (0))]] [(0, .ref x), (1, .int (zI (k)))] 0 []
  refine z_aload_n hC 0 dX8_part_0 rfl rfl ?_
  refine z_get hC (T := TX8) (N := 12) hinX8 0 4 dX8_part_1 rfl rfl (by decide) (List.mem_of_getElem? (i := 1) rfl) rfl rfl ?_
  refine z_iload_n hC 1 dX8_part_4 rfl rfl ?_
  refine z_callV hC [.int (zI (k))] 1 0 dX8_part_5 (c_X3_keeps (zl C) (zD C) (zK C) v v_terms v_now v_then v_link v_older v_spare v_parts v_rest v_product v_keptParts k v_degree 0 (by first | assumption | omega) (by first | assumption | omega)) gX8_part_X3_keeps rfl rfl rfl ⟨by decide, by decide, by decide +kernel⟩ ⟨(Nat.le_of_ble_eq_true rfl), (Nat.le_of_ble_eq_true rfl)⟩ rfl rfl rfl rfl [1] [0] [wO x 8 [.ref x_sheets, .ref x_plane, .ref x_kin, .ref x_heights, .ref v, .ref x_words, .ref x_shown, .ref x_powers, .int (zI (x_shownCount)), .int (zI (x_status)), x_ways, x_weigher]] [] rfl rfl rfl rfl rfl (by decide) (Nat.le_of_ble_eq_true rfl) ⟨(Nat.le_of_ble_eq_true rfl), (Nat.le_of_ble_eq_true rfl)⟩ ?_
  rintro v_ w_ ⟨r_1, rfl, rfl, h_5_2⟩
  show ZW C 0 0 [wO x 8 [.ref x_sheets, .ref x_plane, .ref x_kin, .ref x_heights, .ref v, .ref x_words, .ref x_shown, .ref x_powers, .int (zI (x_shownCount)), .int (zI (x_status)), x_ways, x_weigher], wO v 3 [.ref v_terms, .ref v_now, .ref v_then, .ref v_link, .ref v_older, .ref v_spare, .ref v_parts, .ref v_rest, .ref v_product, .ref v_keptParts, .int (zI (v_degree)), .int (zI (0))]] [(0, .ref x), (1, .int (zI (k)))] 8 [.int (zI (r_1))]
  refine z_ifne hC 18 dX8_part_8 (by decide) (by omega) (fun c_3 => by exfalso; omega) (fun c_3 => ?_)
  refine z_aload_n hC 0 dX8_part_11 rfl rfl ?_
  refine z_bipush hC dX8_part_12 (by decide) ?_
  refine z_callV hC [.int (zI (8))] 1 0 dX8_part_14 (c_X8_refused (zl C) (zD C) (zK C) x x_sheets x_plane x_kin x_heights v x_words x_shown x_powers 8 x_shownCount x_status x_ways x_weigher ) gX8_part_X8_refused rfl rfl rfl ⟨by decide, by decide, by decide +kernel⟩ ⟨(Nat.le_of_ble_eq_true rfl), (Nat.le_of_ble_eq_true rfl)⟩ rfl rfl rfl rfl [0] [1] [wO v 3 [.ref v_terms, .ref v_now, .ref v_then, .ref v_link, .ref v_older, .ref v_spare, .ref v_parts, .ref v_rest, .ref v_product, .ref v_keptParts, .int (zI (v_degree)), .int (zI (0))]] [] rfl rfl rfl rfl rfl (by decide) (Nat.le_of_ble_eq_true rfl) ⟨(Nat.le_of_ble_eq_true rfl), (Nat.le_of_ble_eq_true rfl)⟩ ?_
  rintro v_ w_ ⟨rfl, rfl, h_14_4⟩
  show ZW C 0 0 [wO v 3 [.ref v_terms, .ref v_now, .ref v_then, .ref v_link, .ref v_older, .ref v_spare, .ref v_parts, .ref v_rest, .ref v_product, .ref v_keptParts, .int (zI (v_degree)), .int (zI (0))], wO x 8 [.ref x_sheets, .ref x_plane, .ref x_kin, .ref x_heights, .ref v, .ref x_words, .ref x_shown, .ref x_powers, .int (zI (x_shownCount)), .int (zI (8)), x_ways, x_weigher]] [(0, .ref x), (1, .int (zI (k)))] 17 [.int (zI (-1))]
  refine z_ws (ws' := []) [] rfl rfl ?_
  exact z_iret hC hR dX8_part_17 (Nat.le_of_ble_eq_true rfl) (Nat.le_of_ble_eq_true rfl) ⟨-1, rfl, rfl, by omega⟩

set_option maxHeartbeats 4000000 in
set_option maxRecDepth 100000 in
theorem c_X4_stepsFallDeep (l : Launch) (D : va_G) (K : ClassId × ClassId × ClassId × ClassId) (p p_dx p_dy p_weights p_leaps p_barred p_passable : Nat) (p_kind p_top p_round p_barredCount p_ax p_ay p_bx p_by : Int) (dy : Int → Int) (hdy : ∀ j, 0 ≤ j → j < 8 → -3 ≤ dy j ∧ dy j ≤ 3) : zMet l D K yX4_stepsFallDeep wsX4_stepsFallDeep ({ frames := 0, cells := 0, slots := 0, locals := 0 }) 0 0 [.ref p] [wO p 4 [.ref p_dx, .ref p_dy, .ref p_weights, .ref p_leaps, .int (zI (4)), .int (zI (p_kind)), .int (zI (p_top)), .int (zI (p_round)), .int (zI (p_barredCount)), .int (zI (p_ax)), .int (zI (p_ay)), .int (zI (p_bx)), .int (zI (p_by)), .ref p_barred, .ref p_passable], wI p_dy K.2.1 8 dy] (fun vr_ wr_ => ∃ (r : Int), vr_ = some (.int (zI (r))) ∧ wr_ = [wO p 4 [.ref p_dx, .ref p_dy, .ref p_weights, .ref p_leaps, .int (zI (4)), .int (zI (p_kind)), .int (zI (p_top)), .int (zI (p_round)), .int (zI (p_barredCount)), .int (zI (p_ax)), .int (zI (p_ay)), .int (zI (p_bx)), .int (zI (p_by)), .ref p_barred, .ref p_passable], wI p_dy K.2.1 8 dy] ∧ (r = 0 ∨ r = 1)) := by
  refine zMet_of (cc := cX4_stepsFallDeep) (nL := 2) (ret := (some .boolean)) (by decide) rfl (Nat.le_of_ble_eq_true rfl) ?_
  rintro C rfl rfl rfl hC hR
  have hinX4 : ∀ w ∈ u_ws RX4 TX4 15, w ∈ wsX4_stepsFallDeep := by decide +kernel
  show ZW C 0 0 [wO p 4 [.ref p_dx, .ref p_dy, .ref p_weights, .ref p_leaps, .int (zI (4)), .int (zI (p_kind)), .int (zI (p_top)), .int (zI (p_round)), .int (zI (p_barredCount)), .int (zI (p_ax)), .int (zI (p_ay)), .int (zI (p_bx)), .int (zI (p_by)), .ref p_barred, .ref p_passable], wI p_dy (zK C).2.1 8 dy] [(0, .ref p)] 0 []
  refine z_iconst hC dX4_stepsFallDeep_0 ?_
  refine z_istore_n hC [(1, .int (zI (0))), (0, .ref p)] dX4_stepsFallDeep_1 rfl (by decide) rfl ?_
  refine z_lv (lv' := [(0, .ref p), (1, .int (zI (0)))]) [1, 0] rfl ?_
  have lp2_1 : ∀ (f3 : Nat) (k : Int), (0 ≤ k ∧ k ≤ 4) → (4 - k).toNat < f3 → ZW C 0 0 [wO p 4 [.ref p_dx, .ref p_dy, .ref p_weights, .ref p_leaps, .int (zI (4)), .int (zI (p_kind)), .int (zI (p_top)), .int (zI (p_round)), .int (zI (p_barredCount)), .int (zI (p_ax)), .int (zI (p_ay)), .int (zI (p_bx)), .int (zI (p_by)), .ref p_barred, .ref p_passable], wI p_dy (zK C).2.1 8 dy] [(0, .ref p), (1, .int (zI (k)))] 2 [] := by
    intro f3
    induction f3 with
    | zero => intro _ _ hf; exact absurd hf (Nat.not_lt_zero _)
    | succ f3 ih2_2 =>
      intro k vk hf_2
      refine z_iload_n hC 1 dX4_stepsFallDeep_2 rfl rfl ?_
      refine z_aload_n hC 0 dX4_stepsFallDeep_3 rfl rfl ?_
      refine z_get hC (T := TX4) (N := 15) hinX4 0 4 dX4_stepsFallDeep_4 rfl rfl (by decide) (List.mem_of_getElem? (i := 1) rfl) rfl rfl ?_
      refine z_icge hC 34 dX4_stepsFallDeep_7 (by decide) (by omega) (fun c_4 => ?_) (fun c_4 => ?_)
      · skip
        refine z_iconst hC dX4_stepsFallDeep_34 ?_
        exact z_zret hC hR dX4_stepsFallDeep_35 (by omega) (Nat.le_of_ble_eq_true rfl) (Nat.le_of_ble_eq_true rfl) ⟨0, rfl, rfl, by omega⟩
      · skip
        refine z_iload_n hC 1 dX4_stepsFallDeep_10 rfl rfl ?_
        refine z_bipush hC dX4_stepsFallDeep_11 (by decide) ?_
        refine z_icge hC 34 dX4_stepsFallDeep_13 (by decide) (by omega) (fun c_5 => by exfalso; omega) (fun c_5 => ?_)
        refine z_aload_n hC 0 dX4_stepsFallDeep_16 rfl rfl ?_
        refine z_get hC (T := TX4) (N := 15) hinX4 0 1 dX4_stepsFallDeep_17 rfl rfl (by decide) (List.mem_of_getElem? (i := 2) rfl) rfl rfl ?_
        refine z_iload_n hC 1 dX4_stepsFallDeep_20 rfl rfl ?_
        refine z_iald hC 1 dX4_stepsFallDeep_21 rfl (by omega) ?_
        have l_6 := hdy k (by omega) (by omega)
        refine z_iconst hC dX4_stepsFallDeep_22 ?_
        refine z_icge hC 28 dX4_stepsFallDeep_23 (by decide) (by omega) (fun c_7 => ?_) (fun c_7 => ?_)
        · skip
          refine z_iinc (a := k) (v := 1) (r := k + 1) hC 1 [(1, .int (zI (k + 1))), (0, .ref p)] dX4_stepsFallDeep_28 rfl rfl (by decide) rfl ?_
          refine z_goto hC 2 dX4_stepsFallDeep_31 (by decide) ?_
          refine z_lv (lv' := [(0, .ref p), (1, .int (zI (k + 1)))]) [1, 0] rfl ?_
          exact ih2_2 (k + 1) (by omega) (by omega)
        · skip
          refine z_iconst hC dX4_stepsFallDeep_26 ?_
          exact z_zret hC hR dX4_stepsFallDeep_27 (by omega) (Nat.le_of_ble_eq_true rfl) (Nat.le_of_ble_eq_true rfl) ⟨1, rfl, rfl, by omega⟩
  exact lp2_1 _ 0 (by omega) (Nat.lt_succ_self _)

set_option maxHeartbeats 4000000 in
set_option maxRecDepth 100000 in
theorem c_X8_comingFault (l : Launch) (D : va_G) (K : ClassId × ClassId × ClassId × ClassId) (x x_sheets p x_kin x_heights x_levels x_words x_shown x_powers p_dx p_dy p_weights p_leaps p_barred p_passable : Nat) (n x_shownCount x_status p_kind p_top p_round p_barredCount p_ax p_bx p_by : Int) (dy : Int → Int) (x_ways x_weigher : Value) (hn : zR n) (hdy : ∀ j, 0 ≤ j → j < 8 → -3 ≤ dy j ∧ dy j ≤ 3) : zMet l D K yX8_comingFault wsX8_comingFault ({ frames := 1, cells := 0, slots := 0, locals := 22 }) 0 0 [.ref x, .int (zI (n))] [wO x 8 [.ref x_sheets, .ref p, .ref x_kin, .ref x_heights, .ref x_levels, .ref x_words, .ref x_shown, .ref x_powers, .int (zI (x_shownCount)), .int (zI (x_status)), x_ways, x_weigher], wO p 4 [.ref p_dx, .ref p_dy, .ref p_weights, .ref p_leaps, .int (zI (4)), .int (zI (p_kind)), .int (zI (p_top)), .int (zI (p_round)), .int (zI (p_barredCount)), .int (zI (p_ax)), .int (zI (0)), .int (zI (p_bx)), .int (zI (p_by)), .ref p_barred, .ref p_passable], wI p_dy K.2.1 8 dy] (fun vr_ wr_ => ∃ (r : Int), vr_ = some (.int (zI (r))) ∧ wr_ = [wO x 8 [.ref x_sheets, .ref p, .ref x_kin, .ref x_heights, .ref x_levels, .ref x_words, .ref x_shown, .ref x_powers, .int (zI (x_shownCount)), .int (zI (x_status)), x_ways, x_weigher], wO p 4 [.ref p_dx, .ref p_dy, .ref p_weights, .ref p_leaps, .int (zI (4)), .int (zI (p_kind)), .int (zI (p_top)), .int (zI (p_round)), .int (zI (p_barredCount)), .int (zI (p_ax)), .int (zI (0)), .int (zI (p_bx)), .int (zI (p_by)), .ref p_barred, .ref p_passable], wI p_dy K.2.1 8 dy] ∧ (r = 2 ∨ r = 5 ∨ r = 7)) := by
  refine zMet_of (cc := cX8_comingFault) (nL := 2) (ret := (some .int)) (by decide) rfl (Nat.le_of_ble_eq_true rfl) ?_
  rintro C rfl rfl rfl hC hR
  have hinX4 : ∀ w ∈ u_ws RX4 TX4 15, w ∈ wsX8_comingFault := by decide +kernel
  have hinX8 : ∀ w ∈ u_ws RX8 TX8 12, w ∈ wsX8_comingFault := by decide +kernel
  show ZW C 0 0 [wO x 8 [.ref x_sheets, .ref p, .ref x_kin, .ref x_heights, .ref x_levels, .ref x_words, .ref x_shown, .ref x_powers, .int (zI (x_shownCount)), .int (zI (x_status)), x_ways, x_weigher], wO p 4 [.ref p_dx, .ref p_dy, .ref p_weights, .ref p_leaps, .int (zI (4)), .int (zI (p_kind)), .int (zI (p_top)), .int (zI (p_round)), .int (zI (p_barredCount)), .int (zI (p_ax)), .int (zI (0)), .int (zI (p_bx)), .int (zI (p_by)), .ref p_barred, .ref p_passable], wI p_dy (zK C).2.1 8 dy] [(0, .ref x), (1, .int (zI (n)))] 0 []
  refine z_iload_n hC 1 dX8_comingFault_0 rfl rfl ?_
  refine z_iconst hC dX8_comingFault_1 ?_
  refine z_bipush hC dX8_comingFault_2 (by decide) ?_
  refine z_callS hC [.int (zI (n)), .int (zI (1)), .int (zI (60))] 3 dX8_comingFault_4 (c_X8_within (zl C) (zD C) (zK C) n 1 60 (by first | assumption | omega) (by first | assumption | omega) (by first | assumption | omega)) gX8_comingFault_X8_within rfl rfl rfl ⟨by decide, by decide, by decide +kernel⟩ ⟨(Nat.le_of_ble_eq_true rfl), (Nat.le_of_ble_eq_true rfl)⟩ rfl [] [0, 1, 2] [wO x 8 [.ref x_sheets, .ref p, .ref x_kin, .ref x_heights, .ref x_levels, .ref x_words, .ref x_shown, .ref x_powers, .int (zI (x_shownCount)), .int (zI (x_status)), x_ways, x_weigher], wO p 4 [.ref p_dx, .ref p_dy, .ref p_weights, .ref p_leaps, .int (zI (4)), .int (zI (p_kind)), .int (zI (p_top)), .int (zI (p_round)), .int (zI (p_barredCount)), .int (zI (p_ax)), .int (zI (0)), .int (zI (p_bx)), .int (zI (p_by)), .ref p_barred, .ref p_passable], wI p_dy (zK C).2.1 8 dy] [] rfl rfl rfl rfl rfl (by decide) (Nat.le_of_ble_eq_true rfl) ⟨(Nat.le_of_ble_eq_true rfl), (Nat.le_of_ble_eq_true rfl)⟩ ?_
  rintro v_ w_ ⟨r_1, rfl, rfl, h_4_2⟩
  show ZW C 0 0 [wO x 8 [.ref x_sheets, .ref p, .ref x_kin, .ref x_heights, .ref x_levels, .ref x_words, .ref x_shown, .ref x_powers, .int (zI (x_shownCount)), .int (zI (x_status)), x_ways, x_weigher], wO p 4 [.ref p_dx, .ref p_dy, .ref p_weights, .ref p_leaps, .int (zI (4)), .int (zI (p_kind)), .int (zI (p_top)), .int (zI (p_round)), .int (zI (p_barredCount)), .int (zI (p_ax)), .int (zI (0)), .int (zI (p_bx)), .int (zI (p_by)), .ref p_barred, .ref p_passable], wI p_dy (zK C).2.1 8 dy] [(0, .ref x), (1, .int (zI (n)))] 7 [.int (zI (r_1))]
  refine z_ifne hC 12 dX8_comingFault_7 (by decide) (by omega) (fun c_3 => ?_) (fun c_3 => ?_)
  · skip
    refine z_aload_n hC 0 dX8_comingFault_12 rfl rfl ?_
    refine z_get hC (T := TX8) (N := 12) hinX8 0 1 dX8_comingFault_13 rfl rfl (by decide) (List.mem_of_getElem? (i := 1) rfl) rfl rfl ?_
    refine z_callV hC [] 0 0 dX8_comingFault_16 (c_X4_stepsFallDeep (zl C) (zD C) (zK C) p p_dx p_dy p_weights p_leaps p_barred p_passable p_kind p_top p_round p_barredCount p_ax 0 p_bx p_by dy (by first | assumption | omega)) gX8_comingFault_X4_stepsFallDeep rfl rfl rfl ⟨by decide, by decide, by decide +kernel⟩ ⟨(Nat.le_of_ble_eq_true rfl), (Nat.le_of_ble_eq_true rfl)⟩ rfl rfl rfl rfl [1, 2] [0] [wO x 8 [.ref x_sheets, .ref p, .ref x_kin, .ref x_heights, .ref x_levels, .ref x_words, .ref x_shown, .ref x_powers, .int (zI (x_shownCount)), .int (zI (x_status)), x_ways, x_weigher]] [] rfl rfl rfl rfl rfl (by decide) (Nat.le_of_ble_eq_true rfl) ⟨(Nat.le_of_ble_eq_true rfl), (Nat.le_of_ble_eq_true rfl)⟩ ?_
    rintro v_ w_ ⟨r_4, rfl, rfl, h_16_5⟩
    show ZW C 0 0 [wO x 8 [.ref x_sheets, .ref p, .ref x_kin, .ref x_heights, .ref x_levels, .ref x_words, .ref x_shown, .ref x_powers, .int (zI (x_shownCount)), .int (zI (x_status)), x_ways, x_weigher], wO p 4 [.ref p_dx, .ref p_dy, .ref p_weights, .ref p_leaps, .int (zI (4)), .int (zI (p_kind)), .int (zI (p_top)), .int (zI (p_round)), .int (zI (p_barredCount)), .int (zI (p_ax)), .int (zI (0)), .int (zI (p_bx)), .int (zI (p_by)), .ref p_barred, .ref p_passable], wI p_dy (zK C).2.1 8 dy] [(0, .ref x), (1, .int (zI (n)))] 19 [.int (zI (r_4))]
    refine z_ifeq hC 24 dX8_comingFault_19 (by decide) (by omega) (fun c_6 => ?_) (fun c_6 => ?_)
    · skip
      refine z_aload_n hC 0 dX8_comingFault_24 rfl rfl ?_
      refine z_get hC (T := TX8) (N := 12) hinX8 0 1 dX8_comingFault_25 rfl rfl (by decide) (List.mem_of_getElem? (i := 1) rfl) rfl rfl ?_
      refine z_get hC (T := TX4) (N := 15) hinX4 1 10 dX8_comingFault_28 rfl rfl (by decide) (List.mem_of_getElem? (i := 2) rfl) rfl rfl ?_
      refine z_ifgt hC 39 dX8_comingFault_31 (by decide) (by omega) (fun c_7 => by exfalso; omega) (fun c_7 => ?_)
      refine z_bipush hC dX8_comingFault_34 (by decide) ?_
      refine z_goto hC 40 dX8_comingFault_36 (by decide) ?_
      exact z_iret hC hR dX8_comingFault_40 (Nat.le_of_ble_eq_true rfl) (Nat.le_of_ble_eq_true rfl) ⟨7, rfl, rfl, by omega⟩
    · skip
      refine z_iconst hC dX8_comingFault_22 ?_
      exact z_iret hC hR dX8_comingFault_23 (Nat.le_of_ble_eq_true rfl) (Nat.le_of_ble_eq_true rfl) ⟨5, rfl, rfl, by omega⟩
  · skip
    refine z_iconst hC dX8_comingFault_10 ?_
    exact z_iret hC hR dX8_comingFault_11 (Nat.le_of_ble_eq_true rfl) (Nat.le_of_ble_eq_true rfl) ⟨2, rfl, rfl, by omega⟩

set_option maxHeartbeats 4000000 in
set_option maxRecDepth 100000 in
theorem c_X8_first (l : Launch) (D : va_G) (K : ClassId × ClassId × ClassId × ClassId) (x x_sheets p x_kin x_heights x_levels x_words x_shown x_powers p_dx p_dy p_weights p_leaps p_barred p_passable : Nat) (n x_shownCount x_status p_kind p_top p_round p_barredCount p_ax p_bx p_by : Int) (dy : Int → Int) (x_ways x_weigher : Value) (hn : zR n) (hdy : ∀ j, 0 ≤ j → j < 8 → -3 ≤ dy j ∧ dy j ≤ 3) : zMet l D K yX8_first wsX8_first ({ frames := 2, cells := 0, slots := 0, locals := 43 }) 0 0 [.ref x, .int (zI (n))] [wO x 8 [.ref x_sheets, .ref p, .ref x_kin, .ref x_heights, .ref x_levels, .ref x_words, .ref x_shown, .ref x_powers, .int (zI (x_shownCount)), .int (zI (x_status)), x_ways, x_weigher], wO p 4 [.ref p_dx, .ref p_dy, .ref p_weights, .ref p_leaps, .int (zI (4)), .int (zI (p_kind)), .int (zI (p_top)), .int (zI (p_round)), .int (zI (p_barredCount)), .int (zI (p_ax)), .int (zI (0)), .int (zI (p_bx)), .int (zI (p_by)), .ref p_barred, .ref p_passable], wI p_dy K.2.1 8 dy] (fun vr_ wr_ => ∃ (r : Int), vr_ = some (.long (zL (r))) ∧ wr_ = [] ∧ (r = -1)) := by
  refine zMet_of (cc := cX8_first) (nL := 3) (ret := (some .long)) (by decide) rfl (Nat.le_of_ble_eq_true rfl) ?_
  rintro C rfl rfl rfl hC hR
  show ZW C 0 0 [wO x 8 [.ref x_sheets, .ref p, .ref x_kin, .ref x_heights, .ref x_levels, .ref x_words, .ref x_shown, .ref x_powers, .int (zI (x_shownCount)), .int (zI (x_status)), x_ways, x_weigher], wO p 4 [.ref p_dx, .ref p_dy, .ref p_weights, .ref p_leaps, .int (zI (4)), .int (zI (p_kind)), .int (zI (p_top)), .int (zI (p_round)), .int (zI (p_barredCount)), .int (zI (p_ax)), .int (zI (0)), .int (zI (p_bx)), .int (zI (p_by)), .ref p_barred, .ref p_passable], wI p_dy (zK C).2.1 8 dy] [(0, .ref x), (1, .int (zI (n)))] 0 []
  refine z_aload_n hC 0 dX8_first_0 rfl rfl ?_
  refine z_iload_n hC 1 dX8_first_1 rfl rfl ?_
  refine z_callV hC [.int (zI (n))] 1 0 dX8_first_2 (c_X8_comingFault (zl C) (zD C) (zK C) x x_sheets p x_kin x_heights x_levels x_words x_shown x_powers p_dx p_dy p_weights p_leaps p_barred p_passable n x_shownCount x_status p_kind p_top p_round p_barredCount p_ax p_bx p_by dy x_ways x_weigher (by first | assumption | omega) (by first | assumption | omega)) gX8_first_X8_comingFault rfl rfl rfl ⟨by decide, by decide, by decide +kernel⟩ ⟨(Nat.le_of_ble_eq_true rfl), (Nat.le_of_ble_eq_true rfl)⟩ rfl rfl rfl rfl [0, 1, 2] [] [] [] rfl rfl rfl rfl rfl (by decide) (Nat.le_of_ble_eq_true rfl) ⟨(Nat.le_of_ble_eq_true rfl), (Nat.le_of_ble_eq_true rfl)⟩ ?_
  rintro v_ w_ ⟨r_1, rfl, rfl, h_2_2⟩
  show ZW C 0 0 [wO x 8 [.ref x_sheets, .ref p, .ref x_kin, .ref x_heights, .ref x_levels, .ref x_words, .ref x_shown, .ref x_powers, .int (zI (x_shownCount)), .int (zI (x_status)), x_ways, x_weigher], wO p 4 [.ref p_dx, .ref p_dy, .ref p_weights, .ref p_leaps, .int (zI (4)), .int (zI (p_kind)), .int (zI (p_top)), .int (zI (p_round)), .int (zI (p_barredCount)), .int (zI (p_ax)), .int (zI (0)), .int (zI (p_bx)), .int (zI (p_by)), .ref p_barred, .ref p_passable], wI p_dy (zK C).2.1 8 dy] [(0, .ref x), (1, .int (zI (n)))] 5 [.int (zI (r_1))]
  refine z_istore_n hC [(2, .int (zI (r_1))), (0, .ref x), (1, .int (zI (n)))] dX8_first_5 rfl (by decide) rfl ?_
  refine z_iload_n hC 0 dX8_first_6 rfl rfl ?_
  refine z_ifeq hC 17 dX8_first_7 (by decide) (by omega) (fun c_3 => by exfalso; omega) (fun c_3 => ?_)
  refine z_aload_n hC 1 dX8_first_10 rfl rfl ?_
  refine z_iload_n hC 0 dX8_first_11 rfl rfl ?_
  refine z_callV hC [.int (zI (r_1))] 1 0 dX8_first_12 (c_X8_refused (zl C) (zD C) (zK C) x x_sheets p x_kin x_heights x_levels x_words x_shown x_powers r_1 x_shownCount x_status x_ways x_weigher ) gX8_first_X8_refused rfl rfl rfl ⟨by decide, by decide, by decide +kernel⟩ ⟨(Nat.le_of_ble_eq_true rfl), (Nat.le_of_ble_eq_true rfl)⟩ rfl rfl rfl rfl [0] [1, 2] [wO p 4 [.ref p_dx, .ref p_dy, .ref p_weights, .ref p_leaps, .int (zI (4)), .int (zI (p_kind)), .int (zI (p_top)), .int (zI (p_round)), .int (zI (p_barredCount)), .int (zI (p_ax)), .int (zI (0)), .int (zI (p_bx)), .int (zI (p_by)), .ref p_barred, .ref p_passable], wI p_dy (zK C).2.1 8 dy] [] rfl rfl rfl rfl rfl (by decide) (Nat.le_of_ble_eq_true rfl) ⟨(Nat.le_of_ble_eq_true rfl), (Nat.le_of_ble_eq_true rfl)⟩ ?_
  rintro v_ w_ ⟨rfl, rfl, h_12_4⟩
  show ZW C 0 0 [wO p 4 [.ref p_dx, .ref p_dy, .ref p_weights, .ref p_leaps, .int (zI (4)), .int (zI (p_kind)), .int (zI (p_top)), .int (zI (p_round)), .int (zI (p_barredCount)), .int (zI (p_ax)), .int (zI (0)), .int (zI (p_bx)), .int (zI (p_by)), .ref p_barred, .ref p_passable], wI p_dy (zK C).2.1 8 dy, wO x 8 [.ref x_sheets, .ref p, .ref x_kin, .ref x_heights, .ref x_levels, .ref x_words, .ref x_shown, .ref x_powers, .int (zI (x_shownCount)), .int (zI (r_1)), x_ways, x_weigher]] [(2, .int (zI (r_1))), (0, .ref x), (1, .int (zI (n)))] 15 [.int (zI (-1))]
  refine z_i2l hC dX8_first_15 (by omega) ?_
  refine z_ws (ws' := []) [] rfl rfl ?_
  exact z_lret hC hR dX8_first_16 (Nat.le_of_ble_eq_true rfl) (Nat.le_of_ble_eq_true rfl) ⟨-1, rfl, rfl, by omega⟩

set_option maxHeartbeats 4000000 in
set_option maxRecDepth 100000 in
theorem c_X8_turnings (l : Launch) (D : va_G) (K : ClassId × ClassId × ClassId × ClassId) (x x_sheets p x_kin x_heights x_levels x_words x_shown x_powers p_dx p_dy p_weights p_leaps p_barred p_passable : Nat) (n x_shownCount x_status p_kind p_top p_round p_barredCount p_ax p_bx p_by : Int) (dy : Int → Int) (x_ways x_weigher : Value) (hn : zR n) (hdy : ∀ j, 0 ≤ j → j < 8 → -3 ≤ dy j ∧ dy j ≤ 3) : zMet l D K yX8_turnings wsX8_turnings ({ frames := 2, cells := 0, slots := 0, locals := 43 }) 0 0 [.ref x, .int (zI (n))] [wO x 8 [.ref x_sheets, .ref p, .ref x_kin, .ref x_heights, .ref x_levels, .ref x_words, .ref x_shown, .ref x_powers, .int (zI (x_shownCount)), .int (zI (x_status)), x_ways, x_weigher], wO p 4 [.ref p_dx, .ref p_dy, .ref p_weights, .ref p_leaps, .int (zI (4)), .int (zI (p_kind)), .int (zI (p_top)), .int (zI (p_round)), .int (zI (p_barredCount)), .int (zI (p_ax)), .int (zI (0)), .int (zI (p_bx)), .int (zI (p_by)), .ref p_barred, .ref p_passable], wI p_dy K.2.1 8 dy] (fun vr_ wr_ => ∃ (r : Int), vr_ = some (.long (zL (r))) ∧ wr_ = [] ∧ (r = -1)) := by
  refine zMet_of (cc := cX8_turnings) (nL := 3) (ret := (some .long)) (by decide) rfl (Nat.le_of_ble_eq_true rfl) ?_
  rintro C rfl rfl rfl hC hR
  show ZW C 0 0 [wO x 8 [.ref x_sheets, .ref p, .ref x_kin, .ref x_heights, .ref x_levels, .ref x_words, .ref x_shown, .ref x_powers, .int (zI (x_shownCount)), .int (zI (x_status)), x_ways, x_weigher], wO p 4 [.ref p_dx, .ref p_dy, .ref p_weights, .ref p_leaps, .int (zI (4)), .int (zI (p_kind)), .int (zI (p_top)), .int (zI (p_round)), .int (zI (p_barredCount)), .int (zI (p_ax)), .int (zI (0)), .int (zI (p_bx)), .int (zI (p_by)), .ref p_barred, .ref p_passable], wI p_dy (zK C).2.1 8 dy] [(0, .ref x), (1, .int (zI (n)))] 0 []
  refine z_aload_n hC 0 dX8_turnings_0 rfl rfl ?_
  refine z_iload_n hC 1 dX8_turnings_1 rfl rfl ?_
  refine z_callV hC [.int (zI (n))] 1 0 dX8_turnings_2 (c_X8_comingFault (zl C) (zD C) (zK C) x x_sheets p x_kin x_heights x_levels x_words x_shown x_powers p_dx p_dy p_weights p_leaps p_barred p_passable n x_shownCount x_status p_kind p_top p_round p_barredCount p_ax p_bx p_by dy x_ways x_weigher (by first | assumption | omega) (by first | assumption | omega)) gX8_turnings_X8_comingFault rfl rfl rfl ⟨by decide, by decide, by decide +kernel⟩ ⟨(Nat.le_of_ble_eq_true rfl), (Nat.le_of_ble_eq_true rfl)⟩ rfl rfl rfl rfl [0, 1, 2] [] [] [] rfl rfl rfl rfl rfl (by decide) (Nat.le_of_ble_eq_true rfl) ⟨(Nat.le_of_ble_eq_true rfl), (Nat.le_of_ble_eq_true rfl)⟩ ?_
  rintro v_ w_ ⟨r_1, rfl, rfl, h_2_2⟩
  show ZW C 0 0 [wO x 8 [.ref x_sheets, .ref p, .ref x_kin, .ref x_heights, .ref x_levels, .ref x_words, .ref x_shown, .ref x_powers, .int (zI (x_shownCount)), .int (zI (x_status)), x_ways, x_weigher], wO p 4 [.ref p_dx, .ref p_dy, .ref p_weights, .ref p_leaps, .int (zI (4)), .int (zI (p_kind)), .int (zI (p_top)), .int (zI (p_round)), .int (zI (p_barredCount)), .int (zI (p_ax)), .int (zI (0)), .int (zI (p_bx)), .int (zI (p_by)), .ref p_barred, .ref p_passable], wI p_dy (zK C).2.1 8 dy] [(0, .ref x), (1, .int (zI (n)))] 5 [.int (zI (r_1))]
  refine z_istore_n hC [(2, .int (zI (r_1))), (0, .ref x), (1, .int (zI (n)))] dX8_turnings_5 rfl (by decide) rfl ?_
  refine z_iload_n hC 0 dX8_turnings_6 rfl rfl ?_
  refine z_ifeq hC 17 dX8_turnings_7 (by decide) (by omega) (fun c_3 => by exfalso; omega) (fun c_3 => ?_)
  refine z_aload_n hC 1 dX8_turnings_10 rfl rfl ?_
  refine z_iload_n hC 0 dX8_turnings_11 rfl rfl ?_
  refine z_callV hC [.int (zI (r_1))] 1 0 dX8_turnings_12 (c_X8_refused (zl C) (zD C) (zK C) x x_sheets p x_kin x_heights x_levels x_words x_shown x_powers r_1 x_shownCount x_status x_ways x_weigher ) gX8_turnings_X8_refused rfl rfl rfl ⟨by decide, by decide, by decide +kernel⟩ ⟨(Nat.le_of_ble_eq_true rfl), (Nat.le_of_ble_eq_true rfl)⟩ rfl rfl rfl rfl [0] [1, 2] [wO p 4 [.ref p_dx, .ref p_dy, .ref p_weights, .ref p_leaps, .int (zI (4)), .int (zI (p_kind)), .int (zI (p_top)), .int (zI (p_round)), .int (zI (p_barredCount)), .int (zI (p_ax)), .int (zI (0)), .int (zI (p_bx)), .int (zI (p_by)), .ref p_barred, .ref p_passable], wI p_dy (zK C).2.1 8 dy] [] rfl rfl rfl rfl rfl (by decide) (Nat.le_of_ble_eq_true rfl) ⟨(Nat.le_of_ble_eq_true rfl), (Nat.le_of_ble_eq_true rfl)⟩ ?_
  rintro v_ w_ ⟨rfl, rfl, h_12_4⟩
  show ZW C 0 0 [wO p 4 [.ref p_dx, .ref p_dy, .ref p_weights, .ref p_leaps, .int (zI (4)), .int (zI (p_kind)), .int (zI (p_top)), .int (zI (p_round)), .int (zI (p_barredCount)), .int (zI (p_ax)), .int (zI (0)), .int (zI (p_bx)), .int (zI (p_by)), .ref p_barred, .ref p_passable], wI p_dy (zK C).2.1 8 dy, wO x 8 [.ref x_sheets, .ref p, .ref x_kin, .ref x_heights, .ref x_levels, .ref x_words, .ref x_shown, .ref x_powers, .int (zI (x_shownCount)), .int (zI (r_1)), x_ways, x_weigher]] [(2, .int (zI (r_1))), (0, .ref x), (1, .int (zI (n)))] 15 [.int (zI (-1))]
  refine z_i2l hC dX8_turnings_15 (by omega) ?_
  refine z_ws (ws' := []) [] rfl rfl ?_
  exact z_lret hC hR dX8_turnings_16 (Nat.le_of_ble_eq_true rfl) (Nat.le_of_ble_eq_true rfl) ⟨-1, rfl, rfl, by omega⟩
