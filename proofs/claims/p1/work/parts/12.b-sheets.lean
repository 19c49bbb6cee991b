set_option maxHeartbeats 4000000 in
set_option maxRecDepth 100000 in
theorem c_X5_missing (l : Launch) (D : va_G) (K : ClassId × ClassId × ClassId × ClassId) (sh sh_numbers sh_sorts sh_lengths : Nat) (sheet : Int) (len : Int → Int) (hsheet : zR sheet) (hlen : ∀ j, 0 ≤ j → j < 4 → len j = -1) : zMet l D K yX5_missing wsX5_missing ({ frames := 1, cells := 0, slots := 0, locals := 20 }) 0 0 [.ref sh, .int (zI (sheet))] [wO sh 5 [.ref sh_numbers, .ref sh_sorts, .ref sh_lengths], wI sh_lengths K.2.1 4 len] (fun vr_ wr_ => ∃ (r : Int), vr_ = some (.int (zI (r))) ∧ wr_ = [wO sh 5 [.ref sh_numbers, .ref sh_sorts, .ref sh_lengths], wI sh_lengths K.2.1 4 len] ∧ (r = 1)) := by
  refine zMet_of (cc := cX5_missing) (nL := 2) (ret := (some .boolean)) (by decide) rfl (Nat.le_of_ble_eq_true rfl) ?_
  rintro C rfl rfl rfl hC hR
  have hinX5 : ∀ w ∈ u_ws RX5 TX5 3, w ∈ wsX5_missing := by decide +kernel
  show ZW C 0 0 [wO sh 5 [.ref sh_numbers, .ref sh_sorts, .ref sh_lengths], wI sh_lengths (zK C).2.1 4 len] [(0, .ref sh), (1, .int (zI (sheet)))] 0 []
  refine z_iload_n hC 1 dX5_missing_0 rfl rfl ?_
  refine z_callS hC [.int (zI (sheet))] 1 dX5_missing_1 (c_X5_known (zl C) (zD C) (zK C) sheet (by first | assumption | omega)) gX5_missing_X5_known rfl rfl rfl ⟨by decide, by decide, by decide +kernel⟩ ⟨(Nat.le_of_ble_eq_true rfl), (Nat.le_of_ble_eq_true rfl)⟩ rfl [] [0, 1] [wO sh 5 [.ref sh_numbers, .ref sh_sorts, .ref sh_lengths], wI sh_lengths (zK C).2.1 4 len] [] rfl rfl rfl rfl rfl (by decide) (Nat.le_of_ble_eq_true rfl) ⟨(Nat.le_of_ble_eq_true rfl), (Nat.le_of_ble_eq_true rfl)⟩ ?_
  rintro v_ w_ ⟨r_1, rfl, rfl, h_1_2⟩
  show ZW C 0 0 [wO sh 5 [.ref sh_numbers, .ref sh_sorts, .ref sh_lengths], wI sh_lengths (zK C).2.1 4 len] [(0, .ref sh), (1, .int (zI (sheet)))] 4 [.int (zI (r_1))]
  refine z_ifeq hC 16 dX5_missing_4 (by decide) (by omega) (fun c_3 => ?_) (fun c_3 => ?_)
  · skip
    refine z_iconst hC dX5_missing_16 ?_
    refine z_goto hC 21 dX5_missing_17 (by decide) ?_
    exact z_zret hC hR dX5_missing_21 (by omega) (Nat.le_of_ble_eq_true rfl) (Nat.le_of_ble_eq_true rfl) ⟨1, rfl, rfl, by omega⟩
  · skip
    refine z_aload_n hC 0 dX5_missing_7 rfl rfl ?_
    refine z_get hC (T := TX5) (N := 3) hinX5 0 2 dX5_missing_8 rfl rfl (by decide) (List.mem_of_getElem? (i := 1) rfl) rfl rfl ?_
    refine z_iload_n hC 1 dX5_missing_11 rfl rfl ?_
    refine z_iald hC 1 dX5_missing_12 rfl (by omega) ?_
    have l_4 := hlen sheet (by omega) (by omega)
    refine z_ifge hC 20 dX5_missing_13 (by decide) (by omega) (fun c_5 => by exfalso; omega) (fun c_5 => ?_)
    refine z_iconst hC dX5_missing_16 ?_
    refine z_goto hC 21 dX5_missing_17 (by decide) ?_
    exact z_zret hC hR dX5_missing_21 (by omega) (Nat.le_of_ble_eq_true rfl) (Nat.le_of_ble_eq_true rfl) ⟨1, rfl, rfl, by omega⟩

set_option maxHeartbeats 4000000 in
set_option maxRecDepth 100000 in
theorem c_X5_lay (l : Launch) (D : va_G) (K : ClassId × ClassId × ClassId × ClassId) (sh sh_numbers sh_sorts sh_lengths : Nat) (sheet sort many : Int) (nu so len : Int → Int) (hs : 0 ≤ sheet ∧ sheet < 4) (hsort : zR sort) (hmany : zR many) : zMet l D K yX5_lay wsX5_lay ({ frames := 1, cells := 0, slots := 0, locals := 20 }) 0 0 [.ref sh, .int (zI (sheet)), .int (zI (sort)), .int (zI (many))] [wO sh 5 [.ref sh_numbers, .ref sh_sorts, .ref sh_lengths], wI sh_numbers K.2.1 256 nu, wI sh_sorts K.2.1 4 so, wI sh_lengths K.2.1 4 len] (fun vr_ wr_ => vr_ = none ∧ wr_ = [] ∧ (True)) := by
  refine zMet_of (cc := cX5_lay) (nL := 5) (ret := none) (by decide) rfl (Nat.le_of_ble_eq_true rfl) ?_
  rintro C rfl rfl rfl hC hR
  have hinX5 : ∀ w ∈ u_ws RX5 TX5 3, w ∈ wsX5_lay := by decide +kernel
  show ZW C 0 0 [wO sh 5 [.ref sh_numbers, .ref sh_sorts, .ref sh_lengths], wI sh_numbers (zK C).2.1 256 nu, wI sh_sorts (zK C).2.1 4 so, wI sh_lengths (zK C).2.1 4 len] [(0, .ref sh), (1, .int (zI (sheet))), (2, .int (zI (sort))), (3, .int (zI (many)))] 0 []
  refine z_iload_n hC 1 dX5_lay_0 rfl rfl ?_
  refine z_callS hC [.int (zI (sheet))] 1 dX5_lay_1 (c_X5_known (zl C) (zD C) (zK C) sheet (by first | assumption | omega)) gX5_lay_X5_known rfl rfl rfl ⟨by decide, by decide, by decide +kernel⟩ ⟨(Nat.le_of_ble_eq_true rfl), (Nat.le_of_ble_eq_true rfl)⟩ rfl [] [0, 1, 2, 3] [wO sh 5 [.ref sh_numbers, .ref sh_sorts, .ref sh_lengths], wI sh_numbers (zK C).2.1 256 nu, wI sh_sorts (zK C).2.1 4 so, wI sh_lengths (zK C).2.1 4 len] [] rfl rfl rfl rfl rfl (by decide) (Nat.le_of_ble_eq_true rfl) ⟨(Nat.le_of_ble_eq_true rfl), (Nat.le_of_ble_eq_true rfl)⟩ ?_
  rintro v_ w_ ⟨r_1, rfl, rfl, h_1_2⟩
  show ZW C 0 0 [wO sh 5 [.ref sh_numbers, .ref sh_sorts, .ref sh_lengths], wI sh_numbers (zK C).2.1 256 nu, wI sh_sorts (zK C).2.1 4 so, wI sh_lengths (zK C).2.1 4 len] [(0, .ref sh), (1, .int (zI (sheet))), (2, .int (zI (sort))), (3, .int (zI (many)))] 4 [.int (zI (r_1))]
  refine z_ifne hC 8 dX5_lay_4 (by decide) (by omega) (fun c_3 => ?_) (fun c_3 => by exfalso; omega)
  refine z_aload_n hC 0 dX5_lay_8 rfl rfl ?_
  refine z_get hC (T := TX5) (N := 3) hinX5 0 1 dX5_lay_9 rfl rfl (by decide) (List.mem_of_getElem? (i := 1) rfl) rfl rfl ?_
  refine z_iload_n hC 1 dX5_lay_12 rfl rfl ?_
  refine z_iload_n hC 2 dX5_lay_13 rfl rfl ?_
  refine z_iast hC 2 [wO sh 5 [.ref sh_numbers, .ref sh_sorts, .ref sh_lengths], wI sh_numbers (zK C).2.1 256 nu, wI sh_sorts (zK C).2.1 4 (zu so sheet sort), wI sh_lengths (zK C).2.1 4 len] dX5_lay_14 rfl (by omega) rfl ?_
  refine z_aload_n hC 0 dX5_lay_15 rfl rfl ?_
  refine z_get hC (T := TX5) (N := 3) hinX5 0 2 dX5_lay_16 rfl rfl (by decide) (List.mem_of_getElem? (i := 2) rfl) rfl rfl ?_
  refine z_iload_n hC 1 dX5_lay_19 rfl rfl ?_
  refine z_iload_n hC 3 dX5_lay_20 rfl rfl ?_
  refine z_iast hC 3 [wO sh 5 [.ref sh_numbers, .ref sh_sorts, .ref sh_lengths], wI sh_numbers (zK C).2.1 256 nu, wI sh_sorts (zK C).2.1 4 (zu so sheet sort), wI sh_lengths (zK C).2.1 4 (zu len sheet many)] dX5_lay_21 rfl (by omega) rfl ?_
  refine z_iconst hC dX5_lay_22 ?_
  refine z_istore hC [(4, .int (zI (0))), (0, .ref sh), (1, .int (zI (sheet))), (2, .int (zI (sort))), (3, .int (zI (many)))] dX5_lay_23 (by decide) rfl ?_
  refine z_lv (lv' := [(0, .ref sh), (1, .int (zI (sheet))), (2, .int (zI (sort))), (3, .int (zI (many))), (4, .int (zI (0)))]) [1, 2, 3, 4, 0] rfl ?_
  have lp25_4 : ∀ (f6 : Nat) (i : Int) (g : Int → Int), (0 ≤ i ∧ i ≤ 64) → (64 - i).toNat < f6 → ZW C 0 0 [wO sh 5 [.ref sh_numbers, .ref sh_sorts, .ref sh_lengths], wI sh_numbers (zK C).2.1 256 g, wI sh_sorts (zK C).2.1 4 (zu so sheet sort), wI sh_lengths (zK C).2.1 4 (zu len sheet many)] [(0, .ref sh), (1, .int (zI (sheet))), (2, .int (zI (sort))), (3, .int (zI (many))), (4, .int (zI (i)))] 25 [] := by
    intro f6
    induction f6 with
    | zero => intro _ _ _ hf; exact absurd hf (Nat.not_lt_zero _)
    | succ f6 ih25_5 =>
      intro i g vi hf_25
      refine z_iload hC 4 dX5_lay_25 rfl ?_
      refine z_bipush hC dX5_lay_27 (by decide) ?_
      refine z_icge hC 51 dX5_lay_29 (by decide) (by omega) (fun c_7 => ?_) (fun c_7 => ?_)
      · skip
        refine z_ws (ws' := []) [] rfl rfl ?_
        exact z_vret hC hR dX5_lay_51 (Nat.le_of_ble_eq_true rfl) (Nat.le_of_ble_eq_true rfl) ⟨rfl, rfl, by trivial⟩
      · skip
        refine z_aload_n hC 0 dX5_lay_32 rfl rfl ?_
        refine z_get hC (T := TX5) (N := 3) hinX5 0 0 dX5_lay_33 rfl rfl (by decide) (List.mem_of_getElem? (i := 3) rfl) rfl rfl ?_
        refine z_iload_n hC 1 dX5_lay_36 rfl rfl ?_
        refine z_bipush hC dX5_lay_37 (by decide) ?_
        refine z_imul hC (sheet * 64) dX5_lay_39 rfl ?_
        refine z_iload hC 4 dX5_lay_40 rfl ?_
        refine z_iadd hC ((sheet * 64) + i) dX5_lay_42 rfl ?_
        refine z_iconst hC dX5_lay_43 ?_
        refine z_iast hC 1 [wO sh 5 [.ref sh_numbers, .ref sh_sorts, .ref sh_lengths], wI sh_numbers (zK C).2.1 256 (zu g ((sheet * 64) + i) 0), wI sh_sorts (zK C).2.1 4 (zu so sheet sort), wI sh_lengths (zK C).2.1 4 (zu len sheet many)] dX5_lay_44 rfl (by omega) rfl ?_
        refine z_iinc (a := i) (v := 1) (r := i + 1) hC 4 [(4, .int (zI (i + 1))), (0, .ref sh), (1, .int (zI (sheet))), (2, .int (zI (sort))), (3, .int (zI (many)))] dX5_lay_45 rfl rfl (by decide) rfl ?_
        refine z_goto hC 25 dX5_lay_48 (by decide) ?_
        refine z_lv (lv' := [(0, .ref sh), (1, .int (zI (sheet))), (2, .int (zI (sort))), (3, .int (zI (many))), (4, .int (zI (i + 1)))]) [1, 2, 3, 4, 0] rfl ?_
        exact ih25_5 (i + 1) (zu g ((sheet * 64) + i) 0) (by omega) (by omega)
  exact lp25_4 _ 0 nu (by omega) (Nat.lt_succ_self _)

set_option maxHeartbeats 4000000 in
set_option maxRecDepth 100000 in
theorem c_X8_sheetFault (l : Launch) (D : va_G) (K : ClassId × ClassId × ClassId × ClassId) (x sh x_plane x_kin x_heights x_levels x_words x_shown x_powers sh_numbers sh_sorts sh_lengths : Nat) (sheet x_shownCount x_status : Int) (len : Int → Int) (x_ways x_weigher : Value) (hsheet : zR sheet) (hlen : ∀ j, 0 ≤ j → j < 4 → len j = -1) : zMet l D K yX8_sheetFault wsX8_sheetFault ({ frames := 2, cells := 0, slots := 0, locals := 41 }) 0 0 [.ref x, .int (zI (sheet))] [wO x 8 [.ref sh, .ref x_plane, .ref x_kin, .ref x_heights, .ref x_levels, .ref x_words, .ref x_shown, .ref x_powers, .int (zI (x_shownCount)), .int (zI (x_status)), x_ways, x_weigher], wO sh 5 [.ref sh_numbers, .ref sh_sorts, .ref sh_lengths], wI sh_lengths K.2.1 4 len] (fun vr_ wr_ => ∃ (r : Int), vr_ = some (.int (zI (r))) ∧ wr_ = [wO x 8 [.ref sh, .ref x_plane, .ref x_kin, .ref x_heights, .ref x_levels, .ref x_words, .ref x_shown, .ref x_powers, .int (zI (x_shownCount)), .int (zI (x_status)), x_ways, x_weigher], wO sh 5 [.ref sh_numbers, .ref sh_sorts, .ref sh_lengths], wI sh_lengths K.2.1 4 len] ∧ (r = 1 ∨ r = 3)) := by
  refine zMet_of (cc := cX8_sheetFault) (nL := 2) (ret := (some .int)) (by decide) rfl (Nat.le_of_ble_eq_true rfl) ?_
  rintro C rfl rfl rfl hC hR
  have hinX8 : ∀ w ∈ u_ws RX8 TX8 12, w ∈ wsX8_sheetFault := by decide +kernel
  show ZW C 0 0 [wO x 8 [.ref sh, .ref x_plane, .ref x_kin, .ref x_heights, .ref x_levels, .ref x_words, .ref x_shown, .ref x_powers, .int (zI (x_shownCount)), .int (zI (x_status)), x_ways, x_weigher], wO sh 5 [.ref sh_numbers, .ref sh_sorts, .ref sh_lengths], wI sh_lengths (zK C).2.1 4 len] [(0, .ref x), (1, .int (zI (sheet)))] 0 []
  refine z_iload_n hC 1 dX8_sheetFault_0 rfl rfl ?_
  refine z_callS hC [.int (zI (sheet))] 1 dX8_sheetFault_1 (c_X5_known (zl C) (zD C) (zK C) sheet (by first | assumption | omega)) gX8_sheetFault_X5_known rfl rfl rfl ⟨by decide, by decide, by decide +kernel⟩ ⟨(Nat.le_of_ble_eq_true rfl), (Nat.le_of_ble_eq_true rfl)⟩ rfl [] [0, 1, 2] [wO x 8 [.ref sh, .ref x_plane, .ref x_kin, .ref x_heights, .ref x_levels, .ref x_words, .ref x_shown, .ref x_powers, .int (zI (x_shownCount)), .int (zI (x_status)), x_ways, x_weigher], wO sh 5 [.ref sh_numbers, .ref sh_sorts, .ref sh_lengths], wI sh_lengths (zK C).2.1 4 len] [] rfl rfl rfl rfl rfl (by decide) (Nat.le_of_ble_eq_true rfl) ⟨(Nat.le_of_ble_eq_true rfl), (Nat.le_of_ble_eq_true rfl)⟩ ?_
  rintro v_ w_ ⟨r_1, rfl, rfl, h_1_2⟩
  show ZW C 0 0 [wO x 8 [.ref sh, .ref x_plane, .ref x_kin, .ref x_heights, .ref x_levels, .ref x_words, .ref x_shown, .ref x_powers, .int (zI (x_shownCount)), .int (zI (x_status)), x_ways, x_weigher], wO sh 5 [.ref sh_numbers, .ref sh_sorts, .ref sh_lengths], wI sh_lengths (zK C).2.1 4 len] [(0, .ref x), (1, .int (zI (sheet)))] 4 [.int (zI (r_1))]
  refine z_ifne hC 9 dX8_sheetFault_4 (by decide) (by omega) (fun c_3 => ?_) (fun c_3 => ?_)
  · skip
    refine z_aload_n hC 0 dX8_sheetFault_9 rfl rfl ?_
    refine z_get hC (T := TX8) (N := 12) hinX8 0 0 dX8_sheetFault_10 rfl rfl (by decide) (List.mem_of_getElem? (i := 1) rfl) rfl rfl ?_
    refine z_iload_n hC 1 dX8_sheetFault_13 rfl rfl ?_
    refine z_callV hC [.int (zI (sheet))] 1 0 dX8_sheetFault_14 (c_X5_missing (zl C) (zD C) (zK C) sh sh_numbers sh_sorts sh_lengths sheet len (by first | assumption | omega) (by first | assumption | omega)) gX8_sheetFault_X5_missing rfl rfl rfl ⟨by decide, by decide, by decide +kernel⟩ ⟨(Nat.le_of_ble_eq_true rfl), (Nat.le_of_ble_eq_true rfl)⟩ rfl rfl rfl rfl [1, 2] [0] [wO x 8 [.ref sh, .ref x_plane, .ref x_kin, .ref x_heights, .ref x_levels, .ref x_words, .ref x_shown, .ref x_powers, .int (zI (x_shownCount)), .int (zI (x_status)), x_ways, x_weigher]] [] rfl rfl rfl rfl rfl (by decide) (Nat.le_of_ble_eq_true rfl) ⟨(Nat.le_of_ble_eq_true rfl), (Nat.le_of_ble_eq_true rfl)⟩ ?_
    rintro v_ w_ ⟨r_4, rfl, rfl, h_14_5⟩
    show ZW C 0 0 [wO x 8 [.ref sh, .ref x_plane, .ref x_kin, .ref x_heights, .ref x_levels, .ref x_words, .ref x_shown, .ref x_powers, .int (zI (x_shownCount)), .int (zI (x_status)), x_ways, x_weigher], wO sh 5 [.ref sh_numbers, .ref sh_sorts, .ref sh_lengths], wI sh_lengths (zK C).2.1 4 len] [(0, .ref x), (1, .int (zI (sheet)))] 17 [.int (zI (r_4))]
    refine z_ifeq hC 24 dX8_sheetFault_17 (by decide) (by omega) (fun c_6 => by exfalso; omega) (fun c_6 => ?_)
    refine z_iconst hC dX8_sheetFault_20 ?_
    refine z_goto hC 25 dX8_sheetFault_21 (by decide) ?_
    exact z_iret hC hR dX8_sheetFault_25 (Nat.le_of_ble_eq_true rfl) (Nat.le_of_ble_eq_true rfl) ⟨3, rfl, rfl, by omega⟩
  · skip
    refine z_iconst hC dX8_sheetFault_7 ?_
    exact z_iret hC hR dX8_sheetFault_8 (Nat.le_of_ble_eq_true rfl) (Nat.le_of_ble_eq_true rfl) ⟨1, rfl, rfl, by omega⟩

set_option maxHeartbeats 4000000 in
set_option maxRecDepth 100000 in
theorem c_X8_placeFault (l : Launch) (D : va_G) (K : ClassId × ClassId × ClassId × ClassId) (x sh x_plane x_kin x_heights x_levels x_words x_shown x_powers sh_numbers sh_sorts sh_lengths : Nat) (sheet place x_shownCount x_status : Int) (len : Int → Int) (x_ways x_weigher : Value) (hsheet : zR sheet) (hplace : zR place) (hlen : ∀ j, 0 ≤ j → j < 4 → len j = -1) : zMet l D K yX8_placeFault wsX8_placeFault ({ frames := 3, cells := 0, slots := 0, locals := 62 }) 0 0 [.ref x, .int (zI (sheet)), .int (zI (place))] [wO x 8 [.ref sh, .ref x_plane, .ref x_kin, .ref x_heights, .ref x_levels, .ref x_words, .ref x_shown, .ref x_powers, .int (zI (x_shownCount)), .int (zI (x_status)), x_ways, x_weigher], wO sh 5 [.ref sh_numbers, .ref sh_sorts, .ref sh_lengths], wI sh_lengths K.2.1 4 len] (fun vr_ wr_ => ∃ (r : Int), vr_ = some (.int (zI (r))) ∧ wr_ = [wO x 8 [.ref sh, .ref x_plane, .ref x_kin, .ref x_heights, .ref x_levels, .ref x_words, .ref x_shown, .ref x_powers, .int (zI (x_shownCount)), .int (zI (x_status)), x_ways, x_weigher], wO sh 5 [.ref sh_numbers, .ref sh_sorts, .ref sh_lengths], wI sh_lengths K.2.1 4 len] ∧ (r = 1 ∨ r = 3)) := by
  refine zMet_of (cc := cX8_placeFault) (nL := 4) (ret := (some .int)) (by decide) rfl (Nat.le_of_ble_eq_true rfl) ?_
  rintro C rfl rfl rfl hC hR
  show ZW C 0 0 [wO x 8 [.ref sh, .ref x_plane, .ref x_kin, .ref x_heights, .ref x_levels, .ref x_words, .ref x_shown, .ref x_powers, .int (zI (x_shownCount)), .int (zI (x_status)), x_ways, x_weigher], wO sh 5 [.ref sh_numbers, .ref sh_sorts, .ref sh_lengths], wI sh_lengths (zK C).2.1 4 len] [(0, .ref x), (1, .int (zI (sheet))), (2, .int (zI (place)))] 0 []
  refine z_aload_n hC 0 dX8_placeFault_0 rfl rfl ?_
  refine z_iload_n hC 1 dX8_placeFault_1 rfl rfl ?_
  refine z_callV hC [.int (zI (sheet))] 1 0 dX8_placeFault_2 (c_X8_sheetFault (zl C) (zD C) (zK C) x sh x_plane x_kin x_heights x_levels x_words x_shown x_powers sh_numbers sh_sorts sh_lengths sheet x_shownCount x_status len x_ways x_weigher (by first | assumption | omega) (by first | assumption | omega)) gX8_placeFault_X8_sheetFault rfl rfl rfl ⟨by decide, by decide, by decide +kernel⟩ ⟨(Nat.le_of_ble_eq_true rfl), (Nat.le_of_ble_eq_true rfl)⟩ rfl rfl rfl rfl [0, 1, 2] [] [] [] rfl rfl rfl rfl rfl (by decide) (Nat.le_of_ble_eq_true rfl) ⟨(Nat.le_of_ble_eq_true rfl), (Nat.le_of_ble_eq_true rfl)⟩ ?_
  rintro v_ w_ ⟨r_1, rfl, rfl, h_2_2⟩
  show ZW C 0 0 [wO x 8 [.ref sh, .ref x_plane, .ref x_kin, .ref x_heights, .ref x_levels, .ref x_words, .ref x_shown, .ref x_powers, .int (zI (x_shownCount)), .int (zI (x_status)), x_ways, x_weigher], wO sh 5 [.ref sh_numbers, .ref sh_sorts, .ref sh_lengths], wI sh_lengths (zK C).2.1 4 len] [(0, .ref x), (1, .int (zI (sheet))), (2, .int (zI (place)))] 5 [.int (zI (r_1))]
  refine z_istore_n hC [(3, .int (zI (r_1))), (0, .ref x), (1, .int (zI (sheet))), (2, .int (zI (place)))] dX8_placeFault_5 rfl (by decide) rfl ?_
  refine z_iload_n hC 0 dX8_placeFault_6 rfl rfl ?_
  refine z_ifeq hC 12 dX8_placeFault_7 (by decide) (by omega) (fun c_3 => by exfalso; omega) (fun c_3 => ?_)
  refine z_iload_n hC 0 dX8_placeFault_10 rfl rfl ?_
  exact z_iret hC hR dX8_placeFault_11 (Nat.le_of_ble_eq_true rfl) (Nat.le_of_ble_eq_true rfl) ⟨r_1, rfl, rfl, by omega⟩

set_option maxHeartbeats 4000000 in
set_option maxRecDepth 100000 in
theorem c_X8_rowFault (l : Launch) (D : va_G) (K : ClassId × ClassId × ClassId × ClassId) (x sh x_plane x_kin x_heights x_levels x_words x_shown x_powers sh_numbers sh_sorts sh_lengths : Nat) (sheet many most x_shownCount x_status : Int) (len : Int → Int) (x_ways x_weigher : Value) (hsheet : zR sheet) (hmany : zR many) (hmost : zR most) (hlen : ∀ j, 0 ≤ j → j < 4 → len j = -1) : zMet l D K yX8_rowFault wsX8_rowFault ({ frames := 2, cells := 0, slots := 0, locals := 41 }) 0 0 [.ref x, .int (zI (sheet)), .int (zI (many)), .int (zI (most))] [wO x 8 [.ref sh, .ref x_plane, .ref x_kin, .ref x_heights, .ref x_levels, .ref x_words, .ref x_shown, .ref x_powers, .int (zI (x_shownCount)), .int (zI (x_status)), x_ways, x_weigher], wO sh 5 [.ref sh_numbers, .ref sh_sorts, .ref sh_lengths], wI sh_lengths K.2.1 4 len] (fun vr_ wr_ => ∃ (r : Int), vr_ = some (.int (zI (r))) ∧ wr_ = [wO x 8 [.ref sh, .ref x_plane, .ref x_kin, .ref x_heights, .ref x_levels, .ref x_words, .ref x_shown, .ref x_powers, .int (zI (x_shownCount)), .int (zI (x_status)), x_ways, x_weigher], wO sh 5 [.ref sh_numbers, .ref sh_sorts, .ref sh_lengths], wI sh_lengths K.2.1 4 len] ∧ (r = 1 ∨ r = 2 ∨ r = 3)) := by
  refine zMet_of (cc := cX8_rowFault) (nL := 4) (ret := (some .int)) (by decide) rfl (Nat.le_of_ble_eq_true rfl) ?_
  rintro C rfl rfl rfl hC hR
  have hinX8 : ∀ w ∈ u_ws RX8 TX8 12, w ∈ wsX8_rowFault := by decide +kernel
  show ZW C 0 0 [wO x 8 [.ref sh, .ref x_plane, .ref x_kin, .ref x_heights, .ref x_levels, .ref x_words, .ref x_shown, .ref x_powers, .int (zI (x_shownCount)), .int (zI (x_status)), x_ways, x_weigher], wO sh 5 [.ref sh_numbers, .ref sh_sorts, .ref sh_lengths], wI sh_lengths (zK C).2.1 4 len] [(0, .ref x), (1, .int (zI (sheet))), (2, .int (zI (many))), (3, .int (zI (most)))] 0 []
  refine z_iload_n hC 1 dX8_rowFault_0 rfl rfl ?_
  refine z_callS hC [.int (zI (sheet))] 1 dX8_rowFault_1 (c_X5_known (zl C) (zD C) (zK C) sheet (by first | assumption | omega)) gX8_rowFault_X5_known rfl rfl rfl ⟨by decide, by decide, by decide +kernel⟩ ⟨(Nat.le_of_ble_eq_true rfl), (Nat.le_of_ble_eq_true rfl)⟩ rfl [] [0, 1, 2] [wO x 8 [.ref sh, .ref x_plane, .ref x_kin, .ref x_heights, .ref x_levels, .ref x_words, .ref x_shown, .ref x_powers, .int (zI (x_shownCount)), .int (zI (x_status)), x_ways, x_weigher], wO sh 5 [.ref sh_numbers, .ref sh_sorts, .ref sh_lengths], wI sh_lengths (zK C).2.1 4 len] [] rfl rfl rfl rfl rfl (by decide) (Nat.le_of_ble_eq_true rfl) ⟨(Nat.le_of_ble_eq_true rfl), (Nat.le_of_ble_eq_true rfl)⟩ ?_
  rintro v_ w_ ⟨r_1, rfl, rfl, h_1_2⟩
  show ZW C 0 0 [wO x 8 [.ref sh, .ref x_plane, .ref x_kin, .ref x_heights, .ref x_levels, .ref x_words, .ref x_shown, .ref x_powers, .int (zI (x_shownCount)), .int (zI (x_status)), x_ways, x_weigher], wO sh 5 [.ref sh_numbers, .ref sh_sorts, .ref sh_lengths], wI sh_lengths (zK C).2.1 4 len] [(0, .ref x), (1, .int (zI (sheet))), (2, .int (zI (many))), (3, .int (zI (most)))] 4 [.int (zI (r_1))]
  refine z_ifne hC 9 dX8_rowFault_4 (by decide) (by omega) (fun c_3 => ?_) (fun c_3 => ?_)
  · skip
    refine z_iload_n hC 2 dX8_rowFault_9 rfl rfl ?_
    refine z_iconst hC dX8_rowFault_10 ?_
    refine z_iload_n hC 3 dX8_rowFault_11 rfl rfl ?_
    refine z_callS hC [.int (zI (many)), .int (zI (0)), .int (zI (most))] 3 dX8_rowFault_12 (c_X8_within (zl C) (zD C) (zK C) many 0 most (by first | assumption | omega) (by first | assumption | omega) (by first | assumption | omega)) gX8_rowFault_X8_within rfl rfl rfl ⟨by decide, by decide, by decide +kernel⟩ ⟨(Nat.le_of_ble_eq_true rfl), (Nat.le_of_ble_eq_true rfl)⟩ rfl [] [0, 1, 2] [wO x 8 [.ref sh, .ref x_plane, .ref x_kin, .ref x_heights, .ref x_levels, .ref x_words, .ref x_shown, .ref x_powers, .int (zI (x_shownCount)), .int (zI (x_status)), x_ways, x_weigher], wO sh 5 [.ref sh_numbers, .ref sh_sorts, .ref sh_lengths], wI sh_lengths (zK C).2.1 4 len] [] rfl rfl rfl rfl rfl (by decide) (Nat.le_of_ble_eq_true rfl) ⟨(Nat.le_of_ble_eq_true rfl), (Nat.le_of_ble_eq_true rfl)⟩ ?_
    rintro v_ w_ ⟨r_4, rfl, rfl, h_12_5⟩
    show ZW C 0 0 [wO x 8 [.ref sh, .ref x_plane, .ref x_kin, .ref x_heights, .ref x_levels, .ref x_words, .ref x_shown, .ref x_powers, .int (zI (x_shownCount)), .int (zI (x_status)), x_ways, x_weigher], wO sh 5 [.ref sh_numbers, .ref sh_sorts, .ref sh_lengths], wI sh_lengths (zK C).2.1 4 len] [(0, .ref x), (1, .int (zI (sheet))), (2, .int (zI (many))), (3, .int (zI (most)))] 15 [.int (zI (r_4))]
    refine z_ifne hC 20 dX8_rowFault_15 (by decide) (by omega) (fun c_6 => ?_) (fun c_6 => ?_)
    · skip
      refine z_aload_n hC 0 dX8_rowFault_20 rfl rfl ?_
      refine z_get hC (T := TX8) (N := 12) hinX8 0 0 dX8_rowFault_21 rfl rfl (by decide) (List.mem_of_getElem? (i := 1) rfl) rfl rfl ?_
      refine z_iload_n hC 1 dX8_rowFault_24 rfl rfl ?_
      refine z_callV hC [.int (zI (sheet))] 1 0 dX8_rowFault_25 (c_X5_missing (zl C) (zD C) (zK C) sh sh_numbers sh_sorts sh_lengths sheet len (by first | assumption | omega) (by first | assumption | omega)) gX8_rowFault_X5_missing rfl rfl rfl ⟨by decide, by decide, by decide +kernel⟩ ⟨(Nat.le_of_ble_eq_true rfl), (Nat.le_of_ble_eq_true rfl)⟩ rfl rfl rfl rfl [1, 2] [0] [wO x 8 [.ref sh, .ref x_plane, .ref x_kin, .ref x_heights, .ref x_levels, .ref x_words, .ref x_shown, .ref x_powers, .int (zI (x_shownCount)), .int (zI (x_status)), x_ways, x_weigher]] [] rfl rfl rfl rfl rfl (by decide) (Nat.le_of_ble_eq_true rfl) ⟨(Nat.le_of_ble_eq_true rfl), (Nat.le_of_ble_eq_true rfl)⟩ ?_
      rintro v_ w_ ⟨r_7, rfl, rfl, h_25_8⟩
      show ZW C 0 0 [wO x 8 [.ref sh, .ref x_plane, .ref x_kin, .ref x_heights, .ref x_levels, .ref x_words, .ref x_shown, .ref x_powers, .int (zI (x_shownCount)), .int (zI (x_status)), x_ways, x_weigher], wO sh 5 [.ref sh_numbers, .ref sh_sorts, .ref sh_lengths], wI sh_lengths (zK C).2.1 4 len] [(0, .ref x), (1, .int (zI (sheet))), (2, .int (zI (many))), (3, .int (zI (most)))] 28 [.int (zI (r_7))]
      refine z_ifeq hC 33 dX8_rowFault_28 (by decide) (by omega) (fun c_9 => by exfalso; omega) (fun c_9 => ?_)
      refine z_iconst hC dX8_rowFault_31 ?_
      exact z_iret hC hR dX8_rowFault_32 (Nat.le_of_ble_eq_true rfl) (Nat.le_of_ble_eq_true rfl) ⟨3, rfl, rfl, by omega⟩
    · skip
      refine z_iconst hC dX8_rowFault_18 ?_
      exact z_iret hC hR dX8_rowFault_19 (Nat.le_of_ble_eq_true rfl) (Nat.le_of_ble_eq_true rfl) ⟨2, rfl, rfl, by omega⟩
  · skip
    refine z_iconst hC dX8_rowFault_7 ?_
    exact z_iret hC hR dX8_rowFault_8 (Nat.le_of_ble_eq_true rfl) (Nat.le_of_ble_eq_true rfl) ⟨1, rfl, rfl, by omega⟩
