set_option maxHeartbeats 4000000 in
set_option maxRecDepth 100000 in
theorem c_X8_sheet (l : Launch) (D : va_G) (K : ClassId × ClassId × ClassId × ClassId) (x sh x_plane x_kin x_heights x_levels x_words x_shown x_powers sh_numbers sh_sorts sh_lengths : Nat) (sheet sort many x_shownCount x_status : Int) (nu so len : Int → Int) (x_ways x_weigher : Value) (hsheet : zR sheet) (hsort : zR sort) (hmany : zR many) (hlen : ∀ j, 0 ≤ j → j < 4 → len j = -1) : zMet l D K yX8_sheet wsX8_sheet ({ frames := 2, cells := 0, slots := 0, locals := 44 }) 0 0 [.ref x, .int (zI (sheet)), .int (zI (sort)), .int (zI (many))] [wO x 8 [.ref sh, .ref x_plane, .ref x_kin, .ref x_heights, .ref x_levels, .ref x_words, .ref x_shown, .ref x_powers, .int (zI (x_shownCount)), .int (zI (x_status)), x_ways, x_weigher], wO sh 5 [.ref sh_numbers, .ref sh_sorts, .ref sh_lengths], wI sh_numbers K.2.1 256 nu, wI sh_sorts K.2.1 4 so, wI sh_lengths K.2.1 4 len] (fun vr_ wr_ => ∃ (r : Int), vr_ = some (.int (zI (r))) ∧ wr_ = [] ∧ (((0 ≤ sheet ∧ sheet < 4 ∧ 0 ≤ sort ∧ sort ≤ 2 ∧ 0 ≤ many ∧ many ≤ 64) ∧ r = 1) ∨ (¬ (0 ≤ sheet ∧ sheet < 4 ∧ 0 ≤ sort ∧ sort ≤ 2 ∧ 0 ≤ many ∧ many ≤ 64) ∧ r = 0))) := by
  refine zMet_of (cc := cX8_sheet) (nL := 4) (ret := (some .boolean)) (by decide) rfl (Nat.le_of_ble_eq_true rfl) ?_
  rintro C rfl rfl rfl hC hR
  have hinX8 : ∀ w ∈ u_ws RX8 TX8 12, w ∈ wsX8_sheet := by decide +kernel
  show ZW C 0 0 [wO x 8 [.ref sh, .ref x_plane, .ref x_kin, .ref x_heights, .ref x_levels, .ref x_words, .ref x_shown, .ref x_powers, .int (zI (x_shownCount)), .int (zI (x_status)), x_ways, x_weigher], wO sh 5 [.ref sh_numbers, .ref sh_sorts, .ref sh_lengths], wI sh_numbers (zK C).2.1 256 nu, wI sh_sorts (zK C).2.1 4 so, wI sh_lengths (zK C).2.1 4 len] [(0, .ref x), (1, .int (zI (sheet))), (2, .int (zI (sort))), (3, .int (zI (many)))] 0 []
  refine z_iload_n hC 1 dX8_sheet_0 rfl rfl ?_
  refine z_callS hC [.int (zI (sheet))] 1 dX8_sheet_1 (c_X5_known (zl C) (zD C) (zK C) sheet (by first | assumption | omega)) gX8_sheet_X5_known rfl rfl rfl ⟨by decide, by decide, by decide +kernel⟩ ⟨(Nat.le_of_ble_eq_true rfl), (Nat.le_of_ble_eq_true rfl)⟩ rfl [] [0, 1, 2, 3, 4] [wO x 8 [.ref sh, .ref x_plane, .ref x_kin, .ref x_heights, .ref x_levels, .ref x_words, .ref x_shown, .ref x_powers, .int (zI (x_shownCount)), .int (zI (x_status)), x_ways, x_weigher], wO sh 5 [.ref sh_numbers, .ref sh_sorts, .ref sh_lengths], wI sh_numbers (zK C).2.1 256 nu, wI sh_sorts (zK C).2.1 4 so, wI sh_lengths (zK C).2.1 4 len] [] rfl rfl rfl rfl rfl (by decide) (Nat.le_of_ble_eq_true rfl) ⟨(Nat.le_of_ble_eq_true rfl), (Nat.le_of_ble_eq_true rfl)⟩ ?_
  rintro v_ w_ ⟨r_1, rfl, rfl, h_1_2⟩
  show ZW C 0 0 [wO x 8 [.ref sh, .ref x_plane, .ref x_kin, .ref x_heights, .ref x_levels, .ref x_words, .ref x_shown, .ref x_powers, .int (zI (x_shownCount)), .int (zI (x_status)), x_ways, x_weigher], wO sh 5 [.ref sh_numbers, .ref sh_sorts, .ref sh_lengths], wI sh_numbers (zK C).2.1 256 nu, wI sh_sorts (zK C).2.1 4 so, wI sh_lengths (zK C).2.1 4 len] [(0, .ref x), (1, .int (zI (sheet))), (2, .int (zI (sort))), (3, .int (zI (many)))] 4 [.int (zI (r_1))]
  refine z_ifeq hC 16 dX8_sheet_4 (by decide) (by omega) (fun c_3 => ?_) (fun c_3 => ?_)
  · skip
    refine z_aload_n hC 0 dX8_sheet_16 rfl rfl ?_
    refine z_iconst hC dX8_sheet_17 ?_
    refine z_callV hC [.int (zI (1))] 1 0 dX8_sheet_18 (c_X8_denied (zl C) (zD C) (zK C) x sh x_plane x_kin x_heights x_levels x_words x_shown x_powers 1 x_shownCount x_status x_ways x_weigher ) gX8_sheet_X8_denied rfl rfl rfl ⟨by decide, by decide, by decide +kernel⟩ ⟨(Nat.le_of_ble_eq_true rfl), (Nat.le_of_ble_eq_true rfl)⟩ rfl rfl rfl rfl [0] [1, 2, 3, 4] [wO sh 5 [.ref sh_numbers, .ref sh_sorts, .ref sh_lengths], wI sh_numbers (zK C).2.1 256 nu, wI sh_sorts (zK C).2.1 4 so, wI sh_lengths (zK C).2.1 4 len] [] rfl rfl rfl rfl rfl (by decide) (Nat.le_of_ble_eq_true rfl) ⟨(Nat.le_of_ble_eq_true rfl), (Nat.le_of_ble_eq_true rfl)⟩ ?_
    rintro v_ w_ ⟨rfl, rfl, h_18_4⟩
    show ZW C 0 0 [wO sh 5 [.ref sh_numbers, .ref sh_sorts, .ref sh_lengths], wI sh_numbers (zK C).2.1 256 nu, wI sh_sorts (zK C).2.1 4 so, wI sh_lengths (zK C).2.1 4 len, wO x 8 [.ref sh, .ref x_plane, .ref x_kin, .ref x_heights, .ref x_levels, .ref x_words, .ref x_shown, .ref x_powers, .int (zI (x_shownCount)), .int (zI (1)), x_ways, x_weigher]] [(0, .ref x), (1, .int (zI (sheet))), (2, .int (zI (sort))), (3, .int (zI (many)))] 21 [.int (zI (0))]
    refine z_ws (ws' := []) [] rfl rfl ?_
    exact z_zret hC hR dX8_sheet_21 (by omega) (Nat.le_of_ble_eq_true rfl) (Nat.le_of_ble_eq_true rfl) ⟨0, rfl, rfl, by omega⟩
  · skip
    refine z_iload_n hC 2 dX8_sheet_7 rfl rfl ?_
    refine z_iconst hC dX8_sheet_8 ?_
    refine z_iconst hC dX8_sheet_9 ?_
    refine z_callS hC [.int (zI (sort)), .int (zI (0)), .int (zI (2))] 3 dX8_sheet_10 (c_X8_within (zl C) (zD C) (zK C) sort 0 2 (by first | assumption | omega) (by first | assumption | omega) (by first | assumption | omega)) gX8_sheet_X8_within rfl rfl rfl ⟨by decide, by decide, by decide +kernel⟩ ⟨(Nat.le_of_ble_eq_true rfl), (Nat.le_of_ble_eq_true rfl)⟩ rfl [] [0, 1, 2, 3, 4] [wO x 8 [.ref sh, .ref x_plane, .ref x_kin, .ref x_heights, .ref x_levels, .ref x_words, .ref x_shown, .ref x_powers, .int (zI (x_shownCount)), .int (zI (x_status)), x_ways, x_weigher], wO sh 5 [.ref sh_numbers, .ref sh_sorts, .ref sh_lengths], wI sh_numbers (zK C).2.1 256 nu, wI sh_sorts (zK C).2.1 4 so, wI sh_lengths (zK C).2.1 4 len] [] rfl rfl rfl rfl rfl (by decide) (Nat.le_of_ble_eq_true rfl) ⟨(Nat.le_of_ble_eq_true rfl), (Nat.le_of_ble_eq_true rfl)⟩ ?_
    rintro v_ w_ ⟨r_5, rfl, rfl, h_10_6⟩
    show ZW C 0 0 [wO x 8 [.ref sh, .ref x_plane, .ref x_kin, .ref x_heights, .ref x_levels, .ref x_words, .ref x_shown, .ref x_powers, .int (zI (x_shownCount)), .int (zI (x_status)), x_ways, x_weigher], wO sh 5 [.ref sh_numbers, .ref sh_sorts, .ref sh_lengths], wI sh_numbers (zK C).2.1 256 nu, wI sh_sorts (zK C).2.1 4 so, wI sh_lengths (zK C).2.1 4 len] [(0, .ref x), (1, .int (zI (sheet))), (2, .int (zI (sort))), (3, .int (zI (many)))] 13 [.int (zI (r_5))]
    refine z_ifne hC 22 dX8_sheet_13 (by decide) (by omega) (fun c_7 => ?_) (fun c_7 => ?_)
    · skip
      refine z_iload_n hC 3 dX8_sheet_22 rfl rfl ?_
      refine z_bipush hC dX8_sheet_23 (by decide) ?_
      refine z_icle hC 34 dX8_sheet_25 (by decide) (by omega) (fun c_8 => ?_) (fun c_8 => ?_)
      · skip
        refine z_iload_n hC 3 dX8_sheet_34 rfl rfl ?_
        refine z_ifge hC 45 dX8_sheet_35 (by decide) (by omega) (fun c_9 => ?_) (fun c_9 => ?_)
        · skip
          refine z_aload_n hC 0 dX8_sheet_45 rfl rfl ?_
          refine z_get hC (T := TX8) (N := 12) hinX8 0 0 dX8_sheet_46 rfl rfl (by decide) (List.mem_of_getElem? (i := 1) rfl) rfl rfl ?_
          refine z_iload_n hC 1 dX8_sheet_49 rfl rfl ?_
          refine z_iload_n hC 2 dX8_sheet_50 rfl rfl ?_
          refine z_iload_n hC 3 dX8_sheet_51 rfl rfl ?_
          refine z_callV hC [.int (zI (sheet)), .int (zI (sort)), .int (zI (many))] 3 0 dX8_sheet_52 (c_X5_lay (zl C) (zD C) (zK C) sh sh_numbers sh_sorts sh_lengths sheet sort many nu so len (by first | assumption | omega) (by first | assumption | omega) (by first | assumption | omega)) gX8_sheet_X5_lay rfl rfl rfl ⟨by decide, by decide, by decide +kernel⟩ ⟨(Nat.le_of_ble_eq_true rfl), (Nat.le_of_ble_eq_true rfl)⟩ rfl rfl rfl rfl [1, 2, 3, 4] [0] [wO x 8 [.ref sh, .ref x_plane, .ref x_kin, .ref x_heights, .ref x_levels, .ref x_words, .ref x_shown, .ref x_powers, .int (zI (x_shownCount)), .int (zI (x_status)), x_ways, x_weigher]] [] rfl rfl rfl rfl rfl (by decide) (Nat.le_of_ble_eq_true rfl) ⟨(Nat.le_of_ble_eq_true rfl), (Nat.le_of_ble_eq_true rfl)⟩ ?_
          rintro v_ w_ ⟨rfl, rfl, h_52_10⟩
          show ZW C 0 0 [wO x 8 [.ref sh, .ref x_plane, .ref x_kin, .ref x_heights, .ref x_levels, .ref x_words, .ref x_shown, .ref x_powers, .int (zI (x_shownCount)), .int (zI (x_status)), x_ways, x_weigher]] [(0, .ref x), (1, .int (zI (sheet))), (2, .int (zI (sort))), (3, .int (zI (many)))] 55 []
          refine z_aload_n hC 0 dX8_sheet_55 rfl rfl ?_
          refine z_callV hC [] 0 0 dX8_sheet_56 (c_X8_granted (zl C) (zD C) (zK C) x sh x_plane x_kin x_heights x_levels x_words x_shown x_powers x_shownCount x_status x_ways x_weigher ) gX8_sheet_X8_granted rfl rfl rfl ⟨by decide, by decide, by decide +kernel⟩ ⟨(Nat.le_of_ble_eq_true rfl), (Nat.le_of_ble_eq_true rfl)⟩ rfl rfl rfl rfl [0] [] [] [] rfl rfl rfl rfl rfl (by decide) (Nat.le_of_ble_eq_true rfl) ⟨(Nat.le_of_ble_eq_true rfl), (Nat.le_of_ble_eq_true rfl)⟩ ?_
          rintro v_ w_ ⟨rfl, rfl, h_56_11⟩
          show ZW C 0 0 [wO x 8 [.ref sh, .ref x_plane, .ref x_kin, .ref x_heights, .ref x_levels, .ref x_words, .ref x_shown, .ref x_powers, .int (zI (x_shownCount)), .int (zI (0)), x_ways, x_weigher]] [(0, .ref x), (1, .int (zI (sheet))), (2, .int (zI (sort))), (3, .int (zI (many)))] 59 [.int (zI (1))]
          refine z_ws (ws' := []) [] rfl rfl ?_
          exact z_zret hC hR dX8_sheet_59 (by omega) (Nat.le_of_ble_eq_true rfl) (Nat.le_of_ble_eq_true rfl) ⟨1, rfl, rfl, by omega⟩
        · skip
          refine z_aload_n hC 0 dX8_sheet_38 rfl rfl ?_
          refine z_bipush hC dX8_sheet_39 (by decide) ?_
          refine z_callV hC [.int (zI (6))] 1 0 dX8_sheet_41 (c_X8_denied (zl C) (zD C) (zK C) x sh x_plane x_kin x_heights x_levels x_words x_shown x_powers 6 x_shownCount x_status x_ways x_weigher ) gX8_sheet_X8_denied rfl rfl rfl ⟨by decide, by decide, by decide +kernel⟩ ⟨(Nat.le_of_ble_eq_true rfl), (Nat.le_of_ble_eq_true rfl)⟩ rfl rfl rfl rfl [0] [1, 2, 3, 4] [wO sh 5 [.ref sh_numbers, .ref sh_sorts, .ref sh_lengths], wI sh_numbers (zK C).2.1 256 nu, wI sh_sorts (zK C).2.1 4 so, wI sh_lengths (zK C).2.1 4 len] [] rfl rfl rfl rfl rfl (by decide) (Nat.le_of_ble_eq_true rfl) ⟨(Nat.le_of_ble_eq_true rfl), (Nat.le_of_ble_eq_true rfl)⟩ ?_
          rintro v_ w_ ⟨rfl, rfl, h_41_12⟩
          show ZW C 0 0 [wO sh 5 [.ref sh_numbers, .ref sh_sorts, .ref sh_lengths], wI sh_numbers (zK C).2.1 256 nu, wI sh_sorts (zK C).2.1 4 so, wI sh_lengths (zK C).2.1 4 len, wO x 8 [.ref sh, .ref x_plane, .ref x_kin, .ref x_heights, .ref x_levels, .ref x_words, .ref x_shown, .ref x_powers, .int (zI (x_shownCount)), .int (zI (6)), x_ways, x_weigher]] [(0, .ref x), (1, .int (zI (sheet))), (2, .int (zI (sort))), (3, .int (zI (many)))] 44 [.int (zI (0))]
          refine z_ws (ws' := []) [] rfl rfl ?_
          exact z_zret hC hR dX8_sheet_44 (by omega) (Nat.le_of_ble_eq_true rfl) (Nat.le_of_ble_eq_true rfl) ⟨0, rfl, rfl, by omega⟩
      · skip
        refine z_aload_n hC 0 dX8_sheet_28 rfl rfl ?_
        refine z_iconst hC dX8_sheet_29 ?_
        refine z_callV hC [.int (zI (2))] 1 0 dX8_sheet_30 (c_X8_denied (zl C) (zD C) (zK C) x sh x_plane x_kin x_heights x_levels x_words x_shown x_powers 2 x_shownCount x_status x_ways x_weigher ) gX8_sheet_X8_denied rfl rfl rfl ⟨by decide, by decide, by decide +kernel⟩ ⟨(Nat.le_of_ble_eq_true rfl), (Nat.le_of_ble_eq_true rfl)⟩ rfl rfl rfl rfl [0] [1, 2, 3, 4] [wO sh 5 [.ref sh_numbers, .ref sh_sorts, .ref sh_lengths], wI sh_numbers (zK C).2.1 256 nu, wI sh_sorts (zK C).2.1 4 so, wI sh_lengths (zK C).2.1 4 len] [] rfl rfl rfl rfl rfl (by decide) (Nat.le_of_ble_eq_true rfl) ⟨(Nat.le_of_ble_eq_true rfl), (Nat.le_of_ble_eq_true rfl)⟩ ?_
        rintro v_ w_ ⟨rfl, rfl, h_30_13⟩
        show ZW C 0 0 [wO sh 5 [.ref sh_numbers, .ref sh_sorts, .ref sh_lengths], wI sh_numbers (zK C).2.1 256 nu, wI sh_sorts (zK C).2.1 4 so, wI sh_lengths (zK C).2.1 4 len, wO x 8 [.ref sh, .ref x_plane, .ref x_kin, .ref x_heights, .ref x_levels, .ref x_words, .ref x_shown, .ref x_powers, .int (zI (x_shownCount)), .int (zI (2)), x_ways, x_weigher]] [(0, .ref x), (1, .int (zI (sheet))), (2, .int (zI (sort))), (3, .int (zI (many)))] 33 [.int (zI (0))]
        refine z_ws (ws' := []) [] rfl rfl ?_
        exact z_zret hC hR dX8_sheet_33 (by omega) (Nat.le_of_ble_eq_true rfl) (Nat.le_of_ble_eq_true rfl) ⟨0, rfl, rfl, by omega⟩
    · skip
      refine z_aload_n hC 0 dX8_sheet_16 rfl rfl ?_
      refine z_iconst hC dX8_sheet_17 ?_
      refine z_callV hC [.int (zI (1))] 1 0 dX8_sheet_18 (c_X8_denied (zl C) (zD C) (zK C) x sh x_plane x_kin x_heights x_levels x_words x_shown x_powers 1 x_shownCount x_status x_ways x_weigher ) gX8_sheet_X8_denied rfl rfl rfl ⟨by decide, by decide, by decide +kernel⟩ ⟨(Nat.le_of_ble_eq_true rfl), (Nat.le_of_ble_eq_true rfl)⟩ rfl rfl rfl rfl [0] [1, 2, 3, 4] [wO sh 5 [.ref sh_numbers, .ref sh_sorts, .ref sh_lengths], wI sh_numbers (zK C).2.1 256 nu, wI sh_sorts (zK C).2.1 4 so, wI sh_lengths (zK C).2.1 4 len] [] rfl rfl rfl rfl rfl (by decide) (Nat.le_of_ble_eq_true rfl) ⟨(Nat.le_of_ble_eq_true rfl), (Nat.le_of_ble_eq_true rfl)⟩ ?_
      rintro v_ w_ ⟨rfl, rfl, h_18_14⟩
      show ZW C 0 0 [wO sh 5 [.ref sh_numbers, .ref sh_sorts, .ref sh_lengths], wI sh_numbers (zK C).2.1 256 nu, wI sh_sorts (zK C).2.1 4 so, wI sh_lengths (zK C).2.1 4 len, wO x 8 [.ref sh, .ref x_plane, .ref x_kin, .ref x_heights, .ref x_levels, .ref x_words, .ref x_shown, .ref x_powers, .int (zI (x_shownCount)), .int (zI (1)), x_ways, x_weigher]] [(0, .ref x), (1, .int (zI (sheet))), (2, .int (zI (sort))), (3, .int (zI (many)))] 21 [.int (zI (0))]
      refine z_ws (ws' := []) [] rfl rfl ?_
      exact z_zret hC hR dX8_sheet_21 (by omega) (Nat.le_of_ble_eq_true rfl) (Nat.le_of_ble_eq_true rfl) ⟨0, rfl, rfl, by omega⟩
