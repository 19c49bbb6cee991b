def cutA (s v : Int) : Int := if s = 0 then cutB v else if s = 1 then cutS v else v
theorem cutA_r {s v : Int} (h : -2147483648 ≤ v ∧ v < 2147483648) : -2147483648 ≤ cutA s v ∧ cutA s v < 2147483648 := by
  have h1 := cutB_r v
  have h2 := cutS_r v
  unfold cutA
  (repeat' split) <;> omega
set_option maxHeartbeats 4000000 in
set_option maxRecDepth 100000 in
theorem c_X5_missing (l : Launch) (D : va_G) (K : ClassId × ClassId × ClassId × ClassId) (sh sh_numbers sh_sorts sh_lengths : Nat) (sheet : Int) (len : Int → Int) (hsheet : zR sheet) (hlen : ∀ j, 0 ≤ j → j < 4 → -1 ≤ len j ∧ len j ≤ 64) : zMet l D K yX5_missing wsX5_missing ({ frames := 1, cells := 0, slots := 0, locals := 20 }) 0 0 [.ref sh, .int (zI (sheet))] [wO sh 5 [.ref sh_numbers, .ref sh_sorts, .ref sh_lengths], wI sh_lengths K.2.1 4 len] (fun vr_ wr_ => ∃ (r : Int), vr_ = some (.int (zI (r))) ∧ wr_ = [wO sh 5 [.ref sh_numbers, .ref sh_sorts, .ref sh_lengths], wI sh_lengths K.2.1 4 len] ∧ ((0 ≤ sheet ∧ sheet < 4 ∧ 0 ≤ len sheet ∧ r = 0) ∨ (¬ (0 ≤ sheet ∧ sheet < 4 ∧ 0 ≤ len sheet) ∧ r = 1))) := by
  refine zMet_of (cc := cX5_missing) (nL := 2) (ret := (some .boolean)) (by decide) rfl (Nat.le_of_ble_eq_true rfl) ?_
  rintro C rfl rfl rfl hC hR
  have hinX5 : ∀ w ∈ u_ws RX5 TX5 3, w ∈ wsX5_missing := by decide +kernel
  show ZW C 0 0 [wO sh 5 [.ref sh_numbers, .ref sh_sorts, .ref sh_lengths], wI sh_lengths (zK C).2.1 4 len] [(0, .ref sh), (1, .int (zI (sheet)))] 0 []
  refine z_iload_n hC 1 dX5_missing_0 rfl rfl ?_
  refine z_callS hC [.int (zI (sheet))] 1 dX5_missing_1 (c_X5_known (zl C) (zD C) (zK C) sheet (by first | assumption | omega)) gX5_missing_X5_known rfl rfl rfl ⟨by decide, by decide, by decide +kernel⟩ ⟨(Nat.le_of_ble_eq_true rfl), (Nat.le_of_ble_eq_true rfl)⟩ rfl [] [0, 1] [wO sh 5 [.ref sh_numbers, .ref sh_sorts, .ref sh_lengths], wI sh_lengths (zK C).2.1 4 len] [] rfl rfl rfl rfl rfl (by decide) (Nat.le_of_ble_eq_true rfl) ⟨(Nat.le_of_ble_eq_true rfl), (Nat.le_of_ble_eq_true rfl)⟩ ?_
  rintro v_ w_ ⟨r_1, rfl, rfl, h_1_2⟩
  show ZW C 0 0 [wO sh 5 [.ref sh_numbers, .ref sh_sorts, .ref sh_lengths], wI sh_lengths (zK C).2.1 4 len] [(0, .ref sh), (1, .int (zI (sheet)))] 4 [.int (zI (r_1))]
  refine z_ifeq hC 16 dX5_missing_4 (by decide) (by omega) (fun c_3 => ?_) (fun c_3 => ?_)
  · skip
    refine z_iconst hC dX5_missing_16 ?_
    refine z_goto hC 21 dX5_missing_17 (by decide) ?_
    exact z_zret hC hR dX5_missing_21 (by omega) (Nat.le_of_ble_eq_true rfl) (Nat.le_of_ble_eq_true rfl) ⟨1, rfl, rfl, by omega⟩
  · skip
    refine z_aload_n hC 0 dX5_missing_7 rfl rfl ?_
    refine z_get hC (T := TX5) (N := 3) hinX5 0 2 dX5_missing_8 rfl rfl (by decide) (List.mem_of_getElem? (i := 1) rfl) rfl rfl ?_
    refine z_iload_n hC 1 dX5_missing_11 rfl rfl ?_
    refine z_iald hC 1 dX5_missing_12 rfl (by omega) ?_
    have l_4 := hlen sheet (by omega) (by omega)
    refine z_ifge hC 20 dX5_missing_13 (by decide) (by omega) (fun c_5 => ?_) (fun c_5 => ?_)
    · skip
      refine z_iconst hC dX5_missing_20 ?_
      exact z_zret hC hR dX5_missing_21 (by omega) (Nat.le_of_ble_eq_true rfl) (Nat.le_of_ble_eq_true rfl) ⟨0, rfl, rfl, by omega⟩
    · skip
      refine z_iconst hC dX5_missing_16 ?_
      refine z_goto hC 21 dX5_missing_17 (by decide) ?_
      exact z_zret hC hR dX5_missing_21 (by omega) (Nat.le_of_ble_eq_true rfl) (Nat.le_of_ble_eq_true rfl) ⟨1, rfl, rfl, by omega⟩

set_option maxHeartbeats 4000000 in
set_option maxRecDepth 100000 in
theorem c_X5_sortOf (l : Launch) (D : va_G) (K : ClassId × ClassId × ClassId × ClassId) (sh sh_numbers sh_sorts sh_lengths : Nat) (sheet : Int) (so : Int → Int) (hsheet : zR sheet) (hso : ∀ j, 0 ≤ j → j < 4 → 0 ≤ so j ∧ so j ≤ 2) : zMet l D K yX5_sortOf wsX5_sortOf ({ frames := 1, cells := 0, slots := 0, locals := 20 }) 0 0 [.ref sh, .int (zI (sheet))] [wO sh 5 [.ref sh_numbers, .ref sh_sorts, .ref sh_lengths], wI sh_sorts K.2.1 4 so] (fun vr_ wr_ => ∃ (r : Int), vr_ = some (.int (zI (r))) ∧ wr_ = [wO sh 5 [.ref sh_numbers, .ref sh_sorts, .ref sh_lengths], wI sh_sorts K.2.1 4 so] ∧ ((0 ≤ sheet ∧ sheet < 4 ∧ r = so sheet) ∨ (¬ (0 ≤ sheet ∧ sheet < 4) ∧ r = -1))) := by
  refine zMet_of (cc := cX5_sortOf) (nL := 2) (ret := (some .int)) (by decide) rfl (Nat.le_of_ble_eq_true rfl) ?_
  rintro C rfl rfl rfl hC hR
  have hinX5 : ∀ w ∈ u_ws RX5 TX5 3, w ∈ wsX5_sortOf := by decide +kernel
  show ZW C 0 0 [wO sh 5 [.ref sh_numbers, .ref sh_sorts, .ref sh_lengths], wI sh_sorts (zK C).2.1 4 so] [(0, .ref sh), (1, .int (zI (sheet)))] 0 []
  refine z_iload_n hC 1 dX5_sortOf_0 rfl rfl ?_
  refine z_callS hC [.int (zI (sheet))] 1 dX5_sortOf_1 (c_X5_known (zl C) (zD C) (zK C) sheet (by first | assumption | omega)) gX5_sortOf_X5_known rfl rfl rfl ⟨by decide, by decide, by decide +kernel⟩ ⟨(Nat.le_of_ble_eq_true rfl), (Nat.le_of_ble_eq_true rfl)⟩ rfl [] [0, 1] [wO sh 5 [.ref sh_numbers, .ref sh_sorts, .ref sh_lengths], wI sh_sorts (zK C).2.1 4 so] [] rfl rfl rfl rfl rfl (by decide) (Nat.le_of_ble_eq_true rfl) ⟨(Nat.le_of_ble_eq_true rfl), (Nat.le_of_ble_eq_true rfl)⟩ ?_
  rintro v_ w_ ⟨r_1, rfl, rfl, h_1_2⟩
  show ZW C 0 0 [wO sh 5 [.ref sh_numbers, .ref sh_sorts, .ref sh_lengths], wI sh_sorts (zK C).2.1 4 so] [(0, .ref sh), (1, .int (zI (sheet)))] 4 [.int (zI (r_1))]
  refine z_ifeq hC 16 dX5_sortOf_4 (by decide) (by omega) (fun c_3 => ?_) (fun c_3 => ?_)
  · skip
    refine z_iconst hC dX5_sortOf_16 ?_
    exact z_iret hC hR dX5_sortOf_17 (Nat.le_of_ble_eq_true rfl) (Nat.le_of_ble_eq_true rfl) ⟨(-1), rfl, rfl, by omega⟩
  · skip
    refine z_aload_n hC 0 dX5_sortOf_7 rfl rfl ?_
    refine z_get hC (T := TX5) (N := 3) hinX5 0 1 dX5_sortOf_8 rfl rfl (by decide) (List.mem_of_getElem? (i := 1) rfl) rfl rfl ?_
    refine z_iload_n hC 1 dX5_sortOf_11 rfl rfl ?_
    refine z_iald hC 1 dX5_sortOf_12 rfl (by omega) ?_
    have l_4 := hso sheet (by omega) (by omega)
    refine z_goto hC 17 dX5_sortOf_13 (by decide) ?_
    exact z_iret hC hR dX5_sortOf_17 (Nat.le_of_ble_eq_true rfl) (Nat.le_of_ble_eq_true rfl) ⟨so sheet, rfl, rfl, by omega⟩

set_option maxHeartbeats 4000000 in
set_option maxRecDepth 100000 in
theorem c_X5_holds (l : Launch) (D : va_G) (K : ClassId × ClassId × ClassId × ClassId) (sh sh_numbers sh_sorts sh_lengths : Nat) (sheet place many : Int) (len : Int → Int) (hsheet : zR sheet) (hplace : zR place) (hmany : zR many) (hlen : ∀ j, 0 ≤ j → j < 4 → -1 ≤ len j ∧ len j ≤ 64) : zMet l D K yX5_holds wsX5_holds ({ frames := 1, cells := 0, slots := 0, locals := 20 }) 0 0 [.ref sh, .int (zI (sheet)), .int (zI (place)), .int (zI (many))] [wO sh 5 [.ref sh_numbers, .ref sh_sorts, .ref sh_lengths], wI sh_lengths K.2.1 4 len] (fun vr_ wr_ => ∃ (r : Int), vr_ = some (.int (zI (r))) ∧ wr_ = [wO sh 5 [.ref sh_numbers, .ref sh_sorts, .ref sh_lengths], wI sh_lengths K.2.1 4 len] ∧ (((0 ≤ sheet ∧ sheet < 4 ∧ 0 ≤ place ∧ 0 ≤ many ∧ place + many ≤ len sheet) ∧ r = 1) ∨ (¬ (0 ≤ sheet ∧ sheet < 4 ∧ 0 ≤ place ∧ 0 ≤ many ∧ place + many ≤ len sheet) ∧ r = 0))) := by
  refine zMet_of (cc := cX5_holds) (nL := 4) (ret := (some .boolean)) (by decide) rfl (Nat.le_of_ble_eq_true rfl) ?_
  rintro C rfl rfl rfl hC hR
  have hinX5 : ∀ w ∈ u_ws RX5 TX5 3, w ∈ wsX5_holds := by decide +kernel
  show ZW C 0 0 [wO sh 5 [.ref sh_numbers, .ref sh_sorts, .ref sh_lengths], wI sh_lengths (zK C).2.1 4 len] [(0, .ref sh), (1, .int (zI (sheet))), (2, .int (zI (place))), (3, .int (zI (many)))] 0 []
  refine z_iload_n hC 1 dX5_holds_0 rfl rfl ?_
  refine z_callS hC [.int (zI (sheet))] 1 dX5_holds_1 (c_X5_known (zl C) (zD C) (zK C) sheet (by first | assumption | omega)) gX5_holds_X5_known rfl rfl rfl ⟨by decide, by decide, by decide +kernel⟩ ⟨(Nat.le_of_ble_eq_true rfl), (Nat.le_of_ble_eq_true rfl)⟩ rfl [] [0, 1] [wO sh 5 [.ref sh_numbers, .ref sh_sorts, .ref sh_lengths], wI sh_lengths (zK C).2.1 4 len] [] rfl rfl rfl rfl rfl (by decide) (Nat.le_of_ble_eq_true rfl) ⟨(Nat.le_of_ble_eq_true rfl), (Nat.le_of_ble_eq_true rfl)⟩ ?_
  rintro v_ w_ ⟨r_1, rfl, rfl, h_1_2⟩
  show ZW C 0 0 [wO sh 5 [.ref sh_numbers, .ref sh_sorts, .ref sh_lengths], wI sh_lengths (zK C).2.1 4 len] [(0, .ref sh), (1, .int (zI (sheet))), (2, .int (zI (place))), (3, .int (zI (many)))] 4 [.int (zI (r_1))]
  refine z_ifeq hC 35 dX5_holds_4 (by decide) (by omega) (fun c_3 => ?_) (fun c_3 => ?_)
  · skip
    refine z_iconst hC dX5_holds_35 ?_
    exact z_zret hC hR dX5_holds_36 (by omega) (Nat.le_of_ble_eq_true rfl) (Nat.le_of_ble_eq_true rfl) ⟨0, rfl, rfl, by omega⟩
  · skip
    refine z_iload_n hC 2 dX5_holds_7 rfl rfl ?_
    refine z_iflt hC 35 dX5_holds_8 (by decide) (by omega) (fun c_4 => ?_) (fun c_4 => ?_)
    · skip
      refine z_iconst hC dX5_holds_35 ?_
      exact z_zret hC hR dX5_holds_36 (by omega) (Nat.le_of_ble_eq_true rfl) (Nat.le_of_ble_eq_true rfl) ⟨0, rfl, rfl, by omega⟩
    · skip
      refine z_iload_n hC 3 dX5_holds_11 rfl rfl ?_
      refine z_iflt hC 35 dX5_holds_12 (by decide) (by omega) (fun c_5 => ?_) (fun c_5 => ?_)
      · skip
        refine z_iconst hC dX5_holds_35 ?_
        exact z_zret hC hR dX5_holds_36 (by omega) (Nat.le_of_ble_eq_true rfl) (Nat.le_of_ble_eq_true rfl) ⟨0, rfl, rfl, by omega⟩
      · skip
        refine z_iload_n hC 2 dX5_holds_15 rfl rfl ?_
        refine z_i2l hC dX5_holds_16 (by omega) ?_
        refine z_iload_n hC 3 dX5_holds_17 rfl rfl ?_
        refine z_i2l hC dX5_holds_18 (by omega) ?_
        refine z_ladd hC (place + many) dX5_holds_19 rfl ?_
        refine z_aload_n hC 0 dX5_holds_20 rfl rfl ?_
        refine z_get hC (T := TX5) (N := 3) hinX5 0 2 dX5_holds_21 rfl rfl (by decide) (List.mem_of_getElem? (i := 1) rfl) rfl rfl ?_
        refine z_iload_n hC 1 dX5_holds_24 rfl rfl ?_
        refine z_iald hC 1 dX5_holds_25 rfl (by omega) ?_
        have l_6 := hlen sheet (by omega) (by omega)
        refine z_i2l hC dX5_holds_26 (by omega) ?_
        refine z_lcgt hC 35 dX5_holds_27 dX5_holds_28 (by decide) (by omega) (fun c_7 => ?_) (fun c_7 => ?_)
        · skip
          refine z_iconst hC dX5_holds_35 ?_
          exact z_zret hC hR dX5_holds_36 (by omega) (Nat.le_of_ble_eq_true rfl) (Nat.le_of_ble_eq_true rfl) ⟨0, rfl, rfl, by omega⟩
        · skip
          refine z_iconst hC dX5_holds_31 ?_
          refine z_goto hC 36 dX5_holds_32 (by decide) ?_
          exact z_zret hC hR dX5_holds_36 (by omega) (Nat.le_of_ble_eq_true rfl) (Nat.le_of_ble_eq_true rfl) ⟨1, rfl, rfl, by omega⟩

set_option maxHeartbeats 4000000 in
set_option maxRecDepth 100000 in
theorem c_X5_at (l : Launch) (D : va_G) (K : ClassId × ClassId × ClassId × ClassId) (sh sh_numbers sh_sorts sh_lengths : Nat) (sheet place : Int) (nu len : Int → Int) (hsheet : zR sheet) (hplace : zR place) (hlen : ∀ j, 0 ≤ j → j < 4 → -1 ≤ len j ∧ len j ≤ 64) : zMet l D K yX5_at wsX5_at ({ frames := 2, cells := 0, slots := 0, locals := 43 }) 0 0 [.ref sh, .int (zI (sheet)), .int (zI (place))] [wO sh 5 [.ref sh_numbers, .ref sh_sorts, .ref sh_lengths], wI sh_numbers K.2.1 256 nu, wI sh_lengths K.2.1 4 len] (fun vr_ wr_ => ∃ (r : Int), vr_ = some (.int (zI (r))) ∧ wr_ = [wO sh 5 [.ref sh_numbers, .ref sh_sorts, .ref sh_lengths], wI sh_numbers K.2.1 256 nu, wI sh_lengths K.2.1 4 len] ∧ ((0 ≤ sheet ∧ sheet < 4 ∧ 0 ≤ place ∧ place < len sheet ∧ r = nu (sheet * 64 + place)) ∨ (¬ (0 ≤ sheet ∧ sheet < 4 ∧ 0 ≤ place ∧ place < len sheet) ∧ r = 0))) := by
  refine zMet_of (cc := cX5_at) (nL := 3) (ret := (some .int)) (by decide) rfl (Nat.le_of_ble_eq_true rfl) ?_
  rintro C rfl rfl rfl hC hR
  have hinX5 : ∀ w ∈ u_ws RX5 TX5 3, w ∈ wsX5_at := by decide +kernel
  have hl9 := hlen sheet
  show ZW C 0 0 [wO sh 5 [.ref sh_numbers, .ref sh_sorts, .ref sh_lengths], wI sh_numbers (zK C).2.1 256 nu, wI sh_lengths (zK C).2.1 4 len] [(0, .ref sh), (1, .int (zI (sheet))), (2, .int (zI (place)))] 0 []
  refine z_aload_n hC 0 dX5_at_0 rfl rfl ?_
  refine z_iload_n hC 1 dX5_at_1 rfl rfl ?_
  refine z_iload_n hC 2 dX5_at_2 rfl rfl ?_
  refine z_iconst hC dX5_at_3 ?_
  refine z_callV hC [.int (zI (sheet)), .int (zI (place)), .int (zI (1))] 3 0 dX5_at_4 (c_X5_holds (zl C) (zD C) (zK C) sh sh_numbers sh_sorts sh_lengths sheet place 1 len (by first | assumption | omega) (by first | assumption | omega) (by first | assumption | omega) (by first | assumption | omega)) gX5_at_X5_holds rfl rfl rfl ⟨by decide, by decide, by decide +kernel⟩ ⟨(Nat.le_of_ble_eq_true rfl), (Nat.le_of_ble_eq_true rfl)⟩ rfl rfl rfl rfl [0, 2] [1] [wI sh_numbers (zK C).2.1 256 nu] [] rfl rfl rfl rfl rfl (by decide) (Nat.le_of_ble_eq_true rfl) ⟨(Nat.le_of_ble_eq_true rfl), (Nat.le_of_ble_eq_true rfl)⟩ ?_
  rintro v_ w_ ⟨r_1, rfl, rfl, h_4_2⟩
  show ZW C 0 0 [wI sh_numbers (zK C).2.1 256 nu, wO sh 5 [.ref sh_numbers, .ref sh_sorts, .ref sh_lengths], wI sh_lengths (zK C).2.1 4 len] [(0, .ref sh), (1, .int (zI (sheet))), (2, .int (zI (place)))] 7 [.int (zI (r_1))]
  refine z_ifeq hC 24 dX5_at_7 (by decide) (by omega) (fun c_3 => ?_) (fun c_3 => ?_)
  · skip
    refine z_iconst hC dX5_at_24 ?_
    refine z_ws (ws' := [wO sh 5 [.ref sh_numbers, .ref sh_sorts, .ref sh_lengths], wI sh_numbers (zK C).2.1 256 nu, wI sh_lengths (zK C).2.1 4 len]) [1, 0, 2] rfl rfl ?_
    exact z_iret hC hR dX5_at_25 (Nat.le_of_ble_eq_true rfl) (Nat.le_of_ble_eq_true rfl) ⟨0, rfl, rfl, by omega⟩
  · skip
    refine z_aload_n hC 0 dX5_at_10 rfl rfl ?_
    refine z_get hC (T := TX5) (N := 3) hinX5 1 0 dX5_at_11 rfl rfl (by decide) (List.mem_of_getElem? (i := 1) rfl) rfl rfl ?_
    refine z_iload_n hC 1 dX5_at_14 rfl rfl ?_
    refine z_bipush hC dX5_at_15 (by decide) ?_
    refine z_imul hC (sheet * 64) dX5_at_17 rfl ?_
    refine z_iload_n hC 2 dX5_at_18 rfl rfl ?_
    refine z_iadd hC ((sheet * 64) + place) dX5_at_19 rfl ?_
    refine z_iald hC 0 dX5_at_20 rfl (by omega) ?_
    refine z_goto hC 25 dX5_at_21 (by decide) ?_
    refine z_ws (ws' := [wO sh 5 [.ref sh_numbers, .ref sh_sorts, .ref sh_lengths], wI sh_numbers (zK C).2.1 256 nu, wI sh_lengths (zK C).2.1 4 len]) [1, 0, 2] rfl rfl ?_
    exact z_iret hC hR dX5_at_25 (Nat.le_of_ble_eq_true rfl) (Nat.le_of_ble_eq_true rfl) ⟨nu ((sheet * 64) + place), rfl, rfl, by omega⟩

set_option maxHeartbeats 4000000 in
set_option maxRecDepth 100000 in
theorem c_X5_lay (l : Launch) (D : va_G) (K : ClassId × ClassId × ClassId × ClassId) (sh sh_numbers sh_sorts sh_lengths : Nat) (sheet sort many : Int) (nu so len : Int → Int) (hs : 0 ≤ sheet ∧ sheet < 4) : zMet l D K yX5_lay wsX5_lay ({ frames := 1, cells := 0, slots := 0, locals := 20 }) 0 0 [.ref sh, .int (zI (sheet)), .int (zI (sort)), .int (zI (many))] [wO sh 5 [.ref sh_numbers, .ref sh_sorts, .ref sh_lengths], wI sh_numbers K.2.1 256 nu, wI sh_sorts K.2.1 4 so, wI sh_lengths K.2.1 4 len] (fun vr_ wr_ => ∃ (nu2 : Int → Int), vr_ = none ∧ wr_ = [wO sh 5 [.ref sh_numbers, .ref sh_sorts, .ref sh_lengths], wI sh_numbers K.2.1 256 nu2, wI sh_sorts K.2.1 4 (zu so sheet sort), wI sh_lengths K.2.1 4 (zu len sheet many)] ∧ (∀ j, nu2 j = if sheet * 64 ≤ j ∧ j < sheet * 64 + 64 then 0 else nu j)) := by
  refine zMet_of (cc := cX5_lay) (nL := 5) (ret := none) (by decide) rfl (Nat.le_of_ble_eq_true rfl) ?_
  rintro C rfl rfl rfl hC hR
  have hinX5 : ∀ w ∈ u_ws RX5 TX5 3, w ∈ wsX5_lay := by decide +kernel
  show ZW C 0 0 [wO sh 5 [.ref sh_numbers, .ref sh_sorts, .ref sh_lengths], wI sh_numbers (zK C).2.1 256 nu, wI sh_sorts (zK C).2.1 4 so, wI sh_lengths (zK C).2.1 4 len] [(0, .ref sh), (1, .int (zI (sheet))), (2, .int (zI (sort))), (3, .int (zI (many)))] 0 []
  refine z_iload_n hC 1 dX5_lay_0 rfl rfl ?_
  refine z_callS hC [.int (zI (sheet))] 1 dX5_lay_1 (c_X5_known (zl C) (zD C) (zK C) sheet (by first | assumption | omega)) gX5_lay_X5_known rfl rfl rfl ⟨by decide, by decide, by decide +kernel⟩ ⟨(Nat.le_of_ble_eq_true rfl), (Nat.le_of_ble_eq_true rfl)⟩ rfl [] [0, 1, 2, 3] [wO sh 5 [.ref sh_numbers, .ref sh_sorts, .ref sh_lengths], wI sh_numbers (zK C).2.1 256 nu, wI sh_sorts (zK C).2.1 4 so, wI sh_lengths (zK C).2.1 4 len] [] rfl rfl rfl rfl rfl (by decide) (Nat.le_of_ble_eq_true rfl) ⟨(Nat.le_of_ble_eq_true rfl), (Nat.le_of_ble_eq_true rfl)⟩ ?_
  rintro v_ w_ ⟨r_1, rfl, rfl, h_1_2⟩
  show ZW C 0 0 [wO sh 5 [.ref sh_numbers, .ref sh_sorts, .ref sh_lengths], wI sh_numbers (zK C).2.1 256 nu, wI sh_sorts (zK C).2.1 4 so, wI sh_lengths (zK C).2.1 4 len] [(0, .ref sh), (1, .int (zI (sheet))), (2, .int (zI (sort))), (3, .int (zI (many)))] 4 [.int (zI (r_1))]
  refine z_ifne hC 8 dX5_lay_4 (by decide) (by omega) (fun c_3 => ?_) (fun c_3 => by exfalso; omega)
  refine z_aload_n hC 0 dX5_lay_8 rfl rfl ?_
  refine z_get hC (T := TX5) (N := 3) hinX5 0 1 dX5_lay_9 rfl rfl (by decide) (List.mem_of_getElem? (i := 1) rfl) rfl rfl ?_
  refine z_iload_n hC 1 dX5_lay_12 rfl rfl ?_
  refine z_iload_n hC 2 dX5_lay_13 rfl rfl ?_
  refine z_iast hC 2 [wO sh 5 [.ref sh_numbers, .ref sh_sorts, .ref sh_lengths], wI sh_numbers (zK C).2.1 256 nu, wI sh_sorts (zK C).2.1 4 (zu so sheet sort), wI sh_lengths (zK C).2.1 4 len] dX5_lay_14 rfl (by omega) rfl ?_
  refine z_aload_n hC 0 dX5_lay_15 rfl rfl ?_
  refine z_get hC (T := TX5) (N := 3) hinX5 0 2 dX5_lay_16 rfl rfl (by decide) (List.mem_of_getElem? (i := 2) rfl) rfl rfl ?_
  refine z_iload_n hC 1 dX5_lay_19 rfl rfl ?_
  refine z_iload_n hC 3 dX5_lay_20 rfl rfl ?_
  refine z_iast hC 3 [wO sh 5 [.ref sh_numbers, .ref sh_sorts, .ref sh_lengths], wI sh_numbers (zK C).2.1 256 nu, wI sh_sorts (zK C).2.1 4 (zu so sheet sort), wI sh_lengths (zK C).2.1 4 (zu len sheet many)] dX5_lay_21 rfl (by omega) rfl ?_
  refine z_iconst hC dX5_lay_22 ?_
  refine z_istore hC [(4, .int (zI (0))), (0, .ref sh), (1, .int (zI (sheet))), (2, .int (zI (sort))), (3, .int (zI (many)))] dX5_lay_23 (by decide) rfl ?_
  refine z_lv (lv' := [(0, .ref sh), (1, .int (zI (sheet))), (2, .int (zI (sort))), (3, .int (zI (many))), (4, .int (zI (0)))]) [1, 2, 3, 4, 0] rfl ?_
  have lp25_4 : ∀ (f6 : Nat) (i : Int) (g : Int → Int), (0 ≤ i ∧ i ≤ 64) → (∀ j, g j = if sheet * 64 ≤ j ∧ j < sheet * 64 + i then 0 else nu j) → (64 - i).toNat < f6 → ZW C 0 0 [wO sh 5 [.ref sh_numbers, .ref sh_sorts, .ref sh_lengths], wI sh_numbers (zK C).2.1 256 g, wI sh_sorts (zK C).2.1 4 (zu so sheet sort), wI sh_lengths (zK C).2.1 4 (zu len sheet many)] [(0, .ref sh), (1, .int (zI (sheet))), (2, .int (zI (sort))), (3, .int (zI (many))), (4, .int (zI (i)))] 25 [] := by
    intro f6
    induction f6 with
    | zero => intro _ _ _ _ hf; exact absurd hf (Nat.not_lt_zero _)
    | succ f6 ih25_5 =>
      intro i g vi vg hf_25
      refine z_iload hC 4 dX5_lay_25 rfl ?_
      refine z_bipush hC dX5_lay_27 (by decide) ?_
      refine z_icge hC 51 dX5_lay_29 (by decide) (by omega) (fun c_7 => ?_) (fun c_7 => ?_)
      · skip
        exact z_vret hC hR dX5_lay_51 (Nat.le_of_ble_eq_true rfl) (Nat.le_of_ble_eq_true rfl) ⟨g, rfl, rfl, by intro j; rw [vg j, show i = 64 by omega]⟩
      · skip
        refine z_aload_n hC 0 dX5_lay_32 rfl rfl ?_
        refine z_get hC (T := TX5) (N := 3) hinX5 0 0 dX5_lay_33 rfl rfl (by decide) (List.mem_of_getElem? (i := 3) rfl) rfl rfl ?_
        refine z_iload_n hC 1 dX5_lay_36 rfl rfl ?_
        refine z_bipush hC dX5_lay_37 (by decide) ?_
        refine z_imul hC (sheet * 64) dX5_lay_39 rfl ?_
        refine z_iload hC 4 dX5_lay_40 rfl ?_
        refine z_iadd hC ((sheet * 64) + i) dX5_lay_42 rfl ?_
        refine z_iconst hC dX5_lay_43 ?_
        refine z_iast hC 1 [wO sh 5 [.ref sh_numbers, .ref sh_sorts, .ref sh_lengths], wI sh_numbers (zK C).2.1 256 (zu g ((sheet * 64) + i) 0), wI sh_sorts (zK C).2.1 4 (zu so sheet sort), wI sh_lengths (zK C).2.1 4 (zu len sheet many)] dX5_lay_44 rfl (by omega) rfl ?_
        refine z_iinc (a := i) (v := 1) (r := i + 1) hC 4 [(4, .int (zI (i + 1))), (0, .ref sh), (1, .int (zI (sheet))), (2, .int (zI (sort))), (3, .int (zI (many)))] dX5_lay_45 rfl rfl (by decide) rfl ?_
        refine z_goto hC 25 dX5_lay_48 (by decide) ?_
        refine z_lv (lv' := [(0, .ref sh), (1, .int (zI (sheet))), (2, .int (zI (sort))), (3, .int (zI (many))), (4, .int (zI (i + 1)))]) [1, 2, 3, 4, 0] rfl ?_
        exact ih25_5 (i + 1) (zu g ((sheet * 64) + i) 0) (by omega) (by intro j; unfold zu; by_cases e : j = sheet * 64 + i; (rw [if_pos e, if_pos (by omega)]); (rw [if_neg e, vg j]; by_cases q : sheet * 64 ≤ j ∧ j < sheet * 64 + i; (rw [if_pos q, if_pos (by omega)]); (rw [if_neg q, if_neg (by omega)]))) (by omega)
  exact lp25_4 _ 0 nu (by omega) (by intro j; rw [if_neg (by omega)]) (Nat.lt_succ_self _)

set_option maxHeartbeats 4000000 in
set_option maxRecDepth 100000 in
theorem c_X5_put (l : Launch) (D : va_G) (K : ClassId × ClassId × ClassId × ClassId) (sh sh_numbers sh_sorts sh_lengths : Nat) (sheet place v : Int) (nu so len : Int → Int) (hsheet : zR sheet) (hplace : zR place) (hlen : ∀ j, 0 ≤ j → j < 4 → -1 ≤ len j ∧ len j ≤ 64) (hso : ∀ j, 0 ≤ j → j < 4 → 0 ≤ so j ∧ so j ≤ 2) : zMet l D K yX5_put wsX5_put ({ frames := 2, cells := 0, slots := 0, locals := 43 }) 0 0 [.ref sh, .int (zI (sheet)), .int (zI (place)), .int (zI (v))] [wO sh 5 [.ref sh_numbers, .ref sh_sorts, .ref sh_lengths], wI sh_numbers K.2.1 256 nu, wI sh_sorts K.2.1 4 so, wI sh_lengths K.2.1 4 len] (fun vr_ wr_ => ∃ (nu2 : Int → Int), vr_ = none ∧ wr_ = [wO sh 5 [.ref sh_numbers, .ref sh_sorts, .ref sh_lengths], wI sh_numbers K.2.1 256 nu2, wI sh_sorts K.2.1 4 so, wI sh_lengths K.2.1 4 len] ∧ (((0 ≤ sheet ∧ sheet < 4 ∧ 0 ≤ place ∧ place < len sheet) → nu2 = zu nu (sheet * 64 + place) (cutA (so sheet) v)) ∧ (¬ (0 ≤ sheet ∧ sheet < 4 ∧ 0 ≤ place ∧ place < len sheet) → nu2 = nu))) := by
  refine zMet_of (cc := cX5_put) (nL := 5) (ret := none) (by decide) rfl (Nat.le_of_ble_eq_true rfl) ?_
  rintro C rfl rfl rfl hC hR
  have hinX5 : ∀ w ∈ u_ws RX5 TX5 3, w ∈ wsX5_put := by decide +kernel
  have hl9 := hlen sheet
  show ZW C 0 0 [wO sh 5 [.ref sh_numbers, .ref sh_sorts, .ref sh_lengths], wI sh_numbers (zK C).2.1 256 nu, wI sh_sorts (zK C).2.1 4 so, wI sh_lengths (zK C).2.1 4 len] [(0, .ref sh), (1, .int (zI (sheet))), (2, .int (zI (place))), (3, .int (zI (v)))] 0 []
  refine z_aload_n hC 0 dX5_put_0 rfl rfl ?_
  refine z_iload_n hC 1 dX5_put_1 rfl rfl ?_
  refine z_iload_n hC 2 dX5_put_2 rfl rfl ?_
  refine z_iconst hC dX5_put_3 ?_
  refine z_callV hC [.int (zI (sheet)), .int (zI (place)), .int (zI (1))] 3 0 dX5_put_4 (c_X5_holds (zl C) (zD C) (zK C) sh sh_numbers sh_sorts sh_lengths sheet place 1 len (by first | assumption | omega) (by first | assumption | omega) (by first | assumption | omega) (by first | assumption | omega)) gX5_put_X5_holds rfl rfl rfl ⟨by decide, by decide, by decide +kernel⟩ ⟨(Nat.le_of_ble_eq_true rfl), (Nat.le_of_ble_eq_true rfl)⟩ rfl rfl rfl rfl [0, 3] [1, 2] [wI sh_numbers (zK C).2.1 256 nu, wI sh_sorts (zK C).2.1 4 so] [] rfl rfl rfl rfl rfl (by decide) (Nat.le_of_ble_eq_true rfl) ⟨(Nat.le_of_ble_eq_true rfl), (Nat.le_of_ble_eq_true rfl)⟩ ?_
  rintro v_ w_ ⟨r_1, rfl, rfl, h_4_2⟩
  show ZW C 0 0 [wI sh_numbers (zK C).2.1 256 nu, wI sh_sorts (zK C).2.1 4 so, wO sh 5 [.ref sh_numbers, .ref sh_sorts, .ref sh_lengths], wI sh_lengths (zK C).2.1 4 len] [(0, .ref sh), (1, .int (zI (sheet))), (2, .int (zI (place))), (3, .int (zI (v)))] 7 [.int (zI (r_1))]
  refine z_ifne hC 11 dX5_put_7 (by decide) (by omega) (fun c_3 => ?_) (fun c_3 => ?_)
  · skip
    refine z_iload_n hC 3 dX5_put_11 rfl rfl ?_
    refine z_istore hC [(4, .int (zI (v))), (0, .ref sh), (1, .int (zI (sheet))), (2, .int (zI (place))), (3, .int (zI (v)))] dX5_put_12 (by decide) rfl ?_
    refine z_aload_n hC 1 dX5_put_14 rfl rfl ?_
    refine z_get hC (T := TX5) (N := 3) hinX5 2 1 dX5_put_15 rfl rfl (by decide) (List.mem_of_getElem? (i := 1) rfl) rfl rfl ?_
    refine z_iload_n hC 2 dX5_put_18 rfl rfl ?_
    refine z_iald hC 1 dX5_put_19 rfl (by omega) ?_
    have l_4 := hso sheet (by omega) (by omega)
    refine z_ifne hC 30 dX5_put_20 (by decide) (by omega) (fun c_5 => ?_) (fun c_5 => ?_)
    · skip
      refine z_aload_n hC 1 dX5_put_30 rfl rfl ?_
      refine z_get hC (T := TX5) (N := 3) hinX5 2 1 dX5_put_31 rfl rfl (by decide) (List.mem_of_getElem? (i := 1) rfl) rfl rfl ?_
      refine z_iload_n hC 2 dX5_put_34 rfl rfl ?_
      refine z_iald hC 1 dX5_put_35 rfl (by omega) ?_
      have l_6 := hso sheet (by omega) (by omega)
      refine z_iconst hC dX5_put_36 ?_
      refine z_icne hC 44 dX5_put_37 (by decide) (by omega) (fun c_7 => ?_) (fun c_7 => ?_)
      · skip
        refine z_aload_n hC 1 dX5_put_44 rfl rfl ?_
        refine z_get hC (T := TX5) (N := 3) hinX5 2 0 dX5_put_45 rfl rfl (by decide) (List.mem_of_getElem? (i := 2) rfl) rfl rfl ?_
        refine z_iload_n hC 2 dX5_put_48 rfl rfl ?_
        refine z_bipush hC dX5_put_49 (by decide) ?_
        refine z_imul hC (sheet * 64) dX5_put_51 rfl ?_
        refine z_iload_n hC 3 dX5_put_52 rfl rfl ?_
        refine z_iadd hC ((sheet * 64) + place) dX5_put_53 rfl ?_
        refine z_iload hC 0 dX5_put_54 rfl ?_
        refine z_iast hC 0 [wI sh_numbers (zK C).2.1 256 (zu nu ((sheet * 64) + place) v), wI sh_sorts (zK C).2.1 4 so, wO sh 5 [.ref sh_numbers, .ref sh_sorts, .ref sh_lengths], wI sh_lengths (zK C).2.1 4 len] dX5_put_56 rfl (by omega) rfl ?_
        refine z_ws (ws' := [wO sh 5 [.ref sh_numbers, .ref sh_sorts, .ref sh_lengths], wI sh_numbers (zK C).2.1 256 (zu nu ((sheet * 64) + place) v), wI sh_sorts (zK C).2.1 4 so, wI sh_lengths (zK C).2.1 4 len]) [2, 0, 1, 3] rfl rfl ?_
        exact z_vret hC hR dX5_put_57 (Nat.le_of_ble_eq_true rfl) (Nat.le_of_ble_eq_true rfl) ⟨zu nu ((sheet * 64) + place) v, rfl, rfl, by first | exact ⟨fun h => by exfalso; omega, fun _ => rfl⟩ | (refine ⟨fun _ => ?_, fun h => by exfalso; exact h (by omega)⟩; unfold cutA; congr 1; (repeat' split) <;> first | rfl | omega) | omega⟩
      · skip
        refine z_iload_n hC 4 dX5_put_40 rfl rfl ?_
        refine z_i2sw hC dX5_put_41 ?_
        refine z_istore hC [(4, .int (zI (cutS v))), (0, .ref sh), (1, .int (zI (sheet))), (2, .int (zI (place))), (3, .int (zI (v)))] dX5_put_42 (by decide) rfl ?_
        refine z_aload_n hC 1 dX5_put_44 rfl rfl ?_
        refine z_get hC (T := TX5) (N := 3) hinX5 2 0 dX5_put_45 rfl rfl (by decide) (List.mem_of_getElem? (i := 2) rfl) rfl rfl ?_
        refine z_iload_n hC 2 dX5_put_48 rfl rfl ?_
        refine z_bipush hC dX5_put_49 (by decide) ?_
        refine z_imul hC (sheet * 64) dX5_put_51 rfl ?_
        refine z_iload_n hC 3 dX5_put_52 rfl rfl ?_
        refine z_iadd hC ((sheet * 64) + place) dX5_put_53 rfl ?_
        refine z_iload hC 0 dX5_put_54 rfl ?_
        refine z_iast hC 0 [wI sh_numbers (zK C).2.1 256 (zu nu ((sheet * 64) + place) (cutS v)), wI sh_sorts (zK C).2.1 4 so, wO sh 5 [.ref sh_numbers, .ref sh_sorts, .ref sh_lengths], wI sh_lengths (zK C).2.1 4 len] dX5_put_56 rfl (by omega) rfl ?_
        refine z_ws (ws' := [wO sh 5 [.ref sh_numbers, .ref sh_sorts, .ref sh_lengths], wI sh_numbers (zK C).2.1 256 (zu nu ((sheet * 64) + place) (cutS v)), wI sh_sorts (zK C).2.1 4 so, wI sh_lengths (zK C).2.1 4 len]) [2, 0, 1, 3] rfl rfl ?_
        exact z_vret hC hR dX5_put_57 (Nat.le_of_ble_eq_true rfl) (Nat.le_of_ble_eq_true rfl) ⟨zu nu ((sheet * 64) + place) (cutS v), rfl, rfl, by first | exact ⟨fun h => by exfalso; omega, fun _ => rfl⟩ | (refine ⟨fun _ => ?_, fun h => by exfalso; exact h (by omega)⟩; unfold cutA; congr 1; (repeat' split) <;> first | rfl | omega) | omega⟩
    · skip
      refine z_iload_n hC 4 dX5_put_23 rfl rfl ?_
      refine z_i2bw hC dX5_put_24 ?_
      refine z_istore hC [(4, .int (zI (cutB v))), (0, .ref sh), (1, .int (zI (sheet))), (2, .int (zI (place))), (3, .int (zI (v)))] dX5_put_25 (by decide) rfl ?_
      refine z_goto hC 44 dX5_put_27 (by decide) ?_
      refine z_aload_n hC 1 dX5_put_44 rfl rfl ?_
      refine z_get hC (T := TX5) (N := 3) hinX5 2 0 dX5_put_45 rfl rfl (by decide) (List.mem_of_getElem? (i := 2) rfl) rfl rfl ?_
      refine z_iload_n hC 2 dX5_put_48 rfl rfl ?_
      refine z_bipush hC dX5_put_49 (by decide) ?_
      refine z_imul hC (sheet * 64) dX5_put_51 rfl ?_
      refine z_iload_n hC 3 dX5_put_52 rfl rfl ?_
      refine z_iadd hC ((sheet * 64) + place) dX5_put_53 rfl ?_
      refine z_iload hC 0 dX5_put_54 rfl ?_
      refine z_iast hC 0 [wI sh_numbers (zK C).2.1 256 (zu nu ((sheet * 64) + place) (cutB v)), wI sh_sorts (zK C).2.1 4 so, wO sh 5 [.ref sh_numbers, .ref sh_sorts, .ref sh_lengths], wI sh_lengths (zK C).2.1 4 len] dX5_put_56 rfl (by omega) rfl ?_
      refine z_ws (ws' := [wO sh 5 [.ref sh_numbers, .ref sh_sorts, .ref sh_lengths], wI sh_numbers (zK C).2.1 256 (zu nu ((sheet * 64) + place) (cutB v)), wI sh_sorts (zK C).2.1 4 so, wI sh_lengths (zK C).2.1 4 len]) [2, 0, 1, 3] rfl rfl ?_
      exact z_vret hC hR dX5_put_57 (Nat.le_of_ble_eq_true rfl) (Nat.le_of_ble_eq_true rfl) ⟨zu nu ((sheet * 64) + place) (cutB v), rfl, rfl, by first | exact ⟨fun h => by exfalso; omega, fun _ => rfl⟩ | (refine ⟨fun _ => ?_, fun h => by exfalso; exact h (by omega)⟩; unfold cutA; congr 1; (repeat' split) <;> first | rfl | omega) | omega⟩
  · skip
    refine z_ws (ws' := [wO sh 5 [.ref sh_numbers, .ref sh_sorts, .ref sh_lengths], wI sh_numbers (zK C).2.1 256 nu, wI sh_sorts (zK C).2.1 4 so, wI sh_lengths (zK C).2.1 4 len]) [2, 0, 1, 3] rfl rfl ?_
    exact z_vret hC hR dX5_put_10 (Nat.le_of_ble_eq_true rfl) (Nat.le_of_ble_eq_true rfl) ⟨nu, rfl, rfl, by first | exact ⟨fun h => by exfalso; omega, fun _ => rfl⟩ | (refine ⟨fun _ => ?_, fun h => by exfalso; exact h (by omega)⟩; unfold cutA; congr 1; (repeat' split) <;> first | rfl | omega) | omega⟩

set_option maxHeartbeats 4000000 in
set_option maxRecDepth 100000 in
theorem c_X5_move (l : Launch) (D : va_G) (K : ClassId × ClassId × ClassId × ClassId) (sh sh_numbers sh_sorts sh_lengths : Nat) (sheet i to j many : Int) (nu len : Int → Int) (hsheet : zR sheet) (hi : zR i) (hto : zR to) (hj : zR j) (hmany : zR many) (hlen : ∀ j, 0 ≤ j → j < 4 → -1 ≤ len j ∧ len j ≤ 64) : zMet l D K yX5_move wsX5_move ({ frames := 2, cells := 0, slots := 0, locals := 43 }) 0 0 [.ref sh, .int (zI (sheet)), .int (zI (i)), .int (zI (to)), .int (zI (j)), .int (zI (many))] [wO sh 5 [.ref sh_numbers, .ref sh_sorts, .ref sh_lengths], wI sh_numbers K.2.1 256 nu, wI sh_lengths K.2.1 4 len] (fun vr_ wr_ => ∃ (nu2 : Int → Int), vr_ = none ∧ wr_ = [wO sh 5 [.ref sh_numbers, .ref sh_sorts, .ref sh_lengths], wI sh_numbers K.2.1 256 nu2, wI sh_lengths K.2.1 4 len] ∧ ((((0 ≤ sheet ∧ sheet < 4 ∧ 0 ≤ i ∧ 0 ≤ many ∧ i + many ≤ len sheet) ∧ (0 ≤ to ∧ to < 4 ∧ 0 ≤ j ∧ 0 ≤ many ∧ j + many ≤ len to)) → nu2 = zmv nu (sheet * 64 + i) (to * 64 + j) many) ∧ (¬ ((0 ≤ sheet ∧ sheet < 4 ∧ 0 ≤ i ∧ 0 ≤ many ∧ i + many ≤ len sheet) ∧ (0 ≤ to ∧ to < 4 ∧ 0 ≤ j ∧ 0 ≤ many ∧ j + many ≤ len to)) → nu2 = nu))) := by
  refine zMet_of (cc := cX5_move) (nL := 6) (ret := none) (by decide) rfl (Nat.le_of_ble_eq_true rfl) ?_
  rintro C rfl rfl rfl hC hR
  have hinX5 : ∀ w ∈ u_ws RX5 TX5 3, w ∈ wsX5_move := by decide +kernel
  have hl9 := hlen sheet
  have hl8 := hlen to
  show ZW C 0 0 [wO sh 5 [.ref sh_numbers, .ref sh_sorts, .ref sh_lengths], wI sh_numbers (zK C).2.1 256 nu, wI sh_lengths (zK C).2.1 4 len] [(0, .ref sh), (1, .int (zI (sheet))), (2, .int (zI (i))), (3, .int (zI (to))), (4, .int (zI (j))), (5, .int (zI (many)))] 0 []
  refine z_aload_n hC 0 dX5_move_0 rfl rfl ?_
  refine z_iload_n hC 1 dX5_move_1 rfl rfl ?_
  refine z_iload_n hC 2 dX5_move_2 rfl rfl ?_
  refine z_iload hC 5 dX5_move_3 rfl ?_
  refine z_callV hC [.int (zI (sheet)), .int (zI (i)), .int (zI (many))] 3 0 dX5_move_5 (c_X5_holds (zl C) (zD C) (zK C) sh sh_numbers sh_sorts sh_lengths sheet i many len (by first | assumption | omega) (by first | assumption | omega) (by first | assumption | omega) (by first | assumption | omega)) gX5_move_X5_holds rfl rfl rfl ⟨by decide, by decide, by decide +kernel⟩ ⟨(Nat.le_of_ble_eq_true rfl), (Nat.le_of_ble_eq_true rfl)⟩ rfl rfl rfl rfl [0, 2] [1] [wI sh_numbers (zK C).2.1 256 nu] [] rfl rfl rfl rfl rfl (by decide) (Nat.le_of_ble_eq_true rfl) ⟨(Nat.le_of_ble_eq_true rfl), (Nat.le_of_ble_eq_true rfl)⟩ ?_
  rintro v_ w_ ⟨r_1, rfl, rfl, h_5_2⟩
  show ZW C 0 0 [wI sh_numbers (zK C).2.1 256 nu, wO sh 5 [.ref sh_numbers, .ref sh_sorts, .ref sh_lengths], wI sh_lengths (zK C).2.1 4 len] [(0, .ref sh), (1, .int (zI (sheet))), (2, .int (zI (i))), (3, .int (zI (to))), (4, .int (zI (j))), (5, .int (zI (many)))] 8 [.int (zI (r_1))]
  refine z_ifeq hC 49 dX5_move_8 (by decide) (by omega) (fun c_3 => ?_) (fun c_3 => ?_)
  · skip
    refine z_ws (ws' := [wO sh 5 [.ref sh_numbers, .ref sh_sorts, .ref sh_lengths], wI sh_numbers (zK C).2.1 256 nu, wI sh_lengths (zK C).2.1 4 len]) [1, 0, 2] rfl rfl ?_
    exact z_vret hC hR dX5_move_49 (Nat.le_of_ble_eq_true rfl) (Nat.le_of_ble_eq_true rfl) ⟨nu, rfl, rfl, by first | exact ⟨fun h => by exfalso; omega, fun _ => rfl⟩ | exact ⟨fun _ => rfl, fun h => by exfalso; exact h (by omega)⟩ | omega⟩
  · skip
    refine z_aload_n hC 0 dX5_move_11 rfl rfl ?_
    refine z_iload_n hC 3 dX5_move_12 rfl rfl ?_
    refine z_iload hC 4 dX5_move_13 rfl ?_
    refine z_iload hC 5 dX5_move_15 rfl ?_
    refine z_callV hC [.int (zI (to)), .int (zI (j)), .int (zI (many))] 3 0 dX5_move_17 (c_X5_holds (zl C) (zD C) (zK C) sh sh_numbers sh_sorts sh_lengths to j many len (by first | assumption | omega) (by first | assumption | omega) (by first | assumption | omega) (by first | assumption | omega)) gX5_move_X5_holds rfl rfl rfl ⟨by decide, by decide, by decide +kernel⟩ ⟨(Nat.le_of_ble_eq_true rfl), (Nat.le_of_ble_eq_true rfl)⟩ rfl rfl rfl rfl [1, 2] [0] [wI sh_numbers (zK C).2.1 256 nu] [] rfl rfl rfl rfl rfl (by decide) (Nat.le_of_ble_eq_true rfl) ⟨(Nat.le_of_ble_eq_true rfl), (Nat.le_of_ble_eq_true rfl)⟩ ?_
    rintro v_ w_ ⟨r_4, rfl, rfl, h_17_5⟩
    show ZW C 0 0 [wI sh_numbers (zK C).2.1 256 nu, wO sh 5 [.ref sh_numbers, .ref sh_sorts, .ref sh_lengths], wI sh_lengths (zK C).2.1 4 len] [(0, .ref sh), (1, .int (zI (sheet))), (2, .int (zI (i))), (3, .int (zI (to))), (4, .int (zI (j))), (5, .int (zI (many)))] 20 [.int (zI (r_4))]
    refine z_ifeq hC 49 dX5_move_20 (by decide) (by omega) (fun c_6 => ?_) (fun c_6 => ?_)
    · skip
      refine z_ws (ws' := [wO sh 5 [.ref sh_numbers, .ref sh_sorts, .ref sh_lengths], wI sh_numbers (zK C).2.1 256 nu, wI sh_lengths (zK C).2.1 4 len]) [1, 0, 2] rfl rfl ?_
      exact z_vret hC hR dX5_move_49 (Nat.le_of_ble_eq_true rfl) (Nat.le_of_ble_eq_true rfl) ⟨nu, rfl, rfl, by first | exact ⟨fun h => by exfalso; omega, fun _ => rfl⟩ | exact ⟨fun _ => rfl, fun h => by exfalso; exact h (by omega)⟩ | omega⟩
    · skip
      refine z_aload_n hC 0 dX5_move_23 rfl rfl ?_
      refine z_get hC (T := TX5) (N := 3) hinX5 1 0 dX5_move_24 rfl rfl (by decide) (List.mem_of_getElem? (i := 1) rfl) rfl rfl ?_
      refine z_iload_n hC 1 dX5_move_27 rfl rfl ?_
      refine z_bipush hC dX5_move_28 (by decide) ?_
      refine z_imul hC (sheet * 64) dX5_move_30 rfl ?_
      refine z_iload_n hC 2 dX5_move_31 rfl rfl ?_
      refine z_iadd hC ((sheet * 64) + i) dX5_move_32 rfl ?_
      refine z_aload_n hC 0 dX5_move_33 rfl rfl ?_
      refine z_get hC (T := TX5) (N := 3) hinX5 1 0 dX5_move_34 rfl rfl (by decide) (List.mem_of_getElem? (i := 1) rfl) rfl rfl ?_
      refine z_iload_n hC 3 dX5_move_37 rfl rfl ?_
      refine z_bipush hC dX5_move_38 (by decide) ?_
      refine z_imul hC (to * 64) dX5_move_40 rfl ?_
      refine z_iload hC 4 dX5_move_41 rfl ?_
      refine z_iadd hC ((to * 64) + j) dX5_move_43 rfl ?_
      refine z_iload hC 5 dX5_move_44 rfl ?_
      refine z_copyi hC 0 [wI sh_numbers (zK C).2.1 256 (zmv nu ((sheet * 64) + i) ((to * 64) + j) many), wO sh 5 [.ref sh_numbers, .ref sh_sorts, .ref sh_lengths], wI sh_lengths (zK C).2.1 4 len] dX5_move_46 (List.mem_of_getElem? (i := 2) rfl) (List.mem_of_getElem? (i := 3) rfl) (List.mem_of_getElem? (i := 4) rfl) (List.mem_of_getElem? (i := 5) rfl) rfl (by omega) (Nat.le_of_ble_eq_true rfl) (Nat.le_of_ble_eq_true rfl) rfl ?_
      refine z_ws (ws' := [wO sh 5 [.ref sh_numbers, .ref sh_sorts, .ref sh_lengths], wI sh_numbers (zK C).2.1 256 (zmv nu ((sheet * 64) + i) ((to * 64) + j) many), wI sh_lengths (zK C).2.1 4 len]) [1, 0, 2] rfl rfl ?_
      exact z_vret hC hR dX5_move_49 (Nat.le_of_ble_eq_true rfl) (Nat.le_of_ble_eq_true rfl) ⟨zmv nu ((sheet * 64) + i) ((to * 64) + j) many, rfl, rfl, by first | exact ⟨fun h => by exfalso; omega, fun _ => rfl⟩ | exact ⟨fun _ => rfl, fun h => by exfalso; exact h (by omega)⟩ | omega⟩

set_option maxHeartbeats 4000000 in
set_option maxRecDepth 100000 in
theorem c_X8_sheetFault (l : Launch) (D : va_G) (K : ClassId × ClassId × ClassId × ClassId) (x sh x_plane x_kin x_heights x_levels x_words x_shown x_powers sh_numbers sh_sorts sh_lengths : Nat) (sheet x_shownCount x_status : Int) (len : Int → Int) (x_ways x_weigher : Value) (hsheet : zR sheet) (hlen : ∀ j, 0 ≤ j → j < 4 → -1 ≤ len j ∧ len j ≤ 64) : zMet l D K yX8_sheetFault wsX8_sheetFault ({ frames := 2, cells := 0, slots := 0, locals := 41 }) 0 0 [.ref x, .int (zI (sheet))] [wO x 8 [.ref sh, .ref x_plane, .ref x_kin, .ref x_heights, .ref x_levels, .ref x_words, .ref x_shown, .ref x_powers, .int (zI (x_shownCount)), .int (zI (x_status)), x_ways, x_weigher], wO sh 5 [.ref sh_numbers, .ref sh_sorts, .ref sh_lengths], wI sh_lengths K.2.1 4 len] (fun vr_ wr_ => ∃ (r : Int), vr_ = some (.int (zI (r))) ∧ wr_ = [wO x 8 [.ref sh, .ref x_plane, .ref x_kin, .ref x_heights, .ref x_levels, .ref x_words, .ref x_shown, .ref x_powers, .int (zI (x_shownCount)), .int (zI (x_status)), x_ways, x_weigher], wO sh 5 [.ref sh_numbers, .ref sh_sorts, .ref sh_lengths], wI sh_lengths K.2.1 4 len] ∧ ((¬ (0 ≤ sheet ∧ sheet < 4) ∧ r = 1) ∨ ((0 ≤ sheet ∧ sheet < 4) ∧ len sheet < 0 ∧ r = 3) ∨ ((0 ≤ sheet ∧ sheet < 4) ∧ 0 ≤ len sheet ∧ r = 0))) := by
  refine zMet_of (cc := cX8_sheetFault) (nL := 2) (ret := (some .int)) (by decide) rfl (Nat.le_of_ble_eq_true rfl) ?_
  rintro C rfl rfl rfl hC hR
  have hinX8 : ∀ w ∈ u_ws RX8 TX8 12, w ∈ wsX8_sheetFault := by decide +kernel
  show ZW C 0 0 [wO x 8 [.ref sh, .ref x_plane, .ref x_kin, .ref x_heights, .ref x_levels, .ref x_words, .ref x_shown, .ref x_powers, .int (zI (x_shownCount)), .int (zI (x_status)), x_ways, x_weigher], wO sh 5 [.ref sh_numbers, .ref sh_sorts, .ref sh_lengths], wI sh_lengths (zK C).2.1 4 len] [(0, .ref x), (1, .int (zI (sheet)))] 0 []
  refine z_iload_n hC 1 dX8_sheetFault_0 rfl rfl ?_
  refine z_callS hC [.int (zI (sheet))] 1 dX8_sheetFault_1 (c_X5_known (zl C) (zD C) (zK C) sheet (by first | assumption | omega)) gX8_sheetFault_X5_known rfl rfl rfl ⟨by decide, by decide, by decide +kernel⟩ ⟨(Nat.le_of_ble_eq_true rfl), (Nat.le_of_ble_eq_true rfl)⟩ rfl [] [0, 1, 2] [wO x 8 [.ref sh, .ref x_plane, .ref x_kin, .ref x_heights, .ref x_levels, .ref x_words, .ref x_shown, .ref x_powers, .int (zI (x_shownCount)), .int (zI (x_status)), x_ways, x_weigher], wO sh 5 [.ref sh_numbers, .ref sh_sorts, .ref sh_lengths], wI sh_lengths (zK C).2.1 4 len] [] rfl rfl rfl rfl rfl (by decide) (Nat.le_of_ble_eq_true rfl) ⟨(Nat.le_of_ble_eq_true rfl), (Nat.le_of_ble_eq_true rfl)⟩ ?_
  rintro v_ w_ ⟨r_1, rfl, rfl, h_1_2⟩
  show ZW C 0 0 [wO x 8 [.ref sh, .ref x_plane, .ref x_kin, .ref x_heights, .ref x_levels, .ref x_words, .ref x_shown, .ref x_powers, .int (zI (x_shownCount)), .int (zI (x_status)), x_ways, x_weigher], wO sh 5 [.ref sh_numbers, .ref sh_sorts, .ref sh_lengths], wI sh_lengths (zK C).2.1 4 len] [(0, .ref x), (1, .int (zI (sheet)))] 4 [.int (zI (r_1))]
  refine z_ifne hC 9 dX8_sheetFault_4 (by decide) (by omega) (fun c_3 => ?_) (fun c_3 => ?_)
  · skip
    refine z_aload_n hC 0 dX8_sheetFault_9 rfl rfl ?_
    refine z_get hC (T := TX8) (N := 12) hinX8 0 0 dX8_sheetFault_10 rfl rfl (by decide) (List.mem_of_getElem? (i := 1) rfl) rfl rfl ?_
    refine z_iload_n hC 1 dX8_sheetFault_13 rfl rfl ?_
    refine z_callV hC [.int (zI (sheet))] 1 0 dX8_sheetFault_14 (c_X5_missing (zl C) (zD C) (zK C) sh sh_numbers sh_sorts sh_lengths sheet len (by first | assumption | omega) (by first | assumption | omega)) gX8_sheetFault_X5_missing rfl rfl rfl ⟨by decide, by decide, by decide +kernel⟩ ⟨(Nat.le_of_ble_eq_true rfl), (Nat.le_of_ble_eq_true rfl)⟩ rfl rfl rfl rfl [1, 2] [0] [wO x 8 [.ref sh, .ref x_plane, .ref x_kin, .ref x_heights, .ref x_levels, .ref x_words, .ref x_shown, .ref x_powers, .int (zI (x_shownCount)), .int (zI (x_status)), x_ways, x_weigher]] [] rfl rfl rfl rfl rfl (by decide) (Nat.le_of_ble_eq_true rfl) ⟨(Nat.le_of_ble_eq_true rfl), (Nat.le_of_ble_eq_true rfl)⟩ ?_
    rintro v_ w_ ⟨r_4, rfl, rfl, h_14_5⟩
    show ZW C 0 0 [wO x 8 [.ref sh, .ref x_plane, .ref x_kin, .ref x_heights, .ref x_levels, .ref x_words, .ref x_shown, .ref x_powers, .int (zI (x_shownCount)), .int (zI (x_status)), x_ways, x_weigher], wO sh 5 [.ref sh_numbers, .ref sh_sorts, .ref sh_lengths], wI sh_lengths (zK C).2.1 4 len] [(0, .ref x), (1, .int (zI (sheet)))] 17 [.int (zI (r_4))]
    refine z_ifeq hC 24 dX8_sheetFault_17 (by decide) (by omega) (fun c_6 => ?_) (fun c_6 => ?_)
    · skip
      refine z_iconst hC dX8_sheetFault_24 ?_
      exact z_iret hC hR dX8_sheetFault_25 (Nat.le_of_ble_eq_true rfl) (Nat.le_of_ble_eq_true rfl) ⟨0, rfl, rfl, by (first | (left; omega) | (right; left; omega) | (right; right; omega) | omega)⟩
    · skip
      refine z_iconst hC dX8_sheetFault_20 ?_
      refine z_goto hC 25 dX8_sheetFault_21 (by decide) ?_
      exact z_iret hC hR dX8_sheetFault_25 (Nat.le_of_ble_eq_true rfl) (Nat.le_of_ble_eq_true rfl) ⟨3, rfl, rfl, by (first | (left; omega) | (right; left; omega) | (right; right; omega) | omega)⟩
  · skip
    refine z_iconst hC dX8_sheetFault_7 ?_
    exact z_iret hC hR dX8_sheetFault_8 (Nat.le_of_ble_eq_true rfl) (Nat.le_of_ble_eq_true rfl) ⟨1, rfl, rfl, by (first | (left; omega) | (right; left; omega) | (right; right; omega) | omega)⟩

set_option maxHeartbeats 4000000 in
set_option maxRecDepth 100000 in
theorem c_X8_placeFault (l : Launch) (D : va_G) (K : ClassId × ClassId × ClassId × ClassId) (x sh x_plane x_kin x_heights x_levels x_words x_shown x_powers sh_numbers sh_sorts sh_lengths : Nat) (sheet place x_shownCount x_status : Int) (len : Int → Int) (x_ways x_weigher : Value) (hsheet : zR sheet) (hplace : zR place) (hlen : ∀ j, 0 ≤ j → j < 4 → -1 ≤ len j ∧ len j ≤ 64) : zMet l D K yX8_placeFault wsX8_placeFault ({ frames := 3, cells := 0, slots := 0, locals := 62 }) 0 0 [.ref x, .int (zI (sheet)), .int (zI (place))] [wO x 8 [.ref sh, .ref x_plane, .ref x_kin, .ref x_heights, .ref x_levels, .ref x_words, .ref x_shown, .ref x_powers, .int (zI (x_shownCount)), .int (zI (x_status)), x_ways, x_weigher], wO sh 5 [.ref sh_numbers, .ref sh_sorts, .ref sh_lengths], wI sh_lengths K.2.1 4 len] (fun vr_ wr_ => ∃ (r : Int), vr_ = some (.int (zI (r))) ∧ wr_ = [wO x 8 [.ref sh, .ref x_plane, .ref x_kin, .ref x_heights, .ref x_levels, .ref x_words, .ref x_shown, .ref x_powers, .int (zI (x_shownCount)), .int (zI (x_status)), x_ways, x_weigher], wO sh 5 [.ref sh_numbers, .ref sh_sorts, .ref sh_lengths], wI sh_lengths K.2.1 4 len] ∧ ((¬ (0 ≤ sheet ∧ sheet < 4) ∧ r = 1) ∨ ((0 ≤ sheet ∧ sheet < 4) ∧ len sheet < 0 ∧ r = 3) ∨ ((0 ≤ sheet ∧ sheet < 4) ∧ 0 ≤ len sheet ∧ ¬ (0 ≤ place ∧ place < len sheet) ∧ r = 4) ∨ ((0 ≤ sheet ∧ sheet < 4) ∧ 0 ≤ place ∧ place < len sheet ∧ r = 0))) := by
  refine zMet_of (cc := cX8_placeFault) (nL := 4) (ret := (some .int)) (by decide) rfl (Nat.le_of_ble_eq_true rfl) ?_
  rintro C rfl rfl rfl hC hR
  have hinX8 : ∀ w ∈ u_ws RX8 TX8 12, w ∈ wsX8_placeFault := by decide +kernel
  show ZW C 0 0 [wO x 8 [.ref sh, .ref x_plane, .ref x_kin, .ref x_heights, .ref x_levels, .ref x_words, .ref x_shown, .ref x_powers, .int (zI (x_shownCount)), .int (zI (x_status)), x_ways, x_weigher], wO sh 5 [.ref sh_numbers, .ref sh_sorts, .ref sh_lengths], wI sh_lengths (zK C).2.1 4 len] [(0, .ref x), (1, .int (zI (sheet))), (2, .int (zI (place)))] 0 []
  refine z_aload_n hC 0 dX8_placeFault_0 rfl rfl ?_
  refine z_iload_n hC 1 dX8_placeFault_1 rfl rfl ?_
  refine z_callV hC [.int (zI (sheet))] 1 0 dX8_placeFault_2 (c_X8_sheetFault (zl C) (zD C) (zK C) x sh x_plane x_kin x_heights x_levels x_words x_shown x_powers sh_numbers sh_sorts sh_lengths sheet x_shownCount x_status len x_ways x_weigher (by first | assumption | omega) (by first | assumption | omega)) gX8_placeFault_X8_sheetFault rfl rfl rfl ⟨by decide, by decide, by decide +kernel⟩ ⟨(Nat.le_of_ble_eq_true rfl), (Nat.le_of_ble_eq_true rfl)⟩ rfl rfl rfl rfl [0, 1, 2] [] [] [] rfl rfl rfl rfl rfl (by decide) (Nat.le_of_ble_eq_true rfl) ⟨(Nat.le_of_ble_eq_true rfl), (Nat.le_of_ble_eq_true rfl)⟩ ?_
  rintro v_ w_ ⟨r_1, rfl, rfl, h_2_2⟩
  show ZW C 0 0 [wO x 8 [.ref sh, .ref x_plane, .ref x_kin, .ref x_heights, .ref x_levels, .ref x_words, .ref x_shown, .ref x_powers, .int (zI (x_shownCount)), .int (zI (x_status)), x_ways, x_weigher], wO sh 5 [.ref sh_numbers, .ref sh_sorts, .ref sh_lengths], wI sh_lengths (zK C).2.1 4 len] [(0, .ref x), (1, .int (zI (sheet))), (2, .int (zI (place)))] 5 [.int (zI (r_1))]
  refine z_istore_n hC [(3, .int (zI (r_1))), (0, .ref x), (1, .int (zI (sheet))), (2, .int (zI (place)))] dX8_placeFault_5 rfl (by decide) rfl ?_
  refine z_iload_n hC 0 dX8_placeFault_6 rfl rfl ?_
  refine z_ifeq hC 12 dX8_placeFault_7 (by decide) (by omega) (fun c_3 => ?_) (fun c_3 => ?_)
  · skip
    refine z_aload_n hC 1 dX8_placeFault_12 rfl rfl ?_
    refine z_get hC (T := TX8) (N := 12) hinX8 0 0 dX8_placeFault_13 rfl rfl (by decide) (List.mem_of_getElem? (i := 1) rfl) rfl rfl ?_
    refine z_iload_n hC 2 dX8_placeFault_16 rfl rfl ?_
    refine z_iload_n hC 3 dX8_placeFault_17 rfl rfl ?_
    refine z_iconst hC dX8_placeFault_18 ?_
    refine z_callV hC [.int (zI (sheet)), .int (zI (place)), .int (zI (1))] 3 0 dX8_placeFault_19 (c_X5_holds (zl C) (zD C) (zK C) sh sh_numbers sh_sorts sh_lengths sheet place 1 len (by first | assumption | omega) (by first | assumption | omega) (by first | assumption | omega) (by first | assumption | omega)) gX8_placeFault_X5_holds rfl rfl rfl ⟨by decide, by decide, by decide +kernel⟩ ⟨(Nat.le_of_ble_eq_true rfl), (Nat.le_of_ble_eq_true rfl)⟩ rfl rfl rfl rfl [1, 2] [0] [wO x 8 [.ref sh, .ref x_plane, .ref x_kin, .ref x_heights, .ref x_levels, .ref x_words, .ref x_shown, .ref x_powers, .int (zI (x_shownCount)), .int (zI (x_status)), x_ways, x_weigher]] [] rfl rfl rfl rfl rfl (by decide) (Nat.le_of_ble_eq_true rfl) ⟨(Nat.le_of_ble_eq_true rfl), (Nat.le_of_ble_eq_true rfl)⟩ ?_
    rintro v_ w_ ⟨r_4, rfl, rfl, h_19_5⟩
    show ZW C 0 0 [wO x 8 [.ref sh, .ref x_plane, .ref x_kin, .ref x_heights, .ref x_levels, .ref x_words, .ref x_shown, .ref x_powers, .int (zI (x_shownCount)), .int (zI (x_status)), x_ways, x_weigher], wO sh 5 [.ref sh_numbers, .ref sh_sorts, .ref sh_lengths], wI sh_lengths (zK C).2.1 4 len] [(3, .int (zI (r_1))), (0, .ref x), (1, .int (zI (sheet))), (2, .int (zI (place)))] 22 [.int (zI (r_4))]
    refine z_ifeq hC 29 dX8_placeFault_22 (by decide) (by omega) (fun c_6 => ?_) (fun c_6 => ?_)
    · skip
      refine z_iconst hC dX8_placeFault_29 ?_
      exact z_iret hC hR dX8_placeFault_30 (Nat.le_of_ble_eq_true rfl) (Nat.le_of_ble_eq_true rfl) ⟨4, rfl, rfl, by (first | (left; omega) | (right; left; omega) | (right; right; left; omega) | (right; right; right; omega) | omega)⟩
    · skip
      refine z_iconst hC dX8_placeFault_25 ?_
      refine z_goto hC 30 dX8_placeFault_26 (by decide) ?_
      exact z_iret hC hR dX8_placeFault_30 (Nat.le_of_ble_eq_true rfl) (Nat.le_of_ble_eq_true rfl) ⟨0, rfl, rfl, by (first | (left; omega) | (right; left; omega) | (right; right; left; omega) | (right; right; right; omega) | omega)⟩
  · skip
    refine z_iload_n hC 0 dX8_placeFault_10 rfl rfl ?_
    exact z_iret hC hR dX8_placeFault_11 (Nat.le_of_ble_eq_true rfl) (Nat.le_of_ble_eq_true rfl) ⟨r_1, rfl, rfl, by (first | (left; omega) | (right; left; omega) | (right; right; left; omega) | (right; right; right; omega) | omega)⟩

set_option maxHeartbeats 4000000 in
set_option maxRecDepth 100000 in
theorem c_X8_rowFault (l : Launch) (D : va_G) (K : ClassId × ClassId × ClassId × ClassId) (x sh x_plane x_kin x_heights x_levels x_words x_shown x_powers sh_numbers sh_sorts sh_lengths : Nat) (sheet many most x_shownCount x_status : Int) (len : Int → Int) (x_ways x_weigher : Value) (hsheet : zR sheet) (hmany : zR many) (hmost : zR most) (hlen : ∀ j, 0 ≤ j → j < 4 → -1 ≤ len j ∧ len j ≤ 64) : zMet l D K yX8_rowFault wsX8_rowFault ({ frames := 2, cells := 0, slots := 0, locals := 43 }) 0 0 [.ref x, .int (zI (sheet)), .int (zI (many)), .int (zI (most))] [wO x 8 [.ref sh, .ref x_plane, .ref x_kin, .ref x_heights, .ref x_levels, .ref x_words, .ref x_shown, .ref x_powers, .int (zI (x_shownCount)), .int (zI (x_status)), x_ways, x_weigher], wO sh 5 [.ref sh_numbers, .ref sh_sorts, .ref sh_lengths], wI sh_lengths K.2.1 4 len] (fun vr_ wr_ => ∃ (r : Int), vr_ = some (.int (zI (r))) ∧ wr_ = [wO x 8 [.ref sh, .ref x_plane, .ref x_kin, .ref x_heights, .ref x_levels, .ref x_words, .ref x_shown, .ref x_powers, .int (zI (x_shownCount)), .int (zI (x_status)), x_ways, x_weigher], wO sh 5 [.ref sh_numbers, .ref sh_sorts, .ref sh_lengths], wI sh_lengths K.2.1 4 len] ∧ ((¬ (0 ≤ sheet ∧ sheet < 4) ∧ r = 1) ∨ ((0 ≤ sheet ∧ sheet < 4) ∧ ¬ (0 ≤ many ∧ many ≤ most) ∧ r = 2) ∨ ((0 ≤ sheet ∧ sheet < 4) ∧ 0 ≤ many ∧ many ≤ most ∧ len sheet < 0 ∧ r = 3) ∨ ((0 ≤ sheet ∧ sheet < 4) ∧ 0 ≤ many ∧ many ≤ most ∧ 0 ≤ len sheet ∧ len sheet < many ∧ r = 4) ∨ ((0 ≤ sheet ∧ sheet < 4) ∧ 0 ≤ many ∧ many ≤ most ∧ many ≤ len sheet ∧ r = 0))) := by
  refine zMet_of (cc := cX8_rowFault) (nL := 4) (ret := (some .int)) (by decide) rfl (Nat.le_of_ble_eq_true rfl) ?_
  rintro C rfl rfl rfl hC hR
  have hinX8 : ∀ w ∈ u_ws RX8 TX8 12, w ∈ wsX8_rowFault := by decide +kernel
  show ZW C 0 0 [wO x 8 [.ref sh, .ref x_plane, .ref x_kin, .ref x_heights, .ref x_levels, .ref x_words, .ref x_shown, .ref x_powers, .int (zI (x_shownCount)), .int (zI (x_status)), x_ways, x_weigher], wO sh 5 [.ref sh_numbers, .ref sh_sorts, .ref sh_lengths], wI sh_lengths (zK C).2.1 4 len] [(0, .ref x), (1, .int (zI (sheet))), (2, .int (zI (many))), (3, .int (zI (most)))] 0 []
  refine z_iload_n hC 1 dX8_rowFault_0 rfl rfl ?_
  refine z_callS hC [.int (zI (sheet))] 1 dX8_rowFault_1 (c_X5_known (zl C) (zD C) (zK C) sheet (by first | assumption | omega)) gX8_rowFault_X5_known rfl rfl rfl ⟨by decide, by decide, by decide +kernel⟩ ⟨(Nat.le_of_ble_eq_true rfl), (Nat.le_of_ble_eq_true rfl)⟩ rfl [] [0, 1, 2] [wO x 8 [.ref sh, .ref x_plane, .ref x_kin, .ref x_heights, .ref x_levels, .ref x_words, .ref x_shown, .ref x_powers, .int (zI (x_shownCount)), .int (zI (x_status)), x_ways, x_weigher], wO sh 5 [.ref sh_numbers, .ref sh_sorts, .ref sh_lengths], wI sh_lengths (zK C).2.1 4 len] [] rfl rfl rfl rfl rfl (by decide) (Nat.le_of_ble_eq_true rfl) ⟨(Nat.le_of_ble_eq_true rfl), (Nat.le_of_ble_eq_true rfl)⟩ ?_
  rintro v_ w_ ⟨r_1, rfl, rfl, h_1_2⟩
  show ZW C 0 0 [wO x 8 [.ref sh, .ref x_plane, .ref x_kin, .ref x_heights, .ref x_levels, .ref x_words, .ref x_shown, .ref x_powers, .int (zI (x_shownCount)), .int (zI (x_status)), x_ways, x_weigher], wO sh 5 [.ref sh_numbers, .ref sh_sorts, .ref sh_lengths], wI sh_lengths (zK C).2.1 4 len] [(0, .ref x), (1, .int (zI (sheet))), (2, .int (zI (many))), (3, .int (zI (most)))] 4 [.int (zI (r_1))]
  refine z_ifne hC 9 dX8_rowFault_4 (by decide) (by omega) (fun c_3 => ?_) (fun c_3 => ?_)
  · skip
    refine z_iload_n hC 2 dX8_rowFault_9 rfl rfl ?_
    refine z_iconst hC dX8_rowFault_10 ?_
    refine z_iload_n hC 3 dX8_rowFault_11 rfl rfl ?_
    refine z_callS hC [.int (zI (many)), .int (zI (0)), .int (zI (most))] 3 dX8_rowFault_12 (c_X8_within (zl C) (zD C) (zK C) many 0 most (by first | assumption | omega) (by first | assumption | omega) (by first | assumption | omega)) gX8_rowFault_X8_within rfl rfl rfl ⟨by decide, by decide, by decide +kernel⟩ ⟨(Nat.le_of_ble_eq_true rfl), (Nat.le_of_ble_eq_true rfl)⟩ rfl [] [0, 1, 2] [wO x 8 [.ref sh, .ref x_plane, .ref x_kin, .ref x_heights, .ref x_levels, .ref x_words, .ref x_shown, .ref x_powers, .int (zI (x_shownCount)), .int (zI (x_status)), x_ways, x_weigher], wO sh 5 [.ref sh_numbers, .ref sh_sorts, .ref sh_lengths], wI sh_lengths (zK C).2.1 4 len] [] rfl rfl rfl rfl rfl (by decide) (Nat.le_of_ble_eq_true rfl) ⟨(Nat.le_of_ble_eq_true rfl), (Nat.le_of_ble_eq_true rfl)⟩ ?_
    rintro v_ w_ ⟨r_4, rfl, rfl, h_12_5⟩
    show ZW C 0 0 [wO x 8 [.ref sh, .ref x_plane, .ref x_kin, .ref x_heights, .ref x_levels, .ref x_words, .ref x_shown, .ref x_powers, .int (zI (x_shownCount)), .int (zI (x_status)), x_ways, x_weigher], wO sh 5 [.ref sh_numbers, .ref sh_sorts, .ref sh_lengths], wI sh_lengths (zK C).2.1 4 len] [(0, .ref x), (1, .int (zI (sheet))), (2, .int (zI (many))), (3, .int (zI (most)))] 15 [.int (zI (r_4))]
    refine z_ifne hC 20 dX8_rowFault_15 (by decide) (by omega) (fun c_6 => ?_) (fun c_6 => ?_)
    · skip
      refine z_aload_n hC 0 dX8_rowFault_20 rfl rfl ?_
      refine z_get hC (T := TX8) (N := 12) hinX8 0 0 dX8_rowFault_21 rfl rfl (by decide) (List.mem_of_getElem? (i := 1) rfl) rfl rfl ?_
      refine z_iload_n hC 1 dX8_rowFault_24 rfl rfl ?_
      refine z_callV hC [.int (zI (sheet))] 1 0 dX8_rowFault_25 (c_X5_missing (zl C) (zD C) (zK C) sh sh_numbers sh_sorts sh_lengths sheet len (by first | assumption | omega) (by first | assumption | omega)) gX8_rowFault_X5_missing rfl rfl rfl ⟨by decide, by decide, by decide +kernel⟩ ⟨(Nat.le_of_ble_eq_true rfl), (Nat.le_of_ble_eq_true rfl)⟩ rfl rfl rfl rfl [1, 2] [0] [wO x 8 [.ref sh, .ref x_plane, .ref x_kin, .ref x_heights, .ref x_levels, .ref x_words, .ref x_shown, .ref x_powers, .int (zI (x_shownCount)), .int (zI (x_status)), x_ways, x_weigher]] [] rfl rfl rfl rfl rfl (by decide) (Nat.le_of_ble_eq_true rfl) ⟨(Nat.le_of_ble_eq_true rfl), (Nat.le_of_ble_eq_true rfl)⟩ ?_
      rintro v_ w_ ⟨r_7, rfl, rfl, h_25_8⟩
      show ZW C 0 0 [wO x 8 [.ref sh, .ref x_plane, .ref x_kin, .ref x_heights, .ref x_levels, .ref x_words, .ref x_shown, .ref x_powers, .int (zI (x_shownCount)), .int (zI (x_status)), x_ways, x_weigher], wO sh 5 [.ref sh_numbers, .ref sh_sorts, .ref sh_lengths], wI sh_lengths (zK C).2.1 4 len] [(0, .ref x), (1, .int (zI (sheet))), (2, .int (zI (many))), (3, .int (zI (most)))] 28 [.int (zI (r_7))]
      refine z_ifeq hC 33 dX8_rowFault_28 (by decide) (by omega) (fun c_9 => ?_) (fun c_9 => ?_)
      · skip
        refine z_aload_n hC 0 dX8_rowFault_33 rfl rfl ?_
        refine z_get hC (T := TX8) (N := 12) hinX8 0 0 dX8_rowFault_34 rfl rfl (by decide) (List.mem_of_getElem? (i := 1) rfl) rfl rfl ?_
        refine z_iload_n hC 1 dX8_rowFault_37 rfl rfl ?_
        refine z_iconst hC dX8_rowFault_38 ?_
        refine z_iload_n hC 2 dX8_rowFault_39 rfl rfl ?_
        refine z_callV hC [.int (zI (sheet)), .int (zI (0)), .int (zI (many))] 3 0 dX8_rowFault_40 (c_X5_holds (zl C) (zD C) (zK C) sh sh_numbers sh_sorts sh_lengths sheet 0 many len (by first | assumption | omega) (by first | assumption | omega) (by first | assumption | omega) (by first | assumption | omega)) gX8_rowFault_X5_holds rfl rfl rfl ⟨by decide, by decide, by decide +kernel⟩ ⟨(Nat.le_of_ble_eq_true rfl), (Nat.le_of_ble_eq_true rfl)⟩ rfl rfl rfl rfl [1, 2] [0] [wO x 8 [.ref sh, .ref x_plane, .ref x_kin, .ref x_heights, .ref x_levels, .ref x_words, .ref x_shown, .ref x_powers, .int (zI (x_shownCount)), .int (zI (x_status)), x_ways, x_weigher]] [] rfl rfl rfl rfl rfl (by decide) (Nat.le_of_ble_eq_true rfl) ⟨(Nat.le_of_ble_eq_true rfl), (Nat.le_of_ble_eq_true rfl)⟩ ?_
        rintro v_ w_ ⟨r_10, rfl, rfl, h_40_11⟩
        show ZW C 0 0 [wO x 8 [.ref sh, .ref x_plane, .ref x_kin, .ref x_heights, .ref x_levels, .ref x_words, .ref x_shown, .ref x_powers, .int (zI (x_shownCount)), .int (zI (x_status)), x_ways, x_weigher], wO sh 5 [.ref sh_numbers, .ref sh_sorts, .ref sh_lengths], wI sh_lengths (zK C).2.1 4 len] [(0, .ref x), (1, .int (zI (sheet))), (2, .int (zI (many))), (3, .int (zI (most)))] 43 [.int (zI (r_10))]
        refine z_ifeq hC 50 dX8_rowFault_43 (by decide) (by omega) (fun c_12 => ?_) (fun c_12 => ?_)
        · skip
          refine z_iconst hC dX8_rowFault_50 ?_
          exact z_iret hC hR dX8_rowFault_51 (Nat.le_of_ble_eq_true rfl) (Nat.le_of_ble_eq_true rfl) ⟨4, rfl, rfl, by (first | (left; omega) | (right; left; omega) | (right; right; left; omega) | (right; right; right; left; omega) | (right; right; right; right; omega) | omega)⟩
        · skip
          refine z_iconst hC dX8_rowFault_46 ?_
          refine z_goto hC 51 dX8_rowFault_47 (by decide) ?_
          exact z_iret hC hR dX8_rowFault_51 (Nat.le_of_ble_eq_true rfl) (Nat.le_of_ble_eq_true rfl) ⟨0, rfl, rfl, by (first | (left; omega) | (right; left; omega) | (right; right; left; omega) | (right; right; right; left; omega) | (right; right; right; right; omega) | omega)⟩
      · skip
        refine z_iconst hC dX8_rowFault_31 ?_
        exact z_iret hC hR dX8_rowFault_32 (Nat.le_of_ble_eq_true rfl) (Nat.le_of_ble_eq_true rfl) ⟨3, rfl, rfl, by (first | (left; omega) | (right; left; omega) | (right; right; left; omega) | (right; right; right; left; omega) | (right; right; right; right; omega) | omega)⟩
    · skip
      refine z_iconst hC dX8_rowFault_18 ?_
      exact z_iret hC hR dX8_rowFault_19 (Nat.le_of_ble_eq_true rfl) (Nat.le_of_ble_eq_true rfl) ⟨2, rfl, rfl, by (first | (left; omega) | (right; left; omega) | (right; right; left; omega) | (right; right; right; left; omega) | (right; right; right; right; omega) | omega)⟩
  · skip
    refine z_iconst hC dX8_rowFault_7 ?_
    exact z_iret hC hR dX8_rowFault_8 (Nat.le_of_ble_eq_true rfl) (Nat.le_of_ble_eq_true rfl) ⟨1, rfl, rfl, by (first | (left; omega) | (right; left; omega) | (right; right; left; omega) | (right; right; right; left; omega) | (right; right; right; right; omega) | omega)⟩
