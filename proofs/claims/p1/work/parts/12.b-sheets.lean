set_option maxHeartbeats 4000000 in
set_option maxRecDepth 100000 in
theorem c_X5_missing (l : Launch) (D : va_G) (K : ClassId × ClassId × ClassId × ClassId) (sh sh_numbers sh_sorts sh_lengths : Nat) (sheet : Int) (len : Int → Int) (hsheet : zR sheet) (hlen : ∀ j, 0 ≤ j → j < 4 → len j = -1) : zMet l D K yX5_missing wsX5_missing ({ frames := 1, cells := 0, slots := 0, locals := 20 }) 0 0 [.ref sh, .int (zI (sheet))] [wO sh 5 [.ref sh_numbers, .ref sh_sorts, .ref sh_lengths], wI sh_lengths K.2.1 4 len] (fun vr_ wr_ => ∃ (r : Int), vr_ = some (.int (zI (r))) ∧ wr_ = [wO sh 5 [.ref sh_numbers, .ref sh_sorts, .ref sh_lengths], wI sh_lengths K.2.1 4 len] ∧ (r = 1)) := by
  refine zMet_of (cc := cX5_missing) (nL := 2) (ret := (some .boolean)) (by decide) rfl (Nat.le_of_ble_eq_true rfl) ?_
  rintro C rfl rfl rfl hC hR
  have hinX5 : ∀ w ∈ u_ws RX5 TX5 3, w ∈ wsX5_missing := by decide +kernel
  show ZW C 0 0 [wO sh 5 [.ref sh_numbers, .ref sh_sorts, .ref sh_lengths], wI sh_lengths (zK C).2.1 4 len] [(0, .ref sh), (1, .int (zI (sheet)))] 0 []
  refine z_iload_n hC 1 dX5_missing_0 rfl rfl ?_
  refine z_callS hC [.int (zI (sheet))] 1 dX5_missing_1 (c_X5_known (zl C) (zD C) (zK C) sheet (by first | assumption | omega)) gX5_missing_X5_known rfl rfl rfl ⟨by decide, by decide, by decide +kernel⟩ ⟨(Nat.le_of_ble_eq_true rfl), (Nat.le_of_ble_eq_true rfl)⟩ rfl [] [0, 1] [wO sh 5 [.ref sh_numbers, .ref sh_sorts, .ref sh_lengths], wI sh_lengths (zK C).2.1 4 len] [] rfl rfl rfl rfl rfl (by decide) (Nat.le_of_ble_eq_true rfl) ⟨(Nat.le_of_ble_eq_true rfl), (Nat.le_of_ble_eq_true rfl)⟩ ?_
  rintro v_ w_ ⟨r_1, rfl, rfl, h_1_2⟩
  show ZW C 0 0 [wO sh 5 [.ref sh_numbers, .ref sh_sorts, .ref sh_lengths], wI sh_lengths (zK C).2.1 4 len] [(0, .ref sh), (1, .int (zI (sheet)))] 4 [.int (zI (r_1))]
  refine z_ifeq hC 16 dX5_missing_4 (by decide) (by omega) (fun c_3 => ?_) (fun c_3 => ?_)
  · skip
    refine z_iconst hC dX5_missing_16 ?_
    refine z_goto hC 21 dX5_missing_17 (by decide) ?_
    exact z_zret hC hR dX5_missing_21 (by omega) (Nat.le_of_ble_eq_true rfl) (Nat.le_of_ble_eq_true rfl) ⟨1, rfl, rfl, by omega⟩
  · skip
    refine z_aload_n hC 0 dX5_missing_7 rfl rfl ?_
    refine z_get hC (T := TX5) (N := 3) hinX5 0 2 dX5_missing_8 rfl rfl (by decide) (List.mem_of_getElem? (i := 1) rfl) rfl rfl ?_
    refine z_iload_n hC 1 dX5_missing_11 rfl rfl ?_
    refine z_iald hC 1 dX5_missing_12 rfl (by omega) ?_
    have l_4 := hlen sheet (by omega) (by omega)
    refine z_ifge hC 20 dX5_missing_13 (by decide) (by omega) (fun c_5 => by exfalso; omega) (fun c_5 => ?_)
    refine z_iconst hC dX5_missing_16 ?_
    refine z_goto hC 21 dX5_missing_17 (by decide) ?_
    exact z_zret hC hR dX5_missing_21 (by omega) (Nat.le_of_ble_eq_true rfl) (Nat.le_of_ble_eq_true rfl) ⟨1, rfl, rfl, by omega⟩

set_option maxHeartbeats 4000000 in
set_option maxRecDepth 100000 in
theorem c_X5_lay (l : Launch) (D : va_G) (K : ClassId × ClassId × ClassId × ClassId) (sh sh_numbers sh_sorts sh_lengths : Nat) (sheet sort many : Int) (nu so len : Int → Int) (hs : 0 ≤ sheet ∧ sheet < 4) (hsort : zR sort) (hmany : zR many) : zMet l D K yX5_lay wsX5_lay ({ frames := 1, cells := 0, slots := 0, locals := 20 }) 0 0 [.ref sh, .int (zI (sheet)), .int (zI (sort)), .int (zI (many))] [wO sh 5 [.ref sh_numbers, .ref sh_sorts, .ref sh_lengths], wI sh_numbers K.2.1 256 nu, wI sh_sorts K.2.1 4 so, wI sh_lengths K.2.1 4 len] (fun vr_ wr_ => vr_ = none ∧ wr_ = [] ∧ (True)) := by
  refine zMet_of (cc := cX5_lay) (nL := 5) (ret := none) (by decide) rfl (Nat.le_of_ble_eq_true rfl) ?_
  rintro C rfl rfl rfl hC hR
  have hinX5 : ∀ w ∈ u_ws RX5 TX5 3, w ∈ wsX5_lay := by decide +kernel
  show ZW C 0 0 [wO sh 5 [.ref sh_numbers, .ref sh_sorts, .ref sh_lengths], wI sh_numbers (zK C).2.1 256 nu, wI sh_sorts (zK C).2.1 4 so, wI sh_lengths (zK C).2.1 4 len] [(0, .ref sh), (1, .int (zI (sheet))), (2, .int (zI (sort))), (3, .int (zI (many)))] 0 []
  refine z_iload_n hC 1 dX5_lay_0 rfl rfl ?_
  refine z_callS hC [.int (zI (sheet))] 1 dX5_lay_1 (c_X5_known (zl C) (zD C) (zK C) sheet (by first | assumption | omega)) gX5_lay_X5_known rfl rfl rfl ⟨by decide, by decide, by decide +kernel⟩ ⟨(Nat.le_of_ble_eq_true rfl), (Nat.le_of_ble_eq_true rfl)⟩ rfl [] [0, 1, 2, 3] [wO sh 5 [.ref sh_numbers, .ref sh_sorts, .ref sh_lengths], wI sh_numbers (zK C).2.1 256 nu, wI sh_sorts (zK C).2.1 4 so, wI sh_lengths (zK C).2.1 4 len] [] rfl rfl rfl rfl rfl (by decide) (Nat.le_of_ble_eq_true rfl) ⟨(Nat.le_of_ble_eq_true rfl), (Nat.le_of_ble_eq_true rfl)⟩ ?_
  rintro v_ w_ ⟨r_1, rfl, rfl, h_1_2⟩
  show ZW C 0 0 [wO sh 5 [.ref sh_numbers, .ref sh_sorts, .ref sh_lengths], wI sh_numbers (zK C).2.1 256 nu, wI sh_sorts (zK C).2.1 4 so, wI sh_lengths (zK C).2.1 4 len] [(0, .ref sh), (1, .int (zI (sheet))), (2, .int (zI (sort))), (3, .int (zI (many)))] 4 [.int (zI (r_1))]
  refine z_ifne hC 8 dX5_lay_4 (by decide) (by omega) (fun c_3 => ?_) (fun c_3 => by exfalso; omega)
  refine z_aload_n hC 0 dX5_lay_8 rfl rfl ?_
  refine z_get hC (T := TX5) (N := 3) hinX5 0 1 dX5_lay_9 rfl rfl (by decide) (List.mem_of_getElem? (i := 1) rfl) rfl rfl ?_
  refine z_iload_n hC 1 dX5_lay_12 rfl rfl ?_
  refine z_iload_n hC 2 dX5_lay_13 rfl rfl ?_
  refine z_iast hC 2 [wO sh 5 [.ref sh_numbers, .ref sh_sorts, .ref sh_lengths], wI sh_numbers (zK C).2.1 256 nu, wI sh_sorts (zK C).2.1 4 (zu so sheet sort), wI sh_lengths (zK C).2.1 4 len] dX5_lay_14 rfl (by omega) rfl ?_
  refine z_aload_n hC 0 dX5_lay_15 rfl rfl ?_
  refine z_get hC (T := TX5) (N := 3) hinX5 0 2 dX5_lay_16 rfl rfl (by decide) (List.mem_of_getElem? (i := 2) rfl) rfl rfl ?_
  refine z_iload_n hC 1 dX5_lay_19 rfl rfl ?_
  refine z_iload_n hC 3 dX5_lay_20 rfl rfl ?_
  refine z_iast hC 3 [wO sh 5 [.ref sh_numbers, .ref sh_sorts, .ref sh_lengths], wI sh_numbers (zK C).2.1 256 nu, wI sh_sorts (zK C).2.1 4 (zu so sheet sort), wI sh_lengths (zK C).2.1 4 (zu len sheet many)] dX5_lay_21 rfl (by omega) rfl ?_
  have lp22_4 : ∀ (f6 : Nat) (g : Int → Int), (0 ≤ i ∧ i ≤ 64) → (64 - i).toNat < f6 → ZW C 0 0 [wO sh 5 [.ref sh_numbers, .ref sh_sorts, .ref sh_lengths], wI sh_numbers (zK C).2.1 256 g, wI sh_sorts (zK C).2.1 4 (zu so sheet sort), wI sh_lengths (zK C).2.1 4 (zu len sheet many)] [(0, .ref sh), (1, .int (zI (sheet))), (2, .int (zI (sort))), (3, .int (zI (many)))] 22 [] := by
    intro f6
    induction f6 with
    | zero => intro _ _ hf; exact absurd hf (Nat.not_lt_zero _)
    | succ f6 ih22_5 =>
      intro g vi hf_22
      refine z_iconst hC dX5_lay_22 ?_
      refine z_istore hC [(4, .int (zI (0))), (0, .ref sh), (1, .int (zI (sheet))), (2, .int (zI (sort))), (3, .int (zI (many)))] dX5_lay_23 (by decide) rfl ?_
      refine z_iload hC 0 dX5_lay_25 rfl ?_
      refine z_bipush hC dX5_lay_27 (by decide) ?_
      refine z_icge hC 51 dX5_lay_29 (by decide) (by omega) (fun c_7 => by exfalso; omega) (fun c_7 => ?_)
      refine z_aload_n hC 1 dX5_lay_32 rfl rfl ?_
      refine z_get hC (T := TX5) (N := 3) hinX5 0 0 dX5_lay_33 rfl rfl (by decide) (List.mem_of_getElem? (i := 3) rfl) rfl rfl ?_
      refine z_iload_n hC 2 dX5_lay_36 rfl rfl ?_
      refine z_bipush hC dX5_lay_37 (by decide) ?_
      refine z_imul hC (sheet * 64) dX5_lay_39 rfl ?_
      refine z_iload hC 0 dX5_lay_40 rfl ?_
      refine z_iadd hC (sheet * 64) dX5_lay_42 (by omega) ?_
      refine z_iconst hC dX5_lay_43 ?_
      refine z_iast hC 1 [wO sh 5 [.ref sh_numbers, .ref sh_sorts, .ref sh_lengths], wI sh_numbers (zK C).2.1 256 (zu g (sheet * 64) 0), wI sh_sorts (zK C).2.1 4 (zu so sheet sort), wI sh_lengths (zK C).2.1 4 (zu len sheet many)] dX5_lay_44 rfl (by omega) rfl ?_
      refine z_iinc (a := 0) (v := 1) (r := 1) hC 0 [(4, .int (zI (1))), (0, .ref sh), (1, .int (zI (sheet))), (2, .int (zI (sort))), (3, .int (zI (many)))] dX5_lay_45 rfl (by decide) (by decide) rfl ?_
      refine z_goto hC 25 dX5_lay_48 (by decide) ?_
      refine z_iload hC 0 dX5_lay_25 rfl ?_
      refine z_bipush hC dX5_lay_27 (by decide) ?_
      refine z_icge hC 51 dX5_lay_29 (by decide) (by omega) (fun c_8 => by exfalso; omega) (fun c_8 => ?_)
      refine z_aload_n hC 1 dX5_lay_32 rfl rfl ?_
      refine z_get hC (T := TX5) (N := 3) hinX5 0 0 dX5_lay_33 rfl rfl (by decide) (List.mem_of_getElem? (i := 3) rfl) rfl rfl ?_
      refine z_iload_n hC 2 dX5_lay_36 rfl rfl ?_
      refine z_bipush hC dX5_lay_37 (by decide) ?_
      refine z_imul hC (sheet * 64) dX5_lay_39 rfl ?_
      refine z_iload hC 0 dX5_lay_40 rfl ?_
      refine z_iadd hC ((sheet * 64) + 1) dX5_lay_42 rfl ?_
      refine z_iconst hC dX5_lay_43 ?_
      refine z_iast hC 1 [wO sh 5 [.ref sh_numbers, .ref sh_sorts, .ref sh_lengths], wI sh_numbers (zK C).2.1 256 (zu (zu g (sheet * 64) 0) ((sheet * 64) + 1) 0), wI sh_sorts (zK C).2.1 4 (zu so sheet sort), wI sh_lengths (zK C).2.1 4 (zu len sheet many)] dX5_lay_44 rfl (by omega) rfl ?_
      refine z_iinc (a := 1) (v := 1) (r := 2) hC 0 [(4, .int (zI (2))), (0, .ref sh), (1, .int (zI (sheet))), (2, .int (zI (sort))), (3, .int (zI (many)))] dX5_lay_45 rfl (by decide) (by decide) rfl ?_
      refine z_goto hC 25 dX5_lay_48 (by decide) ?_
      refine z_iload hC 0 dX5_lay_25 rfl ?_
      refine z_bipush hC dX5_lay_27 (by decide) ?_
      refine z_icge hC 51 dX5_lay_29 (by decide) (by omega) (fun c_9 => by exfalso; omega) (fun c_9 => ?_)
      refine z_aload_n hC 1 dX5_lay_32 rfl rfl ?_
      refine z_get hC (T := TX5) (N := 3) hinX5 0 0 dX5_lay_33 rfl rfl (by decide) (List.mem_of_getElem? (i := 3) rfl) rfl rfl ?_
      refine z_iload_n hC 2 dX5_lay_36 rfl rfl ?_
      refine z_bipush hC dX5_lay_37 (by decide) ?_
      refine z_imul hC (sheet * 64) dX5_lay_39 rfl ?_
      refine z_iload hC 0 dX5_lay_40 rfl ?_
      refine z_iadd hC ((sheet * 64) + 2) dX5_lay_42 rfl ?_
      refine z_iconst hC dX5_lay_43 ?_
      refine z_iast hC 1 [wO sh 5 [.ref sh_numbers, .ref sh_sorts, .ref sh_lengths], wI sh_numbers (zK C).2.1 256 (zu (zu (zu g (sheet * 64) 0) ((sheet * 64) + 1) 0) ((sheet * 64) + 2) 0), wI sh_sorts (zK C).2.1 4 (zu so sheet sort), wI sh_lengths (zK C).2.1 4 (zu len sheet many)] dX5_lay_44 rfl (by omega) rfl ?_
      refine z_iinc (a := 2) (v := 1) (r := 3) hC 0 [(4, .int (zI (3))), (0, .ref sh), (1, .int (zI (sheet))), (2, .int (zI (sort))), (3, .int (zI (many)))] dX5_lay_45 rfl (by decide) (by decide) rfl ?_
      refine z_goto hC 25 dX5_lay_48 (by decide) ?_
      refine z_iload hC 0 dX5_lay_25 rfl ?_
      refine z_bipush hC dX5_lay_27 (by decide) ?_
      refine z_icge hC 51 dX5_lay_29 (by decide) (by omega) (fun c_10 => by exfalso; omega) (fun c_10 => ?_)
      refine z_aload_n hC 1 dX5_lay_32 rfl rfl ?_
      refine z_get hC (T := TX5) (N := 3) hinX5 0 0 dX5_lay_33 rfl rfl (by decide) (List.mem_of_getElem? (i := 3) rfl) rfl rfl ?_
      refine z_iload_n hC 2 dX5_lay_36 rfl rfl ?_
      refine z_bipush hC dX5_lay_37 (by decide) ?_
      refine z_imul hC (sheet * 64) dX5_lay_39 rfl ?_
      refine z_iload hC 0 dX5_lay_40 rfl ?_
      refine z_iadd hC ((sheet * 64) + 3) dX5_lay_42 rfl ?_
      refine z_iconst hC dX5_lay_43 ?_
      refine z_iast hC 1 [wO sh 5 [.ref sh_numbers, .ref sh_sorts, .ref sh_lengths], wI sh_numbers (zK C).2.1 256 (zu (zu (zu (zu g (sheet * 64) 0) ((sheet * 64) + 1) 0) ((sheet * 64) + 2) 0) ((sheet * 64) + 3) 0), wI sh_sorts (zK C).2.1 4 (zu so sheet sort), wI sh_lengths (zK C).2.1 4 (zu len sheet many)] dX5_lay_44 rfl (by omega) rfl ?_
      refine z_iinc (a := 3) (v := 1) (r := 4) hC 0 [(4, .int (zI (4))), (0, .ref sh), (1, .int (zI (sheet))), (2, .int (zI (sort))), (3, .int (zI (many)))] dX5_lay_45 rfl (by decide) (by decide) rfl ?_
      refine z_goto hC 25 dX5_lay_48 (by decide) ?_
      refine z_iload hC 0 dX5_lay_25 rfl ?_
      refine z_bipush hC dX5_lay_27 (by decide) ?_
      refine z_icge hC 51 dX5_lay_29 (by decide) (by omega) (fun c_11 => by exfalso; omega) (fun c_11 => ?_)
      refine z_aload_n hC 1 dX5_lay_32 rfl rfl ?_
      refine z_get hC (T := TX5) (N := 3) hinX5 0 0 dX5_lay_33 rfl rfl (by decide) (List.mem_of_getElem? (i := 3) rfl) rfl rfl ?_
      refine z_iload_n hC 2 dX5_lay_36 rfl rfl ?_
      refine z_bipush hC dX5_lay_37 (by decide) ?_
      refine z_imul hC (sheet * 64) dX5_lay_39 rfl ?_
      refine z_iload hC 0 dX5_lay_40 rfl ?_
      refine z_iadd hC ((sheet * 64) + 4) dX5_lay_42 rfl ?_
      refine z_iconst hC dX5_lay_43 ?_
      refine z_iast hC 1 [wO sh 5 [.ref sh_numbers, .ref sh_sorts, .ref sh_lengths], wI sh_numbers (zK C).2.1 256 (zu (zu (zu (zu (zu g (sheet * 64) 0) ((sheet * 64) + 1) 0) ((sheet * 64) + 2) 0) ((sheet * 64) + 3) 0) ((sheet * 64) + 4) 0), wI sh_sorts (zK C).2.1 4 (zu so sheet sort), wI sh_lengths (zK C).2.1 4 (zu len sheet many)] dX5_lay_44 rfl (by omega) rfl ?_
      refine z_iinc (a := 4) (v := 1) (r := 5) hC 0 [(4, .int (zI (5))), (0, .ref sh), (1, .int (zI (sheet))), (2, .int (zI (sort))), (3, .int (zI (many)))] dX5_lay_45 rfl (by decide) (by decide) rfl ?_
      refine z_goto hC 25 dX5_lay_48 (by decide) ?_
      refine z_iload hC 0 dX5_lay_25 rfl ?_
      refine z_bipush hC dX5_lay_27 (by decide) ?_
      refine z_icge hC 51 dX5_lay_29 (by decide) (by omega) (fun c_12 => by exfalso; omega) (fun c_12 => ?_)
      refine z_aload_n hC 1 dX5_lay_32 rfl rfl ?_
      refine z_get hC (T := TX5) (N := 3) hinX5 0 0 dX5_lay_33 rfl rfl (by decide) (List.mem_of_getElem? (i := 3) rfl) rfl rfl ?_
      refine z_iload_n hC 2 dX5_lay_36 rfl rfl ?_
      refine z_bipush hC dX5_lay_37 (by decide) ?_
      refine z_imul hC (sheet * 64) dX5_lay_39 rfl ?_
      refine z_iload hC 0 dX5_lay_40 rfl ?_
      refine z_iadd hC ((sheet * 64) + 5) dX5_lay_42 rfl ?_
      refine z_iconst hC dX5_lay_43 ?_
      refine z_iast hC 1 [wO sh 5 [.ref sh_numbers, .ref sh_sorts, .ref sh_lengths], wI sh_numbers (zK C).2.1 256 (zu (zu (zu (zu (zu (zu g (sheet * 64) 0) ((sheet * 64) + 1) 0) ((sheet * 64) + 2) 0) ((sheet * 64) + 3) 0) ((sheet * 64) + 4) 0) ((sheet * 64) + 5) 0), wI sh_sorts (zK C).2.1 4 (zu so sheet sort), wI sh_lengths (zK C).2.1 4 (zu len sheet many)] dX5_lay_44 rfl (by omega) rfl ?_
      refine z_iinc (a := 5) (v := 1) (r := 6) hC 0 [(4, .int (zI (6))), (0, .ref sh), (1, .int (zI (sheet))), (2, .int (zI (sort))), (3, .int (zI (many)))] dX5_lay_45 rfl (by decide) (by decide) rfl ?_
      refine z_goto hC 25 dX5_lay_48 (by decide) ?_
      refine z_iload hC 0 dX5_lay_25 rfl ?_
      refine z_bipush hC dX5_lay_27 (by decide) ?_
      refine z_icge hC 51 dX5_lay_29 (by decide) (by omega) (fun c_13 => by exfalso; omega) (fun c_13 => ?_)
      refine z_aload_n hC 1 dX5_lay_32 rfl rfl ?_
      refine z_get hC (T := TX5) (N := 3) hinX5 0 0 dX5_lay_33 rfl rfl (by decide) (List.mem_of_getElem? (i := 3) rfl) rfl rfl ?_
      refine z_iload_n hC 2 dX5_lay_36 rfl rfl ?_
      refine z_bipush hC dX5_lay_37 (by decide) ?_
      refine z_imul hC (sheet * 64) dX5_lay_39 rfl ?_
      refine z_iload hC 0 dX5_lay_40 rfl ?_
      refine z_iadd hC ((sheet * 64) + 6) dX5_lay_42 rfl ?_
      refine z_iconst hC dX5_lay_43 ?_
      refine z_iast hC 1 [wO sh 5 [.ref sh_numbers, .ref sh_sorts, .ref sh_lengths], wI sh_numbers (zK C).2.1 256 (zu (zu (zu (zu (zu (zu (zu g (sheet * 64) 0) ((sheet * 64) + 1) 0) ((sheet * 64) + 2) 0) ((sheet * 64) + 3) 0) ((sheet * 64) + 4) 0) ((sheet * 64) + 5) 0) ((sheet * 64) + 6) 0), wI sh_sorts (zK C).2.1 4 (zu so sheet sort), wI sh_lengths (zK C).2.1 4 (zu len sheet many)] dX5_lay_44 rfl (by omega) rfl ?_
      refine z_iinc (a := 6) (v := 1) (r := 7) hC 0 [(4, .int (zI (7))), (0, .ref sh), (1, .int (zI (sheet))), (2, .int (zI (sort))), (3, .int (zI (many)))] dX5_lay_45 rfl (by decide) (by decide) rfl ?_
      refine z_goto hC 25 dX5_lay_48 (by decide) ?_
      refine z_iload hC 0 dX5_lay_25 rfl ?_
      refine z_bipush hC dX5_lay_27 (by decide) ?_
      refine z_icge hC 51 dX5_lay_29 (by decide) (by omega) (fun c_14 => by exfalso; omega) (fun c_14 => ?_)
      refine z_aload_n hC 1 dX5_lay_32 rfl rfl ?_
      refine z_get hC (T := TX5) (N := 3) hinX5 0 0 dX5_lay_33 rfl rfl (by decide) (List.mem_of_getElem? (i := 3) rfl) rfl rfl ?_
      refine z_iload_n hC 2 dX5_lay_36 rfl rfl ?_
      refine z_bipush hC dX5_lay_37 (by decide) ?_
      refine z_imul hC (sheet * 64) dX5_lay_39 rfl ?_
      refine z_iload hC 0 dX5_lay_40 rfl ?_
      refine z_iadd hC ((sheet * 64) + 7) dX5_lay_42 rfl ?_
      refine z_iconst hC dX5_lay_43 ?_
      refine z_iast hC 1 [wO sh 5 [.ref sh_numbers, .ref sh_sorts, .ref sh_lengths], wI sh_numbers (zK C).2.1 256 (zu (zu (zu (zu (zu (zu (zu (zu g (sheet * 64) 0) ((sheet * 64) + 1) 0) ((sheet * 64) + 2) 0) ((sheet * 64) + 3) 0) ((sheet * 64) + 4) 0) ((sheet * 64) + 5) 0) ((sheet * 64) + 6) 0) ((sheet * 64) + 7) 0), wI sh_sorts (zK C).2.1 4 (zu so sheet sort), wI sh_lengths (zK C).2.1 4 (zu len sheet many)] dX5_lay_44 rfl (by omega) rfl ?_
      refine z_iinc (a := 7) (v := 1) (r := 8) hC 0 [(4, .int (zI (8))), (0, .ref sh), (1, .int (zI (sheet))), (2, .int (zI (sort))), (3, .int (zI (many)))] dX5_lay_45 rfl (by decide) (by decide) rfl ?_
      refine z_goto hC 25 dX5_lay_48 (by decide) ?_
      refine z_iload hC 0 dX5_lay_25 rfl ?_
      refine z_bipush hC dX5_lay_27 (by decide) ?_
      refine z_icge hC 51 dX5_lay_29 (by decide) (by omega) (fun c_15 => by exfalso; omega) (fun c_15 => ?_)
      refine z_aload_n hC 1 dX5_lay_32 rfl rfl ?_
      refine z_get hC (T := TX5) (N := 3) hinX5 0 0 dX5_lay_33 rfl rfl (by decide) (List.mem_of_getElem? (i := 3) rfl) rfl rfl ?_
      refine z_iload_n hC 2 dX5_lay_36 rfl rfl ?_
      refine z_bipush hC dX5_lay_37 (by decide) ?_
      refine z_imul hC (sheet * 64) dX5_lay_39 rfl ?_
      refine z_iload hC 0 dX5_lay_40 rfl ?_
      refine z_iadd hC ((sheet * 64) + 8) dX5_lay_42 rfl ?_
      refine z_iconst hC dX5_lay_43 ?_
      refine z_iast hC 1 [wO sh 5 [.ref sh_numbers, .ref sh_sorts, .ref sh_lengths], wI sh_numbers (zK C).2.1 256 (zu (zu (zu (zu (zu (zu (zu (zu (zu g (sheet * 64) 0) ((sheet * 64) + 1) 0) ((sheet * 64) + 2) 0) ((sheet * 64) + 3) 0) ((sheet * 64) + 4) 0) ((sheet * 64) + 5) 0) ((sheet * 64) + 6) 0) ((sheet * 64) + 7) 0) ((sheet * 64) + 8) 0), wI sh_sorts (zK C).2.1 4 (zu so sheet sort), wI sh_lengths (zK C).2.1 4 (zu len sheet many)] dX5_lay_44 rfl (by omega) rfl ?_
      refine z_iinc (a := 8) (v := 1) (r := 9) hC 0 [(4, .int (zI (9))), (0, .ref sh), (1, .int (zI (sheet))), (2, .int (zI (sort))), (3, .int (zI (many)))] dX5_lay_45 rfl (by decide) (by decide) rfl ?_
      refine z_goto hC 25 dX5_lay_48 (by decide) ?_
      refine z_iload hC 0 dX5_lay_25 rfl ?_
      refine z_bipush hC dX5_lay_27 (by decide) ?_
      refine z_icge hC 51 dX5_lay_29 (by decide) (by omega) (fun c_16 => by exfalso; omega) (fun c_16 => ?_)
      refine z_aload_n hC 1 dX5_lay_32 rfl rfl ?_
      refine z_get hC (T := TX5) (N := 3) hinX5 0 0 dX5_lay_33 rfl rfl (by decide) (List.mem_of_getElem? (i := 3) rfl) rfl rfl ?_
      refine z_iload_n hC 2 dX5_lay_36 rfl rfl ?_
      refine z_bipush hC dX5_lay_37 (by decide) ?_
      refine z_imul hC (sheet * 64) dX5_lay_39 rfl ?_
      refine z_iload hC 0 dX5_lay_40 rfl ?_
      refine z_iadd hC ((sheet * 64) + 9) dX5_lay_42 rfl ?_
      refine z_iconst hC dX5_lay_43 ?_
      refine z_iast hC 1 [wO sh 5 [.ref sh_numbers, .ref sh_sorts, .ref sh_lengths], wI sh_numbers (zK C).2.1 256 (zu (zu (zu (zu (zu (zu (zu (zu (zu (zu g (sheet * 64) 0) ((sheet * 64) + 1) 0) ((sheet * 64) + 2) 0) ((sheet * 64) + 3) 0) ((sheet * 64) + 4) 0) ((sheet * 64) + 5) 0) ((sheet * 64) + 6) 0) ((sheet * 64) + 7) 0) ((sheet * 64) + 8) 0) ((sheet * 64) + 9) 0), wI sh_sorts (zK C).2.1 4 (zu so sheet sort), wI sh_lengths (zK C).2.1 4 (zu len sheet many)] dX5_lay_44 rfl (by omega) rfl ?_
      refine z_iinc (a := 9) (v := 1) (r := 10) hC 0 [(4, .int (zI (10))), (0, .ref sh), (1, .int (zI (sheet))), (2, .int (zI (sort))), (3, .int (zI (many)))] dX5_lay_45 rfl (by decide) (by decide) rfl ?_
      refine z_goto hC 25 dX5_lay_48 (by decide) ?_
      refine z_iload hC 0 dX5_lay_25 rfl ?_
      refine z_bipush hC dX5_lay_27 (by decide) ?_
      refine z_icge hC 51 dX5_lay_29 (by decide) (by omega) (fun c_17 => by exfalso; omega) (fun c_17 => ?_)
      refine z_aload_n hC 1 dX5_lay_32 rfl rfl ?_
      refine z_get hC (T := TX5) (N := 3) hinX5 0 0 dX5_lay_33 rfl rfl (by decide) (List.mem_of_getElem? (i := 3) rfl) rfl rfl ?_
      refine z_iload_n hC 2 dX5_lay_36 rfl rfl ?_
      refine z_bipush hC dX5_lay_37 (by decide) ?_
      refine z_imul hC (sheet * 64) dX5_lay_39 rfl ?_
      refine z_iload hC 0 dX5_lay_40 rfl ?_
      refine z_iadd hC ((sheet * 64) + 10) dX5_lay_42 rfl ?_
      refine z_iconst hC dX5_lay_43 ?_
      refine z_iast hC 1 [wO sh 5 [.ref sh_numbers, .ref sh_sorts, .ref sh_lengths], wI sh_numbers (zK C).2.1 256 (zu (zu (zu (zu (zu (zu (zu (zu (zu (zu (zu g (sheet * 64) 0) ((sheet * 64) + 1) 0) ((sheet * 64) + 2) 0) ((sheet * 64) + 3) 0) ((sheet * 64) + 4) 0) ((sheet * 64) + 5) 0) ((sheet * 64) + 6) 0) ((sheet * 64) + 7) 0) ((sheet * 64) + 8) 0) ((sheet * 64) + 9) 0) ((sheet * 64) + 10) 0), wI sh_sorts (zK C).2.1 4 (zu so sheet sort), wI sh_lengths (zK C).2.1 4 (zu len sheet many)] dX5_lay_44 rfl (by omega) rfl ?_
      refine z_iinc (a := 10) (v := 1) (r := 11) hC 0 [(4, .int (zI (11))), (0, .ref sh), (1, .int (zI (sheet))), (2, .int (zI (sort))), (3, .int (zI (many)))] dX5_lay_45 rfl (by decide) (by decide) rfl ?_
      refine z_goto hC 25 dX5_lay_48 (by decide) ?_
      refine z_iload hC 0 dX5_lay_25 rfl ?_
      refine z_bipush hC dX5_lay_27 (by decide) ?_
      refine z_icge hC 51 dX5_lay_29 (by decide) (by omega) (fun c_18 => by exfalso; omega) (fun c_18 => ?_)
      refine z_aload_n hC 1 dX5_lay_32 rfl rfl ?_
      refine z_get hC (T := TX5) (N := 3) hinX5 0 0 dX5_lay_33 rfl rfl (by decide) (List.mem_of_getElem? (i := 3) rfl) rfl rfl ?_
      refine z_iload_n hC 2 dX5_lay_36 rfl rfl ?_
      refine z_bipush hC dX5_lay_37 (by decide) ?_
      refine z_imul hC (sheet * 64) dX5_lay_39 rfl ?_
      refine z_iload hC 0 dX5_lay_40 rfl ?_
      refine z_iadd hC ((sheet * 64) + 11) dX5_lay_42 rfl ?_
      refine z_iconst hC dX5_lay_43 ?_
      refine z_iast hC 1 [wO sh 5 [.ref sh_numbers, .ref sh_sorts, .ref sh_lengths], wI sh_numbers (zK C).2.1 256 (zu (zu (zu (zu (zu (zu (zu (zu (zu (zu (zu (zu g (sheet * 64) 0) ((sheet * 64) + 1) 0) ((sheet * 64) + 2) 0) ((sheet * 64) + 3) 0) ((sheet * 64) + 4) 0) ((sheet * 64) + 5) 0) ((sheet * 64) + 6) 0) ((sheet * 64) + 7) 0) ((sheet * 64) + 8) 0) ((sheet * 64) + 9) 0) ((sheet * 64) + 10) 0) ((sheet * 64) + 11) 0), wI sh_sorts (zK C).2.1 4 (zu so sheet sort), wI sh_lengths (zK C).2.1 4 (zu len sheet many)] dX5_lay_44 rfl (by omega) rfl ?_
      refine z_iinc (a := 11) (v := 1) (r := 12) hC 0 [(4, .int (zI (12))), (0, .ref sh), (1, .int (zI (sheet))), (2, .int (zI (sort))), (3, .int (zI (many)))] dX5_lay_45 rfl (by decide) (by decide) rfl ?_
      refine z_goto hC 25 dX5_lay_48 (by decide) ?_
      refine z_iload hC 0 dX5_lay_25 rfl ?_
      refine z_bipush hC dX5_lay_27 (by decide) ?_
      refine z_icge hC 51 dX5_lay_29 (by decide) (by omega) (fun c_19 => by exfalso; omega) (fun c_19 => ?_)
      refine z_aload_n hC 1 dX5_lay_32 rfl rfl ?_
      refine z_get hC (T := TX5) (N := 3) hinX5 0 0 dX5_lay_33 rfl rfl (by decide) (List.mem_of_getElem? (i := 3) rfl) rfl rfl ?_
      refine z_iload_n hC 2 dX5_lay_36 rfl rfl ?_
      refine z_bipush hC dX5_lay_37 (by decide) ?_
      refine z_imul hC (sheet * 64) dX5_lay_39 rfl ?_
      refine z_iload hC 0 dX5_lay_40 rfl ?_
      refine z_iadd hC ((sheet * 64) + 12) dX5_lay_42 rfl ?_
      refine z_iconst hC dX5_lay_43 ?_
      refine z_iast hC 1 [wO sh 5 [.ref sh_numbers, .ref sh_sorts, .ref sh_lengths], wI sh_numbers (zK C).2.1 256 (zu (zu (zu (zu (zu (zu (zu (zu (zu (zu (zu (zu (zu g (sheet * 64) 0) ((sheet * 64) + 1) 0) ((sheet * 64) + 2) 0) ((sheet * 64) + 3) 0) ((sheet * 64) + 4) 0) ((sheet * 64) + 5) 0) ((sheet * 64) + 6) 0) ((sheet * 64) + 7) 0) ((sheet * 64) + 8) 0) ((sheet * 64) + 9) 0) ((sheet * 64) + 10) 0) ((sheet * 64) + 11) 0) ((sheet * 64) + 12) 0), wI sh_sorts (zK C).2.1 4 (zu so sheet sort), wI sh_lengths (zK C).2.1 4 (zu len sheet many)] dX5_lay_44 rfl (by omega) rfl ?_
      refine z_iinc (a := 12) (v := 1) (r := 13) hC 0 [(4, .int (zI (13))), (0, .ref sh), (1, .int (zI (sheet))), (2, .int (zI (sort))), (3, .int (zI (many)))] dX5_lay_45 rfl (by decide) (by decide) rfl ?_
      refine z_goto hC 25 dX5_lay_48 (by decide) ?_
      refine z_iload hC 0 dX5_lay_25 rfl ?_
      refine z_bipush hC dX5_lay_27 (by decide) ?_
      refine z_icge hC 51 dX5_lay_29 (by decide) (by omega) (fun c_20 => by exfalso; omega) (fun c_20 => ?_)
      refine z_aload_n hC 1 dX5_lay_32 rfl rfl ?_
      refine z_get hC (T := TX5) (N := 3) hinX5 0 0 dX5_lay_33 rfl rfl (by decide) (List.mem_of_getElem? (i := 3) rfl) rfl rfl ?_
      refine z_iload_n hC 2 dX5_lay_36 rfl rfl ?_
      refine z_bipush hC dX5_lay_37 (by decide) ?_
      refine z_imul hC (sheet * 64) dX5_lay_39 rfl ?_
      refine z_iload hC 0 dX5_lay_40 rfl ?_
      refine z_iadd hC ((sheet * 64) + 13) dX5_lay_42 rfl ?_
      refine z_iconst hC dX5_lay_43 ?_
      refine z_iast hC 1 [wO sh 5 [.ref sh_numbers, .ref sh_sorts, .ref sh_lengths], wI sh_numbers (zK C).2.1 256 (zu (zu (zu (zu (zu (zu (zu (zu (zu (zu (zu (zu (zu (zu g (sheet * 64) 0) ((sheet * 64) + 1) 0) ((sheet * 64) + 2) 0) ((sheet * 64) + 3) 0) ((sheet * 64) + 4) 0) ((sheet * 64) + 5) 0) ((sheet * 64) + 6) 0) ((sheet * 64) + 7) 0) ((sheet * 64) + 8) 0) ((sheet * 64) + 9) 0) ((sheet * 64) + 10) 0) ((sheet * 64) + 11) 0) ((sheet * 64) + 12) 0) ((sheet * 64) + 13) 0), wI sh_sorts (zK C).2.1 4 (zu so sheet sort), wI sh_lengths (zK C).2.1 4 (zu len sheet many)] dX5_lay_44 rfl (by omega) rfl ?_
      refine z_iinc (a := 13) (v := 1) (r := 14) hC 0 [(4, .int (zI (14))), (0, .ref sh), (1, .int (zI (sheet))), (2, .int (zI (sort))), (3, .int (zI (many)))] dX5_lay_45 rfl (by decide) (by decide) rfl ?_
      refine z_goto hC 25 dX5_lay_48 (by decide) ?_
      refine z_iload hC 0 dX5_lay_25 rfl ?_
      refine z_bipush hC dX5_lay_27 (by decide) ?_
      refine z_icge hC 51 dX5_lay_29 (by decide) (by omega) (fun c_21 => by exfalso; omega) (fun c_21 => ?_)
      refine z_aload_n hC 1 dX5_lay_32 rfl rfl ?_
      refine z_get hC (T := TX5) (N := 3) hinX5 0 0 dX5_lay_33 rfl rfl (by decide) (List.mem_of_getElem? (i := 3) rfl) rfl rfl ?_
      refine z_iload_n hC 2 dX5_lay_36 rfl rfl ?_
      refine z_bipush hC dX5_lay_37 (by decide) ?_
      refine z_imul hC (sheet * 64) dX5_lay_39 rfl ?_
      refine z_iload hC 0 dX5_lay_40 rfl ?_
      refine z_iadd hC ((sheet * 64) + 14) dX5_lay_42 rfl ?_
      refine z_iconst hC dX5_lay_43 ?_
      refine z_iast hC 1 [wO sh 5 [.ref sh_numbers, .ref sh_sorts, .ref sh_lengths], wI sh_numbers (zK C).2.1 256 (zu (zu (zu (zu (zu (zu (zu (zu (zu (zu (zu (zu (zu (zu (zu g (sheet * 64) 0) ((sheet * 64) + 1) 0) ((sheet * 64) + 2) 0) ((sheet * 64) + 3) 0) ((sheet * 64) + 4) 0) ((sheet * 64) + 5) 0) ((sheet * 64) + 6) 0) ((sheet * 64) + 7) 0) ((sheet * 64) + 8) 0) ((sheet * 64) + 9) 0) ((sheet * 64) + 10) 0) ((sheet * 64) + 11) 0) ((sheet * 64) + 12) 0) ((sheet * 64) + 13) 0) ((sheet * 64) + 14) 0), wI sh_sorts (zK C).2.1 4 (zu so sheet sort), wI sh_lengths (zK C).2.1 4 (zu len sheet many)] dX5_lay_44 rfl (by omega) rfl ?_
      refine z_iinc (a := 14) (v := 1) (r := 15) hC 0 [(4, .int (zI (15))), (0, .ref sh), (1, .int (zI (sheet))), (2, .int (zI (sort))), (3, .int (zI (many)))] dX5_lay_45 rfl (by decide) (by decide) rfl ?_
      refine z_goto hC 25 dX5_lay_48 (by decide) ?_
      refine z_iload hC 0 dX5_lay_25 rfl ?_
      refine z_bipush hC dX5_lay_27 (by decide) ?_
      refine z_icge hC 51 dX5_lay_29 (by decide) (by omega) (fun c_22 => by exfalso; omega) (fun c_22 => ?_)
      refine z_aload_n hC 1 dX5_lay_32 rfl rfl ?_
      refine z_get hC (T := TX5) (N := 3) hinX5 0 0 dX5_lay_33 rfl rfl (by decide) (List.mem_of_getElem? (i := 3) rfl) rfl rfl ?_
      refine z_iload_n hC 2 dX5_lay_36 rfl rfl ?_
      refine z_bipush hC dX5_lay_37 (by decide) ?_
      refine z_imul hC (sheet * 64) dX5_lay_39 rfl ?_
      refine z_iload hC 0 dX5_lay_40 rfl ?_
      refine z_iadd hC ((sheet * 64) + 15) dX5_lay_42 rfl ?_
      refine z_iconst hC dX5_lay_43 ?_
      refine z_iast hC 1 [wO sh 5 [.ref sh_numbers, .ref sh_sorts, .ref sh_lengths], wI sh_numbers (zK C).2.1 256 (zu (zu (zu (zu (zu (zu (zu (zu (zu (zu (zu (zu (zu (zu (zu (zu g (sheet * 64) 0) ((sheet * 64) + 1) 0) ((sheet * 64) + 2) 0) ((sheet * 64) + 3) 0) ((sheet * 64) + 4) 0) ((sheet * 64) + 5) 0) ((sheet * 64) + 6) 0) ((sheet * 64) + 7) 0) ((sheet * 64) + 8) 0) ((sheet * 64) + 9) 0) ((sheet * 64) + 10) 0) ((sheet * 64) + 11) 0) ((sheet * 64) + 12) 0) ((sheet * 64) + 13) 0) ((sheet * 64) + 14) 0) ((sheet * 64) + 15) 0), wI sh_sorts (zK C).2.1 4 (zu so sheet sort), wI sh_lengths (zK C).2.1 4 (zu len sheet many)] dX5_lay_44 rfl (by omega) rfl ?_
      refine z_iinc (a := 15) (v := 1) (r := 16) hC 0 [(4, .int (zI (16))), (0, .ref sh), (1, .int (zI (sheet))), (2, .int (zI (sort))), (3, .int (zI (many)))] dX5_lay_45 rfl (by decide) (by decide) rfl ?_
      refine z_goto hC 25 dX5_lay_48 (by decide) ?_
      refine z_iload hC 0 dX5_lay_25 rfl ?_
      refine z_bipush hC dX5_lay_27 (by decide) ?_
      refine z_icge hC 51 dX5_lay_29 (by decide) (by omega) (fun c_23 => by exfalso; omega) (fun c_23 => ?_)
      refine z_aload_n hC 1 dX5_lay_32 rfl rfl ?_
      refine z_get hC (T := TX5) (N := 3) hinX5 0 0 dX5_lay_33 rfl rfl (by decide) (List.mem_of_getElem? (i := 3) rfl) rfl rfl ?_
      refine z_iload_n hC 2 dX5_lay_36 rfl rfl ?_
      refine z_bipush hC dX5_lay_37 (by decide) ?_
      refine z_imul hC (sheet * 64) dX5_lay_39 rfl ?_
      refine z_iload hC 0 dX5_lay_40 rfl ?_
      refine z_iadd hC ((sheet * 64) + 16) dX5_lay_42 rfl ?_
      refine z_iconst hC dX5_lay_43 ?_
      refine z_iast hC 1 [wO sh 5 [.ref sh_numbers, .ref sh_sorts, .ref sh_lengths], wI sh_numbers (zK C).2.1 256 (zu (zu (zu (zu (zu (zu (zu (zu (zu (zu (zu (zu (zu (zu (zu (zu (zu g (sheet * 64) 0) ((sheet * 64) + 1) 0) ((sheet * 64) + 2) 0) ((sheet * 64) + 3) 0) ((sheet * 64) + 4) 0) ((sheet * 64) + 5) 0) ((sheet * 64) + 6) 0) ((sheet * 64) + 7) 0) ((sheet * 64) + 8) 0) ((sheet * 64) + 9) 0) ((sheet * 64) + 10) 0) ((sheet * 64) + 11) 0) ((sheet * 64) + 12) 0) ((sheet * 64) + 13) 0) ((sheet * 64) + 14) 0) ((sheet * 64) + 15) 0) ((sheet * 64) + 16) 0), wI sh_sorts (zK C).2.1 4 (zu so sheet sort), wI sh_lengths (zK C).2.1 4 (zu len sheet many)] dX5_lay_44 rfl (by omega) rfl ?_
      refine z_iinc (a := 16) (v := 1) (r := 17) hC 0 [(4, .int (zI (17))), (0, .ref sh), (1, .int (zI (sheet))), (2, .int (zI (sort))), (3, .int (zI (many)))] dX5_lay_45 rfl (by decide) (by decide) rfl ?_
      refine z_goto hC 25 dX5_lay_48 (by decide) ?_
      refine z_iload hC 0 dX5_lay_25 rfl ?_
      refine z_bipush hC dX5_lay_27 (by decide) ?_
      refine z_icge hC 51 dX5_lay_29 (by decide) (by omega) (fun c_24 => by exfalso; omega) (fun c_24 => ?_)
      refine z_aload_n hC 1 dX5_lay_32 rfl rfl ?_
      refine z_get hC (T := TX5) (N := 3) hinX5 0 0 dX5_lay_33 rfl rfl (by decide) (List.mem_of_getElem? (i := 3) rfl) rfl rfl ?_
      refine z_iload_n hC 2 dX5_lay_36 rfl rfl ?_
      refine z_bipush hC dX5_lay_37 (by decide) ?_
      refine z_imul hC (sheet * 64) dX5_lay_39 rfl ?_
      refine z_iload hC 0 dX5_lay_40 rfl ?_
      refine z_iadd hC ((sheet * 64) + 17) dX5_lay_42 rfl ?_
      refine z_iconst hC dX5_lay_43 ?_
      refine z_iast hC 1 [wO sh 5 [.ref sh_numbers, .ref sh_sorts, .ref sh_lengths], wI sh_numbers (zK C).2.1 256 (zu (zu (zu (zu (zu (zu (zu (zu (zu (zu (zu (zu (zu (zu (zu (zu (zu (zu g (sheet * 64) 0) ((sheet * 64) + 1) 0) ((sheet * 64) + 2) 0) ((sheet * 64) + 3) 0) ((sheet * 64) + 4) 0) ((sheet * 64) + 5) 0) ((sheet * 64) + 6) 0) ((sheet * 64) + 7) 0) ((sheet * 64) + 8) 0) ((sheet * 64) + 9) 0) ((sheet * 64) + 10) 0) ((sheet * 64) + 11) 0) ((sheet * 64) + 12) 0) ((sheet * 64) + 13) 0) ((sheet * 64) + 14) 0) ((sheet * 64) + 15) 0) ((sheet * 64) + 16) 0) ((sheet * 64) + 17) 0), wI sh_sorts (zK C).2.1 4 (zu so sheet sort), wI sh_lengths (zK C).2.1 4 (zu len sheet many)] dX5_lay_44 rfl (by omega) rfl ?_
      refine z_iinc (a := 17) (v := 1) (r := 18) hC 0 [(4, .int (zI (18))), (0, .ref sh), (1, .int (zI (sheet))), (2, .int (zI (sort))), (3, .int (zI (many)))] dX5_lay_45 rfl (by decide) (by decide) rfl ?_
      refine z_goto hC 25 dX5_lay_48 (by decide) ?_
      refine z_iload hC 0 dX5_lay_25 rfl ?_
      refine z_bipush hC dX5_lay_27 (by decide) ?_
      refine z_icge hC 51 dX5_lay_29 (by decide) (by omega) (fun c_25 => by exfalso; omega) (fun c_25 => ?_)
      refine z_aload_n hC 1 dX5_lay_32 rfl rfl ?_
      refine z_get hC (T := TX5) (N := 3) hinX5 0 0 dX5_lay_33 rfl rfl (by decide) (List.mem_of_getElem? (i := 3) rfl) rfl rfl ?_
      refine z_iload_n hC 2 dX5_lay_36 rfl rfl ?_
      refine z_bipush hC dX5_lay_37 (by decide) ?_
      refine z_imul hC (sheet * 64) dX5_lay_39 rfl ?_
      refine z_iload hC 0 dX5_lay_40 rfl ?_
      refine z_iadd hC ((sheet * 64) + 18) dX5_lay_42 rfl ?_
      refine z_iconst hC dX5_lay_43 ?_
      refine z_iast hC 1 [wO sh 5 [.ref sh_numbers, .ref sh_sorts, .ref sh_lengths], wI sh_numbers (zK C).2.1 256 (zu (zu (zu (zu (zu (zu (zu (zu (zu (zu (zu (zu (zu (zu (zu (zu (zu (zu (zu g (sheet * 64) 0) ((sheet * 64) + 1) 0) ((sheet * 64) + 2) 0) ((sheet * 64) + 3) 0) ((sheet * 64) + 4) 0) ((sheet * 64) + 5) 0) ((sheet * 64) + 6) 0) ((sheet * 64) + 7) 0) ((sheet * 64) + 8) 0) ((sheet * 64) + 9) 0) ((sheet * 64) + 10) 0) ((sheet * 64) + 11) 0) ((sheet * 64) + 12) 0) ((sheet * 64) + 13) 0) ((sheet * 64) + 14) 0) ((sheet * 64) + 15) 0) ((sheet * 64) + 16) 0) ((sheet * 64) + 17) 0) ((sheet * 64) + 18) 0), wI sh_sorts (zK C).2.1 4 (zu so sheet sort), wI sh_lengths (zK C).2.1 4 (zu len sheet many)] dX5_lay_44 rfl (by omega) rfl ?_
      refine z_iinc (a := 18) (v := 1) (r := 19) hC 0 [(4, .int (zI (19))), (0, .ref sh), (1, .int (zI (sheet))), (2, .int (zI (sort))), (3, .int (zI (many)))] dX5_lay_45 rfl (by decide) (by decide) rfl ?_
      refine z_goto hC 25 dX5_lay_48 (by decide) ?_
      refine z_iload hC 0 dX5_lay_25 rfl ?_
      refine z_bipush hC dX5_lay_27 (by decide) ?_
      refine z_icge hC 51 dX5_lay_29 (by decide) (by omega) (fun c_26 => by exfalso; omega) (fun c_26 => ?_)
      refine z_aload_n hC 1 dX5_lay_32 rfl rfl ?_
      refine z_get hC (T := TX5) (N := 3) hinX5 0 0 dX5_lay_33 rfl rfl (by decide) (List.mem_of_getElem? (i := 3) rfl) rfl rfl ?_
      refine z_iload_n hC 2 dX5_lay_36 rfl rfl ?_
      refine z_bipush hC dX5_lay_37 (by decide) ?_
      refine z_imul hC (sheet * 64) dX5_lay_39 rfl ?_
      refine z_iload hC 0 dX5_lay_40 rfl ?_
      refine z_iadd hC ((sheet * 64) + 19) dX5_lay_42 rfl ?_
      refine z_iconst hC dX5_lay_43 ?_
      refine z_iast hC 1 [wO sh 5 [.ref sh_numbers, .ref sh_sorts, .ref sh_lengths], wI sh_numbers (zK C).2.1 256 (zu (zu (zu (zu (zu (zu (zu (zu (zu (zu (zu (zu (zu (zu (zu (zu (zu (zu (zu (zu g (sheet * 64) 0) ((sheet * 64) + 1) 0) ((sheet * 64) + 2) 0) ((sheet * 64) + 3) 0) ((sheet * 64) + 4) 0) ((sheet * 64) + 5) 0) ((sheet * 64) + 6) 0) ((sheet * 64) + 7) 0) ((sheet * 64) + 8) 0) ((sheet * 64) + 9) 0) ((sheet * 64) + 10) 0) ((sheet * 64) + 11) 0) ((sheet * 64) + 12) 0) ((sheet * 64) + 13) 0) ((sheet * 64) + 14) 0) ((sheet * 64) + 15) 0) ((sheet * 64) + 16) 0) ((sheet * 64) + 17) 0) ((sheet * 64) + 18) 0) ((sheet * 64) + 19) 0), wI sh_sorts (zK C).2.1 4 (zu so sheet sort), wI sh_lengths (zK C).2.1 4 (zu len sheet many)] dX5_lay_44 rfl (by omega) rfl ?_
      refine z_iinc (a := 19) (v := 1) (r := 20) hC 0 [(4, .int (zI (20))), (0, .ref sh), (1, .int (zI (sheet))), (2, .int (zI (sort))), (3, .int (zI (many)))] dX5_lay_45 rfl (by decide) (by decide) rfl ?_
      refine z_goto hC 25 dX5_lay_48 (by decide) ?_
      refine z_iload hC 0 dX5_lay_25 rfl ?_
      refine z_bipush hC dX5_lay_27 (by decide) ?_
      refine z_icge hC 51 dX5_lay_29 (by decide) (by omega) (fun c_27 => by exfalso; omega) (fun c_27 => ?_)
      refine z_aload_n hC 1 dX5_lay_32 rfl rfl ?_
      refine z_get hC (T := TX5) (N := 3) hinX5 0 0 dX5_lay_33 rfl rfl (by decide) (List.mem_of_getElem? (i := 3) rfl) rfl rfl ?_
      refine z_iload_n hC 2 dX5_lay_36 rfl rfl ?_
      refine z_bipush hC dX5_lay_37 (by decide) ?_
      refine z_imul hC (sheet * 64) dX5_lay_39 rfl ?_
      refine z_iload hC 0 dX5_lay_40 rfl ?_
      refine z_iadd hC ((sheet * 64) + 20) dX5_lay_42 rfl ?_
      refine z_iconst hC dX5_lay_43 ?_
      refine z_iast hC 1 [wO sh 5 [.ref sh_numbers, .ref sh_sorts, .ref sh_lengths], wI sh_numbers (zK C).2.1 256 (zu (zu (zu (zu (zu (zu (zu (zu (zu (zu (zu (zu (zu (zu (zu (zu (zu (zu (zu (zu (zu g (sheet * 64) 0) ((sheet * 64) + 1) 0) ((sheet * 64) + 2) 0) ((sheet * 64) + 3) 0) ((sheet * 64) + 4) 0) ((sheet * 64) + 5) 0) ((sheet * 64) + 6) 0) ((sheet * 64) + 7) 0) ((sheet * 64) + 8) 0) ((sheet * 64) + 9) 0) ((sheet * 64) + 10) 0) ((sheet * 64) + 11) 0) ((sheet * 64) + 12) 0) ((sheet * 64) + 13) 0) ((sheet * 64) + 14) 0) ((sheet * 64) + 15) 0) ((sheet * 64) + 16) 0) ((sheet * 64) + 17) 0) ((sheet * 64) + 18) 0) ((sheet * 64) + 19) 0) ((sheet * 64) + 20) 0), wI sh_sorts (zK C).2.1 4 (zu so sheet sort), wI sh_lengths (zK C).2.1 4 (zu len sheet many)] dX5_lay_44 rfl (by omega) rfl ?_
      refine z_iinc (a := 20) (v := 1) (r := 21) hC 0 [(4, .int (zI (21))), (0, .ref sh), (1, .int (zI (sheet))), (2, .int (zI (sort))), (3, .int (zI (many)))] dX5_lay_45 rfl (by decide) (by decide) rfl ?_
      refine z_goto hC 25 dX5_lay_48 (by decide) ?_
      refine z_iload hC 0 dX5_lay_25 rfl ?_
      refine z_bipush hC dX5_lay_27 (by decide) ?_
      refine z_icge hC 51 dX5_lay_29 (by decide) (by omega) (fun c_28 => by exfalso; omega) (fun c_28 => ?_)
      refine z_aload_n hC 1 dX5_lay_32 rfl rfl ?_
      refine z_get hC (T := TX5) (N := 3) hinX5 0 0 dX5_lay_33 rfl rfl (by decide) (List.mem_of_getElem? (i := 3) rfl) rfl rfl ?_
      refine z_iload_n hC 2 dX5_lay_36 rfl rfl ?_
      refine z_bipush hC dX5_lay_37 (by decide) ?_
      refine z_imul hC (sheet * 64) dX5_lay_39 rfl ?_
      refine z_iload hC 0 dX5_lay_40 rfl ?_
      refine z_iadd hC ((sheet * 64) + 21) dX5_lay_42 rfl ?_
      refine z_iconst hC dX5_lay_43 ?_
      refine z_iast hC 1 [wO sh 5 [.ref sh_numbers, .ref sh_sorts, .ref sh_lengths], wI sh_numbers (zK C).2.1 256 (zu (zu (zu (zu (zu (zu (zu (zu (zu (zu (zu (zu (zu (zu (zu (zu (zu (zu (zu (zu (zu (zu g (sheet * 64) 0) ((sheet * 64) + 1) 0) ((sheet * 64) + 2) 0) ((sheet * 64) + 3) 0) ((sheet * 64) + 4) 0) ((sheet * 64) + 5) 0) ((sheet * 64) + 6) 0) ((sheet * 64) + 7) 0) ((sheet * 64) + 8) 0) ((sheet * 64) + 9) 0) ((sheet * 64) + 10) 0) ((sheet * 64) + 11) 0) ((sheet * 64) + 12) 0) ((sheet * 64) + 13) 0) ((sheet * 64) + 14) 0) ((sheet * 64) + 15) 0) ((sheet * 64) + 16) 0) ((sheet * 64) + 17) 0) ((sheet * 64) + 18) 0) ((sheet * 64) + 19) 0) ((sheet * 64) + 20) 0) ((sheet * 64) + 21) 0), wI sh_sorts (zK C).2.1 4 (zu so sheet sort), wI sh_lengths (zK C).2.1 4 (zu len sheet many)] dX5_lay_44 rfl (by omega) rfl ?_
      refine z_iinc (a := 21) (v := 1) (r := 22) hC 0 [(4, .int (zI (22))), (0, .ref sh), (1, .int (zI (sheet))), (2, .int (zI (sort))), (3, .int (zI (many)))] dX5_lay_45 rfl (by decide) (by decide) rfl ?_
      refine z_goto hC 25 dX5_lay_48 (by decide) ?_
      refine z_iload hC 0 dX5_lay_25 rfl ?_
      refine z_bipush hC dX5_lay_27 (by decide) ?_
      refine z_icge hC 51 dX5_lay_29 (by decide) (by omega) (fun c_29 => by exfalso; omega) (fun c_29 => ?_)
      refine z_aload_n hC 1 dX5_lay_32 rfl rfl ?_
      refine z_get hC (T := TX5) (N := 3) hinX5 0 0 dX5_lay_33 rfl rfl (by decide) (List.mem_of_getElem? (i := 3) rfl) rfl rfl ?_
      refine z_iload_n hC 2 dX5_lay_36 rfl rfl ?_
      refine z_bipush hC dX5_lay_37 (by decide) ?_
      refine z_imul hC (sheet * 64) dX5_lay_39 rfl ?_
      refine z_iload hC 0 dX5_lay_40 rfl ?_
      refine z_iadd hC ((sheet * 64) + 22) dX5_lay_42 rfl ?_
      refine z_iconst hC dX5_lay_43 ?_
      refine z_iast hC 1 [wO sh 5 [.ref sh_numbers, .ref sh_sorts, .ref sh_lengths], wI sh_numbers (zK C).2.1 256 (zu (zu (zu (zu (zu (zu (zu (zu (zu (zu (zu (zu (zu (zu (zu (zu (zu (zu (zu (zu (zu (zu (zu g (sheet * 64) 0) ((sheet * 64) + 1) 0) ((sheet * 64) + 2) 0) ((sheet * 64) + 3) 0) ((sheet * 64) + 4) 0) ((sheet * 64) + 5) 0) ((sheet * 64) + 6) 0) ((sheet * 64) + 7) 0) ((sheet * 64) + 8) 0) ((sheet * 64) + 9) 0) ((sheet * 64) + 10) 0) ((sheet * 64) + 11) 0) ((sheet * 64) + 12) 0) ((sheet * 64) + 13) 0) ((sheet * 64) + 14) 0) ((sheet * 64) + 15) 0) ((sheet * 64) + 16) 0) ((sheet * 64) + 17) 0) ((sheet * 64) + 18) 0) ((sheet * 64) + 19) 0) ((sheet * 64) + 20) 0) ((sheet * 64) + 21) 0) ((sheet * 64) + 22) 0), wI sh_sorts (zK C).2.1 4 (zu so sheet sort), wI sh_lengths (zK C).2.1 4 (zu len sheet many)] dX5_lay_44 rfl (by omega) rfl ?_
      refine z_iinc (a := 22) (v := 1) (r := 23) hC 0 [(4, .int (zI (23))), (0, .ref sh), (1, .int (zI (sheet))), (2, .int (zI (sort))), (3, .int (zI (many)))] dX5_lay_45 rfl (by decide) (by decide) rfl ?_
      refine z_goto hC 25 dX5_lay_48 (by decide) ?_
      refine z_iload hC 0 dX5_lay_25 rfl ?_
      refine z_bipush hC dX5_lay_27 (by decide) ?_
      refine z_icge hC 51 dX5_lay_29 (by decide) (by omega) (fun c_30 => by exfalso; omega) (fun c_30 => ?_)
      refine z_aload_n hC 1 dX5_lay_32 rfl rfl ?_
      refine z_get hC (T := TX5) (N := 3) hinX5 0 0 dX5_lay_33 rfl rfl (by decide) (List.mem_of_getElem? (i := 3) rfl) rfl rfl ?_
      refine z_iload_n hC 2 dX5_lay_36 rfl rfl ?_
      refine z_bipush hC dX5_lay_37 (by decide) ?_
      refine z_imul hC (sheet * 64) dX5_lay_39 rfl ?_
      refine z_iload hC 0 dX5_lay_40 rfl ?_
      refine z_iadd hC ((sheet * 64) + 23) dX5_lay_42 rfl ?_
      refine z_iconst hC dX5_lay_43 ?_
      refine z_iast hC 1 [wO sh 5 [.ref sh_numbers, .ref sh_sorts, .ref sh_lengths], wI sh_numbers (zK C).2.1 256 (zu (zu (zu (zu (zu (zu (zu (zu (zu (zu (zu (zu (zu (zu (zu (zu (zu (zu (zu (zu (zu (zu (zu (zu g (sheet * 64) 0) ((sheet * 64) + 1) 0) ((sheet * 64) + 2) 0) ((sheet * 64) + 3) 0) ((sheet * 64) + 4) 0) ((sheet * 64) + 5) 0) ((sheet * 64) + 6) 0) ((sheet * 64) + 7) 0) ((sheet * 64) + 8) 0) ((sheet * 64) + 9) 0) ((sheet * 64) + 10) 0) ((sheet * 64) + 11) 0) ((sheet * 64) + 12) 0) ((sheet * 64) + 13) 0) ((sheet * 64) + 14) 0) ((sheet * 64) + 15) 0) ((sheet * 64) + 16) 0) ((sheet * 64) + 17) 0) ((sheet * 64) + 18) 0) ((sheet * 64) + 19) 0) ((sheet * 64) + 20) 0) ((sheet * 64) + 21) 0) ((sheet * 64) + 22) 0) ((sheet * 64) + 23) 0), wI sh_sorts (zK C).2.1 4 (zu so sheet sort), wI sh_lengths (zK C).2.1 4 (zu len sheet many)] dX5_lay_44 rfl (by omega) rfl ?_
      refine z_iinc (a := 23) (v := 1) (r := 24) hC 0 [(4, .int (zI (24))), (0, .ref sh), (1, .int (zI (sheet))), (2, .int (zI (sort))), (3, .int (zI (many)))] dX5_lay_45 rfl (by decide) (by decide) rfl ?_
      refine z_goto hC 25 dX5_lay_48 (by decide) ?_
      refine z_iload hC 0 dX5_lay_25 rfl ?_
      refine z_bipush hC dX5_lay_27 (by decide) ?_
      refine z_icge hC 51 dX5_lay_29 (by decide) (by omega) (fun c_31 => by exfalso; omega) (fun c_31 => ?_)
      refine z_aload_n hC 1 dX5_lay_32 rfl rfl ?_
      refine z_get hC (T := TX5) (N := 3) hinX5 0 0 dX5_lay_33 rfl rfl (by decide) (List.mem_of_getElem? (i := 3) rfl) rfl rfl ?_
      refine z_iload_n hC 2 dX5_lay_36 rfl rfl ?_
      refine z_bipush hC dX5_lay_37 (by decide) ?_
      refine z_imul hC (sheet * 64) dX5_lay_39 rfl ?_
      refine z_iload hC 0 dX5_lay_40 rfl ?_
      refine z_iadd hC ((sheet * 64) + 24) dX5_lay_42 rfl ?_
      refine z_iconst hC dX5_lay_43 ?_
      refine z_iast hC 1 [wO sh 5 [.ref sh_numbers, .ref sh_sorts, .ref sh_lengths], wI sh_numbers (zK C).2.1 256 (zu (zu (zu (zu (zu (zu (zu (zu (zu (zu (zu (zu (zu (zu (zu (zu (zu (zu (zu (zu (zu (zu (zu (zu (zu g (sheet * 64) 0) ((sheet * 64) + 1) 0) ((sheet * 64) + 2) 0) ((sheet * 64) + 3) 0) ((sheet * 64) + 4) 0) ((sheet * 64) + 5) 0) ((sheet * 64) + 6) 0) ((sheet * 64) + 7) 0) ((sheet * 64) + 8) 0) ((sheet * 64) + 9) 0) ((sheet * 64) + 10) 0) ((sheet * 64) + 11) 0) ((sheet * 64) + 12) 0) ((sheet * 64) + 13) 0) ((sheet * 64) + 14) 0) ((sheet * 64) + 15) 0) ((sheet * 64) + 16) 0) ((sheet * 64) + 17) 0) ((sheet * 64) + 18) 0) ((sheet * 64) + 19) 0) ((sheet * 64) + 20) 0) ((sheet * 64) + 21) 0) ((sheet * 64) + 22) 0) ((sheet * 64) + 23) 0) ((sheet * 64) + 24) 0), wI sh_sorts (zK C).2.1 4 (zu so sheet sort), wI sh_lengths (zK C).2.1 4 (zu len sheet many)] dX5_lay_44 rfl (by omega) rfl ?_
      refine z_iinc (a := 24) (v := 1) (r := 25) hC 0 [(4, .int (zI (25))), (0, .ref sh), (1, .int (zI (sheet))), (2, .int (zI (sort))), (3, .int (zI (many)))] dX5_lay_45 rfl (by decide) (by decide) rfl ?_
      refine z_goto hC 25 dX5_lay_48 (by decide) ?_
      refine z_iload hC 0 dX5_lay_25 rfl ?_
      refine z_bipush hC dX5_lay_27 (by decide) ?_
      refine z_icge hC 51 dX5_lay_29 (by decide) (by omega) (fun c_32 => by exfalso; omega) (fun c_32 => ?_)
      refine z_aload_n hC 1 dX5_lay_32 rfl rfl ?_
      refine z_get hC (T := TX5) (N := 3) hinX5 0 0 dX5_lay_33 rfl rfl (by decide) (List.mem_of_getElem? (i := 3) rfl) rfl rfl ?_
      refine z_iload_n hC 2 dX5_lay_36 rfl rfl ?_
      refine z_bipush hC dX5_lay_37 (by decide) ?_
      refine z_imul hC (sheet * 64) dX5_lay_39 rfl ?_
      refine z_iload hC 0 dX5_lay_40 rfl ?_
      refine z_iadd hC ((sheet * 64) + 25) dX5_lay_42 rfl ?_
      refine z_iconst hC dX5_lay_43 ?_
      refine z_iast hC 1 [wO sh 5 [.ref sh_numbers, .ref sh_sorts, .ref sh_lengths], wI sh_numbers (zK C).2.1 256 (zu (zu (zu (zu (zu (zu (zu (zu (zu (zu (zu (zu (zu (zu (zu (zu (zu (zu (zu (zu (zu (zu (zu (zu (zu (zu g (sheet * 64) 0) ((sheet * 64) + 1) 0) ((sheet * 64) + 2) 0) ((sheet * 64) + 3) 0) ((sheet * 64) + 4) 0) ((sheet * 64) + 5) 0) ((sheet * 64) + 6) 0) ((sheet * 64) + 7) 0) ((sheet * 64) + 8) 0) ((sheet * 64) + 9) 0) ((sheet * 64) + 10) 0) ((sheet * 64) + 11) 0) ((sheet * 64) + 12) 0) ((sheet * 64) + 13) 0) ((sheet * 64) + 14) 0) ((sheet * 64) + 15) 0) ((sheet * 64) + 16) 0) ((sheet * 64) + 17) 0) ((sheet * 64) + 18) 0) ((sheet * 64) + 19) 0) ((sheet * 64) + 20) 0) ((sheet * 64) + 21) 0) ((sheet * 64) + 22) 0) ((sheet * 64) + 23) 0) ((sheet * 64) + 24) 0) ((sheet * 64) + 25) 0), wI sh_sorts (zK C).2.1 4 (zu so sheet sort), wI sh_lengths (zK C).2.1 4 (zu len sheet many)] dX5_lay_44 rfl (by omega) rfl ?_
      refine z_iinc (a := 25) (v := 1) (r := 26) hC 0 [(4, .int (zI (26))), (0, .ref sh), (1, .int (zI (sheet))), (2, .int (zI (sort))), (3, .int (zI (many)))] dX5_lay_45 rfl (by decide) (by decide) rfl ?_
      refine z_goto hC 25 dX5_lay_48 (by decide) ?_
      refine z_iload hC 0 dX5_lay_25 rfl ?_
      refine z_bipush hC dX5_lay_27 (by decide) ?_
      refine z_icge hC 51 dX5_lay_29 (by decide) (by omega) (fun c_33 => by exfalso; omega) (fun c_33 => ?_)
      refine z_aload_n hC 1 dX5_lay_32 rfl rfl ?_
      refine z_get hC (T := TX5) (N := 3) hinX5 0 0 dX5_lay_33 rfl rfl (by decide) (List.mem_of_getElem? (i := 3) rfl) rfl rfl ?_
      refine z_iload_n hC 2 dX5_lay_36 rfl rfl ?_
      refine z_bipush hC dX5_lay_37 (by decide) ?_
      refine z_imul hC (sheet * 64) dX5_lay_39 rfl ?_
      refine z_iload hC 0 dX5_lay_40 rfl ?_
      refine z_iadd hC ((sheet * 64) + 26) dX5_lay_42 rfl ?_
      refine z_iconst hC dX5_lay_43 ?_
      refine z_iast hC 1 [wO sh 5 [.ref sh_numbers, .ref sh_sorts, .ref sh_lengths], wI sh_numbers (zK C).2.1 256 (zu (zu (zu (zu (zu (zu (zu (zu (zu (zu (zu (zu (zu (zu (zu (zu (zu (zu (zu (zu (zu (zu (zu (zu (zu (zu (zu g (sheet * 64) 0) ((sheet * 64) + 1) 0) ((sheet * 64) + 2) 0) ((sheet * 64) + 3) 0) ((sheet * 64) + 4) 0) ((sheet * 64) + 5) 0) ((sheet * 64) + 6) 0) ((sheet * 64) + 7) 0) ((sheet * 64) + 8) 0) ((sheet * 64) + 9) 0) ((sheet * 64) + 10) 0) ((sheet * 64) + 11) 0) ((sheet * 64) + 12) 0) ((sheet * 64) + 13) 0) ((sheet * 64) + 14) 0) ((sheet * 64) + 15) 0) ((sheet * 64) + 16) 0) ((sheet * 64) + 17) 0) ((sheet * 64) + 18) 0) ((sheet * 64) + 19) 0) ((sheet * 64) + 20) 0) ((sheet * 64) + 21) 0) ((sheet * 64) + 22) 0) ((sheet * 64) + 23) 0) ((sheet * 64) + 24) 0) ((sheet * 64) + 25) 0) ((sheet * 64) + 26) 0), wI sh_sorts (zK C).2.1 4 (zu so sheet sort), wI sh_lengths (zK C).2.1 4 (zu len sheet many)] dX5_lay_44 rfl (by omega) rfl ?_
      refine z_iinc (a := 26) (v := 1) (r := 27) hC 0 [(4, .int (zI (27))), (0, .ref sh), (1, .int (zI (sheet))), (2, .int (zI (sort))), (3, .int (zI (many)))] dX5_lay_45 rfl (by decide) (by decide) rfl ?_
      refine z_goto hC 25 dX5_lay_48 (by decide) ?_
      refine z_iload hC 0 dX5_lay_25 rfl ?_
      refine z_bipush hC dX5_lay_27 (by decide) ?_
      refine z_icge hC 51 dX5_lay_29 (by decide) (by omega) (fun c_34 => by exfalso; omega) (fun c_34 => ?_)
      refine z_aload_n hC 1 dX5_lay_32 rfl rfl ?_
      refine z_get hC (T := TX5) (N := 3) hinX5 0 0 dX5_lay_33 rfl rfl (by decide) (List.mem_of_getElem? (i := 3) rfl) rfl rfl ?_
      refine z_iload_n hC 2 dX5_lay_36 rfl rfl ?_
      refine z_bipush hC dX5_lay_37 (by decide) ?_
      refine z_imul hC (sheet * 64) dX5_lay_39 rfl ?_
      refine z_iload hC 0 dX5_lay_40 rfl ?_
      refine z_iadd hC ((sheet * 64) + 27) dX5_lay_42 rfl ?_
      refine z_iconst hC dX5_lay_43 ?_
      refine z_iast hC 1 [wO sh 5 [.ref sh_numbers, .ref sh_sorts, .ref sh_lengths], wI sh_numbers (zK C).2.1 256 (zu (zu (zu (zu (zu (zu (zu (zu (zu (zu (zu (zu (zu (zu (zu (zu (zu (zu (zu (zu (zu (zu (zu (zu (zu (zu (zu (zu g (sheet * 64) 0) ((sheet * 64) + 1) 0) ((sheet * 64) + 2) 0) ((sheet * 64) + 3) 0) ((sheet * 64) + 4) 0) ((sheet * 64) + 5) 0) ((sheet * 64) + 6) 0) ((sheet * 64) + 7) 0) ((sheet * 64) + 8) 0) ((sheet * 64) + 9) 0) ((sheet * 64) + 10) 0) ((sheet * 64) + 11) 0) ((sheet * 64) + 12) 0) ((sheet * 64) + 13) 0) ((sheet * 64) + 14) 0) ((sheet * 64) + 15) 0) ((sheet * 64) + 16) 0) ((sheet * 64) + 17) 0) ((sheet * 64) + 18) 0) ((sheet * 64) + 19) 0) ((sheet * 64) + 20) 0) ((sheet * 64) + 21) 0) ((sheet * 64) + 22) 0) ((sheet * 64) + 23) 0) ((sheet * 64) + 24) 0) ((sheet * 64) + 25) 0) ((sheet * 64) + 26) 0) ((sheet * 64) + 27) 0), wI sh_sorts (zK C).2.1 4 (zu so sheet sort), wI sh_lengths (zK C).2.1 4 (zu len sheet many)] dX5_lay_44 rfl (by omega) rfl ?_
      refine z_iinc (a := 27) (v := 1) (r := 28) hC 0 [(4, .int (zI (28))), (0, .ref sh), (1, .int (zI (sheet))), (2, .int (zI (sort))), (3, .int (zI (many)))] dX5_lay_45 rfl (by decide) (by decide) rfl ?_
      refine z_goto hC 25 dX5_lay_48 (by decide) ?_
      refine z_iload hC 0 dX5_lay_25 rfl ?_
      refine z_bipush hC dX5_lay_27 (by decide) ?_
      refine z_icge hC 51 dX5_lay_29 (by decide) (by omega) (fun c_35 => by exfalso; omega) (fun c_35 => ?_)
      refine z_aload_n hC 1 dX5_lay_32 rfl rfl ?_
      refine z_get hC (T := TX5) (N := 3) hinX5 0 0 dX5_lay_33 rfl rfl (by decide) (List.mem_of_getElem? (i := 3) rfl) rfl rfl ?_
      refine z_iload_n hC 2 dX5_lay_36 rfl rfl ?_
      refine z_bipush hC dX5_lay_37 (by decide) ?_
      refine z_imul hC (sheet * 64) dX5_lay_39 rfl ?_
      refine z_iload hC 0 dX5_lay_40 rfl ?_
      refine z_iadd hC ((sheet * 64) + 28) dX5_lay_42 rfl ?_
      refine z_iconst hC dX5_lay_43 ?_
      refine z_iast hC 1 [wO sh 5 [.ref sh_numbers, .ref sh_sorts, .ref sh_lengths], wI sh_numbers (zK C).2.1 256 (zu (zu (zu (zu (zu (zu (zu (zu (zu (zu (zu (zu (zu (zu (zu (zu (zu (zu (zu (zu (zu (zu (zu (zu (zu (zu (zu (zu (zu g (sheet * 64) 0) ((sheet * 64) + 1) 0) ((sheet * 64) + 2) 0) ((sheet * 64) + 3) 0) ((sheet * 64) + 4) 0) ((sheet * 64) + 5) 0) ((sheet * 64) + 6) 0) ((sheet * 64) + 7) 0) ((sheet * 64) + 8) 0) ((sheet * 64) + 9) 0) ((sheet * 64) + 10) 0) ((sheet * 64) + 11) 0) ((sheet * 64) + 12) 0) ((sheet * 64) + 13) 0) ((sheet * 64) + 14) 0) ((sheet * 64) + 15) 0) ((sheet * 64) + 16) 0) ((sheet * 64) + 17) 0) ((sheet * 64) + 18) 0) ((sheet * 64) + 19) 0) ((sheet * 64) + 20) 0) ((sheet * 64) + 21) 0) ((sheet * 64) + 22) 0) ((sheet * 64) + 23) 0) ((sheet * 64) + 24) 0) ((sheet * 64) + 25) 0) ((sheet * 64) + 26) 0) ((sheet * 64) + 27) 0) ((sheet * 64) + 28) 0), wI sh_sorts (zK C).2.1 4 (zu so sheet sort), wI sh_lengths (zK C).2.1 4 (zu len sheet many)] dX5_lay_44 rfl (by omega) rfl ?_
      refine z_iinc (a := 28) (v := 1) (r := 29) hC 0 [(4, .int (zI (29))), (0, .ref sh), (1, .int (zI (sheet))), (2, .int (zI (sort))), (3, .int (zI (many)))] dX5_lay_45 rfl (by decide) (by decide) rfl ?_
      refine z_goto hC 25 dX5_lay_48 (by decide) ?_
      refine z_iload hC 0 dX5_lay_25 rfl ?_
      refine z_bipush hC dX5_lay_27 (by decide) ?_
      refine z_icge hC 51 dX5_lay_29 (by decide) (by omega) (fun c_36 => by exfalso; omega) (fun c_36 => ?_)
      refine z_aload_n hC 1 dX5_lay_32 rfl rfl ?_
      refine z_get hC (T := TX5) (N := 3) hinX5 0 0 dX5_lay_33 rfl rfl (by decide) (List.mem_of_getElem? (i := 3) rfl) rfl rfl ?_
      refine z_iload_n hC 2 dX5_lay_36 rfl rfl ?_
      refine z_bipush hC dX5_lay_37 (by decide) ?_
      refine z_imul hC (sheet * 64) dX5_lay_39 rfl ?_
      refine z_iload hC 0 dX5_lay_40 rfl ?_
      refine z_iadd hC ((sheet * 64) + 29) dX5_lay_42 rfl ?_
      refine z_iconst hC dX5_lay_43 ?_
      refine z_iast hC 1 [wO sh 5 [.ref sh_numbers, .ref sh_sorts, .ref sh_lengths], wI sh_numbers (zK C).2.1 256 (zu (zu (zu (zu (zu (zu (zu (zu (zu (zu (zu (zu (zu (zu (zu (zu (zu (zu (zu (zu (zu (zu (zu (zu (zu (zu (zu (zu (zu (zu g (sheet * 64) 0) ((sheet * 64) + 1) 0) ((sheet * 64) + 2) 0) ((sheet * 64) + 3) 0) ((sheet * 64) + 4) 0) ((sheet * 64) + 5) 0) ((sheet * 64) + 6) 0) ((sheet * 64) + 7) 0) ((sheet * 64) + 8) 0) ((sheet * 64) + 9) 0) ((sheet * 64) + 10) 0) ((sheet * 64) + 11) 0) ((sheet * 64) + 12) 0) ((sheet * 64) + 13) 0) ((sheet * 64) + 14) 0) ((sheet * 64) + 15) 0) ((sheet * 64) + 16) 0) ((sheet * 64) + 17) 0) ((sheet * 64) + 18) 0) ((sheet * 64) + 19) 0) ((sheet * 64) + 20) 0) ((sheet * 64) + 21) 0) ((sheet * 64) + 22) 0) ((sheet * 64) + 23) 0) ((sheet * 64) + 24) 0) ((sheet * 64) + 25) 0) ((sheet * 64) + 26) 0) ((sheet * 64) + 27) 0) ((sheet * 64) + 28) 0) ((sheet * 64) + 29) 0), wI sh_sorts (zK C).2.1 4 (zu so sheet sort), wI sh_lengths (zK C).2.1 4 (zu len sheet many)] dX5_lay_44 rfl (by omega) rfl ?_
      refine z_iinc (a := 29) (v := 1) (r := 30) hC 0 [(4, .int (zI (30))), (0, .ref sh), (1, .int (zI (sheet))), (2, .int (zI (sort))), (3, .int (zI (many)))] dX5_lay_45 rfl (by decide) (by decide) rfl ?_
      refine z_goto hC 25 dX5_lay_48 (by decide) ?_
      refine z_iload hC 0 dX5_lay_25 rfl ?_
      refine z_bipush hC dX5_lay_27 (by decide) ?_
      refine z_icge hC 51 dX5_lay_29 (by decide) (by omega) (fun c_37 => by exfalso; omega) (fun c_37 => ?_)
      refine z_aload_n hC 1 dX5_lay_32 rfl rfl ?_
      refine z_get hC (T := TX5) (N := 3) hinX5 0 0 dX5_lay_33 rfl rfl (by decide) (List.mem_of_getElem? (i := 3) rfl) rfl rfl ?_
      refine z_iload_n hC 2 dX5_lay_36 rfl rfl ?_
      refine z_bipush hC dX5_lay_37 (by decide) ?_
      refine z_imul hC (sheet * 64) dX5_lay_39 rfl ?_
      refine z_iload hC 0 dX5_lay_40 rfl ?_
      refine z_iadd hC ((sheet * 64) + 30) dX5_lay_42 rfl ?_
      refine z_iconst hC dX5_lay_43 ?_
      refine z_iast hC 1 [wO sh 5 [.ref sh_numbers, .ref sh_sorts, .ref sh_lengths], wI sh_numbers (zK C).2.1 256 (zu (zu (zu (zu (zu (zu (zu (zu (zu (zu (zu (zu (zu (zu (zu (zu (zu (zu (zu (zu (zu (zu (zu (zu (zu (zu (zu (zu (zu (zu (zu g (sheet * 64) 0) ((sheet * 64) + 1) 0) ((sheet * 64) + 2) 0) ((sheet * 64) + 3) 0) ((sheet * 64) + 4) 0) ((sheet * 64) + 5) 0) ((sheet * 64) + 6) 0) ((sheet * 64) + 7) 0) ((sheet * 64) + 8) 0) ((sheet * 64) + 9) 0) ((sheet * 64) + 10) 0) ((sheet * 64) + 11) 0) ((sheet * 64) + 12) 0) ((sheet * 64) + 13) 0) ((sheet * 64) + 14) 0) ((sheet * 64) + 15) 0) ((sheet * 64) + 16) 0) ((sheet * 64) + 17) 0) ((sheet * 64) + 18) 0) ((sheet * 64) + 19) 0) ((sheet * 64) + 20) 0) ((sheet * 64) + 21) 0) ((sheet * 64) + 22) 0) ((sheet * 64) + 23) 0) ((sheet * 64) + 24) 0) ((sheet * 64) + 25) 0) ((sheet * 64) + 26) 0) ((sheet * 64) + 27) 0) ((sheet * 64) + 28) 0) ((sheet * 64) + 29) 0) ((sheet * 64) + 30) 0), wI sh_sorts (zK C).2.1 4 (zu so sheet sort), wI sh_lengths (zK C).2.1 4 (zu len sheet many)] dX5_lay_44 rfl (by omega) rfl ?_
      refine z_iinc (a := 30) (v := 1) (r := 31) hC 0 [(4, .int (zI (31))), (0, .ref sh), (1, .int (zI (sheet))), (2, .int (zI (sort))), (3, .int (zI (many)))] dX5_lay_45 rfl (by decide) (by decide) rfl ?_
      refine z_goto hC 25 dX5_lay_48 (by decide) ?_
      refine z_iload hC 0 dX5_lay_25 rfl ?_
      refine z_bipush hC dX5_lay_27 (by decide) ?_
      refine z_icge hC 51 dX5_lay_29 (by decide) (by omega) (fun c_38 => by exfalso; omega) (fun c_38 => ?_)
      refine z_aload_n hC 1 dX5_lay_32 rfl rfl ?_
      refine z_get hC (T := TX5) (N := 3) hinX5 0 0 dX5_lay_33 rfl rfl (by decide) (List.mem_of_getElem? (i := 3) rfl) rfl rfl ?_
      refine z_iload_n hC 2 dX5_lay_36 rfl rfl ?_
      refine z_bipush hC dX5_lay_37 (by decide) ?_
      refine z_imul hC (sheet * 64) dX5_lay_39 rfl ?_
      refine z_iload hC 0 dX5_lay_40 rfl ?_
      refine z_iadd hC ((sheet * 64) + 31) dX5_lay_42 rfl ?_
      refine z_iconst hC dX5_lay_43 ?_
      refine z_iast hC 1 [wO sh 5 [.ref sh_numbers, .ref sh_sorts, .ref sh_lengths], wI sh_numbers (zK C).2.1 256 (zu (zu (zu (zu (zu (zu (zu (zu (zu (zu (zu (zu (zu (zu (zu (zu (zu (zu (zu (zu (zu (zu (zu (zu (zu (zu (zu (zu (zu (zu (zu (zu g (sheet * 64) 0) ((sheet * 64) + 1) 0) ((sheet * 64) + 2) 0) ((sheet * 64) + 3) 0) ((sheet * 64) + 4) 0) ((sheet * 64) + 5) 0) ((sheet * 64) + 6) 0) ((sheet * 64) + 7) 0) ((sheet * 64) + 8) 0) ((sheet * 64) + 9) 0) ((sheet * 64) + 10) 0) ((sheet * 64) + 11) 0) ((sheet * 64) + 12) 0) ((sheet * 64) + 13) 0) ((sheet * 64) + 14) 0) ((sheet * 64) + 15) 0) ((sheet * 64) + 16) 0) ((sheet * 64) + 17) 0) ((sheet * 64) + 18) 0) ((sheet * 64) + 19) 0) ((sheet * 64) + 20) 0) ((sheet * 64) + 21) 0) ((sheet * 64) + 22) 0) ((sheet * 64) + 23) 0) ((sheet * 64) + 24) 0) ((sheet * 64) + 25) 0) ((sheet * 64) + 26) 0) ((sheet * 64) + 27) 0) ((sheet * 64) + 28) 0) ((sheet * 64) + 29) 0) ((sheet * 64) + 30) 0) ((sheet * 64) + 31) 0), wI sh_sorts (zK C).2.1 4 (zu so sheet sort), wI sh_lengths (zK C).2.1 4 (zu len sheet many)] dX5_lay_44 rfl (by omega) rfl ?_
      refine z_iinc (a := 31) (v := 1) (r := 32) hC 0 [(4, .int (zI (32))), (0, .ref sh), (1, .int (zI (sheet))), (2, .int (zI (sort))), (3, .int (zI (many)))] dX5_lay_45 rfl (by decide) (by decide) rfl ?_
      refine z_goto hC 25 dX5_lay_48 (by decide) ?_
      refine z_iload hC 0 dX5_lay_25 rfl ?_
      refine z_bipush hC dX5_lay_27 (by decide) ?_
      refine z_icge hC 51 dX5_lay_29 (by decide) (by omega) (fun c_39 => by exfalso; omega) (fun c_39 => ?_)
      refine z_aload_n hC 1 dX5_lay_32 rfl rfl ?_
      refine z_get hC (T := TX5) (N := 3) hinX5 0 0 dX5_lay_33 rfl rfl (by decide) (List.mem_of_getElem? (i := 3) rfl) rfl rfl ?_
      refine z_iload_n hC 2 dX5_lay_36 rfl rfl ?_
      refine z_bipush hC dX5_lay_37 (by decide) ?_
      refine z_imul hC (sheet * 64) dX5_lay_39 rfl ?_
      refine z_iload hC 0 dX5_lay_40 rfl ?_
      refine z_iadd hC ((sheet * 64) + 32) dX5_lay_42 rfl ?_
      refine z_iconst hC dX5_lay_43 ?_
      refine z_iast hC 1 [wO sh 5 [.ref sh_numbers, .ref sh_sorts, .ref sh_lengths], wI sh_numbers (zK C).2.1 256 (zu (zu (zu (zu (zu (zu (zu (zu (zu (zu (zu (zu (zu (zu (zu (zu (zu (zu (zu (zu (zu (zu (zu (zu (zu (zu (zu (zu (zu (zu (zu (zu (zu g (sheet * 64) 0) ((sheet * 64) + 1) 0) ((sheet * 64) + 2) 0) ((sheet * 64) + 3) 0) ((sheet * 64) + 4) 0) ((sheet * 64) + 5) 0) ((sheet * 64) + 6) 0) ((sheet * 64) + 7) 0) ((sheet * 64) + 8) 0) ((sheet * 64) + 9) 0) ((sheet * 64) + 10) 0) ((sheet * 64) + 11) 0) ((sheet * 64) + 12) 0) ((sheet * 64) + 13) 0) ((sheet * 64) + 14) 0) ((sheet * 64) + 15) 0) ((sheet * 64) + 16) 0) ((sheet * 64) + 17) 0) ((sheet * 64) + 18) 0) ((sheet * 64) + 19) 0) ((sheet * 64) + 20) 0) ((sheet * 64) + 21) 0) ((sheet * 64) + 22) 0) ((sheet * 64) + 23) 0) ((sheet * 64) + 24) 0) ((sheet * 64) + 25) 0) ((sheet * 64) + 26) 0) ((sheet * 64) + 27) 0) ((sheet * 64) + 28) 0) ((sheet * 64) + 29) 0) ((sheet * 64) + 30) 0) ((sheet * 64) + 31) 0) ((sheet * 64) + 32) 0), wI sh_sorts (zK C).2.1 4 (zu so sheet sort), wI sh_lengths (zK C).2.1 4 (zu len sheet many)] dX5_lay_44 rfl (by omega) rfl ?_
      refine z_iinc (a := 32) (v := 1) (r := 33) hC 0 [(4, .int (zI (33))), (0, .ref sh), (1, .int (zI (sheet))), (2, .int (zI (sort))), (3, .int (zI (many)))] dX5_lay_45 rfl (by decide) (by decide) rfl ?_
      refine z_goto hC 25 dX5_lay_48 (by decide) ?_
      refine z_iload hC 0 dX5_lay_25 rfl ?_
      refine z_bipush hC dX5_lay_27 (by decide) ?_
      refine z_icge hC 51 dX5_lay_29 (by decide) (by omega) (fun c_40 => by exfalso; omega) (fun c_40 => ?_)
      refine z_aload_n hC 1 dX5_lay_32 rfl rfl ?_
      refine z_get hC (T := TX5) (N := 3) hinX5 0 0 dX5_lay_33 rfl rfl (by decide) (List.mem_of_getElem? (i := 3) rfl) rfl rfl ?_
      refine z_iload_n hC 2 dX5_lay_36 rfl rfl ?_
      refine z_bipush hC dX5_lay_37 (by decide) ?_
      refine z_imul hC (sheet * 64) dX5_lay_39 rfl ?_
      refine z_iload hC 0 dX5_lay_40 rfl ?_
      refine z_iadd hC ((sheet * 64) + 33) dX5_lay_42 rfl ?_
      refine z_iconst hC dX5_lay_43 ?_
      refine z_iast hC 1 [wO sh 5 [.ref sh_numbers, .ref sh_sorts, .ref sh_lengths], wI sh_numbers (zK C).2.1 256 (zu (zu (zu (zu (zu (zu (zu (zu (zu (zu (zu (zu (zu (zu (zu (zu (zu (zu (zu (zu (zu (zu (zu (zu (zu (zu (zu (zu (zu (zu (zu (zu (zu (zu g (sheet * 64) 0) ((sheet * 64) + 1) 0) ((sheet * 64) + 2) 0) ((sheet * 64) + 3) 0) ((sheet * 64) + 4) 0) ((sheet * 64) + 5) 0) ((sheet * 64) + 6) 0) ((sheet * 64) + 7) 0) ((sheet * 64) + 8) 0) ((sheet * 64) + 9) 0) ((sheet * 64) + 10) 0) ((sheet * 64) + 11) 0) ((sheet * 64) + 12) 0) ((sheet * 64) + 13) 0) ((sheet * 64) + 14) 0) ((sheet * 64) + 15) 0) ((sheet * 64) + 16) 0) ((sheet * 64) + 17) 0) ((sheet * 64) + 18) 0) ((sheet * 64) + 19) 0) ((sheet * 64) + 20) 0) ((sheet * 64) + 21) 0) ((sheet * 64) + 22) 0) ((sheet * 64) + 23) 0) ((sheet * 64) + 24) 0) ((sheet * 64) + 25) 0) ((sheet * 64) + 26) 0) ((sheet * 64) + 27) 0) ((sheet * 64) + 28) 0) ((sheet * 64) + 29) 0) ((sheet * 64) + 30) 0) ((sheet * 64) + 31) 0) ((sheet * 64) + 32) 0) ((sheet * 64) + 33) 0), wI sh_sorts (zK C).2.1 4 (zu so sheet sort), wI sh_lengths (zK C).2.1 4 (zu len sheet many)] dX5_lay_44 rfl (by omega) rfl ?_
      refine z_iinc (a := 33) (v := 1) (r := 34) hC 0 [(4, .int (zI (34))), (0, .ref sh), (1, .int (zI (sheet))), (2, .int (zI (sort))), (3, .int (zI (many)))] dX5_lay_45 rfl (by decide) (by decide) rfl ?_
      refine z_goto hC 25 dX5_lay_48 (by decide) ?_
      refine z_iload hC 0 dX5_lay_25 rfl ?_
      refine z_bipush hC dX5_lay_27 (by decide) ?_
      refine z_icge hC 51 dX5_lay_29 (by decide) (by omega) (fun c_41 => by exfalso; omega) (fun c_41 => ?_)
      refine z_aload_n hC 1 dX5_lay_32 rfl rfl ?_
      refine z_get hC (T := TX5) (N := 3) hinX5 0 0 dX5_lay_33 rfl rfl (by decide) (List.mem_of_getElem? (i := 3) rfl) rfl rfl ?_
      refine z_iload_n hC 2 dX5_lay_36 rfl rfl ?_
      refine z_bipush hC dX5_lay_37 (by decide) ?_
      refine z_imul hC (sheet * 64) dX5_lay_39 rfl ?_
      refine z_iload hC 0 dX5_lay_40 rfl ?_
      refine z_iadd hC ((sheet * 64) + 34) dX5_lay_42 rfl ?_
      refine z_iconst hC dX5_lay_43 ?_
      refine z_iast hC 1 [wO sh 5 [.ref sh_numbers, .ref sh_sorts, .ref sh_lengths], wI sh_numbers (zK C).2.1 256 (zu (zu (zu (zu (zu (zu (zu (zu (zu (zu (zu (zu (zu (zu (zu (zu (zu (zu (zu (zu (zu (zu (zu (zu (zu (zu (zu (zu (zu (zu (zu (zu (zu (zu (zu g (sheet * 64) 0) ((sheet * 64) + 1) 0) ((sheet * 64) + 2) 0) ((sheet * 64) + 3) 0) ((sheet * 64) + 4) 0) ((sheet * 64) + 5) 0) ((sheet * 64) + 6) 0) ((sheet * 64) + 7) 0) ((sheet * 64) + 8) 0) ((sheet * 64) + 9) 0) ((sheet * 64) + 10) 0) ((sheet * 64) + 11) 0) ((sheet * 64) + 12) 0) ((sheet * 64) + 13) 0) ((sheet * 64) + 14) 0) ((sheet * 64) + 15) 0) ((sheet * 64) + 16) 0) ((sheet * 64) + 17) 0) ((sheet * 64) + 18) 0) ((sheet * 64) + 19) 0) ((sheet * 64) + 20) 0) ((sheet * 64) + 21) 0) ((sheet * 64) + 22) 0) ((sheet * 64) + 23) 0) ((sheet * 64) + 24) 0) ((sheet * 64) + 25) 0) ((sheet * 64) + 26) 0) ((sheet * 64) + 27) 0) ((sheet * 64) + 28) 0) ((sheet * 64) + 29) 0) ((sheet * 64) + 30) 0) ((sheet * 64) + 31) 0) ((sheet * 64) + 32) 0) ((sheet * 64) + 33) 0) ((sheet * 64) + 34) 0), wI sh_sorts (zK C).2.1 4 (zu so sheet sort), wI sh_lengths (zK C).2.1 4 (zu len sheet many)] dX5_lay_44 rfl (by omega) rfl ?_
      refine z_iinc (a := 34) (v := 1) (r := 35) hC 0 [(4, .int (zI (35))), (0, .ref sh), (1, .int (zI (sheet))), (2, .int (zI (sort))), (3, .int (zI (many)))] dX5_lay_45 rfl (by decide) (by decide) rfl ?_
      refine z_goto hC 25 dX5_lay_48 (by decide) ?_
      refine z_iload hC 0 dX5_lay_25 rfl ?_
      refine z_bipush hC dX5_lay_27 (by decide) ?_
      refine z_icge hC 51 dX5_lay_29 (by decide) (by omega) (fun c_42 => by exfalso; omega) (fun c_42 => ?_)
      refine z_aload_n hC 1 dX5_lay_32 rfl rfl ?_
      refine z_get hC (T := TX5) (N := 3) hinX5 0 0 dX5_lay_33 rfl rfl (by decide) (List.mem_of_getElem? (i := 3) rfl) rfl rfl ?_
      refine z_iload_n hC 2 dX5_lay_36 rfl rfl ?_
      refine z_bipush hC dX5_lay_37 (by decide) ?_
      refine z_imul hC (sheet * 64) dX5_lay_39 rfl ?_
      refine z_iload hC 0 dX5_lay_40 rfl ?_
      refine z_iadd hC ((sheet * 64) + 35) dX5_lay_42 rfl ?_
      refine z_iconst hC dX5_lay_43 ?_
      refine z_iast hC 1 [wO sh 5 [.ref sh_numbers, .ref sh_sorts, .ref sh_lengths], wI sh_numbers (zK C).2.1 256 (zu (zu (zu (zu (zu (zu (zu (zu (zu (zu (zu (zu (zu (zu (zu (zu (zu (zu (zu (zu (zu (zu (zu (zu (zu (zu (zu (zu (zu (zu (zu (zu (zu (zu (zu (zu g (sheet * 64) 0) ((sheet * 64) + 1) 0) ((sheet * 64) + 2) 0) ((sheet * 64) + 3) 0) ((sheet * 64) + 4) 0) ((sheet * 64) + 5) 0) ((sheet * 64) + 6) 0) ((sheet * 64) + 7) 0) ((sheet * 64) + 8) 0) ((sheet * 64) + 9) 0) ((sheet * 64) + 10) 0) ((sheet * 64) + 11) 0) ((sheet * 64) + 12) 0) ((sheet * 64) + 13) 0) ((sheet * 64) + 14) 0) ((sheet * 64) + 15) 0) ((sheet * 64) + 16) 0) ((sheet * 64) + 17) 0) ((sheet * 64) + 18) 0) ((sheet * 64) + 19) 0) ((sheet * 64) + 20) 0) ((sheet * 64) + 21) 0) ((sheet * 64) + 22) 0) ((sheet * 64) + 23) 0) ((sheet * 64) + 24) 0) ((sheet * 64) + 25) 0) ((sheet * 64) + 26) 0) ((sheet * 64) + 27) 0) ((sheet * 64) + 28) 0) ((sheet * 64) + 29) 0) ((sheet * 64) + 30) 0) ((sheet * 64) + 31) 0) ((sheet * 64) + 32) 0) ((sheet * 64) + 33) 0) ((sheet * 64) + 34) 0) ((sheet * 64) + 35) 0), wI sh_sorts (zK C).2.1 4 (zu so sheet sort), wI sh_lengths (zK C).2.1 4 (zu len sheet many)] dX5_lay_44 rfl (by omega) rfl ?_
      refine z_iinc (a := 35) (v := 1) (r := 36) hC 0 [(4, .int (zI (36))), (0, .ref sh), (1, .int (zI (sheet))), (2, .int (zI (sort))), (3, .int (zI (many)))] dX5_lay_45 rfl (by decide) (by decide) rfl ?_
      refine z_goto hC 25 dX5_lay_48 (by decide) ?_
      refine z_iload hC 0 dX5_lay_25 rfl ?_
      refine z_bipush hC dX5_lay_27 (by decide) ?_
      refine z_icge hC 51 dX5_lay_29 (by decide) (by omega) (fun c_43 => by exfalso; omega) (fun c_43 => ?_)
      refine z_aload_n hC 1 dX5_lay_32 rfl rfl ?_
      refine z_get hC (T := TX5) (N := 3) hinX5 0 0 dX5_lay_33 rfl rfl (by decide) (List.mem_of_getElem? (i := 3) rfl) rfl rfl ?_
      refine z_iload_n hC 2 dX5_lay_36 rfl rfl ?_
      refine z_bipush hC dX5_lay_37 (by decide) ?_
      refine z_imul hC (sheet * 64) dX5_lay_39 rfl ?_
      refine z_iload hC 0 dX5_lay_40 rfl ?_
      refine z_iadd hC ((sheet * 64) + 36) dX5_lay_42 rfl ?_
      refine z_iconst hC dX5_lay_43 ?_
      refine z_iast hC 1 [wO sh 5 [.ref sh_numbers, .ref sh_sorts, .ref sh_lengths], wI sh_numbers (zK C).2.1 256 (zu (zu (zu (zu (zu (zu (zu (zu (zu (zu (zu (zu (zu (zu (zu (zu (zu (zu (zu (zu (zu (zu (zu (zu (zu (zu (zu (zu (zu (zu (zu (zu (zu (zu (zu (zu (zu g (sheet * 64) 0) ((sheet * 64) + 1) 0) ((sheet * 64) + 2) 0) ((sheet * 64) + 3) 0) ((sheet * 64) + 4) 0) ((sheet * 64) + 5) 0) ((sheet * 64) + 6) 0) ((sheet * 64) + 7) 0) ((sheet * 64) + 8) 0) ((sheet * 64) + 9) 0) ((sheet * 64) + 10) 0) ((sheet * 64) + 11) 0) ((sheet * 64) + 12) 0) ((sheet * 64) + 13) 0) ((sheet * 64) + 14) 0) ((sheet * 64) + 15) 0) ((sheet * 64) + 16) 0) ((sheet * 64) + 17) 0) ((sheet * 64) + 18) 0) ((sheet * 64) + 19) 0) ((sheet * 64) + 20) 0) ((sheet * 64) + 21) 0) ((sheet * 64) + 22) 0) ((sheet * 64) + 23) 0) ((sheet * 64) + 24) 0) ((sheet * 64) + 25) 0) ((sheet * 64) + 26) 0) ((sheet * 64) + 27) 0) ((sheet * 64) + 28) 0) ((sheet * 64) + 29) 0) ((sheet * 64) + 30) 0) ((sheet * 64) + 31) 0) ((sheet * 64) + 32) 0) ((sheet * 64) + 33) 0) ((sheet * 64) + 34) 0) ((sheet * 64) + 35) 0) ((sheet * 64) + 36) 0), wI sh_sorts (zK C).2.1 4 (zu so sheet sort), wI sh_lengths (zK C).2.1 4 (zu len sheet many)] dX5_lay_44 rfl (by omega) rfl ?_
      refine z_iinc (a := 36) (v := 1) (r := 37) hC 0 [(4, .int (zI (37))), (0, .ref sh), (1, .int (zI (sheet))), (2, .int (zI (sort))), (3, .int (zI (many)))] dX5_lay_45 rfl (by decide) (by decide) rfl ?_
      refine z_goto hC 25 dX5_lay_48 (by decide) ?_
      refine z_iload hC 0 dX5_lay_25 rfl ?_
      refine z_bipush hC dX5_lay_27 (by decide) ?_
      refine z_icge hC 51 dX5_lay_29 (by decide) (by omega) (fun c_44 => by exfalso; omega) (fun c_44 => ?_)
      refine z_aload_n hC 1 dX5_lay_32 rfl rfl ?_
      refine z_get hC (T := TX5) (N := 3) hinX5 0 0 dX5_lay_33 rfl rfl (by decide) (List.mem_of_getElem? (i := 3) rfl) rfl rfl ?_
      refine z_iload_n hC 2 dX5_lay_36 rfl rfl ?_
      refine z_bipush hC dX5_lay_37 (by decide) ?_
      refine z_imul hC (sheet * 64) dX5_lay_39 rfl ?_
      refine z_iload hC 0 dX5_lay_40 rfl ?_
      refine z_iadd hC ((sheet * 64) + 37) dX5_lay_42 rfl ?_
      refine z_iconst hC dX5_lay_43 ?_
      refine z_iast hC 1 [wO sh 5 [.ref sh_numbers, .ref sh_sorts, .ref sh_lengths], wI sh_numbers (zK C).2.1 256 (zu (zu (zu (zu (zu (zu (zu (zu (zu (zu (zu (zu (zu (zu (zu (zu (zu (zu (zu (zu (zu (zu (zu (zu (zu (zu (zu (zu (zu (zu (zu (zu (zu (zu (zu (zu (zu (zu g (sheet * 64) 0) ((sheet * 64) + 1) 0) ((sheet * 64) + 2) 0) ((sheet * 64) + 3) 0) ((sheet * 64) + 4) 0) ((sheet * 64) + 5) 0) ((sheet * 64) + 6) 0) ((sheet * 64) + 7) 0) ((sheet * 64) + 8) 0) ((sheet * 64) + 9) 0) ((sheet * 64) + 10) 0) ((sheet * 64) + 11) 0) ((sheet * 64) + 12) 0) ((sheet * 64) + 13) 0) ((sheet * 64) + 14) 0) ((sheet * 64) + 15) 0) ((sheet * 64) + 16) 0) ((sheet * 64) + 17) 0) ((sheet * 64) + 18) 0) ((sheet * 64) + 19) 0) ((sheet * 64) + 20) 0) ((sheet * 64) + 21) 0) ((sheet * 64) + 22) 0) ((sheet * 64) + 23) 0) ((sheet * 64) + 24) 0) ((sheet * 64) + 25) 0) ((sheet * 64) + 26) 0) ((sheet * 64) + 27) 0) ((sheet * 64) + 28) 0) ((sheet * 64) + 29) 0) ((sheet * 64) + 30) 0) ((sheet * 64) + 31) 0) ((sheet * 64) + 32) 0) ((sheet * 64) + 33) 0) ((sheet * 64) + 34) 0) ((sheet * 64) + 35) 0) ((sheet * 64) + 36) 0) ((sheet * 64) + 37) 0), wI sh_sorts (zK C).2.1 4 (zu so sheet sort), wI sh_lengths (zK C).2.1 4 (zu len sheet many)] dX5_lay_44 rfl (by omega) rfl ?_
      refine z_iinc (a := 37) (v := 1) (r := 38) hC 0 [(4, .int (zI (38))), (0, .ref sh), (1, .int (zI (sheet))), (2, .int (zI (sort))), (3, .int (zI (many)))] dX5_lay_45 rfl (by decide) (by decide) rfl ?_
      refine z_goto hC 25 dX5_lay_48 (by decide) ?_
      refine z_iload hC 0 dX5_lay_25 rfl ?_
      refine z_bipush hC dX5_lay_27 (by decide) ?_
      refine z_icge hC 51 dX5_lay_29 (by decide) (by omega) (fun c_45 => by exfalso; omega) (fun c_45 => ?_)
      refine z_aload_n hC 1 dX5_lay_32 rfl rfl ?_
      refine z_get hC (T := TX5) (N := 3) hinX5 0 0 dX5_lay_33 rfl rfl (by decide) (List.mem_of_getElem? (i := 3) rfl) rfl rfl ?_
      refine z_iload_n hC 2 dX5_lay_36 rfl rfl ?_
      refine z_bipush hC dX5_lay_37 (by decide) ?_
      refine z_imul hC (sheet * 64) dX5_lay_39 rfl ?_
      refine z_iload hC 0 dX5_lay_40 rfl ?_
      refine z_iadd hC ((sheet * 64) + 38) dX5_lay_42 rfl ?_
      refine z_iconst hC dX5_lay_43 ?_
      refine z_iast hC 1 [wO sh 5 [.ref sh_numbers, .ref sh_sorts, .ref sh_lengths], wI sh_numbers (zK C).2.1 256 (zu (zu (zu (zu (zu (zu (zu (zu (zu (zu (zu (zu (zu (zu (zu (zu (zu (zu (zu (zu (zu (zu (zu (zu (zu (zu (zu (zu (zu (zu (zu (zu (zu (zu (zu (zu (zu (zu (zu g (sheet * 64) 0) ((sheet * 64) + 1) 0) ((sheet * 64) + 2) 0) ((sheet * 64) + 3) 0) ((sheet * 64) + 4) 0) ((sheet * 64) + 5) 0) ((sheet * 64) + 6) 0) ((sheet * 64) + 7) 0) ((sheet * 64) + 8) 0) ((sheet * 64) + 9) 0) ((sheet * 64) + 10) 0) ((sheet * 64) + 11) 0) ((sheet * 64) + 12) 0) ((sheet * 64) + 13) 0) ((sheet * 64) + 14) 0) ((sheet * 64) + 15) 0) ((sheet * 64) + 16) 0) ((sheet * 64) + 17) 0) ((sheet * 64) + 18) 0) ((sheet * 64) + 19) 0) ((sheet * 64) + 20) 0) ((sheet * 64) + 21) 0) ((sheet * 64) + 22) 0) ((sheet * 64) + 23) 0) ((sheet * 64) + 24) 0) ((sheet * 64) + 25) 0) ((sheet * 64) + 26) 0) ((sheet * 64) + 27) 0) ((sheet * 64) + 28) 0) ((sheet * 64) + 29) 0) ((sheet * 64) + 30) 0) ((sheet * 64) + 31) 0) ((sheet * 64) + 32) 0) ((sheet * 64) + 33) 0) ((sheet * 64) + 34) 0) ((sheet * 64) + 35) 0) ((sheet * 64) + 36) 0) ((sheet * 64) + 37) 0) ((sheet * 64) + 38) 0), wI sh_sorts (zK C).2.1 4 (zu so sheet sort), wI sh_lengths (zK C).2.1 4 (zu len sheet many)] dX5_lay_44 rfl (by omega) rfl ?_
      refine z_iinc (a := 38) (v := 1) (r := 39) hC 0 [(4, .int (zI (39))), (0, .ref sh), (1, .int (zI (sheet))), (2, .int (zI (sort))), (3, .int (zI (many)))] dX5_lay_45 rfl (by decide) (by decide) rfl ?_
      refine z_goto hC 25 dX5_lay_48 (by decide) ?_
      refine z_iload hC 0 dX5_lay_25 rfl ?_
      refine z_bipush hC dX5_lay_27 (by decide) ?_
      refine z_icge hC 51 dX5_lay_29 (by decide) (by omega) (fun c_46 => by exfalso; omega) (fun c_46 => ?_)
      refine z_aload_n hC 1 dX5_lay_32 rfl rfl ?_
      refine z_get hC (T := TX5) (N := 3) hinX5 0 0 dX5_lay_33 rfl rfl (by decide) (List.mem_of_getElem? (i := 3) rfl) rfl rfl ?_
      refine z_iload_n hC 2 dX5_lay_36 rfl rfl ?_
      refine z_bipush hC dX5_lay_37 (by decide) ?_
      refine z_imul hC (sheet * 64) dX5_lay_39 rfl ?_
      refine z_iload hC 0 dX5_lay_40 rfl ?_
      refine z_iadd hC ((sheet * 64) + 39) dX5_lay_42 rfl ?_
      refine z_iconst hC dX5_lay_43 ?_
      refine z_iast hC 1 [wO sh 5 [.ref sh_numbers, .ref sh_sorts, .ref sh_lengths], wI sh_numbers (zK C).2.1 256 (zu (zu (zu (zu (zu (zu (zu (zu (zu (zu (zu (zu (zu (zu (zu (zu (zu (zu (zu (zu (zu (zu (zu (zu (zu (zu (zu (zu (zu (zu (zu (zu (zu (zu (zu (zu (zu (zu (zu (zu g (sheet * 64) 0) ((sheet * 64) + 1) 0) ((sheet * 64) + 2) 0) ((sheet * 64) + 3) 0) ((sheet * 64) + 4) 0) ((sheet * 64) + 5) 0) ((sheet * 64) + 6) 0) ((sheet * 64) + 7) 0) ((sheet * 64) + 8) 0) ((sheet * 64) + 9) 0) ((sheet * 64) + 10) 0) ((sheet * 64) + 11) 0) ((sheet * 64) + 12) 0) ((sheet * 64) + 13) 0) ((sheet * 64) + 14) 0) ((sheet * 64) + 15) 0) ((sheet * 64) + 16) 0) ((sheet * 64) + 17) 0) ((sheet * 64) + 18) 0) ((sheet * 64) + 19) 0) ((sheet * 64) + 20) 0) ((sheet * 64) + 21) 0) ((sheet * 64) + 22) 0) ((sheet * 64) + 23) 0) ((sheet * 64) + 24) 0) ((sheet * 64) + 25) 0) ((sheet * 64) + 26) 0) ((sheet * 64) + 27) 0) ((sheet * 64) + 28) 0) ((sheet * 64) + 29) 0) ((sheet * 64) + 30) 0) ((sheet * 64) + 31) 0) ((sheet * 64) + 32) 0) ((sheet * 64) + 33) 0) ((sheet * 64) + 34) 0) ((sheet * 64) + 35) 0) ((sheet * 64) + 36) 0) ((sheet * 64) + 37) 0) ((sheet * 64) + 38) 0) ((sheet * 64) + 39) 0), wI sh_sorts (zK C).2.1 4 (zu so sheet sort), wI sh_lengths (zK C).2.1 4 (zu len sheet many)] dX5_lay_44 rfl (by omega) rfl ?_
      refine z_iinc (a := 39) (v := 1) (r := 40) hC 0 [(4, .int (zI (40))), (0, .ref sh), (1, .int (zI (sheet))), (2, .int (zI (sort))), (3, .int (zI (many)))] dX5_lay_45 rfl (by decide) (by decide) rfl ?_
      refine z_goto hC 25 dX5_lay_48 (by decide) ?_
      refine z_iload hC 0 dX5_lay_25 rfl ?_
      refine z_bipush hC dX5_lay_27 (by decide) ?_
      refine z_icge hC 51 dX5_lay_29 (by decide) (by omega) (fun c_47 => by exfalso; omega) (fun c_47 => ?_)
      refine z_aload_n hC 1 dX5_lay_32 rfl rfl ?_
      refine z_get hC (T := TX5) (N := 3) hinX5 0 0 dX5_lay_33 rfl rfl (by decide) (List.mem_of_getElem? (i := 3) rfl) rfl rfl ?_
      refine z_iload_n hC 2 dX5_lay_36 rfl rfl ?_
      refine z_bipush hC dX5_lay_37 (by decide) ?_
      refine z_imul hC (sheet * 64) dX5_lay_39 rfl ?_
      refine z_iload hC 0 dX5_lay_40 rfl ?_
      refine z_iadd hC ((sheet * 64) + 40) dX5_lay_42 rfl ?_
      refine z_iconst hC dX5_lay_43 ?_
      refine z_iast hC 1 [wO sh 5 [.ref sh_numbers, .ref sh_sorts, .ref sh_lengths], wI sh_numbers (zK C).2.1 256 (zu (zu (zu (zu (zu (zu (zu (zu (zu (zu (zu (zu (zu (zu (zu (zu (zu (zu (zu (zu (zu (zu (zu (zu (zu (zu (zu (zu (zu (zu (zu (zu (zu (zu (zu (zu (zu (zu (zu (zu (zu g (sheet * 64) 0) ((sheet * 64) + 1) 0) ((sheet * 64) + 2) 0) ((sheet * 64) + 3) 0) ((sheet * 64) + 4) 0) ((sheet * 64) + 5) 0) ((sheet * 64) + 6) 0) ((sheet * 64) + 7) 0) ((sheet * 64) + 8) 0) ((sheet * 64) + 9) 0) ((sheet * 64) + 10) 0) ((sheet * 64) + 11) 0) ((sheet * 64) + 12) 0) ((sheet * 64) + 13) 0) ((sheet * 64) + 14) 0) ((sheet * 64) + 15) 0) ((sheet * 64) + 16) 0) ((sheet * 64) + 17) 0) ((sheet * 64) + 18) 0) ((sheet * 64) + 19) 0) ((sheet * 64) + 20) 0) ((sheet * 64) + 21) 0) ((sheet * 64) + 22) 0) ((sheet * 64) + 23) 0) ((sheet * 64) + 24) 0) ((sheet * 64) + 25) 0) ((sheet * 64) + 26) 0) ((sheet * 64) + 27) 0) ((sheet * 64) + 28) 0) ((sheet * 64) + 29) 0) ((sheet * 64) + 30) 0) ((sheet * 64) + 31) 0) ((sheet * 64) + 32) 0) ((sheet * 64) + 33) 0) ((sheet * 64) + 34) 0) ((sheet * 64) + 35) 0) ((sheet * 64) + 36) 0) ((sheet * 64) + 37) 0) ((sheet * 64) + 38) 0) ((sheet * 64) + 39) 0) ((sheet * 64) + 40) 0), wI sh_sorts (zK C).2.1 4 (zu so sheet sort), wI sh_lengths (zK C).2.1 4 (zu len sheet many)] dX5_lay_44 rfl (by omega) rfl ?_
      refine z_iinc (a := 40) (v := 1) (r := 41) hC 0 [(4, .int (zI (41))), (0, .ref sh), (1, .int (zI (sheet))), (2, .int (zI (sort))), (3, .int (zI (many)))] dX5_lay_45 rfl (by decide) (by decide) rfl ?_
      refine z_goto hC 25 dX5_lay_48 (by decide) ?_
      refine z_iload hC 0 dX5_lay_25 rfl ?_
      refine z_bipush hC dX5_lay_27 (by decide) ?_
      refine z_icge hC 51 dX5_lay_29 (by decide) (by omega) (fun c_48 => by exfalso; omega) (fun c_48 => ?_)
      refine z_aload_n hC 1 dX5_lay_32 rfl rfl ?_
      refine z_get hC (T := TX5) (N := 3) hinX5 0 0 dX5_lay_33 rfl rfl (by decide) (List.mem_of_getElem? (i := 3) rfl) rfl rfl ?_
      refine z_iload_n hC 2 dX5_lay_36 rfl rfl ?_
      refine z_bipush hC dX5_lay_37 (by decide) ?_
      refine z_imul hC (sheet * 64) dX5_lay_39 rfl ?_
      refine z_iload hC 0 dX5_lay_40 rfl ?_
      refine z_iadd hC ((sheet * 64) + 41) dX5_lay_42 rfl ?_
      refine z_iconst hC dX5_lay_43 ?_
      refine z_iast hC 1 [wO sh 5 [.ref sh_numbers, .ref sh_sorts, .ref sh_lengths], wI sh_numbers (zK C).2.1 256 (zu (zu (zu (zu (zu (zu (zu (zu (zu (zu (zu (zu (zu (zu (zu (zu (zu (zu (zu (zu (zu (zu (zu (zu (zu (zu (zu (zu (zu (zu (zu (zu (zu (zu (zu (zu (zu (zu (zu (zu (zu (zu g (sheet * 64) 0) ((sheet * 64) + 1) 0) ((sheet * 64) + 2) 0) ((sheet * 64) + 3) 0) ((sheet * 64) + 4) 0) ((sheet * 64) + 5) 0) ((sheet * 64) + 6) 0) ((sheet * 64) + 7) 0) ((sheet * 64) + 8) 0) ((sheet * 64) + 9) 0) ((sheet * 64) + 10) 0) ((sheet * 64) + 11) 0) ((sheet * 64) + 12) 0) ((sheet * 64) + 13) 0) ((sheet * 64) + 14) 0) ((sheet * 64) + 15) 0) ((sheet * 64) + 16) 0) ((sheet * 64) + 17) 0) ((sheet * 64) + 18) 0) ((sheet * 64) + 19) 0) ((sheet * 64) + 20) 0) ((sheet * 64) + 21) 0) ((sheet * 64) + 22) 0) ((sheet * 64) + 23) 0) ((sheet * 64) + 24) 0) ((sheet * 64) + 25) 0) ((sheet * 64) + 26) 0) ((sheet * 64) + 27) 0) ((sheet * 64) + 28) 0) ((sheet * 64) + 29) 0) ((sheet * 64) + 30) 0) ((sheet * 64) + 31) 0) ((sheet * 64) + 32) 0) ((sheet * 64) + 33) 0) ((sheet * 64) + 34) 0) ((sheet * 64) + 35) 0) ((sheet * 64) + 36) 0) ((sheet * 64) + 37) 0) ((sheet * 64) + 38) 0) ((sheet * 64) + 39) 0) ((sheet * 64) + 40) 0) ((sheet * 64) + 41) 0), wI sh_sorts (zK C).2.1 4 (zu so sheet sort), wI sh_lengths (zK C).2.1 4 (zu len sheet many)] dX5_lay_44 rfl (by omega) rfl ?_
      refine z_iinc (a := 41) (v := 1) (r := 42) hC 0 [(4, .int (zI (42))), (0, .ref sh), (1, .int (zI (sheet))), (2, .int (zI (sort))), (3, .int (zI (many)))] dX5_lay_45 rfl (by decide) (by decide) rfl ?_
      refine z_goto hC 25 dX5_lay_48 (by decide) ?_
      refine z_iload hC 0 dX5_lay_25 rfl ?_
      refine z_bipush hC dX5_lay_27 (by decide) ?_
      refine z_icge hC 51 dX5_lay_29 (by decide) (by omega) (fun c_49 => by exfalso; omega) (fun c_49 => ?_)
      refine z_aload_n hC 1 dX5_lay_32 rfl rfl ?_
      refine z_get hC (T := TX5) (N := 3) hinX5 0 0 dX5_lay_33 rfl rfl (by decide) (List.mem_of_getElem? (i := 3) rfl) rfl rfl ?_
      refine z_iload_n hC 2 dX5_lay_36 rfl rfl ?_
      refine z_bipush hC dX5_lay_37 (by decide) ?_
      refine z_imul hC (sheet * 64) dX5_lay_39 rfl ?_
      refine z_iload hC 0 dX5_lay_40 rfl ?_
      refine z_iadd hC ((sheet * 64) + 42) dX5_lay_42 rfl ?_
      refine z_iconst hC dX5_lay_43 ?_
      refine z_iast hC 1 [wO sh 5 [.ref sh_numbers, .ref sh_sorts, .ref sh_lengths], wI sh_numbers (zK C).2.1 256 (zu (zu (zu (zu (zu (zu (zu (zu (zu (zu (zu (zu (zu (zu (zu (zu (zu (zu (zu (zu (zu (zu (zu (zu (zu (zu (zu (zu (zu (zu (zu (zu (zu (zu (zu (zu (zu (zu (zu (zu (zu (zu (zu g (sheet * 64) 0) ((sheet * 64) + 1) 0) ((sheet * 64) + 2) 0) ((sheet * 64) + 3) 0) ((sheet * 64) + 4) 0) ((sheet * 64) + 5) 0) ((sheet * 64) + 6) 0) ((sheet * 64) + 7) 0) ((sheet * 64) + 8) 0) ((sheet * 64) + 9) 0) ((sheet * 64) + 10) 0) ((sheet * 64) + 11) 0) ((sheet * 64) + 12) 0) ((sheet * 64) + 13) 0) ((sheet * 64) + 14) 0) ((sheet * 64) + 15) 0) ((sheet * 64) + 16) 0) ((sheet * 64) + 17) 0) ((sheet * 64) + 18) 0) ((sheet * 64) + 19) 0) ((sheet * 64) + 20) 0) ((sheet * 64) + 21) 0) ((sheet * 64) + 22) 0) ((sheet * 64) + 23) 0) ((sheet * 64) + 24) 0) ((sheet * 64) + 25) 0) ((sheet * 64) + 26) 0) ((sheet * 64) + 27) 0) ((sheet * 64) + 28) 0) ((sheet * 64) + 29) 0) ((sheet * 64) + 30) 0) ((sheet * 64) + 31) 0) ((sheet * 64) + 32) 0) ((sheet * 64) + 33) 0) ((sheet * 64) + 34) 0) ((sheet * 64) + 35) 0) ((sheet * 64) + 36) 0) ((sheet * 64) + 37) 0) ((sheet * 64) + 38) 0) ((sheet * 64) + 39) 0) ((sheet * 64) + 40) 0) ((sheet * 64) + 41) 0) ((sheet * 64) + 42) 0), wI sh_sorts (zK C).2.1 4 (zu so sheet sort), wI sh_lengths (zK C).2.1 4 (zu len sheet many)] dX5_lay_44 rfl (by omega) rfl ?_
      refine z_iinc (a := 42) (v := 1) (r := 43) hC 0 [(4, .int (zI (43))), (0, .ref sh), (1, .int (zI (sheet))), (2, .int (zI (sort))), (3, .int (zI (many)))] dX5_lay_45 rfl (by decide) (by decide) rfl ?_
      refine z_goto hC 25 dX5_lay_48 (by decide) ?_
      refine z_iload hC 0 dX5_lay_25 rfl ?_
      refine z_bipush hC dX5_lay_27 (by decide) ?_
      refine z_icge hC 51 dX5_lay_29 (by decide) (by omega) (fun c_50 => by exfalso; omega) (fun c_50 => ?_)
      refine z_aload_n hC 1 dX5_lay_32 rfl rfl ?_
      refine z_get hC (T := TX5) (N := 3) hinX5 0 0 dX5_lay_33 rfl rfl (by decide) (List.mem_of_getElem? (i := 3) rfl) rfl rfl ?_
      refine z_iload_n hC 2 dX5_lay_36 rfl rfl ?_
      refine z_bipush hC dX5_lay_37 (by decide) ?_
      refine z_imul hC (sheet * 64) dX5_lay_39 rfl ?_
      refine z_iload hC 0 dX5_lay_40 rfl ?_
      refine z_iadd hC ((sheet * 64) + 43) dX5_lay_42 rfl ?_
      refine z_iconst hC dX5_lay_43 ?_
      refine z_iast hC 1 [wO sh 5 [.ref sh_numbers, .ref sh_sorts, .ref sh_lengths], wI sh_numbers (zK C).2.1 256 (zu (zu (zu (zu (zu (zu (zu (zu (zu (zu (zu (zu (zu (zu (zu (zu (zu (zu (zu (zu (zu (zu (zu (zu (zu (zu (zu (zu (zu (zu (zu (zu (zu (zu (zu (zu (zu (zu (zu (zu (zu (zu (zu (zu g (sheet * 64) 0) ((sheet * 64) + 1) 0) ((sheet * 64) + 2) 0) ((sheet * 64) + 3) 0) ((sheet * 64) + 4) 0) ((sheet * 64) + 5) 0) ((sheet * 64) + 6) 0) ((sheet * 64) + 7) 0) ((sheet * 64) + 8) 0) ((sheet * 64) + 9) 0) ((sheet * 64) + 10) 0) ((sheet * 64) + 11) 0) ((sheet * 64) + 12) 0) ((sheet * 64) + 13) 0) ((sheet * 64) + 14) 0) ((sheet * 64) + 15) 0) ((sheet * 64) + 16) 0) ((sheet * 64) + 17) 0) ((sheet * 64) + 18) 0) ((sheet * 64) + 19) 0) ((sheet * 64) + 20) 0) ((sheet * 64) + 21) 0) ((sheet * 64) + 22) 0) ((sheet * 64) + 23) 0) ((sheet * 64) + 24) 0) ((sheet * 64) + 25) 0) ((sheet * 64) + 26) 0) ((sheet * 64) + 27) 0) ((sheet * 64) + 28) 0) ((sheet * 64) + 29) 0) ((sheet * 64) + 30) 0) ((sheet * 64) + 31) 0) ((sheet * 64) + 32) 0) ((sheet * 64) + 33) 0) ((sheet * 64) + 34) 0) ((sheet * 64) + 35) 0) ((sheet * 64) + 36) 0) ((sheet * 64) + 37) 0) ((sheet * 64) + 38) 0) ((sheet * 64) + 39) 0) ((sheet * 64) + 40) 0) ((sheet * 64) + 41) 0) ((sheet * 64) + 42) 0) ((sheet * 64) + 43) 0), wI sh_sorts (zK C).2.1 4 (zu so sheet sort), wI sh_lengths (zK C).2.1 4 (zu len sheet many)] dX5_lay_44 rfl (by omega) rfl ?_
      refine z_iinc (a := 43) (v := 1) (r := 44) hC 0 [(4, .int (zI (44))), (0, .ref sh), (1, .int (zI (sheet))), (2, .int (zI (sort))), (3, .int (zI (many)))] dX5_lay_45 rfl (by decide) (by decide) rfl ?_
      refine z_goto hC 25 dX5_lay_48 (by decide) ?_
      refine z_iload hC 0 dX5_lay_25 rfl ?_
      refine z_bipush hC dX5_lay_27 (by decide) ?_
      refine z_icge hC 51 dX5_lay_29 (by decide) (by omega) (fun c_51 => by exfalso; omega) (fun c_51 => ?_)
      refine z_aload_n hC 1 dX5_lay_32 rfl rfl ?_
      refine z_get hC (T := TX5) (N := 3) hinX5 0 0 dX5_lay_33 rfl rfl (by decide) (List.mem_of_getElem? (i := 3) rfl) rfl rfl ?_
      refine z_iload_n hC 2 dX5_lay_36 rfl rfl ?_
      refine z_bipush hC dX5_lay_37 (by decide) ?_
      refine z_imul hC (sheet * 64) dX5_lay_39 rfl ?_
      refine z_iload hC 0 dX5_lay_40 rfl ?_
      refine z_iadd hC ((sheet * 64) + 44) dX5_lay_42 rfl ?_
      refine z_iconst hC dX5_lay_43 ?_
      refine z_iast hC 1 [wO sh 5 [.ref sh_numbers, .ref sh_sorts, .ref sh_lengths], wI sh_numbers (zK C).2.1 256 (zu (zu (zu (zu (zu (zu (zu (zu (zu (zu (zu (zu (zu (zu (zu (zu (zu (zu (zu (zu (zu (zu (zu (zu (zu (zu (zu (zu (zu (zu (zu (zu (zu (zu (zu (zu (zu (zu (zu (zu (zu (zu (zu (zu (zu g (sheet * 64) 0) ((sheet * 64) + 1) 0) ((sheet * 64) + 2) 0) ((sheet * 64) + 3) 0) ((sheet * 64) + 4) 0) ((sheet * 64) + 5) 0) ((sheet * 64) + 6) 0) ((sheet * 64) + 7) 0) ((sheet * 64) + 8) 0) ((sheet * 64) + 9) 0) ((sheet * 64) + 10) 0) ((sheet * 64) + 11) 0) ((sheet * 64) + 12) 0) ((sheet * 64) + 13) 0) ((sheet * 64) + 14) 0) ((sheet * 64) + 15) 0) ((sheet * 64) + 16) 0) ((sheet * 64) + 17) 0) ((sheet * 64) + 18) 0) ((sheet * 64) + 19) 0) ((sheet * 64) + 20) 0) ((sheet * 64) + 21) 0) ((sheet * 64) + 22) 0) ((sheet * 64) + 23) 0) ((sheet * 64) + 24) 0) ((sheet * 64) + 25) 0) ((sheet * 64) + 26) 0) ((sheet * 64) + 27) 0) ((sheet * 64) + 28) 0) ((sheet * 64) + 29) 0) ((sheet * 64) + 30) 0) ((sheet * 64) + 31) 0) ((sheet * 64) + 32) 0) ((sheet * 64) + 33) 0) ((sheet * 64) + 34) 0) ((sheet * 64) + 35) 0) ((sheet * 64) + 36) 0) ((sheet * 64) + 37) 0) ((sheet * 64) + 38) 0) ((sheet * 64) + 39) 0) ((sheet * 64) + 40) 0) ((sheet * 64) + 41) 0) ((sheet * 64) + 42) 0) ((sheet * 64) + 43) 0) ((sheet * 64) + 44) 0), wI sh_sorts (zK C).2.1 4 (zu so sheet sort), wI sh_lengths (zK C).2.1 4 (zu len sheet many)] dX5_lay_44 rfl (by omega) rfl ?_
      refine z_iinc (a := 44) (v := 1) (r := 45) hC 0 [(4, .int (zI (45))), (0, .ref sh), (1, .int (zI (sheet))), (2, .int (zI (sort))), (3, .int (zI (many)))] dX5_lay_45 rfl (by decide) (by decide) rfl ?_
      refine z_goto hC 25 dX5_lay_48 (by decide) ?_
      refine z_iload hC 0 dX5_lay_25 rfl ?_
      refine z_bipush hC dX5_lay_27 (by decide) ?_
      refine z_icge hC 51 dX5_lay_29 (by decide) (by omega) (fun c_52 => by exfalso; omega) (fun c_52 => ?_)
      refine z_aload_n hC 1 dX5_lay_32 rfl rfl ?_
      refine z_get hC (T := TX5) (N := 3) hinX5 0 0 dX5_lay_33 rfl rfl (by decide) (List.mem_of_getElem? (i := 3) rfl) rfl rfl ?_
      refine z_iload_n hC 2 dX5_lay_36 rfl rfl ?_
      refine z_bipush hC dX5_lay_37 (by decide) ?_
      refine z_imul hC (sheet * 64) dX5_lay_39 rfl ?_
      refine z_iload hC 0 dX5_lay_40 rfl ?_
      refine z_iadd hC ((sheet * 64) + 45) dX5_lay_42 rfl ?_
      refine z_iconst hC dX5_lay_43 ?_
      refine z_iast hC 1 [wO sh 5 [.ref sh_numbers, .ref sh_sorts, .ref sh_lengths], wI sh_numbers (zK C).2.1 256 (zu (zu (zu (zu (zu (zu (zu (zu (zu (zu (zu (zu (zu (zu (zu (zu (zu (zu (zu (zu (zu (zu (zu (zu (zu (zu (zu (zu (zu (zu (zu (zu (zu (zu (zu (zu (zu (zu (zu (zu (zu (zu (zu (zu (zu (zu g (sheet * 64) 0) ((sheet * 64) + 1) 0) ((sheet * 64) + 2) 0) ((sheet * 64) + 3) 0) ((sheet * 64) + 4) 0) ((sheet * 64) + 5) 0) ((sheet * 64) + 6) 0) ((sheet * 64) + 7) 0) ((sheet * 64) + 8) 0) ((sheet * 64) + 9) 0) ((sheet * 64) + 10) 0) ((sheet * 64) + 11) 0) ((sheet * 64) + 12) 0) ((sheet * 64) + 13) 0) ((sheet * 64) + 14) 0) ((sheet * 64) + 15) 0) ((sheet * 64) + 16) 0) ((sheet * 64) + 17) 0) ((sheet * 64) + 18) 0) ((sheet * 64) + 19) 0) ((sheet * 64) + 20) 0) ((sheet * 64) + 21) 0) ((sheet * 64) + 22) 0) ((sheet * 64) + 23) 0) ((sheet * 64) + 24) 0) ((sheet * 64) + 25) 0) ((sheet * 64) + 26) 0) ((sheet * 64) + 27) 0) ((sheet * 64) + 28) 0) ((sheet * 64) + 29) 0) ((sheet * 64) + 30) 0) ((sheet * 64) + 31) 0) ((sheet * 64) + 32) 0) ((sheet * 64) + 33) 0) ((sheet * 64) + 34) 0) ((sheet * 64) + 35) 0) ((sheet * 64) + 36) 0) ((sheet * 64) + 37) 0) ((sheet * 64) + 38) 0) ((sheet * 64) + 39) 0) ((sheet * 64) + 40) 0) ((sheet * 64) + 41) 0) ((sheet * 64) + 42) 0) ((sheet * 64) + 43) 0) ((sheet * 64) + 44) 0) ((sheet * 64) + 45) 0), wI sh_sorts (zK C).2.1 4 (zu so sheet sort), wI sh_lengths (zK C).2.1 4 (zu len sheet many)] dX5_lay_44 rfl (by omega) rfl ?_
      refine z_iinc (a := 45) (v := 1) (r := 46) hC 0 [(4, .int (zI (46))), (0, .ref sh), (1, .int (zI (sheet))), (2, .int (zI (sort))), (3, .int (zI (many)))] dX5_lay_45 rfl (by decide) (by decide) rfl ?_
      refine z_goto hC 25 dX5_lay_48 (by decide) ?_
      refine z_iload hC 0 dX5_lay_25 rfl ?_
      refine z_bipush hC dX5_lay_27 (by decide) ?_
      refine z_icge hC 51 dX5_lay_29 (by decide) (by omega) (fun c_53 => by exfalso; omega) (fun c_53 => ?_)
      refine z_aload_n hC 1 dX5_lay_32 rfl rfl ?_
      refine z_get hC (T := TX5) (N := 3) hinX5 0 0 dX5_lay_33 rfl rfl (by decide) (List.mem_of_getElem? (i := 3) rfl) rfl rfl ?_
      refine z_iload_n hC 2 dX5_lay_36 rfl rfl ?_
      refine z_bipush hC dX5_lay_37 (by decide) ?_
      refine z_imul hC (sheet * 64) dX5_lay_39 rfl ?_
      refine z_iload hC 0 dX5_lay_40 rfl ?_
      refine z_iadd hC ((sheet * 64) + 46) dX5_lay_42 rfl ?_
      refine z_iconst hC dX5_lay_43 ?_
      refine z_iast hC 1 [wO sh 5 [.ref sh_numbers, .ref sh_sorts, .ref sh_lengths], wI sh_numbers (zK C).2.1 256 (zu (zu (zu (zu (zu (zu (zu (zu (zu (zu (zu (zu (zu (zu (zu (zu (zu (zu (zu (zu (zu (zu (zu (zu (zu (zu (zu (zu (zu (zu (zu (zu (zu (zu (zu (zu (zu (zu (zu (zu (zu (zu (zu (zu (zu (zu (zu g (sheet * 64) 0) ((sheet * 64) + 1) 0) ((sheet * 64) + 2) 0) ((sheet * 64) + 3) 0) ((sheet * 64) + 4) 0) ((sheet * 64) + 5) 0) ((sheet * 64) + 6) 0) ((sheet * 64) + 7) 0) ((sheet * 64) + 8) 0) ((sheet * 64) + 9) 0) ((sheet * 64) + 10) 0) ((sheet * 64) + 11) 0) ((sheet * 64) + 12) 0) ((sheet * 64) + 13) 0) ((sheet * 64) + 14) 0) ((sheet * 64) + 15) 0) ((sheet * 64) + 16) 0) ((sheet * 64) + 17) 0) ((sheet * 64) + 18) 0) ((sheet * 64) + 19) 0) ((sheet * 64) + 20) 0) ((sheet * 64) + 21) 0) ((sheet * 64) + 22) 0) ((sheet * 64) + 23) 0) ((sheet * 64) + 24) 0) ((sheet * 64) + 25) 0) ((sheet * 64) + 26) 0) ((sheet * 64) + 27) 0) ((sheet * 64) + 28) 0) ((sheet * 64) + 29) 0) ((sheet * 64) + 30) 0) ((sheet * 64) + 31) 0) ((sheet * 64) + 32) 0) ((sheet * 64) + 33) 0) ((sheet * 64) + 34) 0) ((sheet * 64) + 35) 0) ((sheet * 64) + 36) 0) ((sheet * 64) + 37) 0) ((sheet * 64) + 38) 0) ((sheet * 64) + 39) 0) ((sheet * 64) + 40) 0) ((sheet * 64) + 41) 0) ((sheet * 64) + 42) 0) ((sheet * 64) + 43) 0) ((sheet * 64) + 44) 0) ((sheet * 64) + 45) 0) ((sheet * 64) + 46) 0), wI sh_sorts (zK C).2.1 4 (zu so sheet sort), wI sh_lengths (zK C).2.1 4 (zu len sheet many)] dX5_lay_44 rfl (by omega) rfl ?_
      refine z_iinc (a := 46) (v := 1) (r := 47) hC 0 [(4, .int (zI (47))), (0, .ref sh), (1, .int (zI (sheet))), (2, .int (zI (sort))), (3, .int (zI (many)))] dX5_lay_45 rfl (by decide) (by decide) rfl ?_
      refine z_goto hC 25 dX5_lay_48 (by decide) ?_
      refine z_iload hC 0 dX5_lay_25 rfl ?_
      refine z_bipush hC dX5_lay_27 (by decide) ?_
      refine z_icge hC 51 dX5_lay_29 (by decide) (by omega) (fun c_54 => by exfalso; omega) (fun c_54 => ?_)
      refine z_aload_n hC 1 dX5_lay_32 rfl rfl ?_
      refine z_get hC (T := TX5) (N := 3) hinX5 0 0 dX5_lay_33 rfl rfl (by decide) (List.mem_of_getElem? (i := 3) rfl) rfl rfl ?_
      refine z_iload_n hC 2 dX5_lay_36 rfl rfl ?_
      refine z_bipush hC dX5_lay_37 (by decide) ?_
      refine z_imul hC (sheet * 64) dX5_lay_39 rfl ?_
      refine z_iload hC 0 dX5_lay_40 rfl ?_
      refine z_iadd hC ((sheet * 64) + 47) dX5_lay_42 rfl ?_
      refine z_iconst hC dX5_lay_43 ?_
      refine z_iast hC 1 [wO sh 5 [.ref sh_numbers, .ref sh_sorts, .ref sh_lengths], wI sh_numbers (zK C).2.1 256 (zu (zu (zu (zu (zu (zu (zu (zu (zu (zu (zu (zu (zu (zu (zu (zu (zu (zu (zu (zu (zu (zu (zu (zu (zu (zu (zu (zu (zu (zu (zu (zu (zu (zu (zu (zu (zu (zu (zu (zu (zu (zu (zu (zu (zu (zu (zu (zu g (sheet * 64) 0) ((sheet * 64) + 1) 0) ((sheet * 64) + 2) 0) ((sheet * 64) + 3) 0) ((sheet * 64) + 4) 0) ((sheet * 64) + 5) 0) ((sheet * 64) + 6) 0) ((sheet * 64) + 7) 0) ((sheet * 64) + 8) 0) ((sheet * 64) + 9) 0) ((sheet * 64) + 10) 0) ((sheet * 64) + 11) 0) ((sheet * 64) + 12) 0) ((sheet * 64) + 13) 0) ((sheet * 64) + 14) 0) ((sheet * 64) + 15) 0) ((sheet * 64) + 16) 0) ((sheet * 64) + 17) 0) ((sheet * 64) + 18) 0) ((sheet * 64) + 19) 0) ((sheet * 64) + 20) 0) ((sheet * 64) + 21) 0) ((sheet * 64) + 22) 0) ((sheet * 64) + 23) 0) ((sheet * 64) + 24) 0) ((sheet * 64) + 25) 0) ((sheet * 64) + 26) 0) ((sheet * 64) + 27) 0) ((sheet * 64) + 28) 0) ((sheet * 64) + 29) 0) ((sheet * 64) + 30) 0) ((sheet * 64) + 31) 0) ((sheet * 64) + 32) 0) ((sheet * 64) + 33) 0) ((sheet * 64) + 34) 0) ((sheet * 64) + 35) 0) ((sheet * 64) + 36) 0) ((sheet * 64) + 37) 0) ((sheet * 64) + 38) 0) ((sheet * 64) + 39) 0) ((sheet * 64) + 40) 0) ((sheet * 64) + 41) 0) ((sheet * 64) + 42) 0) ((sheet * 64) + 43) 0) ((sheet * 64) + 44) 0) ((sheet * 64) + 45) 0) ((sheet * 64) + 46) 0) ((sheet * 64) + 47) 0), wI sh_sorts (zK C).2.1 4 (zu so sheet sort), wI sh_lengths (zK C).2.1 4 (zu len sheet many)] dX5_lay_44 rfl (by omega) rfl ?_
      refine z_iinc (a := 47) (v := 1) (r := 48) hC 0 [(4, .int (zI (48))), (0, .ref sh), (1, .int (zI (sheet))), (2, .int (zI (sort))), (3, .int (zI (many)))] dX5_lay_45 rfl (by decide) (by decide) rfl ?_
      refine z_goto hC 25 dX5_lay_48 (by decide) ?_
      refine z_iload hC 0 dX5_lay_25 rfl ?_
      refine z_bipush hC dX5_lay_27 (by decide) ?_
      refine z_icge hC 51 dX5_lay_29 (by decide) (by omega) (fun c_55 => by exfalso; omega) (fun c_55 => ?_)
      refine z_aload_n hC 1 dX5_lay_32 rfl rfl ?_
      refine z_get hC (T := TX5) (N := 3) hinX5 0 0 dX5_lay_33 rfl rfl (by decide) (List.mem_of_getElem? (i := 3) rfl) rfl rfl ?_
      refine z_iload_n hC 2 dX5_lay_36 rfl rfl ?_
      refine z_bipush hC dX5_lay_37 (by decide) ?_
      refine z_imul hC (sheet * 64) dX5_lay_39 rfl ?_
      refine z_iload hC 0 dX5_lay_40 rfl ?_
      refine z_iadd hC ((sheet * 64) + 48) dX5_lay_42 rfl ?_
      refine z_iconst hC dX5_lay_43 ?_
      refine z_iast hC 1 [wO sh 5 [.ref sh_numbers, .ref sh_sorts, .ref sh_lengths], wI sh_numbers (zK C).2.1 256 (zu (zu (zu (zu (zu (zu (zu (zu (zu (zu (zu (zu (zu (zu (zu (zu (zu (zu (zu (zu (zu (zu (zu (zu (zu (zu (zu (zu (zu (zu (zu (zu (zu (zu (zu (zu (zu (zu (zu (zu (zu (zu (zu (zu (zu (zu (zu (zu (zu g (sheet * 64) 0) ((sheet * 64) + 1) 0) ((sheet * 64) + 2) 0) ((sheet * 64) + 3) 0) ((sheet * 64) + 4) 0) ((sheet * 64) + 5) 0) ((sheet * 64) + 6) 0) ((sheet * 64) + 7) 0) ((sheet * 64) + 8) 0) ((sheet * 64) + 9) 0) ((sheet * 64) + 10) 0) ((sheet * 64) + 11) 0) ((sheet * 64) + 12) 0) ((sheet * 64) + 13) 0) ((sheet * 64) + 14) 0) ((sheet * 64) + 15) 0) ((sheet * 64) + 16) 0) ((sheet * 64) + 17) 0) ((sheet * 64) + 18) 0) ((sheet * 64) + 19) 0) ((sheet * 64) + 20) 0) ((sheet * 64) + 21) 0) ((sheet * 64) + 22) 0) ((sheet * 64) + 23) 0) ((sheet * 64) + 24) 0) ((sheet * 64) + 25) 0) ((sheet * 64) + 26) 0) ((sheet * 64) + 27) 0) ((sheet * 64) + 28) 0) ((sheet * 64) + 29) 0) ((sheet * 64) + 30) 0) ((sheet * 64) + 31) 0) ((sheet * 64) + 32) 0) ((sheet * 64) + 33) 0) ((sheet * 64) + 34) 0) ((sheet * 64) + 35) 0) ((sheet * 64) + 36) 0) ((sheet * 64) + 37) 0) ((sheet * 64) + 38) 0) ((sheet * 64) + 39) 0) ((sheet * 64) + 40) 0) ((sheet * 64) + 41) 0) ((sheet * 64) + 42) 0) ((sheet * 64) + 43) 0) ((sheet * 64) + 44) 0) ((sheet * 64) + 45) 0) ((sheet * 64) + 46) 0) ((sheet * 64) + 47) 0) ((sheet * 64) + 48) 0), wI sh_sorts (zK C).2.1 4 (zu so sheet sort), wI sh_lengths (zK C).2.1 4 (zu len sheet many)] dX5_lay_44 rfl (by omega) rfl ?_
      refine z_iinc (a := 48) (v := 1) (r := 49) hC 0 [(4, .int (zI (49))), (0, .ref sh), (1, .int (zI (sheet))), (2, .int (zI (sort))), (3, .int (zI (many)))] dX5_lay_45 rfl (by decide) (by decide) rfl ?_
      refine z_goto hC 25 dX5_lay_48 (by decide) ?_
      refine z_iload hC 0 dX5_lay_25 rfl ?_
      refine z_bipush hC dX5_lay_27 (by decide) ?_
      refine z_icge hC 51 dX5_lay_29 (by decide) (by omega) (fun c_56 => by exfalso; omega) (fun c_56 => ?_)
      refine z_aload_n hC 1 dX5_lay_32 rfl rfl ?_
      refine z_get hC (T := TX5) (N := 3) hinX5 0 0 dX5_lay_33 rfl rfl (by decide) (List.mem_of_getElem? (i := 3) rfl) rfl rfl ?_
      refine z_iload_n hC 2 dX5_lay_36 rfl rfl ?_
      refine z_bipush hC dX5_lay_37 (by decide) ?_
      refine z_imul hC (sheet * 64) dX5_lay_39 rfl ?_
      refine z_iload hC 0 dX5_lay_40 rfl ?_
      refine z_iadd hC ((sheet * 64) + 49) dX5_lay_42 rfl ?_
      refine z_iconst hC dX5_lay_43 ?_
      refine z_iast hC 1 [wO sh 5 [.ref sh_numbers, .ref sh_sorts, .ref sh_lengths], wI sh_numbers (zK C).2.1 256 (zu (zu (zu (zu (zu (zu (zu (zu (zu (zu (zu (zu (zu (zu (zu (zu (zu (zu (zu (zu (zu (zu (zu (zu (zu (zu (zu (zu (zu (zu (zu (zu (zu (zu (zu (zu (zu (zu (zu (zu (zu (zu (zu (zu (zu (zu (zu (zu (zu (zu g (sheet * 64) 0) ((sheet * 64) + 1) 0) ((sheet * 64) + 2) 0) ((sheet * 64) + 3) 0) ((sheet * 64) + 4) 0) ((sheet * 64) + 5) 0) ((sheet * 64) + 6) 0) ((sheet * 64) + 7) 0) ((sheet * 64) + 8) 0) ((sheet * 64) + 9) 0) ((sheet * 64) + 10) 0) ((sheet * 64) + 11) 0) ((sheet * 64) + 12) 0) ((sheet * 64) + 13) 0) ((sheet * 64) + 14) 0) ((sheet * 64) + 15) 0) ((sheet * 64) + 16) 0) ((sheet * 64) + 17) 0) ((sheet * 64) + 18) 0) ((sheet * 64) + 19) 0) ((sheet * 64) + 20) 0) ((sheet * 64) + 21) 0) ((sheet * 64) + 22) 0) ((sheet * 64) + 23) 0) ((sheet * 64) + 24) 0) ((sheet * 64) + 25) 0) ((sheet * 64) + 26) 0) ((sheet * 64) + 27) 0) ((sheet * 64) + 28) 0) ((sheet * 64) + 29) 0) ((sheet * 64) + 30) 0) ((sheet * 64) + 31) 0) ((sheet * 64) + 32) 0) ((sheet * 64) + 33) 0) ((sheet * 64) + 34) 0) ((sheet * 64) + 35) 0) ((sheet * 64) + 36) 0) ((sheet * 64) + 37) 0) ((sheet * 64) + 38) 0) ((sheet * 64) + 39) 0) ((sheet * 64) + 40) 0) ((sheet * 64) + 41) 0) ((sheet * 64) + 42) 0) ((sheet * 64) + 43) 0) ((sheet * 64) + 44) 0) ((sheet * 64) + 45) 0) ((sheet * 64) + 46) 0) ((sheet * 64) + 47) 0) ((sheet * 64) + 48) 0) ((sheet * 64) + 49) 0), wI sh_sorts (zK C).2.1 4 (zu so sheet sort), wI sh_lengths (zK C).2.1 4 (zu len sheet many)] dX5_lay_44 rfl (by omega) rfl ?_
      refine z_iinc (a := 49) (v := 1) (r := 50) hC 0 [(4, .int (zI (50))), (0, .ref sh), (1, .int (zI (sheet))), (2, .int (zI (sort))), (3, .int (zI (many)))] dX5_lay_45 rfl (by decide) (by decide) rfl ?_
      refine z_goto hC 25 dX5_lay_48 (by decide) ?_
      refine z_iload hC 0 dX5_lay_25 rfl ?_
      refine z_bipush hC dX5_lay_27 (by decide) ?_
      refine z_icge hC 51 dX5_lay_29 (by decide) (by omega) (fun c_57 => by exfalso; omega) (fun c_57 => ?_)
      refine z_aload_n hC 1 dX5_lay_32 rfl rfl ?_
      refine z_get hC (T := TX5) (N := 3) hinX5 0 0 dX5_lay_33 rfl rfl (by decide) (List.mem_of_getElem? (i := 3) rfl) rfl rfl ?_
      refine z_iload_n hC 2 dX5_lay_36 rfl rfl ?_
      refine z_bipush hC dX5_lay_37 (by decide) ?_
      refine z_imul hC (sheet * 64) dX5_lay_39 rfl ?_
      refine z_iload hC 0 dX5_lay_40 rfl ?_
      refine z_iadd hC ((sheet * 64) + 50) dX5_lay_42 rfl ?_
      refine z_iconst hC dX5_lay_43 ?_
      refine z_iast hC 1 [wO sh 5 [.ref sh_numbers, .ref sh_sorts, .ref sh_lengths], wI sh_numbers (zK C).2.1 256 (zu (zu (zu (zu (zu (zu (zu (zu (zu (zu (zu (zu (zu (zu (zu (zu (zu (zu (zu (zu (zu (zu (zu (zu (zu (zu (zu (zu (zu (zu (zu (zu (zu (zu (zu (zu (zu (zu (zu (zu (zu (zu (zu (zu (zu (zu (zu (zu (zu (zu (zu g (sheet * 64) 0) ((sheet * 64) + 1) 0) ((sheet * 64) + 2) 0) ((sheet * 64) + 3) 0) ((sheet * 64) + 4) 0) ((sheet * 64) + 5) 0) ((sheet * 64) + 6) 0) ((sheet * 64) + 7) 0) ((sheet * 64) + 8) 0) ((sheet * 64) + 9) 0) ((sheet * 64) + 10) 0) ((sheet * 64) + 11) 0) ((sheet * 64) + 12) 0) ((sheet * 64) + 13) 0) ((sheet * 64) + 14) 0) ((sheet * 64) + 15) 0) ((sheet * 64) + 16) 0) ((sheet * 64) + 17) 0) ((sheet * 64) + 18) 0) ((sheet * 64) + 19) 0) ((sheet * 64) + 20) 0) ((sheet * 64) + 21) 0) ((sheet * 64) + 22) 0) ((sheet * 64) + 23) 0) ((sheet * 64) + 24) 0) ((sheet * 64) + 25) 0) ((sheet * 64) + 26) 0) ((sheet * 64) + 27) 0) ((sheet * 64) + 28) 0) ((sheet * 64) + 29) 0) ((sheet * 64) + 30) 0) ((sheet * 64) + 31) 0) ((sheet * 64) + 32) 0) ((sheet * 64) + 33) 0) ((sheet * 64) + 34) 0) ((sheet * 64) + 35) 0) ((sheet * 64) + 36) 0) ((sheet * 64) + 37) 0) ((sheet * 64) + 38) 0) ((sheet * 64) + 39) 0) ((sheet * 64) + 40) 0) ((sheet * 64) + 41) 0) ((sheet * 64) + 42) 0) ((sheet * 64) + 43) 0) ((sheet * 64) + 44) 0) ((sheet * 64) + 45) 0) ((sheet * 64) + 46) 0) ((sheet * 64) + 47) 0) ((sheet * 64) + 48) 0) ((sheet * 64) + 49) 0) ((sheet * 64) + 50) 0), wI sh_sorts (zK C).2.1 4 (zu so sheet sort), wI sh_lengths (zK C).2.1 4 (zu len sheet many)] dX5_lay_44 rfl (by omega) rfl ?_
      refine z_iinc (a := 50) (v := 1) (r := 51) hC 0 [(4, .int (zI (51))), (0, .ref sh), (1, .int (zI (sheet))), (2, .int (zI (sort))), (3, .int (zI (many)))] dX5_lay_45 rfl (by decide) (by decide) rfl ?_
      refine z_goto hC 25 dX5_lay_48 (by decide) ?_
      refine z_iload hC 0 dX5_lay_25 rfl ?_
      refine z_bipush hC dX5_lay_27 (by decide) ?_
      refine z_icge hC 51 dX5_lay_29 (by decide) (by omega) (fun c_58 => by exfalso; omega) (fun c_58 => ?_)
      refine z_aload_n hC 1 dX5_lay_32 rfl rfl ?_
      refine z_get hC (T := TX5) (N := 3) hinX5 0 0 dX5_lay_33 rfl rfl (by decide) (List.mem_of_getElem? (i := 3) rfl) rfl rfl ?_
      refine z_iload_n hC 2 dX5_lay_36 rfl rfl ?_
      refine z_bipush hC dX5_lay_37 (by decide) ?_
      refine z_imul hC (sheet * 64) dX5_lay_39 rfl ?_
      refine z_iload hC 0 dX5_lay_40 rfl ?_
      refine z_iadd hC ((sheet * 64) + 51) dX5_lay_42 rfl ?_
      refine z_iconst hC dX5_lay_43 ?_
      refine z_iast hC 1 [wO sh 5 [.ref sh_numbers, .ref sh_sorts, .ref sh_lengths], wI sh_numbers (zK C).2.1 256 (zu (zu (zu (zu (zu (zu (zu (zu (zu (zu (zu (zu (zu (zu (zu (zu (zu (zu (zu (zu (zu (zu (zu (zu (zu (zu (zu (zu (zu (zu (zu (zu (zu (zu (zu (zu (zu (zu (zu (zu (zu (zu (zu (zu (zu (zu (zu (zu (zu (zu (zu (zu g (sheet * 64) 0) ((sheet * 64) + 1) 0) ((sheet * 64) + 2) 0) ((sheet * 64) + 3) 0) ((sheet * 64) + 4) 0) ((sheet * 64) + 5) 0) ((sheet * 64) + 6) 0) ((sheet * 64) + 7) 0) ((sheet * 64) + 8) 0) ((sheet * 64) + 9) 0) ((sheet * 64) + 10) 0) ((sheet * 64) + 11) 0) ((sheet * 64) + 12) 0) ((sheet * 64) + 13) 0) ((sheet * 64) + 14) 0) ((sheet * 64) + 15) 0) ((sheet * 64) + 16) 0) ((sheet * 64) + 17) 0) ((sheet * 64) + 18) 0) ((sheet * 64) + 19) 0) ((sheet * 64) + 20) 0) ((sheet * 64) + 21) 0) ((sheet * 64) + 22) 0) ((sheet * 64) + 23) 0) ((sheet * 64) + 24) 0) ((sheet * 64) + 25) 0) ((sheet * 64) + 26) 0) ((sheet * 64) + 27) 0) ((sheet * 64) + 28) 0) ((sheet * 64) + 29) 0) ((sheet * 64) + 30) 0) ((sheet * 64) + 31) 0) ((sheet * 64) + 32) 0) ((sheet * 64) + 33) 0) ((sheet * 64) + 34) 0) ((sheet * 64) + 35) 0) ((sheet * 64) + 36) 0) ((sheet * 64) + 37) 0) ((sheet * 64) + 38) 0) ((sheet * 64) + 39) 0) ((sheet * 64) + 40) 0) ((sheet * 64) + 41) 0) ((sheet * 64) + 42) 0) ((sheet * 64) + 43) 0) ((sheet * 64) + 44) 0) ((sheet * 64) + 45) 0) ((sheet * 64) + 46) 0) ((sheet * 64) + 47) 0) ((sheet * 64) + 48) 0) ((sheet * 64) + 49) 0) ((sheet * 64) + 50) 0) ((sheet * 64) + 51) 0), wI sh_sorts (zK C).2.1 4 (zu so sheet sort), wI sh_lengths (zK C).2.1 4 (zu len sheet many)] dX5_lay_44 rfl (by omega) rfl ?_
      refine z_iinc (a := 51) (v := 1) (r := 52) hC 0 [(4, .int (zI (52))), (0, .ref sh), (1, .int (zI (sheet))), (2, .int (zI (sort))), (3, .int (zI (many)))] dX5_lay_45 rfl (by decide) (by decide) rfl ?_
      refine z_goto hC 25 dX5_lay_48 (by decide) ?_
      refine z_iload hC 0 dX5_lay_25 rfl ?_
      refine z_bipush hC dX5_lay_27 (by decide) ?_
      refine z_icge hC 51 dX5_lay_29 (by decide) (by omega) (fun c_59 => by exfalso; omega) (fun c_59 => ?_)
      refine z_aload_n hC 1 dX5_lay_32 rfl rfl ?_
      refine z_get hC (T := TX5) (N := 3) hinX5 0 0 dX5_lay_33 rfl rfl (by decide) (List.mem_of_getElem? (i := 3) rfl) rfl rfl ?_
      refine z_iload_n hC 2 dX5_lay_36 rfl rfl ?_
      refine z_bipush hC dX5_lay_37 (by decide) ?_
      refine z_imul hC (sheet * 64) dX5_lay_39 rfl ?_
      refine z_iload hC 0 dX5_lay_40 rfl ?_
      refine z_iadd hC ((sheet * 64) + 52) dX5_lay_42 rfl ?_
      refine z_iconst hC dX5_lay_43 ?_
      refine z_iast hC 1 [wO sh 5 [.ref sh_numbers, .ref sh_sorts, .ref sh_lengths], wI sh_numbers (zK C).2.1 256 (zu (zu (zu (zu (zu (zu (zu (zu (zu (zu (zu (zu (zu (zu (zu (zu (zu (zu (zu (zu (zu (zu (zu (zu (zu (zu (zu (zu (zu (zu (zu (zu (zu (zu (zu (zu (zu (zu (zu (zu (zu (zu (zu (zu (zu (zu (zu (zu (zu (zu (zu (zu (zu g (sheet * 64) 0) ((sheet * 64) + 1) 0) ((sheet * 64) + 2) 0) ((sheet * 64) + 3) 0) ((sheet * 64) + 4) 0) ((sheet * 64) + 5) 0) ((sheet * 64) + 6) 0) ((sheet * 64) + 7) 0) ((sheet * 64) + 8) 0) ((sheet * 64) + 9) 0) ((sheet * 64) + 10) 0) ((sheet * 64) + 11) 0) ((sheet * 64) + 12) 0) ((sheet * 64) + 13) 0) ((sheet * 64) + 14) 0) ((sheet * 64) + 15) 0) ((sheet * 64) + 16) 0) ((sheet * 64) + 17) 0) ((sheet * 64) + 18) 0) ((sheet * 64) + 19) 0) ((sheet * 64) + 20) 0) ((sheet * 64) + 21) 0) ((sheet * 64) + 22) 0) ((sheet * 64) + 23) 0) ((sheet * 64) + 24) 0) ((sheet * 64) + 25) 0) ((sheet * 64) + 26) 0) ((sheet * 64) + 27) 0) ((sheet * 64) + 28) 0) ((sheet * 64) + 29) 0) ((sheet * 64) + 30) 0) ((sheet * 64) + 31) 0) ((sheet * 64) + 32) 0) ((sheet * 64) + 33) 0) ((sheet * 64) + 34) 0) ((sheet * 64) + 35) 0) ((sheet * 64) + 36) 0) ((sheet * 64) + 37) 0) ((sheet * 64) + 38) 0) ((sheet * 64) + 39) 0) ((sheet * 64) + 40) 0) ((sheet * 64) + 41) 0) ((sheet * 64) + 42) 0) ((sheet * 64) + 43) 0) ((sheet * 64) + 44) 0) ((sheet * 64) + 45) 0) ((sheet * 64) + 46) 0) ((sheet * 64) + 47) 0) ((sheet * 64) + 48) 0) ((sheet * 64) + 49) 0) ((sheet * 64) + 50) 0) ((sheet * 64) + 51) 0) ((sheet * 64) + 52) 0), wI sh_sorts (zK C).2.1 4 (zu so sheet sort), wI sh_lengths (zK C).2.1 4 (zu len sheet many)] dX5_lay_44 rfl (by omega) rfl ?_
      refine z_iinc (a := 52) (v := 1) (r := 53) hC 0 [(4, .int (zI (53))), (0, .ref sh), (1, .int (zI (sheet))), (2, .int (zI (sort))), (3, .int (zI (many)))] dX5_lay_45 rfl (by decide) (by decide) rfl ?_
      refine z_goto hC 25 dX5_lay_48 (by decide) ?_
      refine z_iload hC 0 dX5_lay_25 rfl ?_
      refine z_bipush hC dX5_lay_27 (by decide) ?_
      refine z_icge hC 51 dX5_lay_29 (by decide) (by omega) (fun c_60 => by exfalso; omega) (fun c_60 => ?_)
      refine z_aload_n hC 1 dX5_lay_32 rfl rfl ?_
      refine z_get hC (T := TX5) (N := 3) hinX5 0 0 dX5_lay_33 rfl rfl (by decide) (List.mem_of_getElem? (i := 3) rfl) rfl rfl ?_
      refine z_iload_n hC 2 dX5_lay_36 rfl rfl ?_
      refine z_bipush hC dX5_lay_37 (by decide) ?_
      refine z_imul hC (sheet * 64) dX5_lay_39 rfl ?_
      refine z_iload hC 0 dX5_lay_40 rfl ?_
      refine z_iadd hC ((sheet * 64) + 53) dX5_lay_42 rfl ?_
      refine z_iconst hC dX5_lay_43 ?_
      refine z_iast hC 1 [wO sh 5 [.ref sh_numbers, .ref sh_sorts, .ref sh_lengths], wI sh_numbers (zK C).2.1 256 (zu (zu (zu (zu (zu (zu (zu (zu (zu (zu (zu (zu (zu (zu (zu (zu (zu (zu (zu (zu (zu (zu (zu (zu (zu (zu (zu (zu (zu (zu (zu (zu (zu (zu (zu (zu (zu (zu (zu (zu (zu (zu (zu (zu (zu (zu (zu (zu (zu (zu (zu (zu (zu (zu g (sheet * 64) 0) ((sheet * 64) + 1) 0) ((sheet * 64) + 2) 0) ((sheet * 64) + 3) 0) ((sheet * 64) + 4) 0) ((sheet * 64) + 5) 0) ((sheet * 64) + 6) 0) ((sheet * 64) + 7) 0) ((sheet * 64) + 8) 0) ((sheet * 64) + 9) 0) ((sheet * 64) + 10) 0) ((sheet * 64) + 11) 0) ((sheet * 64) + 12) 0) ((sheet * 64) + 13) 0) ((sheet * 64) + 14) 0) ((sheet * 64) + 15) 0) ((sheet * 64) + 16) 0) ((sheet * 64) + 17) 0) ((sheet * 64) + 18) 0) ((sheet * 64) + 19) 0) ((sheet * 64) + 20) 0) ((sheet * 64) + 21) 0) ((sheet * 64) + 22) 0) ((sheet * 64) + 23) 0) ((sheet * 64) + 24) 0) ((sheet * 64) + 25) 0) ((sheet * 64) + 26) 0) ((sheet * 64) + 27) 0) ((sheet * 64) + 28) 0) ((sheet * 64) + 29) 0) ((sheet * 64) + 30) 0) ((sheet * 64) + 31) 0) ((sheet * 64) + 32) 0) ((sheet * 64) + 33) 0) ((sheet * 64) + 34) 0) ((sheet * 64) + 35) 0) ((sheet * 64) + 36) 0) ((sheet * 64) + 37) 0) ((sheet * 64) + 38) 0) ((sheet * 64) + 39) 0) ((sheet * 64) + 40) 0) ((sheet * 64) + 41) 0) ((sheet * 64) + 42) 0) ((sheet * 64) + 43) 0) ((sheet * 64) + 44) 0) ((sheet * 64) + 45) 0) ((sheet * 64) + 46) 0) ((sheet * 64) + 47) 0) ((sheet * 64) + 48) 0) ((sheet * 64) + 49) 0) ((sheet * 64) + 50) 0) ((sheet * 64) + 51) 0) ((sheet * 64) + 52) 0) ((sheet * 64) + 53) 0), wI sh_sorts (zK C).2.1 4 (zu so sheet sort), wI sh_lengths (zK C).2.1 4 (zu len sheet many)] dX5_lay_44 rfl (by omega) rfl ?_
      refine z_iinc (a := 53) (v := 1) (r := 54) hC 0 [(4, .int (zI (54))), (0, .ref sh), (1, .int (zI (sheet))), (2, .int (zI (sort))), (3, .int (zI (many)))] dX5_lay_45 rfl (by decide) (by decide) rfl ?_
      refine z_goto hC 25 dX5_lay_48 (by decide) ?_
      refine z_iload hC 0 dX5_lay_25 rfl ?_
      refine z_bipush hC dX5_lay_27 (by decide) ?_
      refine z_icge hC 51 dX5_lay_29 (by decide) (by omega) (fun c_61 => by exfalso; omega) (fun c_61 => ?_)
      refine z_aload_n hC 1 dX5_lay_32 rfl rfl ?_
      refine z_get hC (T := TX5) (N := 3) hinX5 0 0 dX5_lay_33 rfl rfl (by decide) (List.mem_of_getElem? (i := 3) rfl) rfl rfl ?_
      refine z_iload_n hC 2 dX5_lay_36 rfl rfl ?_
      refine z_bipush hC dX5_lay_37 (by decide) ?_
      refine z_imul hC (sheet * 64) dX5_lay_39 rfl ?_
      refine z_iload hC 0 dX5_lay_40 rfl ?_
      refine z_iadd hC ((sheet * 64) + 54) dX5_lay_42 rfl ?_
      refine z_iconst hC dX5_lay_43 ?_
      refine z_iast hC 1 [wO sh 5 [.ref sh_numbers, .ref sh_sorts, .ref sh_lengths], wI sh_numbers (zK C).2.1 256 (zu (zu (zu (zu (zu (zu (zu (zu (zu (zu (zu (zu (zu (zu (zu (zu (zu (zu (zu (zu (zu (zu (zu (zu (zu (zu (zu (zu (zu (zu (zu (zu (zu (zu (zu (zu (zu (zu (zu (zu (zu (zu (zu (zu (zu (zu (zu (zu (zu (zu (zu (zu (zu (zu (zu g (sheet * 64) 0) ((sheet * 64) + 1) 0) ((sheet * 64) + 2) 0) ((sheet * 64) + 3) 0) ((sheet * 64) + 4) 0) ((sheet * 64) + 5) 0) ((sheet * 64) + 6) 0) ((sheet * 64) + 7) 0) ((sheet * 64) + 8) 0) ((sheet * 64) + 9) 0) ((sheet * 64) + 10) 0) ((sheet * 64) + 11) 0) ((sheet * 64) + 12) 0) ((sheet * 64) + 13) 0) ((sheet * 64) + 14) 0) ((sheet * 64) + 15) 0) ((sheet * 64) + 16) 0) ((sheet * 64) + 17) 0) ((sheet * 64) + 18) 0) ((sheet * 64) + 19) 0) ((sheet * 64) + 20) 0) ((sheet * 64) + 21) 0) ((sheet * 64) + 22) 0) ((sheet * 64) + 23) 0) ((sheet * 64) + 24) 0) ((sheet * 64) + 25) 0) ((sheet * 64) + 26) 0) ((sheet * 64) + 27) 0) ((sheet * 64) + 28) 0) ((sheet * 64) + 29) 0) ((sheet * 64) + 30) 0) ((sheet * 64) + 31) 0) ((sheet * 64) + 32) 0) ((sheet * 64) + 33) 0) ((sheet * 64) + 34) 0) ((sheet * 64) + 35) 0) ((sheet * 64) + 36) 0) ((sheet * 64) + 37) 0) ((sheet * 64) + 38) 0) ((sheet * 64) + 39) 0) ((sheet * 64) + 40) 0) ((sheet * 64) + 41) 0) ((sheet * 64) + 42) 0) ((sheet * 64) + 43) 0) ((sheet * 64) + 44) 0) ((sheet * 64) + 45) 0) ((sheet * 64) + 46) 0) ((sheet * 64) + 47) 0) ((sheet * 64) + 48) 0) ((sheet * 64) + 49) 0) ((sheet * 64) + 50) 0) ((sheet * 64) + 51) 0) ((sheet * 64) + 52) 0) ((sheet * 64) + 53) 0) ((sheet * 64) + 54) 0), wI sh_sorts (zK C).2.1 4 (zu so sheet sort), wI sh_lengths (zK C).2.1 4 (zu len sheet many)] dX5_lay_44 rfl (by omega) rfl ?_
      refine z_iinc (a := 54) (v := 1) (r := 55) hC 0 [(4, .int (zI (55))), (0, .ref sh), (1, .int (zI (sheet))), (2, .int (zI (sort))), (3, .int (zI (many)))] dX5_lay_45 rfl (by decide) (by decide) rfl ?_
      refine z_goto hC 25 dX5_lay_48 (by decide) ?_
      refine z_iload hC 0 dX5_lay_25 rfl ?_
      refine z_bipush hC dX5_lay_27 (by decide) ?_
      refine z_icge hC 51 dX5_lay_29 (by decide) (by omega) (fun c_62 => by exfalso; omega) (fun c_62 => ?_)
      refine z_aload_n hC 1 dX5_lay_32 rfl rfl ?_
      refine z_get hC (T := TX5) (N := 3) hinX5 0 0 dX5_lay_33 rfl rfl (by decide) (List.mem_of_getElem? (i := 3) rfl) rfl rfl ?_
      refine z_iload_n hC 2 dX5_lay_36 rfl rfl ?_
      refine z_bipush hC dX5_lay_37 (by decide) ?_
      refine z_imul hC (sheet * 64) dX5_lay_39 rfl ?_
      refine z_iload hC 0 dX5_lay_40 rfl ?_
      refine z_iadd hC ((sheet * 64) + 55) dX5_lay_42 rfl ?_
      refine z_iconst hC dX5_lay_43 ?_
      refine z_iast hC 1 [wO sh 5 [.ref sh_numbers, .ref sh_sorts, .ref sh_lengths], wI sh_numbers (zK C).2.1 256 (zu (zu (zu (zu (zu (zu (zu (zu (zu (zu (zu (zu (zu (zu (zu (zu (zu (zu (zu (zu (zu (zu (zu (zu (zu (zu (zu (zu (zu (zu (zu (zu (zu (zu (zu (zu (zu (zu (zu (zu (zu (zu (zu (zu (zu (zu (zu (zu (zu (zu (zu (zu (zu (zu (zu (zu g (sheet * 64) 0) ((sheet * 64) + 1) 0) ((sheet * 64) + 2) 0) ((sheet * 64) + 3) 0) ((sheet * 64) + 4) 0) ((sheet * 64) + 5) 0) ((sheet * 64) + 6) 0) ((sheet * 64) + 7) 0) ((sheet * 64) + 8) 0) ((sheet * 64) + 9) 0) ((sheet * 64) + 10) 0) ((sheet * 64) + 11) 0) ((sheet * 64) + 12) 0) ((sheet * 64) + 13) 0) ((sheet * 64) + 14) 0) ((sheet * 64) + 15) 0) ((sheet * 64) + 16) 0) ((sheet * 64) + 17) 0) ((sheet * 64) + 18) 0) ((sheet * 64) + 19) 0) ((sheet * 64) + 20) 0) ((sheet * 64) + 21) 0) ((sheet * 64) + 22) 0) ((sheet * 64) + 23) 0) ((sheet * 64) + 24) 0) ((sheet * 64) + 25) 0) ((sheet * 64) + 26) 0) ((sheet * 64) + 27) 0) ((sheet * 64) + 28) 0) ((sheet * 64) + 29) 0) ((sheet * 64) + 30) 0) ((sheet * 64) + 31) 0) ((sheet * 64) + 32) 0) ((sheet * 64) + 33) 0) ((sheet * 64) + 34) 0) ((sheet * 64) + 35) 0) ((sheet * 64) + 36) 0) ((sheet * 64) + 37) 0) ((sheet * 64) + 38) 0) ((sheet * 64) + 39) 0) ((sheet * 64) + 40) 0) ((sheet * 64) + 41) 0) ((sheet * 64) + 42) 0) ((sheet * 64) + 43) 0) ((sheet * 64) + 44) 0) ((sheet * 64) + 45) 0) ((sheet * 64) + 46) 0) ((sheet * 64) + 47) 0) ((sheet * 64) + 48) 0) ((sheet * 64) + 49) 0) ((sheet * 64) + 50) 0) ((sheet * 64) + 51) 0) ((sheet * 64) + 52) 0) ((sheet * 64) + 53) 0) ((sheet * 64) + 54) 0) ((sheet * 64) + 55) 0), wI sh_sorts (zK C).2.1 4 (zu so sheet sort), wI sh_lengths (zK C).2.1 4 (zu len sheet many)] dX5_lay_44 rfl (by omega) rfl ?_
      refine z_iinc (a := 55) (v := 1) (r := 56) hC 0 [(4, .int (zI (56))), (0, .ref sh), (1, .int (zI (sheet))), (2, .int (zI (sort))), (3, .int (zI (many)))] dX5_lay_45 rfl (by decide) (by decide) rfl ?_
      refine z_goto hC 25 dX5_lay_48 (by decide) ?_
      refine z_iload hC 0 dX5_lay_25 rfl ?_
      refine z_bipush hC dX5_lay_27 (by decide) ?_
      refine z_icge hC 51 dX5_lay_29 (by decide) (by omega) (fun c_63 => by exfalso; omega) (fun c_63 => ?_)
      refine z_aload_n hC 1 dX5_lay_32 rfl rfl ?_
      refine z_get hC (T := TX5) (N := 3) hinX5 0 0 dX5_lay_33 rfl rfl (by decide) (List.mem_of_getElem? (i := 3) rfl) rfl rfl ?_
      refine z_iload_n hC 2 dX5_lay_36 rfl rfl ?_
      refine z_bipush hC dX5_lay_37 (by decide) ?_
      refine z_imul hC (sheet * 64) dX5_lay_39 rfl ?_
      refine z_iload hC 0 dX5_lay_40 rfl ?_
      refine z_iadd hC ((sheet * 64) + 56) dX5_lay_42 rfl ?_
      refine z_iconst hC dX5_lay_43 ?_
      refine z_iast hC 1 [wO sh 5 [.ref sh_numbers, .ref sh_sorts, .ref sh_lengths], wI sh_numbers (zK C).2.1 256 (zu (zu (zu (zu (zu (zu (zu (zu (zu (zu (zu (zu (zu (zu (zu (zu (zu (zu (zu (zu (zu (zu (zu (zu (zu (zu (zu (zu (zu (zu (zu (zu (zu (zu (zu (zu (zu (zu (zu (zu (zu (zu (zu (zu (zu (zu (zu (zu (zu (zu (zu (zu (zu (zu (zu (zu (zu g (sheet * 64) 0) ((sheet * 64) + 1) 0) ((sheet * 64) + 2) 0) ((sheet * 64) + 3) 0) ((sheet * 64) + 4) 0) ((sheet * 64) + 5) 0) ((sheet * 64) + 6) 0) ((sheet * 64) + 7) 0) ((sheet * 64) + 8) 0) ((sheet * 64) + 9) 0) ((sheet * 64) + 10) 0) ((sheet * 64) + 11) 0) ((sheet * 64) + 12) 0) ((sheet * 64) + 13) 0) ((sheet * 64) + 14) 0) ((sheet * 64) + 15) 0) ((sheet * 64) + 16) 0) ((sheet * 64) + 17) 0) ((sheet * 64) + 18) 0) ((sheet * 64) + 19) 0) ((sheet * 64) + 20) 0) ((sheet * 64) + 21) 0) ((sheet * 64) + 22) 0) ((sheet * 64) + 23) 0) ((sheet * 64) + 24) 0) ((sheet * 64) + 25) 0) ((sheet * 64) + 26) 0) ((sheet * 64) + 27) 0) ((sheet * 64) + 28) 0) ((sheet * 64) + 29) 0) ((sheet * 64) + 30) 0) ((sheet * 64) + 31) 0) ((sheet * 64) + 32) 0) ((sheet * 64) + 33) 0) ((sheet * 64) + 34) 0) ((sheet * 64) + 35) 0) ((sheet * 64) + 36) 0) ((sheet * 64) + 37) 0) ((sheet * 64) + 38) 0) ((sheet * 64) + 39) 0) ((sheet * 64) + 40) 0) ((sheet * 64) + 41) 0) ((sheet * 64) + 42) 0) ((sheet * 64) + 43) 0) ((sheet * 64) + 44) 0) ((sheet * 64) + 45) 0) ((sheet * 64) + 46) 0) ((sheet * 64) + 47) 0) ((sheet * 64) + 48) 0) ((sheet * 64) + 49) 0) ((sheet * 64) + 50) 0) ((sheet * 64) + 51) 0) ((sheet * 64) + 52) 0) ((sheet * 64) + 53) 0) ((sheet * 64) + 54) 0) ((sheet * 64) + 55) 0) ((sheet * 64) + 56) 0), wI sh_sorts (zK C).2.1 4 (zu so sheet sort), wI sh_lengths (zK C).2.1 4 (zu len sheet many)] dX5_lay_44 rfl (by omega) rfl ?_
      refine z_iinc (a := 56) (v := 1) (r := 57) hC 0 [(4, .int (zI (57))), (0, .ref sh), (1, .int (zI (sheet))), (2, .int (zI (sort))), (3, .int (zI (many)))] dX5_lay_45 rfl (by decide) (by decide) rfl ?_
      refine z_goto hC 25 dX5_lay_48 (by decide) ?_
      refine z_iload hC 0 dX5_lay_25 rfl ?_
      refine z_bipush hC dX5_lay_27 (by decide) ?_
      refine z_icge hC 51 dX5_lay_29 (by decide) (by omega) (fun c_64 => by exfalso; omega) (fun c_64 => ?_)
      refine z_aload_n hC 1 dX5_lay_32 rfl rfl ?_
      refine z_get hC (T := TX5) (N := 3) hinX5 0 0 dX5_lay_33 rfl rfl (by decide) (List.mem_of_getElem? (i := 3) rfl) rfl rfl ?_
      refine z_iload_n hC 2 dX5_lay_36 rfl rfl ?_
      refine z_bipush hC dX5_lay_37 (by decide) ?_
      refine z_imul hC (sheet * 64) dX5_lay_39 rfl ?_
      refine z_iload hC 0 dX5_lay_40 rfl ?_
      refine z_iadd hC ((sheet * 64) + 57) dX5_lay_42 rfl ?_
      refine z_iconst hC dX5_lay_43 ?_
      refine z_iast hC 1 [wO sh 5 [.ref sh_numbers, .ref sh_sorts, .ref sh_lengths], wI sh_numbers (zK C).2.1 256 (zu (zu (zu (zu (zu (zu (zu (zu (zu (zu (zu (zu (zu (zu (zu (zu (zu (zu (zu (zu (zu (zu (zu (zu (zu (zu (zu (zu (zu (zu (zu (zu (zu (zu (zu (zu (zu (zu (zu (zu (zu (zu (zu (zu (zu (zu (zu (zu (zu (zu (zu (zu (zu (zu (zu (zu (zu (zu g (sheet * 64) 0) ((sheet * 64) + 1) 0) ((sheet * 64) + 2) 0) ((sheet * 64) + 3) 0) ((sheet * 64) + 4) 0) ((sheet * 64) + 5) 0) ((sheet * 64) + 6) 0) ((sheet * 64) + 7) 0) ((sheet * 64) + 8) 0) ((sheet * 64) + 9) 0) ((sheet * 64) + 10) 0) ((sheet * 64) + 11) 0) ((sheet * 64) + 12) 0) ((sheet * 64) + 13) 0) ((sheet * 64) + 14) 0) ((sheet * 64) + 15) 0) ((sheet * 64) + 16) 0) ((sheet * 64) + 17) 0) ((sheet * 64) + 18) 0) ((sheet * 64) + 19) 0) ((sheet * 64) + 20) 0) ((sheet * 64) + 21) 0) ((sheet * 64) + 22) 0) ((sheet * 64) + 23) 0) ((sheet * 64) + 24) 0) ((sheet * 64) + 25) 0) ((sheet * 64) + 26) 0) ((sheet * 64) + 27) 0) ((sheet * 64) + 28) 0) ((sheet * 64) + 29) 0) ((sheet * 64) + 30) 0) ((sheet * 64) + 31) 0) ((sheet * 64) + 32) 0) ((sheet * 64) + 33) 0) ((sheet * 64) + 34) 0) ((sheet * 64) + 35) 0) ((sheet * 64) + 36) 0) ((sheet * 64) + 37) 0) ((sheet * 64) + 38) 0) ((sheet * 64) + 39) 0) ((sheet * 64) + 40) 0) ((sheet * 64) + 41) 0) ((sheet * 64) + 42) 0) ((sheet * 64) + 43) 0) ((sheet * 64) + 44) 0) ((sheet * 64) + 45) 0) ((sheet * 64) + 46) 0) ((sheet * 64) + 47) 0) ((sheet * 64) + 48) 0) ((sheet * 64) + 49) 0) ((sheet * 64) + 50) 0) ((sheet * 64) + 51) 0) ((sheet * 64) + 52) 0) ((sheet * 64) + 53) 0) ((sheet * 64) + 54) 0) ((sheet * 64) + 55) 0) ((sheet * 64) + 56) 0) ((sheet * 64) + 57) 0), wI sh_sorts (zK C).2.1 4 (zu so sheet sort), wI sh_lengths (zK C).2.1 4 (zu len sheet many)] dX5_lay_44 rfl (by omega) rfl ?_
      refine z_iinc (a := 57) (v := 1) (r := 58) hC 0 [(4, .int (zI (58))), (0, .ref sh), (1, .int (zI (sheet))), (2, .int (zI (sort))), (3, .int (zI (many)))] dX5_lay_45 rfl (by decide) (by decide) rfl ?_
      refine z_goto hC 25 dX5_lay_48 (by decide) ?_
      refine z_iload hC 0 dX5_lay_25 rfl ?_
      refine z_bipush hC dX5_lay_27 (by decide) ?_
      refine z_icge hC 51 dX5_lay_29 (by decide) (by omega) (fun c_65 => by exfalso; omega) (fun c_65 => ?_)
      refine z_aload_n hC 1 dX5_lay_32 rfl rfl ?_
      refine z_get hC (T := TX5) (N := 3) hinX5 0 0 dX5_lay_33 rfl rfl (by decide) (List.mem_of_getElem? (i := 3) rfl) rfl rfl ?_
      refine z_iload_n hC 2 dX5_lay_36 rfl rfl ?_
      refine z_bipush hC dX5_lay_37 (by decide) ?_
      refine z_imul hC (sheet * 64) dX5_lay_39 rfl ?_
      refine z_iload hC 0 dX5_lay_40 rfl ?_
      refine z_iadd hC ((sheet * 64) + 58) dX5_lay_42 rfl ?_
      refine z_iconst hC dX5_lay_43 ?_
      refine z_iast hC 1 [wO sh 5 [.ref sh_numbers, .ref sh_sorts, .ref sh_lengths], wI sh_numbers (zK C).2.1 256 (zu (zu (zu (zu (zu (zu (zu (zu (zu (zu (zu (zu (zu (zu (zu (zu (zu (zu (zu (zu (zu (zu (zu (zu (zu (zu (zu (zu (zu (zu (zu (zu (zu (zu (zu (zu (zu (zu (zu (zu (zu (zu (zu (zu (zu (zu (zu (zu (zu (zu (zu (zu (zu (zu (zu (zu (zu (zu (zu g (sheet * 64) 0) ((sheet * 64) + 1) 0) ((sheet * 64) + 2) 0) ((sheet * 64) + 3) 0) ((sheet * 64) + 4) 0) ((sheet * 64) + 5) 0) ((sheet * 64) + 6) 0) ((sheet * 64) + 7) 0) ((sheet * 64) + 8) 0) ((sheet * 64) + 9) 0) ((sheet * 64) + 10) 0) ((sheet * 64) + 11) 0) ((sheet * 64) + 12) 0) ((sheet * 64) + 13) 0) ((sheet * 64) + 14) 0) ((sheet * 64) + 15) 0) ((sheet * 64) + 16) 0) ((sheet * 64) + 17) 0) ((sheet * 64) + 18) 0) ((sheet * 64) + 19) 0) ((sheet * 64) + 20) 0) ((sheet * 64) + 21) 0) ((sheet * 64) + 22) 0) ((sheet * 64) + 23) 0) ((sheet * 64) + 24) 0) ((sheet * 64) + 25) 0) ((sheet * 64) + 26) 0) ((sheet * 64) + 27) 0) ((sheet * 64) + 28) 0) ((sheet * 64) + 29) 0) ((sheet * 64) + 30) 0) ((sheet * 64) + 31) 0) ((sheet * 64) + 32) 0) ((sheet * 64) + 33) 0) ((sheet * 64) + 34) 0) ((sheet * 64) + 35) 0) ((sheet * 64) + 36) 0) ((sheet * 64) + 37) 0) ((sheet * 64) + 38) 0) ((sheet * 64) + 39) 0) ((sheet * 64) + 40) 0) ((sheet * 64) + 41) 0) ((sheet * 64) + 42) 0) ((sheet * 64) + 43) 0) ((sheet * 64) + 44) 0) ((sheet * 64) + 45) 0) ((sheet * 64) + 46) 0) ((sheet * 64) + 47) 0) ((sheet * 64) + 48) 0) ((sheet * 64) + 49) 0) ((sheet * 64) + 50) 0) ((sheet * 64) + 51) 0) ((sheet * 64) + 52) 0) ((sheet * 64) + 53) 0) ((sheet * 64) + 54) 0) ((sheet * 64) + 55) 0) ((sheet * 64) + 56) 0) ((sheet * 64) + 57) 0) ((sheet * 64) + 58) 0), wI sh_sorts (zK C).2.1 4 (zu so sheet sort), wI sh_lengths (zK C).2.1 4 (zu len sheet many)] dX5_lay_44 rfl (by omega) rfl ?_
      refine z_iinc (a := 58) (v := 1) (r := 59) hC 0 [(4, .int (zI (59))), (0, .ref sh), (1, .int (zI (sheet))), (2, .int (zI (sort))), (3, .int (zI (many)))] dX5_lay_45 rfl (by decide) (by decide) rfl ?_
      refine z_goto hC 25 dX5_lay_48 (by decide) ?_
      refine z_iload hC 0 dX5_lay_25 rfl ?_
      refine z_bipush hC dX5_lay_27 (by decide) ?_
      refine z_icge hC 51 dX5_lay_29 (by decide) (by omega) (fun c_66 => by exfalso; omega) (fun c_66 => ?_)
      refine z_aload_n hC 1 dX5_lay_32 rfl rfl ?_
      refine z_get hC (T := TX5) (N := 3) hinX5 0 0 dX5_lay_33 rfl rfl (by decide) (List.mem_of_getElem? (i := 3) rfl) rfl rfl ?_
      refine z_iload_n hC 2 dX5_lay_36 rfl rfl ?_
      refine z_bipush hC dX5_lay_37 (by decide) ?_
      refine z_imul hC (sheet * 64) dX5_lay_39 rfl ?_
      refine z_iload hC 0 dX5_lay_40 rfl ?_
      refine z_iadd hC ((sheet * 64) + 59) dX5_lay_42 rfl ?_
      refine z_iconst hC dX5_lay_43 ?_
      refine z_iast hC 1 [wO sh 5 [.ref sh_numbers, .ref sh_sorts, .ref sh_lengths], wI sh_numbers (zK C).2.1 256 (zu (zu (zu (zu (zu (zu (zu (zu (zu (zu (zu (zu (zu (zu (zu (zu (zu (zu (zu (zu (zu (zu (zu (zu (zu (zu (zu (zu (zu (zu (zu (zu (zu (zu (zu (zu (zu (zu (zu (zu (zu (zu (zu (zu (zu (zu (zu (zu (zu (zu (zu (zu (zu (zu (zu (zu (zu (zu (zu (zu g (sheet * 64) 0) ((sheet * 64) + 1) 0) ((sheet * 64) + 2) 0) ((sheet * 64) + 3) 0) ((sheet * 64) + 4) 0) ((sheet * 64) + 5) 0) ((sheet * 64) + 6) 0) ((sheet * 64) + 7) 0) ((sheet * 64) + 8) 0) ((sheet * 64) + 9) 0) ((sheet * 64) + 10) 0) ((sheet * 64) + 11) 0) ((sheet * 64) + 12) 0) ((sheet * 64) + 13) 0) ((sheet * 64) + 14) 0) ((sheet * 64) + 15) 0) ((sheet * 64) + 16) 0) ((sheet * 64) + 17) 0) ((sheet * 64) + 18) 0) ((sheet * 64) + 19) 0) ((sheet * 64) + 20) 0) ((sheet * 64) + 21) 0) ((sheet * 64) + 22) 0) ((sheet * 64) + 23) 0) ((sheet * 64) + 24) 0) ((sheet * 64) + 25) 0) ((sheet * 64) + 26) 0) ((sheet * 64) + 27) 0) ((sheet * 64) + 28) 0) ((sheet * 64) + 29) 0) ((sheet * 64) + 30) 0) ((sheet * 64) + 31) 0) ((sheet * 64) + 32) 0) ((sheet * 64) + 33) 0) ((sheet * 64) + 34) 0) ((sheet * 64) + 35) 0) ((sheet * 64) + 36) 0) ((sheet * 64) + 37) 0) ((sheet * 64) + 38) 0) ((sheet * 64) + 39) 0) ((sheet * 64) + 40) 0) ((sheet * 64) + 41) 0) ((sheet * 64) + 42) 0) ((sheet * 64) + 43) 0) ((sheet * 64) + 44) 0) ((sheet * 64) + 45) 0) ((sheet * 64) + 46) 0) ((sheet * 64) + 47) 0) ((sheet * 64) + 48) 0) ((sheet * 64) + 49) 0) ((sheet * 64) + 50) 0) ((sheet * 64) + 51) 0) ((sheet * 64) + 52) 0) ((sheet * 64) + 53) 0) ((sheet * 64) + 54) 0) ((sheet * 64) + 55) 0) ((sheet * 64) + 56) 0) ((sheet * 64) + 57) 0) ((sheet * 64) + 58) 0) ((sheet * 64) + 59) 0), wI sh_sorts (zK C).2.1 4 (zu so sheet sort), wI sh_lengths (zK C).2.1 4 (zu len sheet many)] dX5_lay_44 rfl (by omega) rfl ?_
      refine z_iinc (a := 59) (v := 1) (r := 60) hC 0 [(4, .int (zI (60))), (0, .ref sh), (1, .int (zI (sheet))), (2, .int (zI (sort))), (3, .int (zI (many)))] dX5_lay_45 rfl (by decide) (by decide) rfl ?_
      refine z_goto hC 25 dX5_lay_48 (by decide) ?_
      refine z_iload hC 0 dX5_lay_25 rfl ?_
      refine z_bipush hC dX5_lay_27 (by decide) ?_
      refine z_icge hC 51 dX5_lay_29 (by decide) (by omega) (fun c_67 => by exfalso; omega) (fun c_67 => ?_)
      refine z_aload_n hC 1 dX5_lay_32 rfl rfl ?_
      refine z_get hC (T := TX5) (N := 3) hinX5 0 0 dX5_lay_33 rfl rfl (by decide) (List.mem_of_getElem? (i := 3) rfl) rfl rfl ?_
      refine z_iload_n hC 2 dX5_lay_36 rfl rfl ?_
      refine z_bipush hC dX5_lay_37 (by decide) ?_
      refine z_imul hC (sheet * 64) dX5_lay_39 rfl ?_
      refine z_iload hC 0 dX5_lay_40 rfl ?_
      refine z_iadd hC ((sheet * 64) + 60) dX5_lay_42 rfl ?_
      refine z_iconst hC dX5_lay_43 ?_
      refine z_iast hC 1 [wO sh 5 [.ref sh_numbers, .ref sh_sorts, .ref sh_lengths], wI sh_numbers (zK C).2.1 256 (zu (zu (zu (zu (zu (zu (zu (zu (zu (zu (zu (zu (zu (zu (zu (zu (zu (zu (zu (zu (zu (zu (zu (zu (zu (zu (zu (zu (zu (zu (zu (zu (zu (zu (zu (zu (zu (zu (zu (zu (zu (zu (zu (zu (zu (zu (zu (zu (zu (zu (zu (zu (zu (zu (zu (zu (zu (zu (zu (zu (zu g (sheet * 64) 0) ((sheet * 64) + 1) 0) ((sheet * 64) + 2) 0) ((sheet * 64) + 3) 0) ((sheet * 64) + 4) 0) ((sheet * 64) + 5) 0) ((sheet * 64) + 6) 0) ((sheet * 64) + 7) 0) ((sheet * 64) + 8) 0) ((sheet * 64) + 9) 0) ((sheet * 64) + 10) 0) ((sheet * 64) + 11) 0) ((sheet * 64) + 12) 0) ((sheet * 64) + 13) 0) ((sheet * 64) + 14) 0) ((sheet * 64) + 15) 0) ((sheet * 64) + 16) 0) ((sheet * 64) + 17) 0) ((sheet * 64) + 18) 0) ((sheet * 64) + 19) 0) ((sheet * 64) + 20) 0) ((sheet * 64) + 21) 0) ((sheet * 64) + 22) 0) ((sheet * 64) + 23) 0) ((sheet * 64) + 24) 0) ((sheet * 64) + 25) 0) ((sheet * 64) + 26) 0) ((sheet * 64) + 27) 0) ((sheet * 64) + 28) 0) ((sheet * 64) + 29) 0) ((sheet * 64) + 30) 0) ((sheet * 64) + 31) 0) ((sheet * 64) + 32) 0) ((sheet * 64) + 33) 0) ((sheet * 64) + 34) 0) ((sheet * 64) + 35) 0) ((sheet * 64) + 36) 0) ((sheet * 64) + 37) 0) ((sheet * 64) + 38) 0) ((sheet * 64) + 39) 0) ((sheet * 64) + 40) 0) ((sheet * 64) + 41) 0) ((sheet * 64) + 42) 0) ((sheet * 64) + 43) 0) ((sheet * 64) + 44) 0) ((sheet * 64) + 45) 0) ((sheet * 64) + 46) 0) ((sheet * 64) + 47) 0) ((sheet * 64) + 48) 0) ((sheet * 64) + 49) 0) ((sheet * 64) + 50) 0) ((sheet * 64) + 51) 0) ((sheet * 64) + 52) 0) ((sheet * 64) + 53) 0) ((sheet * 64) + 54) 0) ((sheet * 64) + 55) 0) ((sheet * 64) + 56) 0) ((sheet * 64) + 57) 0) ((sheet * 64) + 58) 0) ((sheet * 64) + 59) 0) ((sheet * 64) + 60) 0), wI sh_sorts (zK C).2.1 4 (zu so sheet sort), wI sh_lengths (zK C).2.1 4 (zu len sheet many)] dX5_lay_44 rfl (by omega) rfl ?_
      refine z_iinc (a := 60) (v := 1) (r := 61) hC 0 [(4, .int (zI (61))), (0, .ref sh), (1, .int (zI (sheet))), (2, .int (zI (sort))), (3, .int (zI (many)))] dX5_lay_45 rfl (by decide) (by decide) rfl ?_
      refine z_goto hC 25 dX5_lay_48 (by decide) ?_
      refine z_iload hC 0 dX5_lay_25 rfl ?_
      refine z_bipush hC dX5_lay_27 (by decide) ?_
      refine z_icge hC 51 dX5_lay_29 (by decide) (by omega) (fun c_68 => by exfalso; omega) (fun c_68 => ?_)
      refine z_aload_n hC 1 dX5_lay_32 rfl rfl ?_
      refine z_get hC (T := TX5) (N := 3) hinX5 0 0 dX5_lay_33 rfl rfl (by decide) (List.mem_of_getElem? (i := 3) rfl) rfl rfl ?_
      refine z_iload_n hC 2 dX5_lay_36 rfl rfl ?_
      refine z_bipush hC dX5_lay_37 (by decide) ?_
      refine z_imul hC (sheet * 64) dX5_lay_39 rfl ?_
      refine z_iload hC 0 dX5_lay_40 rfl ?_
      refine z_iadd hC ((sheet * 64) + 61) dX5_lay_42 rfl ?_
      refine z_iconst hC dX5_lay_43 ?_
      refine z_iast hC 1 [wO sh 5 [.ref sh_numbers, .ref sh_sorts, .ref sh_lengths], wI sh_numbers (zK C).2.1 256 (zu (zu (zu (zu (zu (zu (zu (zu (zu (zu (zu (zu (zu (zu (zu (zu (zu (zu (zu (zu (zu (zu (zu (zu (zu (zu (zu (zu (zu (zu (zu (zu (zu (zu (zu (zu (zu (zu (zu (zu (zu (zu (zu (zu (zu (zu (zu (zu (zu (zu (zu (zu (zu (zu (zu (zu (zu (zu (zu (zu (zu (zu g (sheet * 64) 0) ((sheet * 64) + 1) 0) ((sheet * 64) + 2) 0) ((sheet * 64) + 3) 0) ((sheet * 64) + 4) 0) ((sheet * 64) + 5) 0) ((sheet * 64) + 6) 0) ((sheet * 64) + 7) 0) ((sheet * 64) + 8) 0) ((sheet * 64) + 9) 0) ((sheet * 64) + 10) 0) ((sheet * 64) + 11) 0) ((sheet * 64) + 12) 0) ((sheet * 64) + 13) 0) ((sheet * 64) + 14) 0) ((sheet * 64) + 15) 0) ((sheet * 64) + 16) 0) ((sheet * 64) + 17) 0) ((sheet * 64) + 18) 0) ((sheet * 64) + 19) 0) ((sheet * 64) + 20) 0) ((sheet * 64) + 21) 0) ((sheet * 64) + 22) 0) ((sheet * 64) + 23) 0) ((sheet * 64) + 24) 0) ((sheet * 64) + 25) 0) ((sheet * 64) + 26) 0) ((sheet * 64) + 27) 0) ((sheet * 64) + 28) 0) ((sheet * 64) + 29) 0) ((sheet * 64) + 30) 0) ((sheet * 64) + 31) 0) ((sheet * 64) + 32) 0) ((sheet * 64) + 33) 0) ((sheet * 64) + 34) 0) ((sheet * 64) + 35) 0) ((sheet * 64) + 36) 0) ((sheet * 64) + 37) 0) ((sheet * 64) + 38) 0) ((sheet * 64) + 39) 0) ((sheet * 64) + 40) 0) ((sheet * 64) + 41) 0) ((sheet * 64) + 42) 0) ((sheet * 64) + 43) 0) ((sheet * 64) + 44) 0) ((sheet * 64) + 45) 0) ((sheet * 64) + 46) 0) ((sheet * 64) + 47) 0) ((sheet * 64) + 48) 0) ((sheet * 64) + 49) 0) ((sheet * 64) + 50) 0) ((sheet * 64) + 51) 0) ((sheet * 64) + 52) 0) ((sheet * 64) + 53) 0) ((sheet * 64) + 54) 0) ((sheet * 64) + 55) 0) ((sheet * 64) + 56) 0) ((sheet * 64) + 57) 0) ((sheet * 64) + 58) 0) ((sheet * 64) + 59) 0) ((sheet * 64) + 60) 0) ((sheet * 64) + 61) 0), wI sh_sorts (zK C).2.1 4 (zu so sheet sort), wI sh_lengths (zK C).2.1 4 (zu len sheet many)] dX5_lay_44 rfl (by omega) rfl ?_
      refine z_iinc (a := 61) (v := 1) (r := 62) hC 0 [(4, .int (zI (62))), (0, .ref sh), (1, .int (zI (sheet))), (2, .int (zI (sort))), (3, .int (zI (many)))] dX5_lay_45 rfl (by decide) (by decide) rfl ?_
      refine z_goto hC 25 dX5_lay_48 (by decide) ?_
      refine z_iload hC 0 dX5_lay_25 rfl ?_
      refine z_bipush hC dX5_lay_27 (by decide) ?_
      refine z_icge hC 51 dX5_lay_29 (by decide) (by omega) (fun c_69 => by exfalso; omega) (fun c_69 => ?_)
      refine z_aload_n hC 1 dX5_lay_32 rfl rfl ?_
      refine z_get hC (T := TX5) (N := 3) hinX5 0 0 dX5_lay_33 rfl rfl (by decide) (List.mem_of_getElem? (i := 3) rfl) rfl rfl ?_
      refine z_iload_n hC 2 dX5_lay_36 rfl rfl ?_
      refine z_bipush hC dX5_lay_37 (by decide) ?_
      refine z_imul hC (sheet * 64) dX5_lay_39 rfl ?_
      refine z_iload hC 0 dX5_lay_40 rfl ?_
      refine z_iadd hC ((sheet * 64) + 62) dX5_lay_42 rfl ?_
      refine z_iconst hC dX5_lay_43 ?_
      refine z_iast hC 1 [wO sh 5 [.ref sh_numbers, .ref sh_sorts, .ref sh_lengths], wI sh_numbers (zK C).2.1 256 (zu (zu (zu (zu (zu (zu (zu (zu (zu (zu (zu (zu (zu (zu (zu (zu (zu (zu (zu (zu (zu (zu (zu (zu (zu (zu (zu (zu (zu (zu (zu (zu (zu (zu (zu (zu (zu (zu (zu (zu (zu (zu (zu (zu (zu (zu (zu (zu (zu (zu (zu (zu (zu (zu (zu (zu (zu (zu (zu (zu (zu (zu (zu g (sheet * 64) 0) ((sheet * 64) + 1) 0) ((sheet * 64) + 2) 0) ((sheet * 64) + 3) 0) ((sheet * 64) + 4) 0) ((sheet * 64) + 5) 0) ((sheet * 64) + 6) 0) ((sheet * 64) + 7) 0) ((sheet * 64) + 8) 0) ((sheet * 64) + 9) 0) ((sheet * 64) + 10) 0) ((sheet * 64) + 11) 0) ((sheet * 64) + 12) 0) ((sheet * 64) + 13) 0) ((sheet * 64) + 14) 0) ((sheet * 64) + 15) 0) ((sheet * 64) + 16) 0) ((sheet * 64) + 17) 0) ((sheet * 64) + 18) 0) ((sheet * 64) + 19) 0) ((sheet * 64) + 20) 0) ((sheet * 64) + 21) 0) ((sheet * 64) + 22) 0) ((sheet * 64) + 23) 0) ((sheet * 64) + 24) 0) ((sheet * 64) + 25) 0) ((sheet * 64) + 26) 0) ((sheet * 64) + 27) 0) ((sheet * 64) + 28) 0) ((sheet * 64) + 29) 0) ((sheet * 64) + 30) 0) ((sheet * 64) + 31) 0) ((sheet * 64) + 32) 0) ((sheet * 64) + 33) 0) ((sheet * 64) + 34) 0) ((sheet * 64) + 35) 0) ((sheet * 64) + 36) 0) ((sheet * 64) + 37) 0) ((sheet * 64) + 38) 0) ((sheet * 64) + 39) 0) ((sheet * 64) + 40) 0) ((sheet * 64) + 41) 0) ((sheet * 64) + 42) 0) ((sheet * 64) + 43) 0) ((sheet * 64) + 44) 0) ((sheet * 64) + 45) 0) ((sheet * 64) + 46) 0) ((sheet * 64) + 47) 0) ((sheet * 64) + 48) 0) ((sheet * 64) + 49) 0) ((sheet * 64) + 50) 0) ((sheet * 64) + 51) 0) ((sheet * 64) + 52) 0) ((sheet * 64) + 53) 0) ((sheet * 64) + 54) 0) ((sheet * 64) + 55) 0) ((sheet * 64) + 56) 0) ((sheet * 64) + 57) 0) ((sheet * 64) + 58) 0) ((sheet * 64) + 59) 0) ((sheet * 64) + 60) 0) ((sheet * 64) + 61) 0) ((sheet * 64) + 62) 0), wI sh_sorts (zK C).2.1 4 (zu so sheet sort), wI sh_lengths (zK C).2.1 4 (zu len sheet many)] dX5_lay_44 rfl (by omega) rfl ?_
      refine z_iinc (a := 62) (v := 1) (r := 63) hC 0 [(4, .int (zI (63))), (0, .ref sh), (1, .int (zI (sheet))), (2, .int (zI (sort))), (3, .int (zI (many)))] dX5_lay_45 rfl (by decide) (by decide) rfl ?_
      refine z_goto hC 25 dX5_lay_48 (by decide) ?_
      refine z_iload hC 0 dX5_lay_25 rfl ?_
      refine z_bipush hC dX5_lay_27 (by decide) ?_
      refine z_icge hC 51 dX5_lay_29 (by decide) (by omega) (fun c_70 => by exfalso; omega) (fun c_70 => ?_)
      refine z_aload_n hC 1 dX5_lay_32 rfl rfl ?_
      refine z_get hC (T := TX5) (N := 3) hinX5 0 0 dX5_lay_33 rfl rfl (by decide) (List.mem_of_getElem? (i := 3) rfl) rfl rfl ?_
      refine z_iload_n hC 2 dX5_lay_36 rfl rfl ?_
      refine z_bipush hC dX5_lay_37 (by decide) ?_
      refine z_imul hC (sheet * 64) dX5_lay_39 rfl ?_
      refine z_iload hC 0 dX5_lay_40 rfl ?_
      refine z_iadd hC ((sheet * 64) + 63) dX5_lay_42 rfl ?_
      refine z_iconst hC dX5_lay_43 ?_
      refine z_iast hC 1 [wO sh 5 [.ref sh_numbers, .ref sh_sorts, .ref sh_lengths], wI sh_numbers (zK C).2.1 256 (zu (zu (zu (zu (zu (zu (zu (zu (zu (zu (zu (zu (zu (zu (zu (zu (zu (zu (zu (zu (zu (zu (zu (zu (zu (zu (zu (zu (zu (zu (zu (zu (zu (zu (zu (zu (zu (zu (zu (zu (zu (zu (zu (zu (zu (zu (zu (zu (zu (zu (zu (zu (zu (zu (zu (zu (zu (zu (zu (zu (zu (zu (zu (zu g (sheet * 64) 0) ((sheet * 64) + 1) 0) ((sheet * 64) + 2) 0) ((sheet * 64) + 3) 0) ((sheet * 64) + 4) 0) ((sheet * 64) + 5) 0) ((sheet * 64) + 6) 0) ((sheet * 64) + 7) 0) ((sheet * 64) + 8) 0) ((sheet * 64) + 9) 0) ((sheet * 64) + 10) 0) ((sheet * 64) + 11) 0) ((sheet * 64) + 12) 0) ((sheet * 64) + 13) 0) ((sheet * 64) + 14) 0) ((sheet * 64) + 15) 0) ((sheet * 64) + 16) 0) ((sheet * 64) + 17) 0) ((sheet * 64) + 18) 0) ((sheet * 64) + 19) 0) ((sheet * 64) + 20) 0) ((sheet * 64) + 21) 0) ((sheet * 64) + 22) 0) ((sheet * 64) + 23) 0) ((sheet * 64) + 24) 0) ((sheet * 64) + 25) 0) ((sheet * 64) + 26) 0) ((sheet * 64) + 27) 0) ((sheet * 64) + 28) 0) ((sheet * 64) + 29) 0) ((sheet * 64) + 30) 0) ((sheet * 64) + 31) 0) ((sheet * 64) + 32) 0) ((sheet * 64) + 33) 0) ((sheet * 64) + 34) 0) ((sheet * 64) + 35) 0) ((sheet * 64) + 36) 0) ((sheet * 64) + 37) 0) ((sheet * 64) + 38) 0) ((sheet * 64) + 39) 0) ((sheet * 64) + 40) 0) ((sheet * 64) + 41) 0) ((sheet * 64) + 42) 0) ((sheet * 64) + 43) 0) ((sheet * 64) + 44) 0) ((sheet * 64) + 45) 0) ((sheet * 64) + 46) 0) ((sheet * 64) + 47) 0) ((sheet * 64) + 48) 0) ((sheet * 64) + 49) 0) ((sheet * 64) + 50) 0) ((sheet * 64) + 51) 0) ((sheet * 64) + 52) 0) ((sheet * 64) + 53) 0) ((sheet * 64) + 54) 0) ((sheet * 64) + 55) 0) ((sheet * 64) + 56) 0) ((sheet * 64) + 57) 0) ((sheet * 64) + 58) 0) ((sheet * 64) + 59) 0) ((sheet * 64) + 60) 0) ((sheet * 64) + 61) 0) ((sheet * 64) + 62) 0) ((sheet * 64) + 63) 0), wI sh_sorts (zK C).2.1 4 (zu so sheet sort), wI sh_lengths (zK C).2.1 4 (zu len sheet many)] dX5_lay_44 rfl (by omega) rfl ?_
      refine z_iinc (a := 63) (v := 1) (r := 64) hC 0 [(4, .int (zI (64))), (0, .ref sh), (1, .int (zI (sheet))), (2, .int (zI (sort))), (3, .int (zI (many)))] dX5_lay_45 rfl (by decide) (by decide) rfl ?_
      refine z_goto hC 25 dX5_lay_48 (by decide) ?_
      refine z_iload hC 0 dX5_lay_25 rfl ?_
      refine z_bipush hC dX5_lay_27 (by decide) ?_
      refine z_icge hC 51 dX5_lay_29 (by decide) (by omega) (fun c_71 => ?_) (fun c_71 => by exfalso; omega)
      refine z_ws (ws' := []) [] rfl rfl ?_
      exact z_vret hC hR dX5_lay_51 (Nat.le_of_ble_eq_true rfl) (Nat.le_of_ble_eq_true rfl) ⟨rfl, rfl, by trivial⟩
  exact lp22_4 _ nu (by omega) (Nat.lt_succ_self _)

set_option maxHeartbeats 4000000 in
set_option maxRecDepth 100000 in
theorem c_X8_sheetFault (l : Launch) (D : va_G) (K : ClassId × ClassId × ClassId × ClassId) (x sh x_plane x_kin x_heights x_levels x_words x_shown x_powers sh_numbers sh_sorts sh_lengths : Nat) (sheet x_shownCount x_status : Int) (len : Int → Int) (x_ways x_weigher : Value) (hsheet : zR sheet) (hlen : ∀ j, 0 ≤ j → j < 4 → len j = -1) : zMet l D K yX8_sheetFault wsX8_sheetFault ({ frames := 2, cells := 0, slots := 0, locals := 41 }) 0 0 [.ref x, .int (zI (sheet))] [wO x 8 [.ref sh, .ref x_plane, .ref x_kin, .ref x_heights, .ref x_levels, .ref x_words, .ref x_shown, .ref x_powers, .int (zI (x_shownCount)), .int (zI (x_status)), x_ways, x_weigher], wO sh 5 [.ref sh_numbers, .ref sh_sorts, .ref sh_lengths], wI sh_lengths K.2.1 4 len] (fun vr_ wr_ => ∃ (r : Int), vr_ = some (.int (zI (r))) ∧ wr_ = [wO x 8 [.ref sh, .ref x_plane, .ref x_kin, .ref x_heights, .ref x_levels, .ref x_words, .ref x_shown, .ref x_powers, .int (zI (x_shownCount)), .int (zI (x_status)), x_ways, x_weigher], wO sh 5 [.ref sh_numbers, .ref sh_sorts, .ref sh_lengths], wI sh_lengths K.2.1 4 len] ∧ (r = 1 ∨ r = 3)) := by
  refine zMet_of (cc := cX8_sheetFault) (nL := 2) (ret := (some .int)) (by decide) rfl (Nat.le_of_ble_eq_true rfl) ?_
  rintro C rfl rfl rfl hC hR
  have hinX8 : ∀ w ∈ u_ws RX8 TX8 12, w ∈ wsX8_sheetFault := by decide +kernel
  show ZW C 0 0 [wO x 8 [.ref sh, .ref x_plane, .ref x_kin, .ref x_heights, .ref x_levels, .ref x_words, .ref x_shown, .ref x_powers, .int (zI (x_shownCount)), .int (zI (x_status)), x_ways, x_weigher], wO sh 5 [.ref sh_numbers, .ref sh_sorts, .ref sh_lengths], wI sh_lengths (zK C).2.1 4 len] [(0, .ref x), (1, .int (zI (sheet)))] 0 []
  refine z_iload_n hC 1 dX8_sheetFault_0 rfl rfl ?_
  refine z_callS hC [.int (zI (sheet))] 1 dX8_sheetFault_1 (c_X5_known (zl C) (zD C) (zK C) sheet (by first | assumption | omega)) gX8_sheetFault_X5_known rfl rfl rfl ⟨by decide, by decide, by decide +kernel⟩ ⟨(Nat.le_of_ble_eq_true rfl), (Nat.le_of_ble_eq_true rfl)⟩ rfl [] [0, 1, 2] [wO x 8 [.ref sh, .ref x_plane, .ref x_kin, .ref x_heights, .ref x_levels, .ref x_words, .ref x_shown, .ref x_powers, .int (zI (x_shownCount)), .int (zI (x_status)), x_ways, x_weigher], wO sh 5 [.ref sh_numbers, .ref sh_sorts, .ref sh_lengths], wI sh_lengths (zK C).2.1 4 len] [] rfl rfl rfl rfl rfl (by decide) (Nat.le_of_ble_eq_true rfl) ⟨(Nat.le_of_ble_eq_true rfl), (Nat.le_of_ble_eq_true rfl)⟩ ?_
  rintro v_ w_ ⟨r_1, rfl, rfl, h_1_2⟩
  show ZW C 0 0 [wO x 8 [.ref sh, .ref x_plane, .ref x_kin, .ref x_heights, .ref x_levels, .ref x_words, .ref x_shown, .ref x_powers, .int (zI (x_shownCount)), .int (zI (x_status)), x_ways, x_weigher], wO sh 5 [.ref sh_numbers, .ref sh_sorts, .ref sh_lengths], wI sh_lengths (zK C).2.1 4 len] [(0, .ref x), (1, .int (zI (sheet)))] 4 [.int (zI (r_1))]
  refine z_ifne hC 9 dX8_sheetFault_4 (by decide) (by omega) (fun c_3 => ?_) (fun c_3 => ?_)
  · skip
    refine z_aload_n hC 0 dX8_sheetFault_9 rfl rfl ?_
    refine z_get hC (T := TX8) (N := 12) hinX8 0 0 dX8_sheetFault_10 rfl rfl (by decide) (List.mem_of_getElem? (i := 1) rfl) rfl rfl ?_
    refine z_iload_n hC 1 dX8_sheetFault_13 rfl rfl ?_
    refine z_callV hC [.int (zI (sheet))] 1 0 dX8_sheetFault_14 (c_X5_missing (zl C) (zD C) (zK C) sh sh_numbers sh_sorts sh_lengths sheet len (by first | assumption | omega) (by first | assumption | omega)) gX8_sheetFault_X5_missing rfl rfl rfl ⟨by decide, by decide, by decide +kernel⟩ ⟨(Nat.le_of_ble_eq_true rfl), (Nat.le_of_ble_eq_true rfl)⟩ rfl rfl rfl rfl [1, 2] [0] [wO x 8 [.ref sh, .ref x_plane, .ref x_kin, .ref x_heights, .ref x_levels, .ref x_words, .ref x_shown, .ref x_powers, .int (zI (x_shownCount)), .int (zI (x_status)), x_ways, x_weigher]] [] rfl rfl rfl rfl rfl (by decide) (Nat.le_of_ble_eq_true rfl) ⟨(Nat.le_of_ble_eq_true rfl), (Nat.le_of_ble_eq_true rfl)⟩ ?_
    rintro v_ w_ ⟨r_4, rfl, rfl, h_14_5⟩
    show ZW C 0 0 [wO x 8 [.ref sh, .ref x_plane, .ref x_kin, .ref x_heights, .ref x_levels, .ref x_words, .ref x_shown, .ref x_powers, .int (zI (x_shownCount)), .int (zI (x_status)), x_ways, x_weigher], wO sh 5 [.ref sh_numbers, .ref sh_sorts, .ref sh_lengths], wI sh_lengths (zK C).2.1 4 len] [(0, .ref x), (1, .int (zI (sheet)))] 17 [.int (zI (r_4))]
    refine z_ifeq hC 24 dX8_sheetFault_17 (by decide) (by omega) (fun c_6 => by exfalso; omega) (fun c_6 => ?_)
    refine z_iconst hC dX8_sheetFault_20 ?_
    refine z_goto hC 25 dX8_sheetFault_21 (by decide) ?_
    exact z_iret hC hR dX8_sheetFault_25 (Nat.le_of_ble_eq_true rfl) (Nat.le_of_ble_eq_true rfl) ⟨3, rfl, rfl, by omega⟩
  · skip
    refine z_iconst hC dX8_sheetFault_7 ?_
    exact z_iret hC hR dX8_sheetFault_8 (Nat.le_of_ble_eq_true rfl) (Nat.le_of_ble_eq_true rfl) ⟨1, rfl, rfl, by omega⟩

set_option maxHeartbeats 4000000 in
set_option maxRecDepth 100000 in
theorem c_X8_placeFault (l : Launch) (D : va_G) (K : ClassId × ClassId × ClassId × ClassId) (x sh x_plane x_kin x_heights x_levels x_words x_shown x_powers sh_numbers sh_sorts sh_lengths : Nat) (sheet place x_shownCount x_status : Int) (len : Int → Int) (x_ways x_weigher : Value) (hsheet : zR sheet) (hplace : zR place) (hlen : ∀ j, 0 ≤ j → j < 4 → len j = -1) : zMet l D K yX8_placeFault wsX8_placeFault ({ frames := 3, cells := 0, slots := 0, locals := 62 }) 0 0 [.ref x, .int (zI (sheet)), .int (zI (place))] [wO x 8 [.ref sh, .ref x_plane, .ref x_kin, .ref x_heights, .ref x_levels, .ref x_words, .ref x_shown, .ref x_powers, .int (zI (x_shownCount)), .int (zI (x_status)), x_ways, x_weigher], wO sh 5 [.ref sh_numbers, .ref sh_sorts, .ref sh_lengths], wI sh_lengths K.2.1 4 len] (fun vr_ wr_ => ∃ (r : Int), vr_ = some (.int (zI (r))) ∧ wr_ = [wO x 8 [.ref sh, .ref x_plane, .ref x_kin, .ref x_heights, .ref x_levels, .ref x_words, .ref x_shown, .ref x_powers, .int (zI (x_shownCount)), .int (zI (x_status)), x_ways, x_weigher], wO sh 5 [.ref sh_numbers, .ref sh_sorts, .ref sh_lengths], wI sh_lengths K.2.1 4 len] ∧ (r = 1 ∨ r = 3)) := by
  refine zMet_of (cc := cX8_placeFault) (nL := 4) (ret := (some .int)) (by decide) rfl (Nat.le_of_ble_eq_true rfl) ?_
  rintro C rfl rfl rfl hC hR
  show ZW C 0 0 [wO x 8 [.ref sh, .ref x_plane, .ref x_kin, .ref x_heights, .ref x_levels, .ref x_words, .ref x_shown, .ref x_powers, .int (zI (x_shownCount)), .int (zI (x_status)), x_ways, x_weigher], wO sh 5 [.ref sh_numbers, .ref sh_sorts, .ref sh_lengths], wI sh_lengths (zK C).2.1 4 len] [(0, .ref x), (1, .int (zI (sheet))), (2, .int (zI (place)))] 0 []
  refine z_aload_n hC 0 dX8_placeFault_0 rfl rfl ?_
  refine z_iload_n hC 1 dX8_placeFault_1 rfl rfl ?_
  refine z_callV hC [.int (zI (sheet))] 1 0 dX8_placeFault_2 (c_X8_sheetFault (zl C) (zD C) (zK C) x sh x_plane x_kin x_heights x_levels x_words x_shown x_powers sh_numbers sh_sorts sh_lengths sheet x_shownCount x_status len x_ways x_weigher (by first | assumption | omega) (by first | assumption | omega)) gX8_placeFault_X8_sheetFault rfl rfl rfl ⟨by decide, by decide, by decide +kernel⟩ ⟨(Nat.le_of_ble_eq_true rfl), (Nat.le_of_ble_eq_true rfl)⟩ rfl rfl rfl rfl [0, 1, 2] [] [] [] rfl rfl rfl rfl rfl (by decide) (Nat.le_of_ble_eq_true rfl) ⟨(Nat.le_of_ble_eq_true rfl), (Nat.le_of_ble_eq_true rfl)⟩ ?_
  rintro v_ w_ ⟨r_1, rfl, rfl, h_2_2⟩
  show ZW C 0 0 [wO x 8 [.ref sh, .ref x_plane, .ref x_kin, .ref x_heights, .ref x_levels, .ref x_words, .ref x_shown, .ref x_powers, .int (zI (x_shownCount)), .int (zI (x_status)), x_ways, x_weigher], wO sh 5 [.ref sh_numbers, .ref sh_sorts, .ref sh_lengths], wI sh_lengths (zK C).2.1 4 len] [(0, .ref x), (1, .int (zI (sheet))), (2, .int (zI (place)))] 5 [.int (zI (r_1))]
  refine z_istore_n hC [(3, .int (zI (r_1))), (0, .ref x), (1, .int (zI (sheet))), (2, .int (zI (place)))] dX8_placeFault_5 rfl (by decide) rfl ?_
  refine z_iload_n hC 0 dX8_placeFault_6 rfl rfl ?_
  refine z_ifeq hC 12 dX8_placeFault_7 (by decide) (by omega) (fun c_3 => by exfalso; omega) (fun c_3 => ?_)
  refine z_iload_n hC 0 dX8_placeFault_10 rfl rfl ?_
  exact z_iret hC hR dX8_placeFault_11 (Nat.le_of_ble_eq_true rfl) (Nat.le_of_ble_eq_true rfl) ⟨r_1, rfl, rfl, by omega⟩

set_option maxHeartbeats 4000000 in
set_option maxRecDepth 100000 in
theorem c_X8_rowFault (l : Launch) (D : va_G) (K : ClassId × ClassId × ClassId × ClassId) (x sh x_plane x_kin x_heights x_levels x_words x_shown x_powers sh_numbers sh_sorts sh_lengths : Nat) (sheet many most x_shownCount x_status : Int) (len : Int → Int) (x_ways x_weigher : Value) (hsheet : zR sheet) (hmany : zR many) (hmost : zR most) (hlen : ∀ j, 0 ≤ j → j < 4 → len j = -1) : zMet l D K yX8_rowFault wsX8_rowFault ({ frames := 2, cells := 0, slots := 0, locals := 41 }) 0 0 [.ref x, .int (zI (sheet)), .int (zI (many)), .int (zI (most))] [wO x 8 [.ref sh, .ref x_plane, .ref x_kin, .ref x_heights, .ref x_levels, .ref x_words, .ref x_shown, .ref x_powers, .int (zI (x_shownCount)), .int (zI (x_status)), x_ways, x_weigher], wO sh 5 [.ref sh_numbers, .ref sh_sorts, .ref sh_lengths], wI sh_lengths K.2.1 4 len] (fun vr_ wr_ => ∃ (r : Int), vr_ = some (.int (zI (r))) ∧ wr_ = [wO x 8 [.ref sh, .ref x_plane, .ref x_kin, .ref x_heights, .ref x_levels, .ref x_words, .ref x_shown, .ref x_powers, .int (zI (x_shownCount)), .int (zI (x_status)), x_ways, x_weigher], wO sh 5 [.ref sh_numbers, .ref sh_sorts, .ref sh_lengths], wI sh_lengths K.2.1 4 len] ∧ (r = 1 ∨ r = 2 ∨ r = 3)) := by
  refine zMet_of (cc := cX8_rowFault) (nL := 4) (ret := (some .int)) (by decide) rfl (Nat.le_of_ble_eq_true rfl) ?_
  rintro C rfl rfl rfl hC hR
  have hinX8 : ∀ w ∈ u_ws RX8 TX8 12, w ∈ wsX8_rowFault := by decide +kernel
  show ZW C 0 0 [wO x 8 [.ref sh, .ref x_plane, .ref x_kin, .ref x_heights, .ref x_levels, .ref x_words, .ref x_shown, .ref x_powers, .int (zI (x_shownCount)), .int (zI (x_status)), x_ways, x_weigher], wO sh 5 [.ref sh_numbers, .ref sh_sorts, .ref sh_lengths], wI sh_lengths (zK C).2.1 4 len] [(0, .ref x), (1, .int (zI (sheet))), (2, .int (zI (many))), (3, .int (zI (most)))] 0 []
  refine z_iload_n hC 1 dX8_rowFault_0 rfl rfl ?_
  refine z_callS hC [.int (zI (sheet))] 1 dX8_rowFault_1 (c_X5_known (zl C) (zD C) (zK C) sheet (by first | assumption | omega)) gX8_rowFault_X5_known rfl rfl rfl ⟨by decide, by decide, by decide +kernel⟩ ⟨(Nat.le_of_ble_eq_true rfl), (Nat.le_of_ble_eq_true rfl)⟩ rfl [] [0, 1, 2] [wO x 8 [.ref sh, .ref x_plane, .ref x_kin, .ref x_heights, .ref x_levels, .ref x_words, .ref x_shown, .ref x_powers, .int (zI (x_shownCount)), .int (zI (x_status)), x_ways, x_weigher], wO sh 5 [.ref sh_numbers, .ref sh_sorts, .ref sh_lengths], wI sh_lengths (zK C).2.1 4 len] [] rfl rfl rfl rfl rfl (by decide) (Nat.le_of_ble_eq_true rfl) ⟨(Nat.le_of_ble_eq_true rfl), (Nat.le_of_ble_eq_true rfl)⟩ ?_
  rintro v_ w_ ⟨r_1, rfl, rfl, h_1_2⟩
  show ZW C 0 0 [wO x 8 [.ref sh, .ref x_plane, .ref x_kin, .ref x_heights, .ref x_levels, .ref x_words, .ref x_shown, .ref x_powers, .int (zI (x_shownCount)), .int (zI (x_status)), x_ways, x_weigher], wO sh 5 [.ref sh_numbers, .ref sh_sorts, .ref sh_lengths], wI sh_lengths (zK C).2.1 4 len] [(0, .ref x), (1, .int (zI (sheet))), (2, .int (zI (many))), (3, .int (zI (most)))] 4 [.int (zI (r_1))]
  refine z_ifne hC 9 dX8_rowFault_4 (by decide) (by omega) (fun c_3 => ?_) (fun c_3 => ?_)
  · skip
    refine z_iload_n hC 2 dX8_rowFault_9 rfl rfl ?_
    refine z_iconst hC dX8_rowFault_10 ?_
    refine z_iload_n hC 3 dX8_rowFault_11 rfl rfl ?_
    refine z_callS hC [.int (zI (many)), .int (zI (0)), .int (zI (most))] 3 dX8_rowFault_12 (c_X8_within (zl C) (zD C) (zK C) many 0 most (by first | assumption | omega) (by first | assumption | omega) (by first | assumption | omega)) gX8_rowFault_X8_within rfl rfl rfl ⟨by decide, by decide, by decide +kernel⟩ ⟨(Nat.le_of_ble_eq_true rfl), (Nat.le_of_ble_eq_true rfl)⟩ rfl [] [0, 1, 2] [wO x 8 [.ref sh, .ref x_plane, .ref x_kin, .ref x_heights, .ref x_levels, .ref x_words, .ref x_shown, .ref x_powers, .int (zI (x_shownCount)), .int (zI (x_status)), x_ways, x_weigher], wO sh 5 [.ref sh_numbers, .ref sh_sorts, .ref sh_lengths], wI sh_lengths (zK C).2.1 4 len] [] rfl rfl rfl rfl rfl (by decide) (Nat.le_of_ble_eq_true rfl) ⟨(Nat.le_of_ble_eq_true rfl), (Nat.le_of_ble_eq_true rfl)⟩ ?_
    rintro v_ w_ ⟨r_4, rfl, rfl, h_12_5⟩
    show ZW C 0 0 [wO x 8 [.ref sh, .ref x_plane, .ref x_kin, .ref x_heights, .ref x_levels, .ref x_words, .ref x_shown, .ref x_powers, .int (zI (x_shownCount)), .int (zI (x_status)), x_ways, x_weigher], wO sh 5 [.ref sh_numbers, .ref sh_sorts, .ref sh_lengths], wI sh_lengths (zK C).2.1 4 len] [(0, .ref x), (1, .int (zI (sheet))), (2, .int (zI (many))), (3, .int (zI (most)))] 15 [.int (zI (r_4))]
    refine z_ifne hC 20 dX8_rowFault_15 (by decide) (by omega) (fun c_6 => ?_) (fun c_6 => ?_)
    · skip
      refine z_aload_n hC 0 dX8_rowFault_20 rfl rfl ?_
      refine z_get hC (T := TX8) (N := 12) hinX8 0 0 dX8_rowFault_21 rfl rfl (by decide) (List.mem_of_getElem? (i := 1) rfl) rfl rfl ?_
      refine z_iload_n hC 1 dX8_rowFault_24 rfl rfl ?_
      refine z_callV hC [.int (zI (sheet))] 1 0 dX8_rowFault_25 (c_X5_missing (zl C) (zD C) (zK C) sh sh_numbers sh_sorts sh_lengths sheet len (by first | assumption | omega) (by first | assumption | omega)) gX8_rowFault_X5_missing rfl rfl rfl ⟨by decide, by decide, by decide +kernel⟩ ⟨(Nat.le_of_ble_eq_true rfl), (Nat.le_of_ble_eq_true rfl)⟩ rfl rfl rfl rfl [1, 2] [0] [wO x 8 [.ref sh, .ref x_plane, .ref x_kin, .ref x_heights, .ref x_levels, .ref x_words, .ref x_shown, .ref x_powers, .int (zI (x_shownCount)), .int (zI (x_status)), x_ways, x_weigher]] [] rfl rfl rfl rfl rfl (by decide) (Nat.le_of_ble_eq_true rfl) ⟨(Nat.le_of_ble_eq_true rfl), (Nat.le_of_ble_eq_true rfl)⟩ ?_
      rintro v_ w_ ⟨r_7, rfl, rfl, h_25_8⟩
      show ZW C 0 0 [wO x 8 [.ref sh, .ref x_plane, .ref x_kin, .ref x_heights, .ref x_levels, .ref x_words, .ref x_shown, .ref x_powers, .int (zI (x_shownCount)), .int (zI (x_status)), x_ways, x_weigher], wO sh 5 [.ref sh_numbers, .ref sh_sorts, .ref sh_lengths], wI sh_lengths (zK C).2.1 4 len] [(0, .ref x), (1, .int (zI (sheet))), (2, .int (zI (many))), (3, .int (zI (most)))] 28 [.int (zI (r_7))]
      refine z_ifeq hC 33 dX8_rowFault_28 (by decide) (by omega) (fun c_9 => by exfalso; omega) (fun c_9 => ?_)
      refine z_iconst hC dX8_rowFault_31 ?_
      exact z_iret hC hR dX8_rowFault_32 (Nat.le_of_ble_eq_true rfl) (Nat.le_of_ble_eq_true rfl) ⟨3, rfl, rfl, by omega⟩
    · skip
      refine z_iconst hC dX8_rowFault_18 ?_
      exact z_iret hC hR dX8_rowFault_19 (Nat.le_of_ble_eq_true rfl) (Nat.le_of_ble_eq_true rfl) ⟨2, rfl, rfl, by omega⟩
  · skip
    refine z_iconst hC dX8_rowFault_7 ?_
    exact z_iret hC hR dX8_rowFault_8 (Nat.le_of_ble_eq_true rfl) (Nat.le_of_ble_eq_true rfl) ⟨1, rfl, rfl, by omega⟩
