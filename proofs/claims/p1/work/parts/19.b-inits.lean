def sdx (j : Int) : Int := if j = 0 then 1 else if j = 2 then -1 else 0
def sdy (j : Int) : Int := if j = 1 then 1 else if j = 3 then -1 else 0
def slp (j : Int) : Int := if j = 0 then 1 else if j = 1 then 67 else if j = 2 then -1 else if j = 3 then -67 else 0
set_option maxHeartbeats 4000000 in
set_option maxRecDepth 100000 in
theorem c_X5_init (l : Launch) (D : va_G) (K : ClassId × ClassId × ClassId × ClassId) (sh : Nat) : zMet l D K yX5_init wsX5_init ({ frames := 1, cells := 3, slots := 264, locals := 12 }) 3 264 [.ref sh] [wO sh 5 [.null, .null, .null]] (fun vr_ wr_ => ∃ (sh_numbers : Nat) (sh_sorts : Nat) (sh_lengths : Nat) (len : Int → Int), vr_ = none ∧ wr_ = [wO sh 5 [.ref sh_numbers, .ref sh_sorts, .ref sh_lengths], wI sh_numbers K.2.1 256 (fun _ => 0), wI sh_sorts K.2.1 4 (fun _ => 0), wI sh_lengths K.2.1 4 len] ∧ (∀ j, 0 ≤ j → j < 4 → len j = -1)) := by
  refine zMet_of (cc := cX5_init) (nL := 2) (ret := none) (by decide) rfl (Nat.le_of_ble_eq_true rfl) ?_
  rintro C rfl rfl rfl hC hR
  have hinX5 : ∀ w ∈ u_ws RX5 TX5 3, w ∈ wsX5_init := by decide +kernel
  show ZW C 0 0 [wO sh 5 [.null, .null, .null]] [(0, .ref sh)] 0 []
  refine z_aload_n hC 0 dX5_init_0 rfl rfl ?_
  refine z_objInit hC dX5_init_1 (List.mem_of_getElem? (i := 1) rfl) (List.mem_of_getElem? (i := 2) rfl) (List.mem_of_getElem? (i := 3) rfl) (Nat.le_of_ble_eq_true rfl) (Nat.le_of_ble_eq_true rfl) ?_
  refine z_aload_n hC 0 dX5_init_4 rfl rfl ?_
  refine z_sipush hC dX5_init_5 (by decide) ?_
  refine z_newaI hC 256 dX5_init_8 (List.mem_of_getElem? (i := 4) rfl) rfl (Nat.le_of_ble_eq_true rfl) (Nat.le_of_ble_eq_true rfl) (Nat.le_of_ble_eq_true rfl) (fun q_1 => ?_)
  show ZW C 1 256 [wO sh 5 [.null, .null, .null], wI q_1 (zK C).2.1 256 (fun _ => 0)] [(0, .ref sh)] 10 [.ref q_1, .ref sh]
  refine z_putF hC (T := TX5) (N := 3) hinX5 tyX5_ok nmX5 0 0 [wO sh 5 [.ref q_1, .null, .null], wI q_1 (zK C).2.1 256 (fun _ => 0)] dX5_init_10 rfl rfl rfl rfl (by decide) (List.mem_of_getElem? (i := 5) rfl) rfl rfl rfl rfl (Nat.le_of_ble_eq_true rfl) rfl ?_
  refine z_aload_n hC 0 dX5_init_13 rfl rfl ?_
  refine z_iconst hC dX5_init_14 ?_
  refine z_newaI hC 4 dX5_init_15 (List.mem_of_getElem? (i := 4) rfl) rfl (Nat.le_of_ble_eq_true rfl) (Nat.le_of_ble_eq_true rfl) (Nat.le_of_ble_eq_true rfl) (fun q_2 => ?_)
  show ZW C 2 260 [wO sh 5 [.ref q_1, .null, .null], wI q_1 (zK C).2.1 256 (fun _ => 0), wI q_2 (zK C).2.1 4 (fun _ => 0)] [(0, .ref sh)] 17 [.ref q_2, .ref sh]
  refine z_putF hC (T := TX5) (N := 3) hinX5 tyX5_ok nmX5 0 1 [wO sh 5 [.ref q_1, .ref q_2, .null], wI q_1 (zK C).2.1 256 (fun _ => 0), wI q_2 (zK C).2.1 4 (fun _ => 0)] dX5_init_17 rfl rfl rfl rfl (by decide) (List.mem_of_getElem? (i := 6) rfl) rfl rfl rfl rfl (Nat.le_of_ble_eq_true rfl) rfl ?_
  refine z_aload_n hC 0 dX5_init_20 rfl rfl ?_
  refine z_iconst hC dX5_init_21 ?_
  refine z_newaI hC 4 dX5_init_22 (List.mem_of_getElem? (i := 4) rfl) rfl (Nat.le_of_ble_eq_true rfl) (Nat.le_of_ble_eq_true rfl) (Nat.le_of_ble_eq_true rfl) (fun q_3 => ?_)
  show ZW C 3 264 [wO sh 5 [.ref q_1, .ref q_2, .null], wI q_1 (zK C).2.1 256 (fun _ => 0), wI q_2 (zK C).2.1 4 (fun _ => 0), wI q_3 (zK C).2.1 4 (fun _ => 0)] [(0, .ref sh)] 24 [.ref q_3, .ref sh]
  refine z_putF hC (T := TX5) (N := 3) hinX5 tyX5_ok nmX5 0 2 [wO sh 5 [.ref q_1, .ref q_2, .ref q_3], wI q_1 (zK C).2.1 256 (fun _ => 0), wI q_2 (zK C).2.1 4 (fun _ => 0), wI q_3 (zK C).2.1 4 (fun _ => 0)] dX5_init_24 rfl rfl rfl rfl (by decide) (List.mem_of_getElem? (i := 7) rfl) rfl rfl rfl rfl (Nat.le_of_ble_eq_true rfl) rfl ?_
  refine z_iconst hC dX5_init_27 ?_
  refine z_istore_n hC [(1, .int (zI (0))), (0, .ref sh)] dX5_init_28 rfl (by decide) rfl ?_
  refine z_lv (lv' := [(0, .ref sh), (1, .int (zI (0)))]) [1, 0] rfl ?_
  have lp29_4 : ∀ (f6 : Nat) (i : Int) (g : Int → Int), (0 ≤ i ∧ i ≤ 4) → (∀ j, 0 ≤ j → j < i → g j = -1) → (4 - i).toNat < f6 → ZW C 3 264 [wO sh 5 [.ref q_1, .ref q_2, .ref q_3], wI q_1 (zK C).2.1 256 (fun _ => 0), wI q_2 (zK C).2.1 4 (fun _ => 0), wI q_3 (zK C).2.1 4 g] [(0, .ref sh), (1, .int (zI (i)))] 29 [] := by
    intro f6
    induction f6 with
    | zero => intro _ _ _ _ hf; exact absurd hf (Nat.not_lt_zero _)
    | succ f6 ih29_5 =>
      intro i g vi vg hf_29
      refine z_iload_n hC 1 dX5_init_29 rfl rfl ?_
      refine z_iconst hC dX5_init_30 ?_
      refine z_icge hC 47 dX5_init_31 (by decide) (by omega) (fun c_7 => ?_) (fun c_7 => ?_)
      · skip
        exact z_vret hC hR dX5_init_47 (Nat.le_of_ble_eq_true rfl) (Nat.le_of_ble_eq_true rfl) ⟨q_1, q_2, q_3, g, rfl, rfl, by intro j h0 h1; exact vg j h0 (by omega)⟩
      · skip
        refine z_aload_n hC 0 dX5_init_34 rfl rfl ?_
        refine z_get hC (T := TX5) (N := 3) hinX5 0 2 dX5_init_35 rfl rfl (by decide) (List.mem_of_getElem? (i := 7) rfl) rfl rfl ?_
        refine z_iload_n hC 1 dX5_init_38 rfl rfl ?_
        refine z_iconst hC dX5_init_39 ?_
        refine z_iast hC 3 [wO sh 5 [.ref q_1, .ref q_2, .ref q_3], wI q_1 (zK C).2.1 256 (fun _ => 0), wI q_2 (zK C).2.1 4 (fun _ => 0), wI q_3 (zK C).2.1 4 (zu g i ((-1)))] dX5_init_40 rfl (by omega) rfl ?_
        refine z_iinc (a := i) (v := 1) (r := i + 1) hC 1 [(1, .int (zI (i + 1))), (0, .ref sh)] dX5_init_41 rfl rfl (by decide) rfl ?_
        refine z_goto hC 29 dX5_init_44 (by decide) ?_
        refine z_lv (lv' := [(0, .ref sh), (1, .int (zI (i + 1)))]) [1, 0] rfl ?_
        exact ih29_5 (i + 1) (zu g i ((-1))) (by omega) (by intro j h0 h1; unfold zu; split; rfl; exact vg j h0 (by omega)) (by omega)
  exact lp29_4 _ 0 (fun _ => 0) (by omega) (by intro j h0 h1; omega) (Nat.lt_succ_self _)

set_option maxHeartbeats 4000000 in
set_option maxRecDepth 100000 in
theorem c_X1_init (l : Launch) (D : va_G) (K : ClassId × ClassId × ClassId × ClassId) (f : Nat) : zMet l D K yX1_init wsX1_init ({ frames := 1, cells := 4, slots := 93, locals := 12 }) 4 93 [.ref f] [wO f 1 [.null, .null, .null, .null, .int (zI (0))]] (fun vr_ wr_ => ∃ (f_xs : Nat) (f_ys : Nat) (f_row : Nat) (f_square : Nat), vr_ = none ∧ wr_ = [wO f 1 [.ref f_xs, .ref f_ys, .ref f_row, .ref f_square, .int (zI (0))], wI f_xs K.2.1 8 (fun _ => 0), wI f_ys K.2.1 8 (fun _ => 0), wI f_row K.2.1 61 (fun _ => 0), wJ f_square K.2.2.1 16 (fun _ => 0)] ∧ (True)) := by
  refine zMet_of (cc := cX1_init) (nL := 1) (ret := none) (by decide) rfl (Nat.le_of_ble_eq_true rfl) ?_
  rintro C rfl rfl rfl hC hR
  have hinX1 : ∀ w ∈ u_ws RX1 TX1 5, w ∈ wsX1_init := by decide +kernel
  show ZW C 0 0 [wO f 1 [.null, .null, .null, .null, .int (zI (0))]] [(0, .ref f)] 0 []
  refine z_aload_n hC 0 dX1_init_0 rfl rfl ?_
  refine z_objInit hC dX1_init_1 (List.mem_of_getElem? (i := 1) rfl) (List.mem_of_getElem? (i := 2) rfl) (List.mem_of_getElem? (i := 3) rfl) (Nat.le_of_ble_eq_true rfl) (Nat.le_of_ble_eq_true rfl) ?_
  refine z_aload_n hC 0 dX1_init_4 rfl rfl ?_
  refine z_bipush hC dX1_init_5 (by decide) ?_
  refine z_newaI hC 8 dX1_init_7 (List.mem_of_getElem? (i := 4) rfl) rfl (Nat.le_of_ble_eq_true rfl) (Nat.le_of_ble_eq_true rfl) (Nat.le_of_ble_eq_true rfl) (fun q_1 => ?_)
  show ZW C 1 8 [wO f 1 [.null, .null, .null, .null, .int (zI (0))], wI q_1 (zK C).2.1 8 (fun _ => 0)] [(0, .ref f)] 9 [.ref q_1, .ref f]
  refine z_putF hC (T := TX1) (N := 5) hinX1 tyX1_ok nmX1 0 0 [wO f 1 [.ref q_1, .null, .null, .null, .int (zI (0))], wI q_1 (zK C).2.1 8 (fun _ => 0)] dX1_init_9 rfl rfl rfl rfl (by decide) (List.mem_of_getElem? (i := 5) rfl) rfl rfl rfl rfl (Nat.le_of_ble_eq_true rfl) rfl ?_
  refine z_aload_n hC 0 dX1_init_12 rfl rfl ?_
  refine z_bipush hC dX1_init_13 (by decide) ?_
  refine z_newaI hC 8 dX1_init_15 (List.mem_of_getElem? (i := 4) rfl) rfl (Nat.le_of_ble_eq_true rfl) (Nat.le_of_ble_eq_true rfl) (Nat.le_of_ble_eq_true rfl) (fun q_2 => ?_)
  show ZW C 2 16 [wO f 1 [.ref q_1, .null, .null, .null, .int (zI (0))], wI q_1 (zK C).2.1 8 (fun _ => 0), wI q_2 (zK C).2.1 8 (fun _ => 0)] [(0, .ref f)] 17 [.ref q_2, .ref f]
  refine z_putF hC (T := TX1) (N := 5) hinX1 tyX1_ok nmX1 0 1 [wO f 1 [.ref q_1, .ref q_2, .null, .null, .int (zI (0))], wI q_1 (zK C).2.1 8 (fun _ => 0), wI q_2 (zK C).2.1 8 (fun _ => 0)] dX1_init_17 rfl rfl rfl rfl (by decide) (List.mem_of_getElem? (i := 6) rfl) rfl rfl rfl rfl (Nat.le_of_ble_eq_true rfl) rfl ?_
  refine z_aload_n hC 0 dX1_init_20 rfl rfl ?_
  refine z_bipush hC dX1_init_21 (by decide) ?_
  refine z_newaI hC 61 dX1_init_23 (List.mem_of_getElem? (i := 4) rfl) rfl (Nat.le_of_ble_eq_true rfl) (Nat.le_of_ble_eq_true rfl) (Nat.le_of_ble_eq_true rfl) (fun q_3 => ?_)
  show ZW C 3 77 [wO f 1 [.ref q_1, .ref q_2, .null, .null, .int (zI (0))], wI q_1 (zK C).2.1 8 (fun _ => 0), wI q_2 (zK C).2.1 8 (fun _ => 0), wI q_3 (zK C).2.1 61 (fun _ => 0)] [(0, .ref f)] 25 [.ref q_3, .ref f]
  refine z_putF hC (T := TX1) (N := 5) hinX1 tyX1_ok nmX1 0 2 [wO f 1 [.ref q_1, .ref q_2, .ref q_3, .null, .int (zI (0))], wI q_1 (zK C).2.1 8 (fun _ => 0), wI q_2 (zK C).2.1 8 (fun _ => 0), wI q_3 (zK C).2.1 61 (fun _ => 0)] dX1_init_25 rfl rfl rfl rfl (by decide) (List.mem_of_getElem? (i := 7) rfl) rfl rfl rfl rfl (Nat.le_of_ble_eq_true rfl) rfl ?_
  refine z_aload_n hC 0 dX1_init_28 rfl rfl ?_
  refine z_bipush hC dX1_init_29 (by decide) ?_
  refine z_newaJ hC 16 dX1_init_31 (List.mem_of_getElem? (i := 8) rfl) rfl (Nat.le_of_ble_eq_true rfl) (Nat.le_of_ble_eq_true rfl) (Nat.le_of_ble_eq_true rfl) (fun q_4 => ?_)
  show ZW C 4 93 [wO f 1 [.ref q_1, .ref q_2, .ref q_3, .null, .int (zI (0))], wI q_1 (zK C).2.1 8 (fun _ => 0), wI q_2 (zK C).2.1 8 (fun _ => 0), wI q_3 (zK C).2.1 61 (fun _ => 0), wJ q_4 (zK C).2.2.1 16 (fun _ => 0)] [(0, .ref f)] 33 [.ref q_4, .ref f]
  refine z_putF hC (T := TX1) (N := 5) hinX1 tyX1_ok nmX1 0 3 [wO f 1 [.ref q_1, .ref q_2, .ref q_3, .ref q_4, .int (zI (0))], wI q_1 (zK C).2.1 8 (fun _ => 0), wI q_2 (zK C).2.1 8 (fun _ => 0), wI q_3 (zK C).2.1 61 (fun _ => 0), wJ q_4 (zK C).2.2.1 16 (fun _ => 0)] dX1_init_33 rfl rfl rfl rfl (by decide) (List.mem_of_getElem? (i := 9) rfl) rfl rfl rfl rfl (Nat.le_of_ble_eq_true rfl) rfl ?_
  exact z_vret hC hR dX1_init_36 (Nat.le_of_ble_eq_true rfl) (Nat.le_of_ble_eq_true rfl) ⟨q_1, q_2, q_3, q_4, rfl, rfl, by trivial⟩

set_option maxHeartbeats 4000000 in
set_option maxRecDepth 100000 in
theorem c_X2_init (l : Launch) (D : va_G) (K : ClassId × ClassId × ClassId × ClassId) (h : Nat) : zMet l D K yX2_init wsX2_init ({ frames := 1, cells := 2, slots := 242, locals := 12 }) 2 242 [.ref h] [wO h 2 [.null, .null]] (fun vr_ wr_ => ∃ (h_now : Nat) (h_then : Nat), vr_ = none ∧ wr_ = [wO h 2 [.ref h_now, .ref h_then], wJ h_now K.2.2.1 121 (fun _ => 0), wJ h_then K.2.2.1 121 (fun _ => 0)] ∧ (True)) := by
  refine zMet_of (cc := cX2_init) (nL := 1) (ret := none) (by decide) rfl (Nat.le_of_ble_eq_true rfl) ?_
  rintro C rfl rfl rfl hC hR
  have hinX2 : ∀ w ∈ u_ws RX2 TX2 2, w ∈ wsX2_init := by decide +kernel
  show ZW C 0 0 [wO h 2 [.null, .null]] [(0, .ref h)] 0 []
  refine z_aload_n hC 0 dX2_init_0 rfl rfl ?_
  refine z_objInit hC dX2_init_1 (List.mem_of_getElem? (i := 1) rfl) (List.mem_of_getElem? (i := 2) rfl) (List.mem_of_getElem? (i := 3) rfl) (Nat.le_of_ble_eq_true rfl) (Nat.le_of_ble_eq_true rfl) ?_
  refine z_aload_n hC 0 dX2_init_4 rfl rfl ?_
  refine z_bipush hC dX2_init_5 (by decide) ?_
  refine z_newaJ hC 121 dX2_init_7 (List.mem_of_getElem? (i := 4) rfl) rfl (Nat.le_of_ble_eq_true rfl) (Nat.le_of_ble_eq_true rfl) (Nat.le_of_ble_eq_true rfl) (fun q_1 => ?_)
  show ZW C 1 121 [wO h 2 [.null, .null], wJ q_1 (zK C).2.2.1 121 (fun _ => 0)] [(0, .ref h)] 9 [.ref q_1, .ref h]
  refine z_put hC (T := TX2) (N := 2) hinX2 tyX2_ok nmX2 0 0 [wO h 2 [.ref q_1, .null], wJ q_1 (zK C).2.2.1 121 (fun _ => 0)] dX2_init_9 rfl rfl (by decide) (List.mem_of_getElem? (i := 5) rfl) rfl rfl rfl rfl (Nat.le_of_ble_eq_true rfl) rfl ?_
  refine z_aload_n hC 0 dX2_init_12 rfl rfl ?_
  refine z_bipush hC dX2_init_13 (by decide) ?_
  refine z_newaJ hC 121 dX2_init_15 (List.mem_of_getElem? (i := 4) rfl) rfl (Nat.le_of_ble_eq_true rfl) (Nat.le_of_ble_eq_true rfl) (Nat.le_of_ble_eq_true rfl) (fun q_2 => ?_)
  show ZW C 2 242 [wO h 2 [.ref q_1, .null], wJ q_1 (zK C).2.2.1 121 (fun _ => 0), wJ q_2 (zK C).2.2.1 121 (fun _ => 0)] [(0, .ref h)] 17 [.ref q_2, .ref h]
  refine z_put hC (T := TX2) (N := 2) hinX2 tyX2_ok nmX2 0 1 [wO h 2 [.ref q_1, .ref q_2], wJ q_1 (zK C).2.2.1 121 (fun _ => 0), wJ q_2 (zK C).2.2.1 121 (fun _ => 0)] dX2_init_17 rfl rfl (by decide) (List.mem_of_getElem? (i := 6) rfl) rfl rfl rfl rfl (Nat.le_of_ble_eq_true rfl) rfl ?_
  exact z_vret hC hR dX2_init_20 (Nat.le_of_ble_eq_true rfl) (Nat.le_of_ble_eq_true rfl) ⟨q_1, q_2, rfl, rfl, by trivial⟩

set_option maxHeartbeats 4000000 in
set_option maxRecDepth 100000 in
theorem c_X3_init (l : Launch) (D : va_G) (K : ClassId × ClassId × ClassId × ClassId) (v : Nat) : zMet l D K yX3_init wsX3_init ({ frames := 1, cells := 10, slots := 574, locals := 12 }) 10 574 [.ref v] [wO v 3 [.null, .null, .null, .null, .null, .null, .null, .null, .null, .null, .int (zI (0)), .int (zI (0))]] (fun vr_ wr_ => ∃ (v_terms : Nat) (v_now : Nat) (v_then : Nat) (v_link : Nat) (v_older : Nat) (v_spare : Nat) (v_parts : Nat) (v_rest : Nat) (v_product : Nat) (v_keptParts : Nat), vr_ = none ∧ wr_ = [wO v 3 [.ref v_terms, .ref v_now, .ref v_then, .ref v_link, .ref v_older, .ref v_spare, .ref v_parts, .ref v_rest, .ref v_product, .ref v_keptParts, .int (zI (0)), .int (zI (0))], wJ v_terms K.2.2.1 64 (fun _ => 0), wJ v_now K.2.2.1 31 (fun _ => 0), wJ v_then K.2.2.1 31 (fun _ => 0), wJ v_link K.2.2.1 64 (fun _ => 0), wJ v_older K.2.2.1 64 (fun _ => 0), wJ v_spare K.2.2.1 64 (fun _ => 0), wJ v_parts K.2.2.1 64 (fun _ => 0), wJ v_rest K.2.2.1 64 (fun _ => 0), wJ v_product K.2.2.1 64 (fun _ => 0), wI v_keptParts K.2.1 64 (fun _ => 0)] ∧ (True)) := by
  refine zMet_of (cc := cX3_init) (nL := 1) (ret := none) (by decide) rfl (Nat.le_of_ble_eq_true rfl) ?_
  rintro C rfl rfl rfl hC hR
  have hinX3 : ∀ w ∈ u_ws RX3 TX3 12, w ∈ wsX3_init := by decide +kernel
  show ZW C 0 0 [wO v 3 [.null, .null, .null, .null, .null, .null, .null, .null, .null, .null, .int (zI (0)), .int (zI (0))]] [(0, .ref v)] 0 []
  refine z_aload_n hC 0 dX3_init_0 rfl rfl ?_
  refine z_objInit hC dX3_init_1 (List.mem_of_getElem? (i := 1) rfl) (List.mem_of_getElem? (i := 2) rfl) (List.mem_of_getElem? (i := 3) rfl) (Nat.le_of_ble_eq_true rfl) (Nat.le_of_ble_eq_true rfl) ?_
  refine z_aload_n hC 0 dX3_init_4 rfl rfl ?_
  refine z_bipush hC dX3_init_5 (by decide) ?_
  refine z_newaJ hC 64 dX3_init_7 (List.mem_of_getElem? (i := 4) rfl) rfl (Nat.le_of_ble_eq_true rfl) (Nat.le_of_ble_eq_true rfl) (Nat.le_of_ble_eq_true rfl) (fun q_1 => ?_)
  show ZW C 1 64 [wO v 3 [.null, .null, .null, .null, .null, .null, .null, .null, .null, .null, .int (zI (0)), .int (zI (0))], wJ q_1 (zK C).2.2.1 64 (fun _ => 0)] [(0, .ref v)] 9 [.ref q_1, .ref v]
  refine z_putF hC (T := TX3) (N := 12) hinX3 tyX3_ok nmX3 0 0 [wO v 3 [.ref q_1, .null, .null, .null, .null, .null, .null, .null, .null, .null, .int (zI (0)), .int (zI (0))], wJ q_1 (zK C).2.2.1 64 (fun _ => 0)] dX3_init_9 rfl rfl rfl rfl (by decide) (List.mem_of_getElem? (i := 5) rfl) rfl rfl rfl rfl (Nat.le_of_ble_eq_true rfl) rfl ?_
  refine z_aload_n hC 0 dX3_init_12 rfl rfl ?_
  refine z_bipush hC dX3_init_13 (by decide) ?_
  refine z_newaJ hC 31 dX3_init_15 (List.mem_of_getElem? (i := 4) rfl) rfl (Nat.le_of_ble_eq_true rfl) (Nat.le_of_ble_eq_true rfl) (Nat.le_of_ble_eq_true rfl) (fun q_2 => ?_)
  show ZW C 2 95 [wO v 3 [.ref q_1, .null, .null, .null, .null, .null, .null, .null, .null, .null, .int (zI (0)), .int (zI (0))], wJ q_1 (zK C).2.2.1 64 (fun _ => 0), wJ q_2 (zK C).2.2.1 31 (fun _ => 0)] [(0, .ref v)] 17 [.ref q_2, .ref v]
  refine z_put hC (T := TX3) (N := 12) hinX3 tyX3_ok nmX3 0 1 [wO v 3 [.ref q_1, .ref q_2, .null, .null, .null, .null, .null, .null, .null, .null, .int (zI (0)), .int (zI (0))], wJ q_1 (zK C).2.2.1 64 (fun _ => 0), wJ q_2 (zK C).2.2.1 31 (fun _ => 0)] dX3_init_17 rfl rfl (by decide) (List.mem_of_getElem? (i := 6) rfl) rfl rfl rfl rfl (Nat.le_of_ble_eq_true rfl) rfl ?_
  refine z_aload_n hC 0 dX3_init_20 rfl rfl ?_
  refine z_bipush hC dX3_init_21 (by decide) ?_
  refine z_newaJ hC 31 dX3_init_23 (List.mem_of_getElem? (i := 4) rfl) rfl (Nat.le_of_ble_eq_true rfl) (Nat.le_of_ble_eq_true rfl) (Nat.le_of_ble_eq_true rfl) (fun q_3 => ?_)
  show ZW C 3 126 [wO v 3 [.ref q_1, .ref q_2, .null, .null, .null, .null, .null, .null, .null, .null, .int (zI (0)), .int (zI (0))], wJ q_1 (zK C).2.2.1 64 (fun _ => 0), wJ q_2 (zK C).2.2.1 31 (fun _ => 0), wJ q_3 (zK C).2.2.1 31 (fun _ => 0)] [(0, .ref v)] 25 [.ref q_3, .ref v]
  refine z_put hC (T := TX3) (N := 12) hinX3 tyX3_ok nmX3 0 2 [wO v 3 [.ref q_1, .ref q_2, .ref q_3, .null, .null, .null, .null, .null, .null, .null, .int (zI (0)), .int (zI (0))], wJ q_1 (zK C).2.2.1 64 (fun _ => 0), wJ q_2 (zK C).2.2.1 31 (fun _ => 0), wJ q_3 (zK C).2.2.1 31 (fun _ => 0)] dX3_init_25 rfl rfl (by decide) (List.mem_of_getElem? (i := 7) rfl) rfl rfl rfl rfl (Nat.le_of_ble_eq_true rfl) rfl ?_
  refine z_aload_n hC 0 dX3_init_28 rfl rfl ?_
  refine z_bipush hC dX3_init_29 (by decide) ?_
  refine z_newaJ hC 64 dX3_init_31 (List.mem_of_getElem? (i := 4) rfl) rfl (Nat.le_of_ble_eq_true rfl) (Nat.le_of_ble_eq_true rfl) (Nat.le_of_ble_eq_true rfl) (fun q_4 => ?_)
  show ZW C 4 190 [wO v 3 [.ref q_1, .ref q_2, .ref q_3, .null, .null, .null, .null, .null, .null, .null, .int (zI (0)), .int (zI (0))], wJ q_1 (zK C).2.2.1 64 (fun _ => 0), wJ q_2 (zK C).2.2.1 31 (fun _ => 0), wJ q_3 (zK C).2.2.1 31 (fun _ => 0), wJ q_4 (zK C).2.2.1 64 (fun _ => 0)] [(0, .ref v)] 33 [.ref q_4, .ref v]
  refine z_put hC (T := TX3) (N := 12) hinX3 tyX3_ok nmX3 0 3 [wO v 3 [.ref q_1, .ref q_2, .ref q_3, .ref q_4, .null, .null, .null, .null, .null, .null, .int (zI (0)), .int (zI (0))], wJ q_1 (zK C).2.2.1 64 (fun _ => 0), wJ q_2 (zK C).2.2.1 31 (fun _ => 0), wJ q_3 (zK C).2.2.1 31 (fun _ => 0), wJ q_4 (zK C).2.2.1 64 (fun _ => 0)] dX3_init_33 rfl rfl (by decide) (List.mem_of_getElem? (i := 8) rfl) rfl rfl rfl rfl (Nat.le_of_ble_eq_true rfl) rfl ?_
  refine z_aload_n hC 0 dX3_init_36 rfl rfl ?_
  refine z_bipush hC dX3_init_37 (by decide) ?_
  refine z_newaJ hC 64 dX3_init_39 (List.mem_of_getElem? (i := 4) rfl) rfl (Nat.le_of_ble_eq_true rfl) (Nat.le_of_ble_eq_true rfl) (Nat.le_of_ble_eq_true rfl) (fun q_5 => ?_)
  show ZW C 5 254 [wO v 3 [.ref q_1, .ref q_2, .ref q_3, .ref q_4, .null, .null, .null, .null, .null, .null, .int (zI (0)), .int (zI (0))], wJ q_1 (zK C).2.2.1 64 (fun _ => 0), wJ q_2 (zK C).2.2.1 31 (fun _ => 0), wJ q_3 (zK C).2.2.1 31 (fun _ => 0), wJ q_4 (zK C).2.2.1 64 (fun _ => 0), wJ q_5 (zK C).2.2.1 64 (fun _ => 0)] [(0, .ref v)] 41 [.ref q_5, .ref v]
  refine z_put hC (T := TX3) (N := 12) hinX3 tyX3_ok nmX3 0 4 [wO v 3 [.ref q_1, .ref q_2, .ref q_3, .ref q_4, .ref q_5, .null, .null, .null, .null, .null, .int (zI (0)), .int (zI (0))], wJ q_1 (zK C).2.2.1 64 (fun _ => 0), wJ q_2 (zK C).2.2.1 31 (fun _ => 0), wJ q_3 (zK C).2.2.1 31 (fun _ => 0), wJ q_4 (zK C).2.2.1 64 (fun _ => 0), wJ q_5 (zK C).2.2.1 64 (fun _ => 0)] dX3_init_41 rfl rfl (by decide) (List.mem_of_getElem? (i := 9) rfl) rfl rfl rfl rfl (Nat.le_of_ble_eq_true rfl) rfl ?_
  refine z_aload_n hC 0 dX3_init_44 rfl rfl ?_
  refine z_bipush hC dX3_init_45 (by decide) ?_
  refine z_newaJ hC 64 dX3_init_47 (List.mem_of_getElem? (i := 4) rfl) rfl (Nat.le_of_ble_eq_true rfl) (Nat.le_of_ble_eq_true rfl) (Nat.le_of_ble_eq_true rfl) (fun q_6 => ?_)
  show ZW C 6 318 [wO v 3 [.ref q_1, .ref q_2, .ref q_3, .ref q_4, .ref q_5, .null, .null, .null, .null, .null, .int (zI (0)), .int (zI (0))], wJ q_1 (zK C).2.2.1 64 (fun _ => 0), wJ q_2 (zK C).2.2.1 31 (fun _ => 0), wJ q_3 (zK C).2.2.1 31 (fun _ => 0), wJ q_4 (zK C).2.2.1 64 (fun _ => 0), wJ q_5 (zK C).2.2.1 64 (fun _ => 0), wJ q_6 (zK C).2.2.1 64 (fun _ => 0)] [(0, .ref v)] 49 [.ref q_6, .ref v]
  refine z_put hC (T := TX3) (N := 12) hinX3 tyX3_ok nmX3 0 5 [wO v 3 [.ref q_1, .ref q_2, .ref q_3, .ref q_4, .ref q_5, .ref q_6, .null, .null, .null, .null, .int (zI (0)), .int (zI (0))], wJ q_1 (zK C).2.2.1 64 (fun _ => 0), wJ q_2 (zK C).2.2.1 31 (fun _ => 0), wJ q_3 (zK C).2.2.1 31 (fun _ => 0), wJ q_4 (zK C).2.2.1 64 (fun _ => 0), wJ q_5 (zK C).2.2.1 64 (fun _ => 0), wJ q_6 (zK C).2.2.1 64 (fun _ => 0)] dX3_init_49 rfl rfl (by decide) (List.mem_of_getElem? (i := 10) rfl) rfl rfl rfl rfl (Nat.le_of_ble_eq_true rfl) rfl ?_
  refine z_aload_n hC 0 dX3_init_52 rfl rfl ?_
  refine z_bipush hC dX3_init_53 (by decide) ?_
  refine z_newaJ hC 64 dX3_init_55 (List.mem_of_getElem? (i := 4) rfl) rfl (Nat.le_of_ble_eq_true rfl) (Nat.le_of_ble_eq_true rfl) (Nat.le_of_ble_eq_true rfl) (fun q_7 => ?_)
  show ZW C 7 382 [wO v 3 [.ref q_1, .ref q_2, .ref q_3, .ref q_4, .ref q_5, .ref q_6, .null, .null, .null, .null, .int (zI (0)), .int (zI (0))], wJ q_1 (zK C).2.2.1 64 (fun _ => 0), wJ q_2 (zK C).2.2.1 31 (fun _ => 0), wJ q_3 (zK C).2.2.1 31 (fun _ => 0), wJ q_4 (zK C).2.2.1 64 (fun _ => 0), wJ q_5 (zK C).2.2.1 64 (fun _ => 0), wJ q_6 (zK C).2.2.1 64 (fun _ => 0), wJ q_7 (zK C).2.2.1 64 (fun _ => 0)] [(0, .ref v)] 57 [.ref q_7, .ref v]
  refine z_putF hC (T := TX3) (N := 12) hinX3 tyX3_ok nmX3 0 6 [wO v 3 [.ref q_1, .ref q_2, .ref q_3, .ref q_4, .ref q_5, .ref q_6, .ref q_7, .null, .null, .null, .int (zI (0)), .int (zI (0))], wJ q_1 (zK C).2.2.1 64 (fun _ => 0), wJ q_2 (zK C).2.2.1 31 (fun _ => 0), wJ q_3 (zK C).2.2.1 31 (fun _ => 0), wJ q_4 (zK C).2.2.1 64 (fun _ => 0), wJ q_5 (zK C).2.2.1 64 (fun _ => 0), wJ q_6 (zK C).2.2.1 64 (fun _ => 0), wJ q_7 (zK C).2.2.1 64 (fun _ => 0)] dX3_init_57 rfl rfl rfl rfl (by decide) (List.mem_of_getElem? (i := 11) rfl) rfl rfl rfl rfl (Nat.le_of_ble_eq_true rfl) rfl ?_
  refine z_aload_n hC 0 dX3_init_60 rfl rfl ?_
  refine z_bipush hC dX3_init_61 (by decide) ?_
  refine z_newaJ hC 64 dX3_init_63 (List.mem_of_getElem? (i := 4) rfl) rfl (Nat.le_of_ble_eq_true rfl) (Nat.le_of_ble_eq_true rfl) (Nat.le_of_ble_eq_true rfl) (fun q_8 => ?_)
  show ZW C 8 446 [wO v 3 [.ref q_1, .ref q_2, .ref q_3, .ref q_4, .ref q_5, .ref q_6, .ref q_7, .null, .null, .null, .int (zI (0)), .int (zI (0))], wJ q_1 (zK C).2.2.1 64 (fun _ => 0), wJ q_2 (zK C).2.2.1 31 (fun _ => 0), wJ q_3 (zK C).2.2.1 31 (fun _ => 0), wJ q_4 (zK C).2.2.1 64 (fun _ => 0), wJ q_5 (zK C).2.2.1 64 (fun _ => 0), wJ q_6 (zK C).2.2.1 64 (fun _ => 0), wJ q_7 (zK C).2.2.1 64 (fun _ => 0), wJ q_8 (zK C).2.2.1 64 (fun _ => 0)] [(0, .ref v)] 65 [.ref q_8, .ref v]
  refine z_putF hC (T := TX3) (N := 12) hinX3 tyX3_ok nmX3 0 7 [wO v 3 [.ref q_1, .ref q_2, .ref q_3, .ref q_4, .ref q_5, .ref q_6, .ref q_7, .ref q_8, .null, .null, .int (zI (0)), .int (zI (0))], wJ q_1 (zK C).2.2.1 64 (fun _ => 0), wJ q_2 (zK C).2.2.1 31 (fun _ => 0), wJ q_3 (zK C).2.2.1 31 (fun _ => 0), wJ q_4 (zK C).2.2.1 64 (fun _ => 0), wJ q_5 (zK C).2.2.1 64 (fun _ => 0), wJ q_6 (zK C).2.2.1 64 (fun _ => 0), wJ q_7 (zK C).2.2.1 64 (fun _ => 0), wJ q_8 (zK C).2.2.1 64 (fun _ => 0)] dX3_init_65 rfl rfl rfl rfl (by decide) (List.mem_of_getElem? (i := 12) rfl) rfl rfl rfl rfl (Nat.le_of_ble_eq_true rfl) rfl ?_
  refine z_aload_n hC 0 dX3_init_68 rfl rfl ?_
  refine z_bipush hC dX3_init_69 (by decide) ?_
  refine z_newaJ hC 64 dX3_init_71 (List.mem_of_getElem? (i := 4) rfl) rfl (Nat.le_of_ble_eq_true rfl) (Nat.le_of_ble_eq_true rfl) (Nat.le_of_ble_eq_true rfl) (fun q_9 => ?_)
  show ZW C 9 510 [wO v 3 [.ref q_1, .ref q_2, .ref q_3, .ref q_4, .ref q_5, .ref q_6, .ref q_7, .ref q_8, .null, .null, .int (zI (0)), .int (zI (0))], wJ q_1 (zK C).2.2.1 64 (fun _ => 0), wJ q_2 (zK C).2.2.1 31 (fun _ => 0), wJ q_3 (zK C).2.2.1 31 (fun _ => 0), wJ q_4 (zK C).2.2.1 64 (fun _ => 0), wJ q_5 (zK C).2.2.1 64 (fun _ => 0), wJ q_6 (zK C).2.2.1 64 (fun _ => 0), wJ q_7 (zK C).2.2.1 64 (fun _ => 0), wJ q_8 (zK C).2.2.1 64 (fun _ => 0), wJ q_9 (zK C).2.2.1 64 (fun _ => 0)] [(0, .ref v)] 73 [.ref q_9, .ref v]
  refine z_putF hC (T := TX3) (N := 12) hinX3 tyX3_ok nmX3 0 8 [wO v 3 [.ref q_1, .ref q_2, .ref q_3, .ref q_4, .ref q_5, .ref q_6, .ref q_7, .ref q_8, .ref q_9, .null, .int (zI (0)), .int (zI (0))], wJ q_1 (zK C).2.2.1 64 (fun _ => 0), wJ q_2 (zK C).2.2.1 31 (fun _ => 0), wJ q_3 (zK C).2.2.1 31 (fun _ => 0), wJ q_4 (zK C).2.2.1 64 (fun _ => 0), wJ q_5 (zK C).2.2.1 64 (fun _ => 0), wJ q_6 (zK C).2.2.1 64 (fun _ => 0), wJ q_7 (zK C).2.2.1 64 (fun _ => 0), wJ q_8 (zK C).2.2.1 64 (fun _ => 0), wJ q_9 (zK C).2.2.1 64 (fun _ => 0)] dX3_init_73 rfl rfl rfl rfl (by decide) (List.mem_of_getElem? (i := 13) rfl) rfl rfl rfl rfl (Nat.le_of_ble_eq_true rfl) rfl ?_
  refine z_aload_n hC 0 dX3_init_76 rfl rfl ?_
  refine z_bipush hC dX3_init_77 (by decide) ?_
  refine z_newaI hC 64 dX3_init_79 (List.mem_of_getElem? (i := 14) rfl) rfl (Nat.le_of_ble_eq_true rfl) (Nat.le_of_ble_eq_true rfl) (Nat.le_of_ble_eq_true rfl) (fun q_10 => ?_)
  show ZW C 10 574 [wO v 3 [.ref q_1, .ref q_2, .ref q_3, .ref q_4, .ref q_5, .ref q_6, .ref q_7, .ref q_8, .ref q_9, .null, .int (zI (0)), .int (zI (0))], wJ q_1 (zK C).2.2.1 64 (fun _ => 0), wJ q_2 (zK C).2.2.1 31 (fun _ => 0), wJ q_3 (zK C).2.2.1 31 (fun _ => 0), wJ q_4 (zK C).2.2.1 64 (fun _ => 0), wJ q_5 (zK C).2.2.1 64 (fun _ => 0), wJ q_6 (zK C).2.2.1 64 (fun _ => 0), wJ q_7 (zK C).2.2.1 64 (fun _ => 0), wJ q_8 (zK C).2.2.1 64 (fun _ => 0), wJ q_9 (zK C).2.2.1 64 (fun _ => 0), wI q_10 (zK C).2.1 64 (fun _ => 0)] [(0, .ref v)] 81 [.ref q_10, .ref v]
  refine z_putF hC (T := TX3) (N := 12) hinX3 tyX3_ok nmX3 0 9 [wO v 3 [.ref q_1, .ref q_2, .ref q_3, .ref q_4, .ref q_5, .ref q_6, .ref q_7, .ref q_8, .ref q_9, .ref q_10, .int (zI (0)), .int (zI (0))], wJ q_1 (zK C).2.2.1 64 (fun _ => 0), wJ q_2 (zK C).2.2.1 31 (fun _ => 0), wJ q_3 (zK C).2.2.1 31 (fun _ => 0), wJ q_4 (zK C).2.2.1 64 (fun _ => 0), wJ q_5 (zK C).2.2.1 64 (fun _ => 0), wJ q_6 (zK C).2.2.1 64 (fun _ => 0), wJ q_7 (zK C).2.2.1 64 (fun _ => 0), wJ q_8 (zK C).2.2.1 64 (fun _ => 0), wJ q_9 (zK C).2.2.1 64 (fun _ => 0), wI q_10 (zK C).2.1 64 (fun _ => 0)] dX3_init_81 rfl rfl rfl rfl (by decide) (List.mem_of_getElem? (i := 15) rfl) rfl rfl rfl rfl (Nat.le_of_ble_eq_true rfl) rfl ?_
  exact z_vret hC hR dX3_init_84 (Nat.le_of_ble_eq_true rfl) (Nat.le_of_ble_eq_true rfl) ⟨q_1, q_2, q_3, q_4, q_5, q_6, q_7, q_8, q_9, q_10, rfl, rfl, by trivial⟩

set_option maxHeartbeats 4000000 in
set_option maxRecDepth 100000 in
theorem c_X0_init (l : Launch) (D : va_G) (K : ClassId × ClassId × ClassId × ClassId) (b : Nat) : zMet l D K yX0_init wsX0_init ({ frames := 1, cells := 1, slots := 3782, locals := 12 }) 1 3782 [.ref b] [wO b 0 [.null, .int (zI (0))]] (fun vr_ wr_ => ∃ (b_ends : Nat), vr_ = none ∧ wr_ = [wO b 0 [.ref b_ends, .int (zI (0))], wJ b_ends K.2.2.1 3782 (fun _ => 0)] ∧ (True)) := by
  refine zMet_of (cc := cX0_init) (nL := 1) (ret := none) (by decide) rfl (Nat.le_of_ble_eq_true rfl) ?_
  rintro C rfl rfl rfl hC hR
  have hinX0 : ∀ w ∈ u_ws RX0 TX0 2, w ∈ wsX0_init := by decide +kernel
  show ZW C 0 0 [wO b 0 [.null, .int (zI (0))]] [(0, .ref b)] 0 []
  refine z_aload_n hC 0 dX0_init_0 rfl rfl ?_
  refine z_objInit hC dX0_init_1 (List.mem_of_getElem? (i := 1) rfl) (List.mem_of_getElem? (i := 2) rfl) (List.mem_of_getElem? (i := 3) rfl) (Nat.le_of_ble_eq_true rfl) (Nat.le_of_ble_eq_true rfl) ?_
  refine z_aload_n hC 0 dX0_init_4 rfl rfl ?_
  refine z_sipush hC dX0_init_5 (by decide) ?_
  refine z_newaJ hC 3782 dX0_init_8 (List.mem_of_getElem? (i := 4) rfl) rfl (Nat.le_of_ble_eq_true rfl) (Nat.le_of_ble_eq_true rfl) (Nat.le_of_ble_eq_true rfl) (fun q_1 => ?_)
  show ZW C 1 3782 [wO b 0 [.null, .int (zI (0))], wJ q_1 (zK C).2.2.1 3782 (fun _ => 0)] [(0, .ref b)] 10 [.ref q_1, .ref b]
  refine z_putF hC (T := TX0) (N := 2) hinX0 tyX0_ok nmX0 0 0 [wO b 0 [.ref q_1, .int (zI (0))], wJ q_1 (zK C).2.2.1 3782 (fun _ => 0)] dX0_init_10 rfl rfl rfl rfl (by decide) (List.mem_of_getElem? (i := 5) rfl) rfl rfl rfl rfl (Nat.le_of_ble_eq_true rfl) rfl ?_
  exact z_vret hC hR dX0_init_13 (Nat.le_of_ble_eq_true rfl) (Nat.le_of_ble_eq_true rfl) ⟨q_1, rfl, rfl, by trivial⟩

set_option maxHeartbeats 4000000 in
set_option maxRecDepth 100000 in
theorem c_X4_init (l : Launch) (D : va_G) (K : ClassId × ClassId × ClassId × ClassId) (p : Nat) : zMet l D K yX4_init wsX4_init ({ frames := 3, cells := 6, slots := 9010, locals := 67 }) 6 9010 [.ref p] [wO p 4 [.null, .null, .null, .null, .int (zI (0)), .int (zI (0)), .int (zI (0)), .int (zI (0)), .int (zI (0)), .int (zI (0)), .int (zI (0)), .int (zI (0)), .int (zI (0)), .null, .null]] (fun vr_ wr_ => ∃ (p_dx : Nat) (p_dy : Nat) (p_weights : Nat) (p_leaps : Nat) (p_barred : Nat) (p_passable : Nat) (dx : Int → Int) (dy : Int → Int) (we : Int → Int) (lp : Int → Int) (pas : Int → Int), vr_ = none ∧ wr_ = [wO p 4 [.ref p_dx, .ref p_dy, .ref p_weights, .ref p_leaps, .int (zI (4)), .int (zI (0)), .int (zI (5)), .int (zI (6)), .int (zI (0)), .int (zI (0)), .int (zI (0)), .int (zI (0)), .int (zI (0)), .ref p_barred, .ref p_passable], wI p_dx K.2.1 8 dx, wI p_dy K.2.1 8 dy, wI p_weights K.2.1 8 we, wI p_leaps K.2.1 8 lp, wI p_barred K.1 4489 (fun _ => 0), wI p_passable K.1 4489 pas] ∧ ((∀ j, 0 ≤ j → j < 8 → dx j = sdx j) ∧ (∀ j, 0 ≤ j → j < 8 → dy j = sdy j) ∧ (∀ j, 0 ≤ j → j < 8 → we j = 1) ∧ (∀ j, 0 ≤ j → j < 8 → lp j = slp j) ∧ (∀ j, 0 ≤ j → j < 4489 → pas j = rpas 0 5 6 (fun _ => 0) (fun _ => 0) j))) := by
  refine zMet_of (cc := cX4_init) (nL := 1) (ret := none) (by decide) rfl (Nat.le_of_ble_eq_true rfl) ?_
  rintro C rfl rfl rfl hC hR
  have hinX4 : ∀ w ∈ u_ws RX4 TX4 15, w ∈ wsX4_init := by decide +kernel
  show ZW C 0 0 [wO p 4 [.null, .null, .null, .null, .int (zI (0)), .int (zI (0)), .int (zI (0)), .int (zI (0)), .int (zI (0)), .int (zI (0)), .int (zI (0)), .int (zI (0)), .int (zI (0)), .null, .null]] [(0, .ref p)] 0 []
  refine z_aload_n hC 0 dX4_init_0 rfl rfl ?_
  refine z_objInit hC dX4_init_1 (List.mem_of_getElem? (i := 1) rfl) (List.mem_of_getElem? (i := 2) rfl) (List.mem_of_getElem? (i := 3) rfl) (Nat.le_of_ble_eq_true rfl) (Nat.le_of_ble_eq_true rfl) ?_
  refine z_aload_n hC 0 dX4_init_4 rfl rfl ?_
  refine z_bipush hC dX4_init_5 (by decide) ?_
  refine z_newaI hC 8 dX4_init_7 (List.mem_of_getElem? (i := 4) rfl) rfl (Nat.le_of_ble_eq_true rfl) (Nat.le_of_ble_eq_true rfl) (Nat.le_of_ble_eq_true rfl) (fun q_1 => ?_)
  show ZW C 1 8 [wO p 4 [.null, .null, .null, .null, .int (zI (0)), .int (zI (0)), .int (zI (0)), .int (zI (0)), .int (zI (0)), .int (zI (0)), .int (zI (0)), .int (zI (0)), .int (zI (0)), .null, .null], wI q_1 (zK C).2.1 8 (fun _ => 0)] [(0, .ref p)] 9 [.ref q_1, .ref p]
  refine z_dup hC dX4_init_9 rfl ?_
  refine z_iconst hC dX4_init_10 ?_
  refine z_iconst hC dX4_init_11 ?_
  refine z_iast hC 1 [wO p 4 [.null, .null, .null, .null, .int (zI (0)), .int (zI (0)), .int (zI (0)), .int (zI (0)), .int (zI (0)), .int (zI (0)), .int (zI (0)), .int (zI (0)), .int (zI (0)), .null, .null], wI q_1 (zK C).2.1 8 (zu (fun _ => 0) 0 1)] dX4_init_12 rfl (by omega) rfl ?_
  refine z_dup hC dX4_init_13 rfl ?_
  refine z_iconst hC dX4_init_14 ?_
  refine z_iconst hC dX4_init_15 ?_
  refine z_iast hC 1 [wO p 4 [.null, .null, .null, .null, .int (zI (0)), .int (zI (0)), .int (zI (0)), .int (zI (0)), .int (zI (0)), .int (zI (0)), .int (zI (0)), .int (zI (0)), .int (zI (0)), .null, .null], wI q_1 (zK C).2.1 8 (zu (zu (fun _ => 0) 0 1) 1 0)] dX4_init_16 rfl (by omega) rfl ?_
  refine z_dup hC dX4_init_17 rfl ?_
  refine z_iconst hC dX4_init_18 ?_
  refine z_iconst hC dX4_init_19 ?_
  refine z_iast hC 1 [wO p 4 [.null, .null, .null, .null, .int (zI (0)), .int (zI (0)), .int (zI (0)), .int (zI (0)), .int (zI (0)), .int (zI (0)), .int (zI (0)), .int (zI (0)), .int (zI (0)), .null, .null], wI q_1 (zK C).2.1 8 (zu (zu (zu (fun _ => 0) 0 1) 1 0) 2 ((-1)))] dX4_init_20 rfl (by omega) rfl ?_
  refine z_dup hC dX4_init_21 rfl ?_
  refine z_iconst hC dX4_init_22 ?_
  refine z_iconst hC dX4_init_23 ?_
  refine z_iast hC 1 [wO p 4 [.null, .null, .null, .null, .int (zI (0)), .int (zI (0)), .int (zI (0)), .int (zI (0)), .int (zI (0)), .int (zI (0)), .int (zI (0)), .int (zI (0)), .int (zI (0)), .null, .null], wI q_1 (zK C).2.1 8 (zu (zu (zu (zu (fun _ => 0) 0 1) 1 0) 2 ((-1))) 3 0)] dX4_init_24 rfl (by omega) rfl ?_
  refine z_dup hC dX4_init_25 rfl ?_
  refine z_iconst hC dX4_init_26 ?_
  refine z_iconst hC dX4_init_27 ?_
  refine z_iast hC 1 [wO p 4 [.null, .null, .null, .null, .int (zI (0)), .int (zI (0)), .int (zI (0)), .int (zI (0)), .int (zI (0)), .int (zI (0)), .int (zI (0)), .int (zI (0)), .int (zI (0)), .null, .null], wI q_1 (zK C).2.1 8 (zu (zu (zu (zu (zu (fun _ => 0) 0 1) 1 0) 2 ((-1))) 3 0) 4 0)] dX4_init_28 rfl (by omega) rfl ?_
  refine z_dup hC dX4_init_29 rfl ?_
  refine z_iconst hC dX4_init_30 ?_
  refine z_iconst hC dX4_init_31 ?_
  refine z_iast hC 1 [wO p 4 [.null, .null, .null, .null, .int (zI (0)), .int (zI (0)), .int (zI (0)), .int (zI (0)), .int (zI (0)), .int (zI (0)), .int (zI (0)), .int (zI (0)), .int (zI (0)), .null, .null], wI q_1 (zK C).2.1 8 (zu (zu (zu (zu (zu (zu (fun _ => 0) 0 1) 1 0) 2 ((-1))) 3 0) 4 0) 5 0)] dX4_init_32 rfl (by omega) rfl ?_
  refine z_dup hC dX4_init_33 rfl ?_
  refine z_bipush hC dX4_init_34 (by decide) ?_
  refine z_iconst hC dX4_init_36 ?_
  refine z_iast hC 1 [wO p 4 [.null, .null, .null, .null, .int (zI (0)), .int (zI (0)), .int (zI (0)), .int (zI (0)), .int (zI (0)), .int (zI (0)), .int (zI (0)), .int (zI (0)), .int (zI (0)), .null, .null], wI q_1 (zK C).2.1 8 (zu (zu (zu (zu (zu (zu (zu (fun _ => 0) 0 1) 1 0) 2 ((-1))) 3 0) 4 0) 5 0) 6 0)] dX4_init_37 rfl (by omega) rfl ?_
  refine z_dup hC dX4_init_38 rfl ?_
  refine z_bipush hC dX4_init_39 (by decide) ?_
  refine z_iconst hC dX4_init_41 ?_
  refine z_iast hC 1 [wO p 4 [.null, .null, .null, .null, .int (zI (0)), .int (zI (0)), .int (zI (0)), .int (zI (0)), .int (zI (0)), .int (zI (0)), .int (zI (0)), .int (zI (0)), .int (zI (0)), .null, .null], wI q_1 (zK C).2.1 8 (zu (zu (zu (zu (zu (zu (zu (zu (fun _ => 0) 0 1) 1 0) 2 ((-1))) 3 0) 4 0) 5 0) 6 0) 7 0)] dX4_init_42 rfl (by omega) rfl ?_
  refine z_putF hC (T := TX4) (N := 15) hinX4 tyX4_ok nmX4 0 0 [wO p 4 [.ref q_1, .null, .null, .null, .int (zI (0)), .int (zI (0)), .int (zI (0)), .int (zI (0)), .int (zI (0)), .int (zI (0)), .int (zI (0)), .int (zI (0)), .int (zI (0)), .null, .null], wI q_1 (zK C).2.1 8 (zu (zu (zu (zu (zu (zu (zu (zu (fun _ => 0) 0 1) 1 0) 2 ((-1))) 3 0) 4 0) 5 0) 6 0) 7 0)] dX4_init_43 rfl rfl rfl rfl (by decide) (List.mem_of_getElem? (i := 5) rfl) rfl rfl rfl rfl (Nat.le_of_ble_eq_true rfl) rfl ?_
  refine z_aload_n hC 0 dX4_init_46 rfl rfl ?_
  refine z_bipush hC dX4_init_47 (by decide) ?_
  refine z_newaI hC 8 dX4_init_49 (List.mem_of_getElem? (i := 4) rfl) rfl (Nat.le_of_ble_eq_true rfl) (Nat.le_of_ble_eq_true rfl) (Nat.le_of_ble_eq_true rfl) (fun q_2 => ?_)
  show ZW C 2 16 [wO p 4 [.ref q_1, .null, .null, .null, .int (zI (0)), .int (zI (0)), .int (zI (0)), .int (zI (0)), .int (zI (0)), .int (zI (0)), .int (zI (0)), .int (zI (0)), .int (zI (0)), .null, .null], wI q_1 (zK C).2.1 8 (zu (zu (zu (zu (zu (zu (zu (zu (fun _ => 0) 0 1) 1 0) 2 ((-1))) 3 0) 4 0) 5 0) 6 0) 7 0), wI q_2 (zK C).2.1 8 (fun _ => 0)] [(0, .ref p)] 51 [.ref q_2, .ref p]
  refine z_dup hC dX4_init_51 rfl ?_
  refine z_iconst hC dX4_init_52 ?_
  refine z_iconst hC dX4_init_53 ?_
  refine z_iast hC 2 [wO p 4 [.ref q_1, .null, .null, .null, .int (zI (0)), .int (zI (0)), .int (zI (0)), .int (zI (0)), .int (zI (0)), .int (zI (0)), .int (zI (0)), .int (zI (0)), .int (zI (0)), .null, .null], wI q_1 (zK C).2.1 8 (zu (zu (zu (zu (zu (zu (zu (zu (fun _ => 0) 0 1) 1 0) 2 ((-1))) 3 0) 4 0) 5 0) 6 0) 7 0), wI q_2 (zK C).2.1 8 (zu (fun _ => 0) 0 0)] dX4_init_54 rfl (by omega) rfl ?_
  refine z_dup hC dX4_init_55 rfl ?_
  refine z_iconst hC dX4_init_56 ?_
  refine z_iconst hC dX4_init_57 ?_
  refine z_iast hC 2 [wO p 4 [.ref q_1, .null, .null, .null, .int (zI (0)), .int (zI (0)), .int (zI (0)), .int (zI (0)), .int (zI (0)), .int (zI (0)), .int (zI (0)), .int (zI (0)), .int (zI (0)), .null, .null], wI q_1 (zK C).2.1 8 (zu (zu (zu (zu (zu (zu (zu (zu (fun _ => 0) 0 1) 1 0) 2 ((-1))) 3 0) 4 0) 5 0) 6 0) 7 0), wI q_2 (zK C).2.1 8 (zu (zu (fun _ => 0) 0 0) 1 1)] dX4_init_58 rfl (by omega) rfl ?_
  refine z_dup hC dX4_init_59 rfl ?_
  refine z_iconst hC dX4_init_60 ?_
  refine z_iconst hC dX4_init_61 ?_
  refine z_iast hC 2 [wO p 4 [.ref q_1, .null, .null, .null, .int (zI (0)), .int (zI (0)), .int (zI (0)), .int (zI (0)), .int (zI (0)), .int (zI (0)), .int (zI (0)), .int (zI (0)), .int (zI (0)), .null, .null], wI q_1 (zK C).2.1 8 (zu (zu (zu (zu (zu (zu (zu (zu (fun _ => 0) 0 1) 1 0) 2 ((-1))) 3 0) 4 0) 5 0) 6 0) 7 0), wI q_2 (zK C).2.1 8 (zu (zu (zu (fun _ => 0) 0 0) 1 1) 2 0)] dX4_init_62 rfl (by omega) rfl ?_
  refine z_dup hC dX4_init_63 rfl ?_
  refine z_iconst hC dX4_init_64 ?_
  refine z_iconst hC dX4_init_65 ?_
  refine z_iast hC 2 [wO p 4 [.ref q_1, .null, .null, .null, .int (zI (0)), .int (zI (0)), .int (zI (0)), .int (zI (0)), .int (zI (0)), .int (zI (0)), .int (zI (0)), .int (zI (0)), .int (zI (0)), .null, .null], wI q_1 (zK C).2.1 8 (zu (zu (zu (zu (zu (zu (zu (zu (fun _ => 0) 0 1) 1 0) 2 ((-1))) 3 0) 4 0) 5 0) 6 0) 7 0), wI q_2 (zK C).2.1 8 (zu (zu (zu (zu (fun _ => 0) 0 0) 1 1) 2 0) 3 ((-1)))] dX4_init_66 rfl (by omega) rfl ?_
  refine z_dup hC dX4_init_67 rfl ?_
  refine z_iconst hC dX4_init_68 ?_
  refine z_iconst hC dX4_init_69 ?_
  refine z_iast hC 2 [wO p 4 [.ref q_1, .null, .null, .null, .int (zI (0)), .int (zI (0)), .int (zI (0)), .int (zI (0)), .int (zI (0)), .int (zI (0)), .int (zI (0)), .int (zI (0)), .int (zI (0)), .null, .null], wI q_1 (zK C).2.1 8 (zu (zu (zu (zu (zu (zu (zu (zu (fun _ => 0) 0 1) 1 0) 2 ((-1))) 3 0) 4 0) 5 0) 6 0) 7 0), wI q_2 (zK C).2.1 8 (zu (zu (zu (zu (zu (fun _ => 0) 0 0) 1 1) 2 0) 3 ((-1))) 4 0)] dX4_init_70 rfl (by omega) rfl ?_
  refine z_dup hC dX4_init_71 rfl ?_
  refine z_iconst hC dX4_init_72 ?_
  refine z_iconst hC dX4_init_73 ?_
  refine z_iast hC 2 [wO p 4 [.ref q_1, .null, .null, .null, .int (zI (0)), .int (zI (0)), .int (zI (0)), .int (zI (0)), .int (zI (0)), .int (zI (0)), .int (zI (0)), .int (zI (0)), .int (zI (0)), .null, .null], wI q_1 (zK C).2.1 8 (zu (zu (zu (zu (zu (zu (zu (zu (fun _ => 0) 0 1) 1 0) 2 ((-1))) 3 0) 4 0) 5 0) 6 0) 7 0), wI q_2 (zK C).2.1 8 (zu (zu (zu (zu (zu (zu (fun _ => 0) 0 0) 1 1) 2 0) 3 ((-1))) 4 0) 5 0)] dX4_init_74 rfl (by omega) rfl ?_
  refine z_dup hC dX4_init_75 rfl ?_
  refine z_bipush hC dX4_init_76 (by decide) ?_
  refine z_iconst hC dX4_init_78 ?_
  refine z_iast hC 2 [wO p 4 [.ref q_1, .null, .null, .null, .int (zI (0)), .int (zI (0)), .int (zI (0)), .int (zI (0)), .int (zI (0)), .int (zI (0)), .int (zI (0)), .int (zI (0)), .int (zI (0)), .null, .null], wI q_1 (zK C).2.1 8 (zu (zu (zu (zu (zu (zu (zu (zu (fun _ => 0) 0 1) 1 0) 2 ((-1))) 3 0) 4 0) 5 0) 6 0) 7 0), wI q_2 (zK C).2.1 8 (zu (zu (zu (zu (zu (zu (zu (fun _ => 0) 0 0) 1 1) 2 0) 3 ((-1))) 4 0) 5 0) 6 0)] dX4_init_79 rfl (by omega) rfl ?_
  refine z_dup hC dX4_init_80 rfl ?_
  refine z_bipush hC dX4_init_81 (by decide) ?_
  refine z_iconst hC dX4_init_83 ?_
  refine z_iast hC 2 [wO p 4 [.ref q_1, .null, .null, .null, .int (zI (0)), .int (zI (0)), .int (zI (0)), .int (zI (0)), .int (zI (0)), .int (zI (0)), .int (zI (0)), .int (zI (0)), .int (zI (0)), .null, .null], wI q_1 (zK C).2.1 8 (zu (zu (zu (zu (zu (zu (zu (zu (fun _ => 0) 0 1) 1 0) 2 ((-1))) 3 0) 4 0) 5 0) 6 0) 7 0), wI q_2 (zK C).2.1 8 (zu (zu (zu (zu (zu (zu (zu (zu (fun _ => 0) 0 0) 1 1) 2 0) 3 ((-1))) 4 0) 5 0) 6 0) 7 0)] dX4_init_84 rfl (by omega) rfl ?_
  refine z_putF hC (T := TX4) (N := 15) hinX4 tyX4_ok nmX4 0 1 [wO p 4 [.ref q_1, .ref q_2, .null, .null, .int (zI (0)), .int (zI (0)), .int (zI (0)), .int (zI (0)), .int (zI (0)), .int (zI (0)), .int (zI (0)), .int (zI (0)), .int (zI (0)), .null, .null], wI q_1 (zK C).2.1 8 (zu (zu (zu (zu (zu (zu (zu (zu (fun _ => 0) 0 1) 1 0) 2 ((-1))) 3 0) 4 0) 5 0) 6 0) 7 0), wI q_2 (zK C).2.1 8 (zu (zu (zu (zu (zu (zu (zu (zu (fun _ => 0) 0 0) 1 1) 2 0) 3 ((-1))) 4 0) 5 0) 6 0) 7 0)] dX4_init_85 rfl rfl rfl rfl (by decide) (List.mem_of_getElem? (i := 6) rfl) rfl rfl rfl rfl (Nat.le_of_ble_eq_true rfl) rfl ?_
  refine z_aload_n hC 0 dX4_init_88 rfl rfl ?_
  refine z_bipush hC dX4_init_89 (by decide) ?_
  refine z_newaI hC 8 dX4_init_91 (List.mem_of_getElem? (i := 4) rfl) rfl (Nat.le_of_ble_eq_true rfl) (Nat.le_of_ble_eq_true rfl) (Nat.le_of_ble_eq_true rfl) (fun q_3 => ?_)
  show ZW C 3 24 [wO p 4 [.ref q_1, .ref q_2, .null, .null, .int (zI (0)), .int (zI (0)), .int (zI (0)), .int (zI (0)), .int (zI (0)), .int (zI (0)), .int (zI (0)), .int (zI (0)), .int (zI (0)), .null, .null], wI q_1 (zK C).2.1 8 (zu (zu (zu (zu (zu (zu (zu (zu (fun _ => 0) 0 1) 1 0) 2 ((-1))) 3 0) 4 0) 5 0) 6 0) 7 0), wI q_2 (zK C).2.1 8 (zu (zu (zu (zu (zu (zu (zu (zu (fun _ => 0) 0 0) 1 1) 2 0) 3 ((-1))) 4 0) 5 0) 6 0) 7 0), wI q_3 (zK C).2.1 8 (fun _ => 0)] [(0, .ref p)] 93 [.ref q_3, .ref p]
  refine z_dup hC dX4_init_93 rfl ?_
  refine z_iconst hC dX4_init_94 ?_
  refine z_iconst hC dX4_init_95 ?_
  refine z_iast hC 3 [wO p 4 [.ref q_1, .ref q_2, .null, .null, .int (zI (0)), .int (zI (0)), .int (zI (0)), .int (zI (0)), .int (zI (0)), .int (zI (0)), .int (zI (0)), .int (zI (0)), .int (zI (0)), .null, .null], wI q_1 (zK C).2.1 8 (zu (zu (zu (zu (zu (zu (zu (zu (fun _ => 0) 0 1) 1 0) 2 ((-1))) 3 0) 4 0) 5 0) 6 0) 7 0), wI q_2 (zK C).2.1 8 (zu (zu (zu (zu (zu (zu (zu (zu (fun _ => 0) 0 0) 1 1) 2 0) 3 ((-1))) 4 0) 5 0) 6 0) 7 0), wI q_3 (zK C).2.1 8 (zu (fun _ => 0) 0 1)] dX4_init_96 rfl (by omega) rfl ?_
  refine z_dup hC dX4_init_97 rfl ?_
  refine z_iconst hC dX4_init_98 ?_
  refine z_iconst hC dX4_init_99 ?_
  refine z_iast hC 3 [wO p 4 [.ref q_1, .ref q_2, .null, .null, .int (zI (0)), .int (zI (0)), .int (zI (0)), .int (zI (0)), .int (zI (0)), .int (zI (0)), .int (zI (0)), .int (zI (0)), .int (zI (0)), .null, .null], wI q_1 (zK C).2.1 8 (zu (zu (zu (zu (zu (zu (zu (zu (fun _ => 0) 0 1) 1 0) 2 ((-1))) 3 0) 4 0) 5 0) 6 0) 7 0), wI q_2 (zK C).2.1 8 (zu (zu (zu (zu (zu (zu (zu (zu (fun _ => 0) 0 0) 1 1) 2 0) 3 ((-1))) 4 0) 5 0) 6 0) 7 0), wI q_3 (zK C).2.1 8 (zu (zu (fun _ => 0) 0 1) 1 1)] dX4_init_100 rfl (by omega) rfl ?_
  refine z_dup hC dX4_init_101 rfl ?_
  refine z_iconst hC dX4_init_102 ?_
  refine z_iconst hC dX4_init_103 ?_
  refine z_iast hC 3 [wO p 4 [.ref q_1, .ref q_2, .null, .null, .int (zI (0)), .int (zI (0)), .int (zI (0)), .int (zI (0)), .int (zI (0)), .int (zI (0)), .int (zI (0)), .int (zI (0)), .int (zI (0)), .null, .null], wI q_1 (zK C).2.1 8 (zu (zu (zu (zu (zu (zu (zu (zu (fun _ => 0) 0 1) 1 0) 2 ((-1))) 3 0) 4 0) 5 0) 6 0) 7 0), wI q_2 (zK C).2.1 8 (zu (zu (zu (zu (zu (zu (zu (zu (fun _ => 0) 0 0) 1 1) 2 0) 3 ((-1))) 4 0) 5 0) 6 0) 7 0), wI q_3 (zK C).2.1 8 (zu (zu (zu (fun _ => 0) 0 1) 1 1) 2 1)] dX4_init_104 rfl (by omega) rfl ?_
  refine z_dup hC dX4_init_105 rfl ?_
  refine z_iconst hC dX4_init_106 ?_
  refine z_iconst hC dX4_init_107 ?_
  refine z_iast hC 3 [wO p 4 [.ref q_1, .ref q_2, .null, .null, .int (zI (0)), .int (zI (0)), .int (zI (0)), .int (zI (0)), .int (zI (0)), .int (zI (0)), .int (zI (0)), .int (zI (0)), .int (zI (0)), .null, .null], wI q_1 (zK C).2.1 8 (zu (zu (zu (zu (zu (zu (zu (zu (fun _ => 0) 0 1) 1 0) 2 ((-1))) 3 0) 4 0) 5 0) 6 0) 7 0), wI q_2 (zK C).2.1 8 (zu (zu (zu (zu (zu (zu (zu (zu (fun _ => 0) 0 0) 1 1) 2 0) 3 ((-1))) 4 0) 5 0) 6 0) 7 0), wI q_3 (zK C).2.1 8 (zu (zu (zu (zu (fun _ => 0) 0 1) 1 1) 2 1) 3 1)] dX4_init_108 rfl (by omega) rfl ?_
  refine z_dup hC dX4_init_109 rfl ?_
  refine z_iconst hC dX4_init_110 ?_
  refine z_iconst hC dX4_init_111 ?_
  refine z_iast hC 3 [wO p 4 [.ref q_1, .ref q_2, .null, .null, .int (zI (0)), .int (zI (0)), .int (zI (0)), .int (zI (0)), .int (zI (0)), .int (zI (0)), .int (zI (0)), .int (zI (0)), .int (zI (0)), .null, .null], wI q_1 (zK C).2.1 8 (zu (zu (zu (zu (zu (zu (zu (zu (fun _ => 0) 0 1) 1 0) 2 ((-1))) 3 0) 4 0) 5 0) 6 0) 7 0), wI q_2 (zK C).2.1 8 (zu (zu (zu (zu (zu (zu (zu (zu (fun _ => 0) 0 0) 1 1) 2 0) 3 ((-1))) 4 0) 5 0) 6 0) 7 0), wI q_3 (zK C).2.1 8 (zu (zu (zu (zu (zu (fun _ => 0) 0 1) 1 1) 2 1) 3 1) 4 1)] dX4_init_112 rfl (by omega) rfl ?_
  refine z_dup hC dX4_init_113 rfl ?_
  refine z_iconst hC dX4_init_114 ?_
  refine z_iconst hC dX4_init_115 ?_
  refine z_iast hC 3 [wO p 4 [.ref q_1, .ref q_2, .null, .null, .int (zI (0)), .int (zI (0)), .int (zI (0)), .int (zI (0)), .int (zI (0)), .int (zI (0)), .int (zI (0)), .int (zI (0)), .int (zI (0)), .null, .null], wI q_1 (zK C).2.1 8 (zu (zu (zu (zu (zu (zu (zu (zu (fun _ => 0) 0 1) 1 0) 2 ((-1))) 3 0) 4 0) 5 0) 6 0) 7 0), wI q_2 (zK C).2.1 8 (zu (zu (zu (zu (zu (zu (zu (zu (fun _ => 0) 0 0) 1 1) 2 0) 3 ((-1))) 4 0) 5 0) 6 0) 7 0), wI q_3 (zK C).2.1 8 (zu (zu (zu (zu (zu (zu (fun _ => 0) 0 1) 1 1) 2 1) 3 1) 4 1) 5 1)] dX4_init_116 rfl (by omega) rfl ?_
  refine z_dup hC dX4_init_117 rfl ?_
  refine z_bipush hC dX4_init_118 (by decide) ?_
  refine z_iconst hC dX4_init_120 ?_
  refine z_iast hC 3 [wO p 4 [.ref q_1, .ref q_2, .null, .null, .int (zI (0)), .int (zI (0)), .int (zI (0)), .int (zI (0)), .int (zI (0)), .int (zI (0)), .int (zI (0)), .int (zI (0)), .int (zI (0)), .null, .null], wI q_1 (zK C).2.1 8 (zu (zu (zu (zu (zu (zu (zu (zu (fun _ => 0) 0 1) 1 0) 2 ((-1))) 3 0) 4 0) 5 0) 6 0) 7 0), wI q_2 (zK C).2.1 8 (zu (zu (zu (zu (zu (zu (zu (zu (fun _ => 0) 0 0) 1 1) 2 0) 3 ((-1))) 4 0) 5 0) 6 0) 7 0), wI q_3 (zK C).2.1 8 (zu (zu (zu (zu (zu (zu (zu (fun _ => 0) 0 1) 1 1) 2 1) 3 1) 4 1) 5 1) 6 1)] dX4_init_121 rfl (by omega) rfl ?_
  refine z_dup hC dX4_init_122 rfl ?_
  refine z_bipush hC dX4_init_123 (by decide) ?_
  refine z_iconst hC dX4_init_125 ?_
  refine z_iast hC 3 [wO p 4 [.ref q_1, .ref q_2, .null, .null, .int (zI (0)), .int (zI (0)), .int (zI (0)), .int (zI (0)), .int (zI (0)), .int (zI (0)), .int (zI (0)), .int (zI (0)), .int (zI (0)), .null, .null], wI q_1 (zK C).2.1 8 (zu (zu (zu (zu (zu (zu (zu (zu (fun _ => 0) 0 1) 1 0) 2 ((-1))) 3 0) 4 0) 5 0) 6 0) 7 0), wI q_2 (zK C).2.1 8 (zu (zu (zu (zu (zu (zu (zu (zu (fun _ => 0) 0 0) 1 1) 2 0) 3 ((-1))) 4 0) 5 0) 6 0) 7 0), wI q_3 (zK C).2.1 8 (zu (zu (zu (zu (zu (zu (zu (zu (fun _ => 0) 0 1) 1 1) 2 1) 3 1) 4 1) 5 1) 6 1) 7 1)] dX4_init_126 rfl (by omega) rfl ?_
  refine z_putF hC (T := TX4) (N := 15) hinX4 tyX4_ok nmX4 0 2 [wO p 4 [.ref q_1, .ref q_2, .ref q_3, .null, .int (zI (0)), .int (zI (0)), .int (zI (0)), .int (zI (0)), .int (zI (0)), .int (zI (0)), .int (zI (0)), .int (zI (0)), .int (zI (0)), .null, .null], wI q_1 (zK C).2.1 8 (zu (zu (zu (zu (zu (zu (zu (zu (fun _ => 0) 0 1) 1 0) 2 ((-1))) 3 0) 4 0) 5 0) 6 0) 7 0), wI q_2 (zK C).2.1 8 (zu (zu (zu (zu (zu (zu (zu (zu (fun _ => 0) 0 0) 1 1) 2 0) 3 ((-1))) 4 0) 5 0) 6 0) 7 0), wI q_3 (zK C).2.1 8 (zu (zu (zu (zu (zu (zu (zu (zu (fun _ => 0) 0 1) 1 1) 2 1) 3 1) 4 1) 5 1) 6 1) 7 1)] dX4_init_127 rfl rfl rfl rfl (by decide) (List.mem_of_getElem? (i := 7) rfl) rfl rfl rfl rfl (Nat.le_of_ble_eq_true rfl) rfl ?_
  refine z_aload_n hC 0 dX4_init_130 rfl rfl ?_
  refine z_bipush hC dX4_init_131 (by decide) ?_
  refine z_newaI hC 8 dX4_init_133 (List.mem_of_getElem? (i := 4) rfl) rfl (Nat.le_of_ble_eq_true rfl) (Nat.le_of_ble_eq_true rfl) (Nat.le_of_ble_eq_true rfl) (fun q_4 => ?_)
  show ZW C 4 32 [wO p 4 [.ref q_1, .ref q_2, .ref q_3, .null, .int (zI (0)), .int (zI (0)), .int (zI (0)), .int (zI (0)), .int (zI (0)), .int (zI (0)), .int (zI (0)), .int (zI (0)), .int (zI (0)), .null, .null], wI q_1 (zK C).2.1 8 (zu (zu (zu (zu (zu (zu (zu (zu (fun _ => 0) 0 1) 1 0) 2 ((-1))) 3 0) 4 0) 5 0) 6 0) 7 0), wI q_2 (zK C).2.1 8 (zu (zu (zu (zu (zu (zu (zu (zu (fun _ => 0) 0 0) 1 1) 2 0) 3 ((-1))) 4 0) 5 0) 6 0) 7 0), wI q_3 (zK C).2.1 8 (zu (zu (zu (zu (zu (zu (zu (zu (fun _ => 0) 0 1) 1 1) 2 1) 3 1) 4 1) 5 1) 6 1) 7 1), wI q_4 (zK C).2.1 8 (fun _ => 0)] [(0, .ref p)] 135 [.ref q_4, .ref p]
  refine z_dup hC dX4_init_135 rfl ?_
  refine z_iconst hC dX4_init_136 ?_
  refine z_iconst hC dX4_init_137 ?_
  refine z_iast hC 4 [wO p 4 [.ref q_1, .ref q_2, .ref q_3, .null, .int (zI (0)), .int (zI (0)), .int (zI (0)), .int (zI (0)), .int (zI (0)), .int (zI (0)), .int (zI (0)), .int (zI (0)), .int (zI (0)), .null, .null], wI q_1 (zK C).2.1 8 (zu (zu (zu (zu (zu (zu (zu (zu (fun _ => 0) 0 1) 1 0) 2 ((-1))) 3 0) 4 0) 5 0) 6 0) 7 0), wI q_2 (zK C).2.1 8 (zu (zu (zu (zu (zu (zu (zu (zu (fun _ => 0) 0 0) 1 1) 2 0) 3 ((-1))) 4 0) 5 0) 6 0) 7 0), wI q_3 (zK C).2.1 8 (zu (zu (zu (zu (zu (zu (zu (zu (fun _ => 0) 0 1) 1 1) 2 1) 3 1) 4 1) 5 1) 6 1) 7 1), wI q_4 (zK C).2.1 8 (zu (fun _ => 0) 0 1)] dX4_init_138 rfl (by omega) rfl ?_
  refine z_dup hC dX4_init_139 rfl ?_
  refine z_iconst hC dX4_init_140 ?_
  refine z_bipush hC dX4_init_141 (by decide) ?_
  refine z_iast hC 4 [wO p 4 [.ref q_1, .ref q_2, .ref q_3, .null, .int (zI (0)), .int (zI (0)), .int (zI (0)), .int (zI (0)), .int (zI (0)), .int (zI (0)), .int (zI (0)), .int (zI (0)), .int (zI (0)), .null, .null], wI q_1 (zK C).2.1 8 (zu (zu (zu (zu (zu (zu (zu (zu (fun _ => 0) 0 1) 1 0) 2 ((-1))) 3 0) 4 0) 5 0) 6 0) 7 0), wI q_2 (zK C).2.1 8 (zu (zu (zu (zu (zu (zu (zu (zu (fun _ => 0) 0 0) 1 1) 2 0) 3 ((-1))) 4 0) 5 0) 6 0) 7 0), wI q_3 (zK C).2.1 8 (zu (zu (zu (zu (zu (zu (zu (zu (fun _ => 0) 0 1) 1 1) 2 1) 3 1) 4 1) 5 1) 6 1) 7 1), wI q_4 (zK C).2.1 8 (zu (zu (fun _ => 0) 0 1) 1 67)] dX4_init_143 rfl (by omega) rfl ?_
  refine z_dup hC dX4_init_144 rfl ?_
  refine z_iconst hC dX4_init_145 ?_
  refine z_iconst hC dX4_init_146 ?_
  refine z_iast hC 4 [wO p 4 [.ref q_1, .ref q_2, .ref q_3, .null, .int (zI (0)), .int (zI (0)), .int (zI (0)), .int (zI (0)), .int (zI (0)), .int (zI (0)), .int (zI (0)), .int (zI (0)), .int (zI (0)), .null, .null], wI q_1 (zK C).2.1 8 (zu (zu (zu (zu (zu (zu (zu (zu (fun _ => 0) 0 1) 1 0) 2 ((-1))) 3 0) 4 0) 5 0) 6 0) 7 0), wI q_2 (zK C).2.1 8 (zu (zu (zu (zu (zu (zu (zu (zu (fun _ => 0) 0 0) 1 1) 2 0) 3 ((-1))) 4 0) 5 0) 6 0) 7 0), wI q_3 (zK C).2.1 8 (zu (zu (zu (zu (zu (zu (zu (zu (fun _ => 0) 0 1) 1 1) 2 1) 3 1) 4 1) 5 1) 6 1) 7 1), wI q_4 (zK C).2.1 8 (zu (zu (zu (fun _ => 0) 0 1) 1 67) 2 ((-1)))] dX4_init_147 rfl (by omega) rfl ?_
  refine z_dup hC dX4_init_148 rfl ?_
  refine z_iconst hC dX4_init_149 ?_
  refine z_bipush hC dX4_init_150 (by decide) ?_
  refine z_iast hC 4 [wO p 4 [.ref q_1, .ref q_2, .ref q_3, .null, .int (zI (0)), .int (zI (0)), .int (zI (0)), .int (zI (0)), .int (zI (0)), .int (zI (0)), .int (zI (0)), .int (zI (0)), .int (zI (0)), .null, .null], wI q_1 (zK C).2.1 8 (zu (zu (zu (zu (zu (zu (zu (zu (fun _ => 0) 0 1) 1 0) 2 ((-1))) 3 0) 4 0) 5 0) 6 0) 7 0), wI q_2 (zK C).2.1 8 (zu (zu (zu (zu (zu (zu (zu (zu (fun _ => 0) 0 0) 1 1) 2 0) 3 ((-1))) 4 0) 5 0) 6 0) 7 0), wI q_3 (zK C).2.1 8 (zu (zu (zu (zu (zu (zu (zu (zu (fun _ => 0) 0 1) 1 1) 2 1) 3 1) 4 1) 5 1) 6 1) 7 1), wI q_4 (zK C).2.1 8 (zu (zu (zu (zu (fun _ => 0) 0 1) 1 67) 2 ((-1))) 3 ((-67)))] dX4_init_152 rfl (by omega) rfl ?_
  refine z_dup hC dX4_init_153 rfl ?_
  refine z_iconst hC dX4_init_154 ?_
  refine z_iconst hC dX4_init_155 ?_
  refine z_iast hC 4 [wO p 4 [.ref q_1, .ref q_2, .ref q_3, .null, .int (zI (0)), .int (zI (0)), .int (zI (0)), .int (zI (0)), .int (zI (0)), .int (zI (0)), .int (zI (0)), .int (zI (0)), .int (zI (0)), .null, .null], wI q_1 (zK C).2.1 8 (zu (zu (zu (zu (zu (zu (zu (zu (fun _ => 0) 0 1) 1 0) 2 ((-1))) 3 0) 4 0) 5 0) 6 0) 7 0), wI q_2 (zK C).2.1 8 (zu (zu (zu (zu (zu (zu (zu (zu (fun _ => 0) 0 0) 1 1) 2 0) 3 ((-1))) 4 0) 5 0) 6 0) 7 0), wI q_3 (zK C).2.1 8 (zu (zu (zu (zu (zu (zu (zu (zu (fun _ => 0) 0 1) 1 1) 2 1) 3 1) 4 1) 5 1) 6 1) 7 1), wI q_4 (zK C).2.1 8 (zu (zu (zu (zu (zu (fun _ => 0) 0 1) 1 67) 2 ((-1))) 3 ((-67))) 4 0)] dX4_init_156 rfl (by omega) rfl ?_
  refine z_dup hC dX4_init_157 rfl ?_
  refine z_iconst hC dX4_init_158 ?_
  refine z_iconst hC dX4_init_159 ?_
  refine z_iast hC 4 [wO p 4 [.ref q_1, .ref q_2, .ref q_3, .null, .int (zI (0)), .int (zI (0)), .int (zI (0)), .int (zI (0)), .int (zI (0)), .int (zI (0)), .int (zI (0)), .int (zI (0)), .int (zI (0)), .null, .null], wI q_1 (zK C).2.1 8 (zu (zu (zu (zu (zu (zu (zu (zu (fun _ => 0) 0 1) 1 0) 2 ((-1))) 3 0) 4 0) 5 0) 6 0) 7 0), wI q_2 (zK C).2.1 8 (zu (zu (zu (zu (zu (zu (zu (zu (fun _ => 0) 0 0) 1 1) 2 0) 3 ((-1))) 4 0) 5 0) 6 0) 7 0), wI q_3 (zK C).2.1 8 (zu (zu (zu (zu (zu (zu (zu (zu (fun _ => 0) 0 1) 1 1) 2 1) 3 1) 4 1) 5 1) 6 1) 7 1), wI q_4 (zK C).2.1 8 (zu (zu (zu (zu (zu (zu (fun _ => 0) 0 1) 1 67) 2 ((-1))) 3 ((-67))) 4 0) 5 0)] dX4_init_160 rfl (by omega) rfl ?_
  refine z_dup hC dX4_init_161 rfl ?_
  refine z_bipush hC dX4_init_162 (by decide) ?_
  refine z_iconst hC dX4_init_164 ?_
  refine z_iast hC 4 [wO p 4 [.ref q_1, .ref q_2, .ref q_3, .null, .int (zI (0)), .int (zI (0)), .int (zI (0)), .int (zI (0)), .int (zI (0)), .int (zI (0)), .int (zI (0)), .int (zI (0)), .int (zI (0)), .null, .null], wI q_1 (zK C).2.1 8 (zu (zu (zu (zu (zu (zu (zu (zu (fun _ => 0) 0 1) 1 0) 2 ((-1))) 3 0) 4 0) 5 0) 6 0) 7 0), wI q_2 (zK C).2.1 8 (zu (zu (zu (zu (zu (zu (zu (zu (fun _ => 0) 0 0) 1 1) 2 0) 3 ((-1))) 4 0) 5 0) 6 0) 7 0), wI q_3 (zK C).2.1 8 (zu (zu (zu (zu (zu (zu (zu (zu (fun _ => 0) 0 1) 1 1) 2 1) 3 1) 4 1) 5 1) 6 1) 7 1), wI q_4 (zK C).2.1 8 (zu (zu (zu (zu (zu (zu (zu (fun _ => 0) 0 1) 1 67) 2 ((-1))) 3 ((-67))) 4 0) 5 0) 6 0)] dX4_init_165 rfl (by omega) rfl ?_
  refine z_dup hC dX4_init_166 rfl ?_
  refine z_bipush hC dX4_init_167 (by decide) ?_
  refine z_iconst hC dX4_init_169 ?_
  refine z_iast hC 4 [wO p 4 [.ref q_1, .ref q_2, .ref q_3, .null, .int (zI (0)), .int (zI (0)), .int (zI (0)), .int (zI (0)), .int (zI (0)), .int (zI (0)), .int (zI (0)), .int (zI (0)), .int (zI (0)), .null, .null], wI q_1 (zK C).2.1 8 (zu (zu (zu (zu (zu (zu (zu (zu (fun _ => 0) 0 1) 1 0) 2 ((-1))) 3 0) 4 0) 5 0) 6 0) 7 0), wI q_2 (zK C).2.1 8 (zu (zu (zu (zu (zu (zu (zu (zu (fun _ => 0) 0 0) 1 1) 2 0) 3 ((-1))) 4 0) 5 0) 6 0) 7 0), wI q_3 (zK C).2.1 8 (zu (zu (zu (zu (zu (zu (zu (zu (fun _ => 0) 0 1) 1 1) 2 1) 3 1) 4 1) 5 1) 6 1) 7 1), wI q_4 (zK C).2.1 8 (zu (zu (zu (zu (zu (zu (zu (zu (fun _ => 0) 0 1) 1 67) 2 ((-1))) 3 ((-67))) 4 0) 5 0) 6 0) 7 0)] dX4_init_170 rfl (by omega) rfl ?_
  refine z_putF hC (T := TX4) (N := 15) hinX4 tyX4_ok nmX4 0 3 [wO p 4 [.ref q_1, .ref q_2, .ref q_3, .ref q_4, .int (zI (0)), .int (zI (0)), .int (zI (0)), .int (zI (0)), .int (zI (0)), .int (zI (0)), .int (zI (0)), .int (zI (0)), .int (zI (0)), .null, .null], wI q_1 (zK C).2.1 8 (zu (zu (zu (zu (zu (zu (zu (zu (fun _ => 0) 0 1) 1 0) 2 ((-1))) 3 0) 4 0) 5 0) 6 0) 7 0), wI q_2 (zK C).2.1 8 (zu (zu (zu (zu (zu (zu (zu (zu (fun _ => 0) 0 0) 1 1) 2 0) 3 ((-1))) 4 0) 5 0) 6 0) 7 0), wI q_3 (zK C).2.1 8 (zu (zu (zu (zu (zu (zu (zu (zu (fun _ => 0) 0 1) 1 1) 2 1) 3 1) 4 1) 5 1) 6 1) 7 1), wI q_4 (zK C).2.1 8 (zu (zu (zu (zu (zu (zu (zu (zu (fun _ => 0) 0 1) 1 67) 2 ((-1))) 3 ((-67))) 4 0) 5 0) 6 0) 7 0)] dX4_init_171 rfl rfl rfl rfl (by decide) (List.mem_of_getElem? (i := 8) rfl) rfl rfl rfl rfl (Nat.le_of_ble_eq_true rfl) rfl ?_
  refine z_aload_n hC 0 dX4_init_174 rfl rfl ?_
  refine z_iconst hC dX4_init_175 ?_
  refine z_put hC (T := TX4) (N := 15) hinX4 tyX4_ok nmX4 0 4 [wO p 4 [.ref q_1, .ref q_2, .ref q_3, .ref q_4, .int (zI (4)), .int (zI (0)), .int (zI (0)), .int (zI (0)), .int (zI (0)), .int (zI (0)), .int (zI (0)), .int (zI (0)), .int (zI (0)), .null, .null], wI q_1 (zK C).2.1 8 (zu (zu (zu (zu (zu (zu (zu (zu (fun _ => 0) 0 1) 1 0) 2 ((-1))) 3 0) 4 0) 5 0) 6 0) 7 0), wI q_2 (zK C).2.1 8 (zu (zu (zu (zu (zu (zu (zu (zu (fun _ => 0) 0 0) 1 1) 2 0) 3 ((-1))) 4 0) 5 0) 6 0) 7 0), wI q_3 (zK C).2.1 8 (zu (zu (zu (zu (zu (zu (zu (zu (fun _ => 0) 0 1) 1 1) 2 1) 3 1) 4 1) 5 1) 6 1) 7 1), wI q_4 (zK C).2.1 8 (zu (zu (zu (zu (zu (zu (zu (zu (fun _ => 0) 0 1) 1 67) 2 ((-1))) 3 ((-67))) 4 0) 5 0) 6 0) 7 0)] dX4_init_176 rfl rfl (by decide) (List.mem_of_getElem? (i := 9) rfl) rfl rfl rfl rfl (Nat.le_of_ble_eq_true rfl) rfl ?_
  refine z_aload_n hC 0 dX4_init_179 rfl rfl ?_
  refine z_iconst hC dX4_init_180 ?_
  refine z_put hC (T := TX4) (N := 15) hinX4 tyX4_ok nmX4 0 6 [wO p 4 [.ref q_1, .ref q_2, .ref q_3, .ref q_4, .int (zI (4)), .int (zI (0)), .int (zI (5)), .int (zI (0)), .int (zI (0)), .int (zI (0)), .int (zI (0)), .int (zI (0)), .int (zI (0)), .null, .null], wI q_1 (zK C).2.1 8 (zu (zu (zu (zu (zu (zu (zu (zu (fun _ => 0) 0 1) 1 0) 2 ((-1))) 3 0) 4 0) 5 0) 6 0) 7 0), wI q_2 (zK C).2.1 8 (zu (zu (zu (zu (zu (zu (zu (zu (fun _ => 0) 0 0) 1 1) 2 0) 3 ((-1))) 4 0) 5 0) 6 0) 7 0), wI q_3 (zK C).2.1 8 (zu (zu (zu (zu (zu (zu (zu (zu (fun _ => 0) 0 1) 1 1) 2 1) 3 1) 4 1) 5 1) 6 1) 7 1), wI q_4 (zK C).2.1 8 (zu (zu (zu (zu (zu (zu (zu (zu (fun _ => 0) 0 1) 1 67) 2 ((-1))) 3 ((-67))) 4 0) 5 0) 6 0) 7 0)] dX4_init_181 rfl rfl (by decide) (List.mem_of_getElem? (i := 10) rfl) rfl rfl rfl rfl (Nat.le_of_ble_eq_true rfl) rfl ?_
  refine z_aload_n hC 0 dX4_init_184 rfl rfl ?_
  refine z_bipush hC dX4_init_185 (by decide) ?_
  refine z_put hC (T := TX4) (N := 15) hinX4 tyX4_ok nmX4 0 7 [wO p 4 [.ref q_1, .ref q_2, .ref q_3, .ref q_4, .int (zI (4)), .int (zI (0)), .int (zI (5)), .int (zI (6)), .int (zI (0)), .int (zI (0)), .int (zI (0)), .int (zI (0)), .int (zI (0)), .null, .null], wI q_1 (zK C).2.1 8 (zu (zu (zu (zu (zu (zu (zu (zu (fun _ => 0) 0 1) 1 0) 2 ((-1))) 3 0) 4 0) 5 0) 6 0) 7 0), wI q_2 (zK C).2.1 8 (zu (zu (zu (zu (zu (zu (zu (zu (fun _ => 0) 0 0) 1 1) 2 0) 3 ((-1))) 4 0) 5 0) 6 0) 7 0), wI q_3 (zK C).2.1 8 (zu (zu (zu (zu (zu (zu (zu (zu (fun _ => 0) 0 1) 1 1) 2 1) 3 1) 4 1) 5 1) 6 1) 7 1), wI q_4 (zK C).2.1 8 (zu (zu (zu (zu (zu (zu (zu (zu (fun _ => 0) 0 1) 1 67) 2 ((-1))) 3 ((-67))) 4 0) 5 0) 6 0) 7 0)] dX4_init_187 rfl rfl (by decide) (List.mem_of_getElem? (i := 11) rfl) rfl rfl rfl rfl (Nat.le_of_ble_eq_true rfl) rfl ?_
  refine z_aload_n hC 0 dX4_init_190 rfl rfl ?_
  refine z_sipush hC dX4_init_191 (by decide) ?_
  refine z_newaB hC 4489 dX4_init_194 (List.mem_of_getElem? (i := 12) rfl) rfl (Nat.le_of_ble_eq_true rfl) (Nat.le_of_ble_eq_true rfl) (Nat.le_of_ble_eq_true rfl) (fun q_5 => ?_)
  show ZW C 5 4521 [wO p 4 [.ref q_1, .ref q_2, .ref q_3, .ref q_4, .int (zI (4)), .int (zI (0)), .int (zI (5)), .int (zI (6)), .int (zI (0)), .int (zI (0)), .int (zI (0)), .int (zI (0)), .int (zI (0)), .null, .null], wI q_1 (zK C).2.1 8 (zu (zu (zu (zu (zu (zu (zu (zu (fun _ => 0) 0 1) 1 0) 2 ((-1))) 3 0) 4 0) 5 0) 6 0) 7 0), wI q_2 (zK C).2.1 8 (zu (zu (zu (zu (zu (zu (zu (zu (fun _ => 0) 0 0) 1 1) 2 0) 3 ((-1))) 4 0) 5 0) 6 0) 7 0), wI q_3 (zK C).2.1 8 (zu (zu (zu (zu (zu (zu (zu (zu (fun _ => 0) 0 1) 1 1) 2 1) 3 1) 4 1) 5 1) 6 1) 7 1), wI q_4 (zK C).2.1 8 (zu (zu (zu (zu (zu (zu (zu (zu (fun _ => 0) 0 1) 1 67) 2 ((-1))) 3 ((-67))) 4 0) 5 0) 6 0) 7 0), wI q_5 (zK C).1 4489 (fun _ => 0)] [(0, .ref p)] 196 [.ref q_5, .ref p]
  refine z_putF hC (T := TX4) (N := 15) hinX4 tyX4_ok nmX4 0 13 [wO p 4 [.ref q_1, .ref q_2, .ref q_3, .ref q_4, .int (zI (4)), .int (zI (0)), .int (zI (5)), .int (zI (6)), .int (zI (0)), .int (zI (0)), .int (zI (0)), .int (zI (0)), .int (zI (0)), .ref q_5, .null], wI q_1 (zK C).2.1 8 (zu (zu (zu (zu (zu (zu (zu (zu (fun _ => 0) 0 1) 1 0) 2 ((-1))) 3 0) 4 0) 5 0) 6 0) 7 0), wI q_2 (zK C).2.1 8 (zu (zu (zu (zu (zu (zu (zu (zu (fun _ => 0) 0 0) 1 1) 2 0) 3 ((-1))) 4 0) 5 0) 6 0) 7 0), wI q_3 (zK C).2.1 8 (zu (zu (zu (zu (zu (zu (zu (zu (fun _ => 0) 0 1) 1 1) 2 1) 3 1) 4 1) 5 1) 6 1) 7 1), wI q_4 (zK C).2.1 8 (zu (zu (zu (zu (zu (zu (zu (zu (fun _ => 0) 0 1) 1 67) 2 ((-1))) 3 ((-67))) 4 0) 5 0) 6 0) 7 0), wI q_5 (zK C).1 4489 (fun _ => 0)] dX4_init_196 rfl rfl rfl rfl (by decide) (List.mem_of_getElem? (i := 13) rfl) rfl rfl rfl rfl (Nat.le_of_ble_eq_true rfl) rfl ?_
  refine z_aload_n hC 0 dX4_init_199 rfl rfl ?_
  refine z_sipush hC dX4_init_200 (by decide) ?_
  refine z_newaB hC 4489 dX4_init_203 (List.mem_of_getElem? (i := 12) rfl) rfl (Nat.le_of_ble_eq_true rfl) (Nat.le_of_ble_eq_true rfl) (Nat.le_of_ble_eq_true rfl) (fun q_6 => ?_)
  show ZW C 6 9010 [wO p 4 [.ref q_1, .ref q_2, .ref q_3, .ref q_4, .int (zI (4)), .int (zI (0)), .int (zI (5)), .int (zI (6)), .int (zI (0)), .int (zI (0)), .int (zI (0)), .int (zI (0)), .int (zI (0)), .ref q_5, .null], wI q_1 (zK C).2.1 8 (zu (zu (zu (zu (zu (zu (zu (zu (fun _ => 0) 0 1) 1 0) 2 ((-1))) 3 0) 4 0) 5 0) 6 0) 7 0), wI q_2 (zK C).2.1 8 (zu (zu (zu (zu (zu (zu (zu (zu (fun _ => 0) 0 0) 1 1) 2 0) 3 ((-1))) 4 0) 5 0) 6 0) 7 0), wI q_3 (zK C).2.1 8 (zu (zu (zu (zu (zu (zu (zu (zu (fun _ => 0) 0 1) 1 1) 2 1) 3 1) 4 1) 5 1) 6 1) 7 1), wI q_4 (zK C).2.1 8 (zu (zu (zu (zu (zu (zu (zu (zu (fun _ => 0) 0 1) 1 67) 2 ((-1))) 3 ((-67))) 4 0) 5 0) 6 0) 7 0), wI q_5 (zK C).1 4489 (fun _ => 0), wI q_6 (zK C).1 4489 (fun _ => 0)] [(0, .ref p)] 205 [.ref q_6, .ref p]
  refine z_putF hC (T := TX4) (N := 15) hinX4 tyX4_ok nmX4 0 14 [wO p 4 [.ref q_1, .ref q_2, .ref q_3, .ref q_4, .int (zI (4)), .int (zI (0)), .int (zI (5)), .int (zI (6)), .int (zI (0)), .int (zI (0)), .int (zI (0)), .int (zI (0)), .int (zI (0)), .ref q_5, .ref q_6], wI q_1 (zK C).2.1 8 (zu (zu (zu (zu (zu (zu (zu (zu (fun _ => 0) 0 1) 1 0) 2 ((-1))) 3 0) 4 0) 5 0) 6 0) 7 0), wI q_2 (zK C).2.1 8 (zu (zu (zu (zu (zu (zu (zu (zu (fun _ => 0) 0 0) 1 1) 2 0) 3 ((-1))) 4 0) 5 0) 6 0) 7 0), wI q_3 (zK C).2.1 8 (zu (zu (zu (zu (zu (zu (zu (zu (fun _ => 0) 0 1) 1 1) 2 1) 3 1) 4 1) 5 1) 6 1) 7 1), wI q_4 (zK C).2.1 8 (zu (zu (zu (zu (zu (zu (zu (zu (fun _ => 0) 0 1) 1 67) 2 ((-1))) 3 ((-67))) 4 0) 5 0) 6 0) 7 0), wI q_5 (zK C).1 4489 (fun _ => 0), wI q_6 (zK C).1 4489 (fun _ => 0)] dX4_init_205 rfl rfl rfl rfl (by decide) (List.mem_of_getElem? (i := 14) rfl) rfl rfl rfl rfl (Nat.le_of_ble_eq_true rfl) rfl ?_
  refine z_aload_n hC 0 dX4_init_208 rfl rfl ?_
  refine z_callV hC [] 0 0 dX4_init_209 (c_X4_renew (zl C) (zD C) (zK C) p q_1 q_2 q_3 q_4 q_5 q_6 4 0 5 6 0 0 0 0 0 (fun _ => 0) (fun _ => 0) (by first | assumption | omega) (by first | assumption | omega) (by first | assumption | omega) (by intro j _ _; exact Or.inl rfl)) gX4_init_X4_renew rfl rfl rfl ⟨by decide, by decide, by decide +kernel⟩ ⟨(Nat.le_of_ble_eq_true rfl), (Nat.le_of_ble_eq_true rfl)⟩ rfl rfl rfl rfl [0, 5, 6] [1, 2, 3, 4] [wI q_1 (zK C).2.1 8 (zu (zu (zu (zu (zu (zu (zu (zu (fun _ => 0) 0 1) 1 0) 2 ((-1))) 3 0) 4 0) 5 0) 6 0) 7 0), wI q_2 (zK C).2.1 8 (zu (zu (zu (zu (zu (zu (zu (zu (fun _ => 0) 0 0) 1 1) 2 0) 3 ((-1))) 4 0) 5 0) 6 0) 7 0), wI q_3 (zK C).2.1 8 (zu (zu (zu (zu (zu (zu (zu (zu (fun _ => 0) 0 1) 1 1) 2 1) 3 1) 4 1) 5 1) 6 1) 7 1), wI q_4 (zK C).2.1 8 (zu (zu (zu (zu (zu (zu (zu (zu (fun _ => 0) 0 1) 1 67) 2 ((-1))) 3 ((-67))) 4 0) 5 0) 6 0) 7 0)] [] rfl rfl rfl rfl rfl (by decide) (Nat.le_of_ble_eq_true rfl) ⟨(Nat.le_of_ble_eq_true rfl), (Nat.le_of_ble_eq_true rfl)⟩ ?_
  rintro v_ w_ ⟨pas2_7, rfl, rfl, hpas⟩
  show ZW C 6 9010 [wI q_1 (zK C).2.1 8 (zu (zu (zu (zu (zu (zu (zu (zu (fun _ => 0) 0 1) 1 0) 2 ((-1))) 3 0) 4 0) 5 0) 6 0) 7 0), wI q_2 (zK C).2.1 8 (zu (zu (zu (zu (zu (zu (zu (zu (fun _ => 0) 0 0) 1 1) 2 0) 3 ((-1))) 4 0) 5 0) 6 0) 7 0), wI q_3 (zK C).2.1 8 (zu (zu (zu (zu (zu (zu (zu (zu (fun _ => 0) 0 1) 1 1) 2 1) 3 1) 4 1) 5 1) 6 1) 7 1), wI q_4 (zK C).2.1 8 (zu (zu (zu (zu (zu (zu (zu (zu (fun _ => 0) 0 1) 1 67) 2 ((-1))) 3 ((-67))) 4 0) 5 0) 6 0) 7 0), wO p 4 [.ref q_1, .ref q_2, .ref q_3, .ref q_4, .int (zI (4)), .int (zI (0)), .int (zI (5)), .int (zI (6)), .int (zI (0)), .int (zI (0)), .int (zI (0)), .int (zI (0)), .int (zI (0)), .ref q_5, .ref q_6], wI q_5 (zK C).1 4489 (fun _ => 0), wI q_6 (zK C).1 4489 pas2_7] [(0, .ref p)] 212 []
  refine z_ws (ws' := [wO p 4 [.ref q_1, .ref q_2, .ref q_3, .ref q_4, .int (zI (4)), .int (zI (0)), .int (zI (5)), .int (zI (6)), .int (zI (0)), .int (zI (0)), .int (zI (0)), .int (zI (0)), .int (zI (0)), .ref q_5, .ref q_6], wI q_1 (zK C).2.1 8 (zu (zu (zu (zu (zu (zu (zu (zu (fun _ => 0) 0 1) 1 0) 2 ((-1))) 3 0) 4 0) 5 0) 6 0) 7 0), wI q_2 (zK C).2.1 8 (zu (zu (zu (zu (zu (zu (zu (zu (fun _ => 0) 0 0) 1 1) 2 0) 3 ((-1))) 4 0) 5 0) 6 0) 7 0), wI q_3 (zK C).2.1 8 (zu (zu (zu (zu (zu (zu (zu (zu (fun _ => 0) 0 1) 1 1) 2 1) 3 1) 4 1) 5 1) 6 1) 7 1), wI q_4 (zK C).2.1 8 (zu (zu (zu (zu (zu (zu (zu (zu (fun _ => 0) 0 1) 1 67) 2 ((-1))) 3 ((-67))) 4 0) 5 0) 6 0) 7 0), wI q_5 (zK C).1 4489 (fun _ => 0), wI q_6 (zK C).1 4489 pas2_7]) [4, 0, 1, 2, 3, 5, 6] rfl rfl ?_
  exact z_vret hC hR dX4_init_212 (Nat.le_of_ble_eq_true rfl) (Nat.le_of_ble_eq_true rfl) ⟨q_1, q_2, q_3, q_4, q_5, q_6, zu (zu (zu (zu (zu (zu (zu (zu (fun _ => 0) 0 1) 1 0) 2 ((-1))) 3 0) 4 0) 5 0) 6 0) 7 0, zu (zu (zu (zu (zu (zu (zu (zu (fun _ => 0) 0 0) 1 1) 2 0) 3 ((-1))) 4 0) 5 0) 6 0) 7 0, zu (zu (zu (zu (zu (zu (zu (zu (fun _ => 0) 0 1) 1 1) 2 1) 3 1) 4 1) 5 1) 6 1) 7 1, zu (zu (zu (zu (zu (zu (zu (zu (fun _ => 0) 0 1) 1 67) 2 ((-1))) 3 ((-67))) 4 0) 5 0) 6 0) 7 0, pas2_7, rfl, rfl, by refine ⟨?_, ?_, ?_, ?_, hpas⟩; (intro j h0 h1; rcases (show j = 0 ∨ j = 1 ∨ j = 2 ∨ j = 3 ∨ j = 4 ∨ j = 5 ∨ j = 6 ∨ j = 7 by omega) with rfl | rfl | rfl | rfl | rfl | rfl | rfl | rfl <;> rfl); (intro j h0 h1; rcases (show j = 0 ∨ j = 1 ∨ j = 2 ∨ j = 3 ∨ j = 4 ∨ j = 5 ∨ j = 6 ∨ j = 7 by omega) with rfl | rfl | rfl | rfl | rfl | rfl | rfl | rfl <;> rfl); (intro j h0 h1; rcases (show j = 0 ∨ j = 1 ∨ j = 2 ∨ j = 3 ∨ j = 4 ∨ j = 5 ∨ j = 6 ∨ j = 7 by omega) with rfl | rfl | rfl | rfl | rfl | rfl | rfl | rfl <;> rfl); (intro j h0 h1; rcases (show j = 0 ∨ j = 1 ∨ j = 2 ∨ j = 3 ∨ j = 4 ∨ j = 5 ∨ j = 6 ∨ j = 7 by omega) with rfl | rfl | rfl | rfl | rfl | rfl | rfl | rfl <;> rfl)⟩
