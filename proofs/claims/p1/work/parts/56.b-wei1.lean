set_option maxHeartbeats 4000000 in
set_option maxRecDepth 100000 in
theorem c_X7_init (l : Launch) (D : va_G) (K : ClassId × ClassId × ClassId × ClassId) (wg p w : Nat) : zMet l D K yX7_init wsX7_init ({ frames := 1, cells := 5, slots := 455645, locals := 12 }) 5 455645 [.ref wg, .ref p, .ref w] [wO wg 7 [.null, .null, .null, .null, .null, .int (zI (0)), .int (zI (0)), .null, .null, .int (zI (0)), .int (zI (0)), .int (zI (0)), .int (zI (0)), .int (zI (0))]] (fun vr_ wr_ => ∃ (gso : Nat) (ghe : Nat) (gte : Nat) (gnw : Nat) (gth : Nat), vr_ = none ∧ wr_ = [wO wg 7 [.ref p, .ref w, .ref gso, .ref ghe, .ref gte, .int (zI (0)), .int (zI (0)), .ref gnw, .ref gth, .int (zI (0)), .int (zI (0)), .int (zI (0)), .int (zI (0)), .int (zI (0))], wI gso K.2.1 4489 (fun _ => 0), wI ghe K.2.1 1849 (fun _ => 0), wI gte K.2.1 1849 (fun _ => 0), wJ gnw K.2.2.1 223729 (fun _ => 0), wJ gth K.2.2.1 223729 (fun _ => 0)] ∧ (True)) := by
  refine zMet_of (cc := cX7_init) (nL := 3) (ret := none) (by decide) rfl (Nat.le_of_ble_eq_true rfl) ?_
  rintro C rfl rfl rfl hC hR
  have hinX7 : ∀ w ∈ u_ws RX7 TX7 14, w ∈ wsX7_init := by decide +kernel
  show ZW C 0 0 [wO wg 7 [.null, .null, .null, .null, .null, .int (zI (0)), .int (zI (0)), .null, .null, .int (zI (0)), .int (zI (0)), .int (zI (0)), .int (zI (0)), .int (zI (0))]] [(0, .ref wg), (1, .ref p), (2, .ref w)] 0 []
  refine z_aload_n hC 0 dX7_init_0 rfl rfl ?_
  refine z_objInit hC dX7_init_1 (List.mem_of_getElem? (i := 1) rfl) (List.mem_of_getElem? (i := 2) rfl) (List.mem_of_getElem? (i := 3) rfl) (Nat.le_of_ble_eq_true rfl) (Nat.le_of_ble_eq_true rfl) ?_
  refine z_aload_n hC 0 dX7_init_4 rfl rfl ?_
  refine z_sipush hC dX7_init_5 (by decide) ?_
  refine z_newaI hC 4489 dX7_init_8 (List.mem_of_getElem? (i := 4) rfl) rfl (Nat.le_of_ble_eq_true rfl) (Nat.le_of_ble_eq_true rfl) (Nat.le_of_ble_eq_true rfl) (fun q_1 => ?_)
  show ZW C 1 4489 [wO wg 7 [.null, .null, .null, .null, .null, .int (zI (0)), .int (zI (0)), .null, .null, .int (zI (0)), .int (zI (0)), .int (zI (0)), .int (zI (0)), .int (zI (0))], wI q_1 (zK C).2.1 4489 (fun _ => 0)] [(0, .ref wg), (1, .ref p), (2, .ref w)] 10 [.ref q_1, .ref wg]
  refine z_putF hC (T := TX7) (N := 14) hinX7 tyX7_ok nmX7 0 2 [wO wg 7 [.null, .null, .ref q_1, .null, .null, .int (zI (0)), .int (zI (0)), .null, .null, .int (zI (0)), .int (zI (0)), .int (zI (0)), .int (zI (0)), .int (zI (0))], wI q_1 (zK C).2.1 4489 (fun _ => 0)] dX7_init_10 rfl rfl rfl rfl (by decide) (List.mem_of_getElem? (i := 5) rfl) rfl rfl rfl rfl (Nat.le_of_ble_eq_true rfl) rfl ?_
  refine z_aload_n hC 0 dX7_init_13 rfl rfl ?_
  refine z_sipush hC dX7_init_14 (by decide) ?_
  refine z_newaI hC 1849 dX7_init_17 (List.mem_of_getElem? (i := 4) rfl) rfl (Nat.le_of_ble_eq_true rfl) (Nat.le_of_ble_eq_true rfl) (Nat.le_of_ble_eq_true rfl) (fun q_2 => ?_)
  show ZW C 2 6338 [wO wg 7 [.null, .null, .ref q_1, .null, .null, .int (zI (0)), .int (zI (0)), .null, .null, .int (zI (0)), .int (zI (0)), .int (zI (0)), .int (zI (0)), .int (zI (0))], wI q_1 (zK C).2.1 4489 (fun _ => 0), wI q_2 (zK C).2.1 1849 (fun _ => 0)] [(0, .ref wg), (1, .ref p), (2, .ref w)] 19 [.ref q_2, .ref wg]
  refine z_put hC (T := TX7) (N := 14) hinX7 tyX7_ok nmX7 0 3 [wO wg 7 [.null, .null, .ref q_1, .ref q_2, .null, .int (zI (0)), .int (zI (0)), .null, .null, .int (zI (0)), .int (zI (0)), .int (zI (0)), .int (zI (0)), .int (zI (0))], wI q_1 (zK C).2.1 4489 (fun _ => 0), wI q_2 (zK C).2.1 1849 (fun _ => 0)] dX7_init_19 rfl rfl (by decide) (List.mem_of_getElem? (i := 6) rfl) rfl rfl rfl rfl (Nat.le_of_ble_eq_true rfl) rfl ?_
  refine z_aload_n hC 0 dX7_init_22 rfl rfl ?_
  refine z_sipush hC dX7_init_23 (by decide) ?_
  refine z_newaI hC 1849 dX7_init_26 (List.mem_of_getElem? (i := 4) rfl) rfl (Nat.le_of_ble_eq_true rfl) (Nat.le_of_ble_eq_true rfl) (Nat.le_of_ble_eq_true rfl) (fun q_3 => ?_)
  show ZW C 3 8187 [wO wg 7 [.null, .null, .ref q_1, .ref q_2, .null, .int (zI (0)), .int (zI (0)), .null, .null, .int (zI (0)), .int (zI (0)), .int (zI (0)), .int (zI (0)), .int (zI (0))], wI q_1 (zK C).2.1 4489 (fun _ => 0), wI q_2 (zK C).2.1 1849 (fun _ => 0), wI q_3 (zK C).2.1 1849 (fun _ => 0)] [(0, .ref wg), (1, .ref p), (2, .ref w)] 28 [.ref q_3, .ref wg]
  refine z_put hC (T := TX7) (N := 14) hinX7 tyX7_ok nmX7 0 4 [wO wg 7 [.null, .null, .ref q_1, .ref q_2, .ref q_3, .int (zI (0)), .int (zI (0)), .null, .null, .int (zI (0)), .int (zI (0)), .int (zI (0)), .int (zI (0)), .int (zI (0))], wI q_1 (zK C).2.1 4489 (fun _ => 0), wI q_2 (zK C).2.1 1849 (fun _ => 0), wI q_3 (zK C).2.1 1849 (fun _ => 0)] dX7_init_28 rfl rfl (by decide) (List.mem_of_getElem? (i := 7) rfl) rfl rfl rfl rfl (Nat.le_of_ble_eq_true rfl) rfl ?_
  refine z_aload_n hC 0 dX7_init_31 rfl rfl ?_
  refine z_ldc (v := 223729) hC (List.mem_of_getElem? (i := 8) rfl) rfl dX7_init_32 ?_
  refine z_newaJ hC 223729 dX7_init_34 (List.mem_of_getElem? (i := 9) rfl) rfl (Nat.le_of_ble_eq_true rfl) (Nat.le_of_ble_eq_true rfl) (Nat.le_of_ble_eq_true rfl) (fun q_4 => ?_)
  show ZW C 4 231916 [wO wg 7 [.null, .null, .ref q_1, .ref q_2, .ref q_3, .int (zI (0)), .int (zI (0)), .null, .null, .int (zI (0)), .int (zI (0)), .int (zI (0)), .int (zI (0)), .int (zI (0))], wI q_1 (zK C).2.1 4489 (fun _ => 0), wI q_2 (zK C).2.1 1849 (fun _ => 0), wI q_3 (zK C).2.1 1849 (fun _ => 0), wJ q_4 (zK C).2.2.1 223729 (fun _ => 0)] [(0, .ref wg), (1, .ref p), (2, .ref w)] 36 [.ref q_4, .ref wg]
  refine z_put hC (T := TX7) (N := 14) hinX7 tyX7_ok nmX7 0 7 [wO wg 7 [.null, .null, .ref q_1, .ref q_2, .ref q_3, .int (zI (0)), .int (zI (0)), .ref q_4, .null, .int (zI (0)), .int (zI (0)), .int (zI (0)), .int (zI (0)), .int (zI (0))], wI q_1 (zK C).2.1 4489 (fun _ => 0), wI q_2 (zK C).2.1 1849 (fun _ => 0), wI q_3 (zK C).2.1 1849 (fun _ => 0), wJ q_4 (zK C).2.2.1 223729 (fun _ => 0)] dX7_init_36 rfl rfl (by decide) (List.mem_of_getElem? (i := 10) rfl) rfl rfl rfl rfl (Nat.le_of_ble_eq_true rfl) rfl ?_
  refine z_aload_n hC 0 dX7_init_39 rfl rfl ?_
  refine z_ldc (v := 223729) hC (List.mem_of_getElem? (i := 8) rfl) rfl dX7_init_40 ?_
  refine z_newaJ hC 223729 dX7_init_42 (List.mem_of_getElem? (i := 9) rfl) rfl (Nat.le_of_ble_eq_true rfl) (Nat.le_of_ble_eq_true rfl) (Nat.le_of_ble_eq_true rfl) (fun q_5 => ?_)
  show ZW C 5 455645 [wO wg 7 [.null, .null, .ref q_1, .ref q_2, .ref q_3, .int (zI (0)), .int (zI (0)), .ref q_4, .null, .int (zI (0)), .int (zI (0)), .int (zI (0)), .int (zI (0)), .int (zI (0))], wI q_1 (zK C).2.1 4489 (fun _ => 0), wI q_2 (zK C).2.1 1849 (fun _ => 0), wI q_3 (zK C).2.1 1849 (fun _ => 0), wJ q_4 (zK C).2.2.1 223729 (fun _ => 0), wJ q_5 (zK C).2.2.1 223729 (fun _ => 0)] [(0, .ref wg), (1, .ref p), (2, .ref w)] 44 [.ref q_5, .ref wg]
  refine z_put hC (T := TX7) (N := 14) hinX7 tyX7_ok nmX7 0 8 [wO wg 7 [.null, .null, .ref q_1, .ref q_2, .ref q_3, .int (zI (0)), .int (zI (0)), .ref q_4, .ref q_5, .int (zI (0)), .int (zI (0)), .int (zI (0)), .int (zI (0)), .int (zI (0))], wI q_1 (zK C).2.1 4489 (fun _ => 0), wI q_2 (zK C).2.1 1849 (fun _ => 0), wI q_3 (zK C).2.1 1849 (fun _ => 0), wJ q_4 (zK C).2.2.1 223729 (fun _ => 0), wJ q_5 (zK C).2.2.1 223729 (fun _ => 0)] dX7_init_44 rfl rfl (by decide) (List.mem_of_getElem? (i := 11) rfl) rfl rfl rfl rfl (Nat.le_of_ble_eq_true rfl) rfl ?_
  refine z_aload_n hC 0 dX7_init_47 rfl rfl ?_
  refine z_aload_n hC 1 dX7_init_48 rfl rfl ?_
  refine z_putF hC (T := TX7) (N := 14) hinX7 tyX7_ok nmX7 0 0 [wO wg 7 [.ref p, .null, .ref q_1, .ref q_2, .ref q_3, .int (zI (0)), .int (zI (0)), .ref q_4, .ref q_5, .int (zI (0)), .int (zI (0)), .int (zI (0)), .int (zI (0)), .int (zI (0))], wI q_1 (zK C).2.1 4489 (fun _ => 0), wI q_2 (zK C).2.1 1849 (fun _ => 0), wI q_3 (zK C).2.1 1849 (fun _ => 0), wJ q_4 (zK C).2.2.1 223729 (fun _ => 0), wJ q_5 (zK C).2.2.1 223729 (fun _ => 0)] dX7_init_49 rfl rfl rfl rfl (by decide) (List.mem_of_getElem? (i := 12) rfl) rfl rfl rfl rfl (Nat.le_of_ble_eq_true rfl) rfl ?_
  refine z_aload_n hC 0 dX7_init_52 rfl rfl ?_
  refine z_aload_n hC 2 dX7_init_53 rfl rfl ?_
  refine z_putF hC (T := TX7) (N := 14) hinX7 tyX7_ok nmX7 0 1 [wO wg 7 [.ref p, .ref w, .ref q_1, .ref q_2, .ref q_3, .int (zI (0)), .int (zI (0)), .ref q_4, .ref q_5, .int (zI (0)), .int (zI (0)), .int (zI (0)), .int (zI (0)), .int (zI (0))], wI q_1 (zK C).2.1 4489 (fun _ => 0), wI q_2 (zK C).2.1 1849 (fun _ => 0), wI q_3 (zK C).2.1 1849 (fun _ => 0), wJ q_4 (zK C).2.2.1 223729 (fun _ => 0), wJ q_5 (zK C).2.2.1 223729 (fun _ => 0)] dX7_init_54 rfl rfl rfl rfl (by decide) (List.mem_of_getElem? (i := 13) rfl) rfl rfl rfl rfl (Nat.le_of_ble_eq_true rfl) rfl ?_
  exact z_vret hC hR dX7_init_57 (Nat.le_of_ble_eq_true rfl) (Nat.le_of_ble_eq_true rfl) ⟨q_1, q_2, q_3, q_4, q_5, rfl, rfl, by trivial⟩

set_option maxHeartbeats 4000000 in
set_option maxRecDepth 100000 in
theorem c_X7_better (l : Launch) (D : va_G) (K : ClassId × ClassId × ClassId × ClassId) (wg wg_plane wg_ways wg_slotOf wg_here wg_there wg_now wg_then : Nat) (one oth wg_hereCount wg_thereCount wg_weight wg_limit wg_reach wg_tallying wg_greatest : Int) (hgr : wg_greatest = 0 ∨ wg_greatest = 1) (h1 : 0 ≤ one ∧ one ≤ 1000) (h2 : 0 ≤ oth ∧ oth ≤ 1000) : zMet l D K yX7_better wsX7_better ({ frames := 0, cells := 0, slots := 0, locals := 0 }) 0 0 [.ref wg, .long (zL (one)), .long (zL (oth))] [wO wg 7 [.ref wg_plane, .ref wg_ways, .ref wg_slotOf, .ref wg_here, .ref wg_there, .int (zI (wg_hereCount)), .int (zI (wg_thereCount)), .ref wg_now, .ref wg_then, .int (zI (wg_weight)), .int (zI (wg_limit)), .int (zI (wg_reach)), .int (zI (wg_tallying)), .int (zI (wg_greatest))]] (fun vr_ wr_ => ∃ (r : Int), vr_ = some (.long (zL (r))) ∧ wr_ = [wO wg 7 [.ref wg_plane, .ref wg_ways, .ref wg_slotOf, .ref wg_here, .ref wg_there, .int (zI (wg_hereCount)), .int (zI (wg_thereCount)), .ref wg_now, .ref wg_then, .int (zI (wg_weight)), .int (zI (wg_limit)), .int (zI (wg_reach)), .int (zI (wg_tallying)), .int (zI (wg_greatest))]] ∧ (r = bet wg_greatest one oth)) := by
  refine zMet_of (cc := cX7_better) (nL := 5) (ret := (some .long)) (by decide) rfl (Nat.le_of_ble_eq_true rfl) ?_
  rintro C rfl rfl rfl hC hR
  have hinX7 : ∀ w ∈ u_ws RX7 TX7 14, w ∈ wsX7_better := by decide +kernel
  show ZW C 0 0 [wO wg 7 [.ref wg_plane, .ref wg_ways, .ref wg_slotOf, .ref wg_here, .ref wg_there, .int (zI (wg_hereCount)), .int (zI (wg_thereCount)), .ref wg_now, .ref wg_then, .int (zI (wg_weight)), .int (zI (wg_limit)), .int (zI (wg_reach)), .int (zI (wg_tallying)), .int (zI (wg_greatest))]] [(0, .ref wg), (1, .long (zL (one))), (3, .long (zL (oth)))] 0 []
  refine z_lload_n hC 1 dX7_better_0 rfl rfl ?_
  refine z_lconst (v := 0) hC dX7_better_1 rfl ?_
  refine z_lceq hC 12 dX7_better_2 dX7_better_3 (by decide) (by omega) (fun c_1 => ?_) (fun c_1 => ?_)
  · skip
    refine z_lload_n hC 1 dX7_better_12 rfl rfl ?_
    refine z_lload_n hC 2 dX7_better_13 rfl rfl ?_
    refine z_ladd hC (one + oth) dX7_better_14 rfl ?_
    exact z_lret hC hR dX7_better_15 (Nat.le_of_ble_eq_true rfl) (Nat.le_of_ble_eq_true rfl) ⟨one + oth, rfl, rfl, by unfold bet; (repeat' split) <;> omega⟩
  · skip
    refine z_lload_n hC 2 dX7_better_6 rfl rfl ?_
    refine z_lconst (v := 0) hC dX7_better_7 rfl ?_
    refine z_lcne hC 16 dX7_better_8 dX7_better_9 (by decide) (by omega) (fun c_2 => ?_) (fun c_2 => ?_)
    · skip
      refine z_aload_n hC 0 dX7_better_16 rfl rfl ?_
      refine z_get hC (T := TX7) (N := 14) hinX7 0 13 dX7_better_17 rfl rfl (by decide) (List.mem_of_getElem? (i := 1) rfl) rfl rfl ?_
      refine z_lload_n hC 1 dX7_better_20 rfl rfl ?_
      refine z_lload_n hC 2 dX7_better_21 rfl rfl ?_
      refine z_lcle hC 30 dX7_better_22 dX7_better_23 (by decide) (by omega) (fun c_3 => ?_) (fun c_3 => ?_)
      · skip
        refine z_iconst hC dX7_better_30 ?_
        refine z_icne hC 38 dX7_better_31 (by decide) (by omega) (fun c_4 => ?_) (fun c_4 => ?_)
        · skip
          refine z_lload_n hC 2 dX7_better_38 rfl rfl ?_
          exact z_lret hC hR dX7_better_39 (Nat.le_of_ble_eq_true rfl) (Nat.le_of_ble_eq_true rfl) ⟨oth, rfl, rfl, by unfold bet; (repeat' split) <;> omega⟩
        · skip
          refine z_lload_n hC 1 dX7_better_34 rfl rfl ?_
          refine z_goto hC 39 dX7_better_35 (by decide) ?_
          exact z_lret hC hR dX7_better_39 (Nat.le_of_ble_eq_true rfl) (Nat.le_of_ble_eq_true rfl) ⟨one, rfl, rfl, by unfold bet; (repeat' split) <;> omega⟩
      · skip
        refine z_iconst hC dX7_better_26 ?_
        refine z_goto hC 31 dX7_better_27 (by decide) ?_
        refine z_icne hC 38 dX7_better_31 (by decide) (by omega) (fun c_5 => ?_) (fun c_5 => ?_)
        · skip
          refine z_lload_n hC 2 dX7_better_38 rfl rfl ?_
          exact z_lret hC hR dX7_better_39 (Nat.le_of_ble_eq_true rfl) (Nat.le_of_ble_eq_true rfl) ⟨oth, rfl, rfl, by unfold bet; (repeat' split) <;> omega⟩
        · skip
          refine z_lload_n hC 1 dX7_better_34 rfl rfl ?_
          refine z_goto hC 39 dX7_better_35 (by decide) ?_
          exact z_lret hC hR dX7_better_39 (Nat.le_of_ble_eq_true rfl) (Nat.le_of_ble_eq_true rfl) ⟨one, rfl, rfl, by unfold bet; (repeat' split) <;> omega⟩
    · skip
      refine z_lload_n hC 1 dX7_better_12 rfl rfl ?_
      refine z_lload_n hC 2 dX7_better_13 rfl rfl ?_
      refine z_ladd hC (one + oth) dX7_better_14 rfl ?_
      exact z_lret hC hR dX7_better_15 (Nat.le_of_ble_eq_true rfl) (Nat.le_of_ble_eq_true rfl) ⟨one + oth, rfl, rfl, by unfold bet; (repeat' split) <;> omega⟩

set_option maxHeartbeats 4000000 in
set_option maxRecDepth 100000 in
theorem c_X7_improve (l : Launch) (D : va_G) (K : ClassId × ClassId × ClassId × ClassId) (wg wg_plane wg_ways wg_slotOf wg_here wg_there wg_now wg_then : Nat) (src tgt gain wg_hereCount wg_thereCount wg_weight wg_limit wg_reach wg_tallying wg_greatest : Int) (nw th : Int → Int) (hgr : wg_greatest = 0 ∨ wg_greatest = 1) (hi : 0 ≤ src ∧ src < 223729 ∧ 0 ≤ tgt ∧ tgt < 223729 ∧ 0 ≤ gain ∧ gain ≤ 1) (hn : 0 ≤ nw src ∧ nw src ≤ 100) (ht : 0 ≤ th tgt ∧ th tgt ≤ 100) : zMet l D K yX7_improve wsX7_improve ({ frames := 1, cells := 0, slots := 0, locals := 24 }) 0 0 [.ref wg, .int (zI (src)), .int (zI (tgt)), .int (zI (gain))] [wO wg 7 [.ref wg_plane, .ref wg_ways, .ref wg_slotOf, .ref wg_here, .ref wg_there, .int (zI (wg_hereCount)), .int (zI (wg_thereCount)), .ref wg_now, .ref wg_then, .int (zI (wg_weight)), .int (zI (wg_limit)), .int (zI (wg_reach)), .int (zI (wg_tallying)), .int (zI (wg_greatest))], wJ wg_now K.2.2.1 223729 nw, wJ wg_then K.2.2.1 223729 th] (fun vr_ wr_ => ∃ (th2 : Int → Int), vr_ = none ∧ wr_ = [wO wg 7 [.ref wg_plane, .ref wg_ways, .ref wg_slotOf, .ref wg_here, .ref wg_there, .int (zI (wg_hereCount)), .int (zI (wg_thereCount)), .ref wg_now, .ref wg_then, .int (zI (wg_weight)), .int (zI (wg_limit)), .int (zI (wg_reach)), .int (zI (wg_tallying)), .int (zI (wg_greatest))], wJ wg_now K.2.2.1 223729 nw, wJ wg_then K.2.2.1 223729 th2] ∧ (∀ j, th2 j = zu th tgt (if 0 < nw src then bet wg_greatest (th tgt) (nw src + gain) else th tgt) j)) := by
  refine zMet_of (cc := cX7_improve) (nL := 4) (ret := none) (by decide) rfl (Nat.le_of_ble_eq_true rfl) ?_
  rintro C rfl rfl rfl hC hR
  have hinX7 : ∀ w ∈ u_ws RX7 TX7 14, w ∈ wsX7_improve := by decide +kernel
  show ZW C 0 0 [wO wg 7 [.ref wg_plane, .ref wg_ways, .ref wg_slotOf, .ref wg_here, .ref wg_there, .int (zI (wg_hereCount)), .int (zI (wg_thereCount)), .ref wg_now, .ref wg_then, .int (zI (wg_weight)), .int (zI (wg_limit)), .int (zI (wg_reach)), .int (zI (wg_tallying)), .int (zI (wg_greatest))], wJ wg_now (zK C).2.2.1 223729 nw, wJ wg_then (zK C).2.2.1 223729 th] [(0, .ref wg), (1, .int (zI (src))), (2, .int (zI (tgt))), (3, .int (zI (gain)))] 0 []
  refine z_aload_n hC 0 dX7_improve_0 rfl rfl ?_
  refine z_get hC (T := TX7) (N := 14) hinX7 0 7 dX7_improve_1 rfl rfl (by decide) (List.mem_of_getElem? (i := 1) rfl) rfl rfl ?_
  refine z_iload_n hC 1 dX7_improve_4 rfl rfl ?_
  refine z_lald hC 1 dX7_improve_5 rfl (by omega) ?_
  refine z_lconst (v := 0) hC dX7_improve_6 rfl ?_
  refine z_lcle hC 36 dX7_improve_7 dX7_improve_8 (by decide) (by omega) (fun c_1 => ?_) (fun c_1 => ?_)
  · skip
    exact z_vret hC hR dX7_improve_36 (Nat.le_of_ble_eq_true rfl) (Nat.le_of_ble_eq_true rfl) ⟨th, rfl, rfl, by intro j; first | rw [if_pos (by omega)] | (rw [if_neg (by omega)]; unfold zu; split; (rename_i h; rw [h]); rfl)⟩
  · skip
    refine z_aload_n hC 0 dX7_improve_11 rfl rfl ?_
    refine z_get hC (T := TX7) (N := 14) hinX7 0 8 dX7_improve_12 rfl rfl (by decide) (List.mem_of_getElem? (i := 2) rfl) rfl rfl ?_
    refine z_iload_n hC 2 dX7_improve_15 rfl rfl ?_
    refine z_aload_n hC 0 dX7_improve_16 rfl rfl ?_
    refine z_aload_n hC 0 dX7_improve_17 rfl rfl ?_
    refine z_get hC (T := TX7) (N := 14) hinX7 0 8 dX7_improve_18 rfl rfl (by decide) (List.mem_of_getElem? (i := 2) rfl) rfl rfl ?_
    refine z_iload_n hC 2 dX7_improve_21 rfl rfl ?_
    refine z_lald hC 2 dX7_improve_22 rfl (by omega) ?_
    refine z_aload_n hC 0 dX7_improve_23 rfl rfl ?_
    refine z_get hC (T := TX7) (N := 14) hinX7 0 7 dX7_improve_24 rfl rfl (by decide) (List.mem_of_getElem? (i := 1) rfl) rfl rfl ?_
    refine z_iload_n hC 1 dX7_improve_27 rfl rfl ?_
    refine z_lald hC 1 dX7_improve_28 rfl (by omega) ?_
    refine z_iload_n hC 3 dX7_improve_29 rfl rfl ?_
    refine z_i2l hC dX7_improve_30 (by omega) ?_
    refine z_ladd hC ((nw src) + gain) dX7_improve_31 rfl ?_
    refine z_callV hC [.long (zL (th tgt)), .long (zL ((nw src) + gain))] 2 0 dX7_improve_32 (c_X7_better (zl C) (zD C) (zK C) wg wg_plane wg_ways wg_slotOf wg_here wg_there wg_now wg_then (th tgt) ((nw src) + gain) wg_hereCount wg_thereCount wg_weight wg_limit wg_reach wg_tallying wg_greatest (by first | assumption | omega) (by first | assumption | omega) (by first | assumption | omega)) gX7_improve_X7_better rfl rfl rfl ⟨by decide, by decide, by decide +kernel⟩ ⟨(Nat.le_of_ble_eq_true rfl), (Nat.le_of_ble_eq_true rfl)⟩ rfl rfl rfl rfl [0] [1, 2] [wJ wg_now (zK C).2.2.1 223729 nw, wJ wg_then (zK C).2.2.1 223729 th] [.int (zI (tgt)), .ref wg_then] rfl rfl rfl rfl rfl (by decide) (Nat.le_of_ble_eq_true rfl) ⟨(Nat.le_of_ble_eq_true rfl), (Nat.le_of_ble_eq_true rfl)⟩ ?_
    rintro v_ w_ ⟨r_2, rfl, rfl, rfl⟩
    show ZW C 0 0 [wJ wg_now (zK C).2.2.1 223729 nw, wJ wg_then (zK C).2.2.1 223729 th, wO wg 7 [.ref wg_plane, .ref wg_ways, .ref wg_slotOf, .ref wg_here, .ref wg_there, .int (zI (wg_hereCount)), .int (zI (wg_thereCount)), .ref wg_now, .ref wg_then, .int (zI (wg_weight)), .int (zI (wg_limit)), .int (zI (wg_reach)), .int (zI (wg_tallying)), .int (zI (wg_greatest))]] [(0, .ref wg), (1, .int (zI (src))), (2, .int (zI (tgt))), (3, .int (zI (gain)))] 35 [.long (zL (bet wg_greatest (th tgt) ((nw src) + gain))), .int (zI (tgt)), .ref wg_then]
    refine z_last hC 1 [wJ wg_now (zK C).2.2.1 223729 nw, wJ wg_then (zK C).2.2.1 223729 (zu th tgt (bet wg_greatest (th tgt) ((nw src) + gain))), wO wg 7 [.ref wg_plane, .ref wg_ways, .ref wg_slotOf, .ref wg_here, .ref wg_there, .int (zI (wg_hereCount)), .int (zI (wg_thereCount)), .ref wg_now, .ref wg_then, .int (zI (wg_weight)), .int (zI (wg_limit)), .int (zI (wg_reach)), .int (zI (wg_tallying)), .int (zI (wg_greatest))]] dX7_improve_35 rfl (by omega) rfl ?_
    refine z_ws (ws' := [wO wg 7 [.ref wg_plane, .ref wg_ways, .ref wg_slotOf, .ref wg_here, .ref wg_there, .int (zI (wg_hereCount)), .int (zI (wg_thereCount)), .ref wg_now, .ref wg_then, .int (zI (wg_weight)), .int (zI (wg_limit)), .int (zI (wg_reach)), .int (zI (wg_tallying)), .int (zI (wg_greatest))], wJ wg_now (zK C).2.2.1 223729 nw, wJ wg_then (zK C).2.2.1 223729 (zu th tgt (bet wg_greatest (th tgt) ((nw src) + gain)))]) [2, 0, 1] rfl rfl ?_
    exact z_vret hC hR dX7_improve_36 (Nat.le_of_ble_eq_true rfl) (Nat.le_of_ble_eq_true rfl) ⟨zu th tgt (bet wg_greatest (th tgt) ((nw src) + gain)), rfl, rfl, by intro j; first | rw [if_pos (by omega)] | (rw [if_neg (by omega)]; unfold zu; split; (rename_i h; rw [h]); rfl)⟩

set_option maxHeartbeats 4000000 in
set_option maxRecDepth 100000 in
theorem c_X7_shift (l : Launch) (D : va_G) (K : ClassId × ClassId × ClassId × ClassId) (wg wg_plane wg_ways wg_slotOf wg_here wg_there wg_now wg_then : Nat) (src tgt gain hi wg_hereCount wg_thereCount wg_weight wg_limit wg_reach wg_tallying wg_greatest : Int) (nw th : Int → Int) (hb : 0 ≤ src ∧ 0 ≤ tgt ∧ 0 ≤ gain ∧ gain ≤ 1 ∧ -1 ≤ hi ∧ hi ≤ 1000 ∧ src + hi < 223729 ∧ tgt + gain + hi < 223729) : zMet l D K yX7_shift wsX7_shift ({ frames := 0, cells := 0, slots := 0, locals := 0 }) 0 0 [.ref wg, .int (zI (src)), .int (zI (tgt)), .int (zI (gain)), .int (zI (hi))] [wO wg 7 [.ref wg_plane, .ref wg_ways, .ref wg_slotOf, .ref wg_here, .ref wg_there, .int (zI (wg_hereCount)), .int (zI (wg_thereCount)), .ref wg_now, .ref wg_then, .int (zI (wg_weight)), .int (zI (wg_limit)), .int (zI (wg_reach)), .int (zI (wg_tallying)), .int (zI (wg_greatest))], wJ wg_now K.2.2.1 223729 nw, wJ wg_then K.2.2.1 223729 th] (fun vr_ wr_ => ∃ (th2 : Int → Int), vr_ = none ∧ wr_ = [wO wg 7 [.ref wg_plane, .ref wg_ways, .ref wg_slotOf, .ref wg_here, .ref wg_there, .int (zI (wg_hereCount)), .int (zI (wg_thereCount)), .ref wg_now, .ref wg_then, .int (zI (wg_weight)), .int (zI (wg_limit)), .int (zI (wg_reach)), .int (zI (wg_tallying)), .int (zI (wg_greatest))], wJ wg_now K.2.2.1 223729 nw, wJ wg_then K.2.2.1 223729 th2] ∧ (∀ j, th2 j = if tgt + gain ≤ j ∧ j ≤ tgt + gain + hi then th j + nw (j - tgt - gain + src) else th j)) := by
  refine zMet_of (cc := cX7_shift) (nL := 6) (ret := none) (by decide) rfl (Nat.le_of_ble_eq_true rfl) ?_
  rintro C rfl rfl rfl hC hR
  have hinX7 : ∀ w ∈ u_ws RX7 TX7 14, w ∈ wsX7_shift := by decide +kernel
  show ZW C 0 0 [wO wg 7 [.ref wg_plane, .ref wg_ways, .ref wg_slotOf, .ref wg_here, .ref wg_there, .int (zI (wg_hereCount)), .int (zI (wg_thereCount)), .ref wg_now, .ref wg_then, .int (zI (wg_weight)), .int (zI (wg_limit)), .int (zI (wg_reach)), .int (zI (wg_tallying)), .int (zI (wg_greatest))], wJ wg_now (zK C).2.2.1 223729 nw, wJ wg_then (zK C).2.2.1 223729 th] [(0, .ref wg), (1, .int (zI (src))), (2, .int (zI (tgt))), (3, .int (zI (gain))), (4, .int (zI (hi)))] 0 []
  refine z_iconst hC dX7_shift_0 ?_
  refine z_istore hC [(5, .int (zI (0))), (0, .ref wg), (1, .int (zI (src))), (2, .int (zI (tgt))), (3, .int (zI (gain))), (4, .int (zI (hi)))] dX7_shift_1 (by decide) rfl ?_
  refine z_lv (lv' := [(0, .ref wg), (1, .int (zI (src))), (2, .int (zI (tgt))), (3, .int (zI (gain))), (4, .int (zI (hi))), (5, .int (zI (0)))]) [1, 2, 3, 4, 5, 0] rfl ?_
  have lp3_1 : ∀ (f3 : Nat) (i : Int) (q : Int → Int), (0 ≤ i ∧ i ≤ hi + 1) → (∀ j, q j = if tgt + gain ≤ j ∧ j < tgt + gain + i then th j + nw (j - tgt - gain + src) else th j) → (hi + 1 - i).toNat < f3 → ZW C 0 0 [wO wg 7 [.ref wg_plane, .ref wg_ways, .ref wg_slotOf, .ref wg_here, .ref wg_there, .int (zI (wg_hereCount)), .int (zI (wg_thereCount)), .ref wg_now, .ref wg_then, .int (zI (wg_weight)), .int (zI (wg_limit)), .int (zI (wg_reach)), .int (zI (wg_tallying)), .int (zI (wg_greatest))], wJ wg_now (zK C).2.2.1 223729 nw, wJ wg_then (zK C).2.2.1 223729 q] [(0, .ref wg), (1, .int (zI (src))), (2, .int (zI (tgt))), (3, .int (zI (gain))), (4, .int (zI (hi))), (5, .int (zI (i)))] 3 [] := by
    intro f3
    induction f3 with
    | zero => intro _ _ _ _ hf; exact absurd hf (Nat.not_lt_zero _)
    | succ f3 ih3_2 =>
      intro i q vi vq hf_3
      refine z_iload hC 5 dX7_shift_3 rfl ?_
      refine z_iload hC 4 dX7_shift_5 rfl ?_
      refine z_icgt hC 39 dX7_shift_7 (by decide) (by omega) (fun c_4 => ?_) (fun c_4 => ?_)
      · skip
        exact z_vret hC hR dX7_shift_39 (Nat.le_of_ble_eq_true rfl) (Nat.le_of_ble_eq_true rfl) ⟨q, rfl, rfl, by intro j; rw [vq j]; by_cases e2 : tgt + gain ≤ j ∧ j < tgt + gain + i; (rw [if_pos e2, if_pos (by omega)]); (rw [if_neg e2, if_neg (by omega)])⟩
      · skip
        refine z_aload_n hC 0 dX7_shift_10 rfl rfl ?_
        refine z_get hC (T := TX7) (N := 14) hinX7 0 8 dX7_shift_11 rfl rfl (by decide) (List.mem_of_getElem? (i := 1) rfl) rfl rfl ?_
        refine z_iload_n hC 2 dX7_shift_14 rfl rfl ?_
        refine z_iload_n hC 3 dX7_shift_15 rfl rfl ?_
        refine z_iadd hC (tgt + gain) dX7_shift_16 rfl ?_
        refine z_iload hC 5 dX7_shift_17 rfl ?_
        refine z_iadd hC ((tgt + gain) + i) dX7_shift_19 rfl ?_
        refine z_dup2 hC dX7_shift_20 rfl rfl ?_
        refine z_lald hC 2 dX7_shift_21 rfl (by omega) ?_
        refine z_aload_n hC 0 dX7_shift_22 rfl rfl ?_
        refine z_get hC (T := TX7) (N := 14) hinX7 0 7 dX7_shift_23 rfl rfl (by decide) (List.mem_of_getElem? (i := 2) rfl) rfl rfl ?_
        refine z_iload_n hC 1 dX7_shift_26 rfl rfl ?_
        refine z_iload hC 5 dX7_shift_27 rfl ?_
        refine z_iadd hC (src + i) dX7_shift_29 rfl ?_
        refine z_lald hC 1 dX7_shift_30 rfl (by omega) ?_
        refine z_ladd hC ((q ((tgt + gain) + i)) + (nw (src + i))) dX7_shift_31 rfl ?_
        refine z_last hC 2 [wO wg 7 [.ref wg_plane, .ref wg_ways, .ref wg_slotOf, .ref wg_here, .ref wg_there, .int (zI (wg_hereCount)), .int (zI (wg_thereCount)), .ref wg_now, .ref wg_then, .int (zI (wg_weight)), .int (zI (wg_limit)), .int (zI (wg_reach)), .int (zI (wg_tallying)), .int (zI (wg_greatest))], wJ wg_now (zK C).2.2.1 223729 nw, wJ wg_then (zK C).2.2.1 223729 (zu q ((tgt + gain) + i) ((q ((tgt + gain) + i)) + (nw (src + i))))] dX7_shift_32 rfl (by omega) rfl ?_
        refine z_iinc (a := i) (v := 1) (r := i + 1) hC 5 [(5, .int (zI (i + 1))), (0, .ref wg), (1, .int (zI (src))), (2, .int (zI (tgt))), (3, .int (zI (gain))), (4, .int (zI (hi)))] dX7_shift_33 rfl rfl (by decide) rfl ?_
        refine z_goto hC 3 dX7_shift_36 (by decide) ?_
        refine z_lv (lv' := [(0, .ref wg), (1, .int (zI (src))), (2, .int (zI (tgt))), (3, .int (zI (gain))), (4, .int (zI (hi))), (5, .int (zI (i + 1)))]) [1, 2, 3, 4, 5, 0] rfl ?_
        exact ih3_2 (i + 1) (zu q ((tgt + gain) + i) ((q ((tgt + gain) + i)) + (nw (src + i)))) (by omega) (by intro j; unfold zu; by_cases e : j = tgt + gain + i; (rw [if_pos e, if_pos (by omega), vq (tgt + gain + i), if_neg (by omega), e, show tgt + gain + i - tgt - gain + src = src + i by omega]); (rw [if_neg e, vq j]; by_cases e2 : tgt + gain ≤ j ∧ j < tgt + gain + i; (rw [if_pos e2, if_pos (by omega)]); (rw [if_neg e2, if_neg (by omega)]))) (by omega)
  exact lp3_1 _ 0 th (by omega) (by intro j; rw [if_neg (by omega)]) (Nat.lt_succ_self _)

set_option maxHeartbeats 4000000 in
set_option maxRecDepth 100000 in
theorem c_X7_gainOf (l : Launch) (D : va_G) (K : ClassId × ClassId × ClassId × ClassId) (wg p wg_ways wg_slotOf wg_here wg_there wg_now wg_then p_dx p_dy p_weights p_leaps p_barred p_passable : Nat) (k c wg_hereCount wg_thereCount wg_weight wg_limit wg_reach wg_tallying wg_greatest p_stepCount p_kind p_top p_round p_barredCount p_ax p_ay p_bx p_by : Int) (we : Int → Int) (hk : 0 ≤ k ∧ k < 4) (hc : 0 ≤ c ∧ c < 4489) (hm : wg_weight = 0 ∨ wg_weight = 3) (hwe : ∀ j, 0 ≤ j → j < 8 → we j = 1) : zMet l D K yX7_gainOf wsX7_gainOf ({ frames := 0, cells := 0, slots := 0, locals := 0 }) 0 0 [.ref wg, .int (zI (k)), .int (zI (c))] [wO wg 7 [.ref p, .ref wg_ways, .ref wg_slotOf, .ref wg_here, .ref wg_there, .int (zI (wg_hereCount)), .int (zI (wg_thereCount)), .ref wg_now, .ref wg_then, .int (zI (wg_weight)), .int (zI (wg_limit)), .int (zI (wg_reach)), .int (zI (wg_tallying)), .int (zI (wg_greatest))], wO p 4 [.ref p_dx, .ref p_dy, .ref p_weights, .ref p_leaps, .int (zI (p_stepCount)), .int (zI (p_kind)), .int (zI (p_top)), .int (zI (p_round)), .int (zI (p_barredCount)), .int (zI (p_ax)), .int (zI (p_ay)), .int (zI (p_bx)), .int (zI (p_by)), .ref p_barred, .ref p_passable], wI p_weights K.2.1 8 we] (fun vr_ wr_ => ∃ (r : Int), vr_ = some (.int (zI (r))) ∧ wr_ = [wO wg 7 [.ref p, .ref wg_ways, .ref wg_slotOf, .ref wg_here, .ref wg_there, .int (zI (wg_hereCount)), .int (zI (wg_thereCount)), .ref wg_now, .ref wg_then, .int (zI (wg_weight)), .int (zI (wg_limit)), .int (zI (wg_reach)), .int (zI (wg_tallying)), .int (zI (wg_greatest))], wO p 4 [.ref p_dx, .ref p_dy, .ref p_weights, .ref p_leaps, .int (zI (p_stepCount)), .int (zI (p_kind)), .int (zI (p_top)), .int (zI (p_round)), .int (zI (p_barredCount)), .int (zI (p_ax)), .int (zI (p_ay)), .int (zI (p_bx)), .int (zI (p_by)), .ref p_barred, .ref p_passable], wI p_weights K.2.1 8 we] ∧ (r = gnW wg_weight (c / 67 - 33))) := by
  refine zMet_of (cc := cX7_gainOf) (nL := 4) (ret := (some .int)) (by decide) rfl (Nat.le_of_ble_eq_true rfl) ?_
  rintro C rfl rfl rfl hC hR
  have hinX4 : ∀ w ∈ u_ws RX4 TX4 15, w ∈ wsX7_gainOf := by decide +kernel
  have hinX7 : ∀ w ∈ u_ws RX7 TX7 14, w ∈ wsX7_gainOf := by decide +kernel
  show ZW C 0 0 [wO wg 7 [.ref p, .ref wg_ways, .ref wg_slotOf, .ref wg_here, .ref wg_there, .int (zI (wg_hereCount)), .int (zI (wg_thereCount)), .ref wg_now, .ref wg_then, .int (zI (wg_weight)), .int (zI (wg_limit)), .int (zI (wg_reach)), .int (zI (wg_tallying)), .int (zI (wg_greatest))], wO p 4 [.ref p_dx, .ref p_dy, .ref p_weights, .ref p_leaps, .int (zI (p_stepCount)), .int (zI (p_kind)), .int (zI (p_top)), .int (zI (p_round)), .int (zI (p_barredCount)), .int (zI (p_ax)), .int (zI (p_ay)), .int (zI (p_bx)), .int (zI (p_by)), .ref p_barred, .ref p_passable], wI p_weights (zK C).2.1 8 we] [(0, .ref wg), (1, .int (zI (k))), (2, .int (zI (c)))] 0 []
  refine z_aload_n hC 0 dX7_gainOf_0 rfl rfl ?_
  refine z_get hC (T := TX7) (N := 14) hinX7 0 9 dX7_gainOf_1 rfl rfl (by decide) (List.mem_of_getElem? (i := 1) rfl) rfl rfl ?_
  refine z_iconst hC dX7_gainOf_4 ?_
  refine z_icne hC 18 dX7_gainOf_5 (by decide) (by omega) (fun c_1 => ?_) (fun c_1 => ?_)
  · skip
    refine z_iload_n hC 2 dX7_gainOf_18 rfl rfl ?_
    refine z_bipush hC dX7_gainOf_19 (by decide) ?_
    refine z_idiv hC (c / 67) dX7_gainOf_21 (by omega) rfl ?_
    refine z_bipush hC dX7_gainOf_22 (by decide) ?_
    refine z_isub hC ((c / 67) - 33) dX7_gainOf_24 rfl ?_
    refine z_istore_n hC [(3, .int (zI ((c / 67) - 33))), (0, .ref wg), (1, .int (zI (k))), (2, .int (zI (c)))] dX7_gainOf_25 rfl (by decide) rfl ?_
    refine z_aload_n hC 1 dX7_gainOf_26 rfl rfl ?_
    refine z_get hC (T := TX7) (N := 14) hinX7 0 9 dX7_gainOf_27 rfl rfl (by decide) (List.mem_of_getElem? (i := 1) rfl) rfl rfl ?_
    refine z_iconst hC dX7_gainOf_30 ?_
    refine z_icne hC 36 dX7_gainOf_31 (by decide) (by omega) (fun c_2 => ?_) (fun c_2 => by exfalso; omega)
    refine z_iload_n hC 0 dX7_gainOf_36 rfl rfl ?_
    refine z_ifne hC 44 dX7_gainOf_37 (by decide) (by omega) (fun c_3 => ?_) (fun c_3 => ?_)
    · skip
      refine z_iconst hC dX7_gainOf_44 ?_
      exact z_iret hC hR dX7_gainOf_45 (Nat.le_of_ble_eq_true rfl) (Nat.le_of_ble_eq_true rfl) ⟨0, rfl, rfl, by unfold gnW; (repeat' split) <;> omega⟩
    · skip
      refine z_iconst hC dX7_gainOf_40 ?_
      refine z_goto hC 45 dX7_gainOf_41 (by decide) ?_
      exact z_iret hC hR dX7_gainOf_45 (Nat.le_of_ble_eq_true rfl) (Nat.le_of_ble_eq_true rfl) ⟨1, rfl, rfl, by unfold gnW; (repeat' split) <;> omega⟩
  · skip
    refine z_aload_n hC 0 dX7_gainOf_8 rfl rfl ?_
    refine z_get hC (T := TX7) (N := 14) hinX7 0 0 dX7_gainOf_9 rfl rfl (by decide) (List.mem_of_getElem? (i := 2) rfl) rfl rfl ?_
    refine z_get hC (T := TX4) (N := 15) hinX4 1 2 dX7_gainOf_12 rfl rfl (by decide) (List.mem_of_getElem? (i := 3) rfl) rfl rfl ?_
    refine z_iload_n hC 1 dX7_gainOf_15 rfl rfl ?_
    refine z_iald hC 2 dX7_gainOf_16 rfl (by omega) ?_
    refine z_topi (b := 1) (by exact hwe k (by omega) (by omega)) ?_
    exact z_iret hC hR dX7_gainOf_17 (Nat.le_of_ble_eq_true rfl) (Nat.le_of_ble_eq_true rfl) ⟨1, rfl, rfl, by unfold gnW; (repeat' split) <;> omega⟩

set_option maxHeartbeats 4000000 in
set_option maxRecDepth 100000 in
theorem c_X7_mostGain (l : Launch) (D : va_G) (K : ClassId × ClassId × ClassId × ClassId) (wg wg_plane wg_ways wg_slotOf wg_here wg_there wg_now wg_then : Nat) (wg_hereCount wg_thereCount wg_weight wg_limit wg_reach wg_tallying wg_greatest : Int) (hmm : wg_weight = 0 ∨ wg_weight = 1 ∨ wg_weight = 3) : zMet l D K yX7_mostGain wsX7_mostGain ({ frames := 0, cells := 0, slots := 0, locals := 0 }) 0 0 [.ref wg] [wO wg 7 [.ref wg_plane, .ref wg_ways, .ref wg_slotOf, .ref wg_here, .ref wg_there, .int (zI (wg_hereCount)), .int (zI (wg_thereCount)), .ref wg_now, .ref wg_then, .int (zI (wg_weight)), .int (zI (wg_limit)), .int (zI (wg_reach)), .int (zI (wg_tallying)), .int (zI (wg_greatest))]] (fun vr_ wr_ => ∃ (r : Int), vr_ = some (.int (zI (r))) ∧ wr_ = [wO wg 7 [.ref wg_plane, .ref wg_ways, .ref wg_slotOf, .ref wg_here, .ref wg_there, .int (zI (wg_hereCount)), .int (zI (wg_thereCount)), .ref wg_now, .ref wg_then, .int (zI (wg_weight)), .int (zI (wg_limit)), .int (zI (wg_reach)), .int (zI (wg_tallying)), .int (zI (wg_greatest))]] ∧ (r = 1 ∨ r = 9)) := by
  refine zMet_of (cc := cX7_mostGain) (nL := 1) (ret := (some .int)) (by decide) rfl (Nat.le_of_ble_eq_true rfl) ?_
  rintro C rfl rfl rfl hC hR
  have hinX7 : ∀ w ∈ u_ws RX7 TX7 14, w ∈ wsX7_mostGain := by decide +kernel
  show ZW C 0 0 [wO wg 7 [.ref wg_plane, .ref wg_ways, .ref wg_slotOf, .ref wg_here, .ref wg_there, .int (zI (wg_hereCount)), .int (zI (wg_thereCount)), .ref wg_now, .ref wg_then, .int (zI (wg_weight)), .int (zI (wg_limit)), .int (zI (wg_reach)), .int (zI (wg_tallying)), .int (zI (wg_greatest))]] [(0, .ref wg)] 0 []
  refine z_aload_n hC 0 dX7_mostGain_0 rfl rfl ?_
  refine z_get hC (T := TX7) (N := 14) hinX7 0 9 dX7_mostGain_1 rfl rfl (by decide) (List.mem_of_getElem? (i := 1) rfl) rfl rfl ?_
  refine z_iconst hC dX7_mostGain_4 ?_
  refine z_icne hC 11 dX7_mostGain_5 (by decide) (by omega) (fun c_1 => ?_) (fun c_1 => ?_)
  · skip
    refine z_aload_n hC 0 dX7_mostGain_11 rfl rfl ?_
    refine z_get hC (T := TX7) (N := 14) hinX7 0 9 dX7_mostGain_12 rfl rfl (by decide) (List.mem_of_getElem? (i := 1) rfl) rfl rfl ?_
    refine z_iconst hC dX7_mostGain_15 ?_
    refine z_icne hC 24 dX7_mostGain_16 (by decide) (by omega) (fun c_2 => ?_) (fun c_2 => by exfalso; omega)
    refine z_iconst hC dX7_mostGain_24 ?_
    exact z_iret hC hR dX7_mostGain_25 (Nat.le_of_ble_eq_true rfl) (Nat.le_of_ble_eq_true rfl) ⟨1, rfl, rfl, by omega⟩
  · skip
    refine z_bipush hC dX7_mostGain_8 (by decide) ?_
    exact z_iret hC hR dX7_mostGain_10 (Nat.le_of_ble_eq_true rfl) (Nat.le_of_ble_eq_true rfl) ⟨9, rfl, rfl, by omega⟩

set_option maxHeartbeats 4000000 in
set_option maxRecDepth 100000 in
theorem c_X7_swapLayers (l : Launch) (D : va_G) (K : ClassId × ClassId × ClassId × ClassId) (wg wg_plane wg_ways wg_slotOf wg_here wg_there wg_now wg_then : Nat) (wg_hereCount wg_thereCount wg_weight wg_limit wg_reach wg_tallying wg_greatest : Int) : zMet l D K yX7_swapLayers wsX7_swapLayers ({ frames := 0, cells := 0, slots := 0, locals := 0 }) 0 0 [.ref wg] [wO wg 7 [.ref wg_plane, .ref wg_ways, .ref wg_slotOf, .ref wg_here, .ref wg_there, .int (zI (wg_hereCount)), .int (zI (wg_thereCount)), .ref wg_now, .ref wg_then, .int (zI (wg_weight)), .int (zI (wg_limit)), .int (zI (wg_reach)), .int (zI (wg_tallying)), .int (zI (wg_greatest))]] (fun vr_ wr_ => vr_ = none ∧ wr_ = [wO wg 7 [.ref wg_plane, .ref wg_ways, .ref wg_slotOf, .ref wg_there, .ref wg_here, .int (zI (wg_thereCount)), .int (zI (wg_thereCount)), .ref wg_then, .ref wg_now, .int (zI (wg_weight)), .int (zI (wg_limit)), .int (zI (wg_reach)), .int (zI (wg_tallying)), .int (zI (wg_greatest))]] ∧ (True)) := by
  refine zMet_of (cc := cX7_swapLayers) (nL := 3) (ret := none) (by decide) rfl (Nat.le_of_ble_eq_true rfl) ?_
  rintro C rfl rfl rfl hC hR
  have hinX7 : ∀ w ∈ u_ws RX7 TX7 14, w ∈ wsX7_swapLayers := by decide +kernel
  show ZW C 0 0 [wO wg 7 [.ref wg_plane, .ref wg_ways, .ref wg_slotOf, .ref wg_here, .ref wg_there, .int (zI (wg_hereCount)), .int (zI (wg_thereCount)), .ref wg_now, .ref wg_then, .int (zI (wg_weight)), .int (zI (wg_limit)), .int (zI (wg_reach)), .int (zI (wg_tallying)), .int (zI (wg_greatest))]] [(0, .ref wg)] 0 []
  refine z_aload_n hC 0 dX7_swapLayers_0 rfl rfl ?_
  refine z_get hC (T := TX7) (N := 14) hinX7 0 3 dX7_swapLayers_1 rfl rfl (by decide) (List.mem_of_getElem? (i := 1) rfl) rfl rfl ?_
  refine z_astore_n hC [(1, .ref wg_here), (0, .ref wg)] dX7_swapLayers_4 rfl (by decide) rfl ?_
  refine z_aload_n hC 1 dX7_swapLayers_5 rfl rfl ?_
  refine z_aload_n hC 1 dX7_swapLayers_6 rfl rfl ?_
  refine z_get hC (T := TX7) (N := 14) hinX7 0 4 dX7_swapLayers_7 rfl rfl (by decide) (List.mem_of_getElem? (i := 2) rfl) rfl rfl ?_
  refine z_put hC (T := TX7) (N := 14) hinX7 tyX7_ok nmX7 0 3 [wO wg 7 [.ref wg_plane, .ref wg_ways, .ref wg_slotOf, .ref wg_there, .ref wg_there, .int (zI (wg_hereCount)), .int (zI (wg_thereCount)), .ref wg_now, .ref wg_then, .int (zI (wg_weight)), .int (zI (wg_limit)), .int (zI (wg_reach)), .int (zI (wg_tallying)), .int (zI (wg_greatest))]] dX7_swapLayers_10 rfl rfl (by decide) (List.mem_of_getElem? (i := 1) rfl) rfl rfl rfl rfl (Nat.le_of_ble_eq_true rfl) rfl ?_
  refine z_aload_n hC 1 dX7_swapLayers_13 rfl rfl ?_
  refine z_aload_n hC 0 dX7_swapLayers_14 rfl rfl ?_
  refine z_put hC (T := TX7) (N := 14) hinX7 tyX7_ok nmX7 0 4 [wO wg 7 [.ref wg_plane, .ref wg_ways, .ref wg_slotOf, .ref wg_there, .ref wg_here, .int (zI (wg_hereCount)), .int (zI (wg_thereCount)), .ref wg_now, .ref wg_then, .int (zI (wg_weight)), .int (zI (wg_limit)), .int (zI (wg_reach)), .int (zI (wg_tallying)), .int (zI (wg_greatest))]] dX7_swapLayers_15 rfl rfl (by decide) (List.mem_of_getElem? (i := 2) rfl) rfl rfl rfl rfl (Nat.le_of_ble_eq_true rfl) rfl ?_
  refine z_aload_n hC 1 dX7_swapLayers_18 rfl rfl ?_
  refine z_get hC (T := TX7) (N := 14) hinX7 0 7 dX7_swapLayers_19 rfl rfl (by decide) (List.mem_of_getElem? (i := 3) rfl) rfl rfl ?_
  refine z_astore_n hC [(2, .ref wg_now), (1, .ref wg_here), (0, .ref wg)] dX7_swapLayers_22 rfl (by decide) rfl ?_
  refine z_aload_n hC 2 dX7_swapLayers_23 rfl rfl ?_
  refine z_aload_n hC 2 dX7_swapLayers_24 rfl rfl ?_
  refine z_get hC (T := TX7) (N := 14) hinX7 0 8 dX7_swapLayers_25 rfl rfl (by decide) (List.mem_of_getElem? (i := 4) rfl) rfl rfl ?_
  refine z_put hC (T := TX7) (N := 14) hinX7 tyX7_ok nmX7 0 7 [wO wg 7 [.ref wg_plane, .ref wg_ways, .ref wg_slotOf, .ref wg_there, .ref wg_here, .int (zI (wg_hereCount)), .int (zI (wg_thereCount)), .ref wg_then, .ref wg_then, .int (zI (wg_weight)), .int (zI (wg_limit)), .int (zI (wg_reach)), .int (zI (wg_tallying)), .int (zI (wg_greatest))]] dX7_swapLayers_28 rfl rfl (by decide) (List.mem_of_getElem? (i := 3) rfl) rfl rfl rfl rfl (Nat.le_of_ble_eq_true rfl) rfl ?_
  refine z_aload_n hC 2 dX7_swapLayers_31 rfl rfl ?_
  refine z_aload_n hC 0 dX7_swapLayers_32 rfl rfl ?_
  refine z_put hC (T := TX7) (N := 14) hinX7 tyX7_ok nmX7 0 8 [wO wg 7 [.ref wg_plane, .ref wg_ways, .ref wg_slotOf, .ref wg_there, .ref wg_here, .int (zI (wg_hereCount)), .int (zI (wg_thereCount)), .ref wg_then, .ref wg_now, .int (zI (wg_weight)), .int (zI (wg_limit)), .int (zI (wg_reach)), .int (zI (wg_tallying)), .int (zI (wg_greatest))]] dX7_swapLayers_33 rfl rfl (by decide) (List.mem_of_getElem? (i := 4) rfl) rfl rfl rfl rfl (Nat.le_of_ble_eq_true rfl) rfl ?_
  refine z_aload_n hC 2 dX7_swapLayers_36 rfl rfl ?_
  refine z_aload_n hC 2 dX7_swapLayers_37 rfl rfl ?_
  refine z_get hC (T := TX7) (N := 14) hinX7 0 6 dX7_swapLayers_38 rfl rfl (by decide) (List.mem_of_getElem? (i := 5) rfl) rfl rfl ?_
  refine z_put hC (T := TX7) (N := 14) hinX7 tyX7_ok nmX7 0 5 [wO wg 7 [.ref wg_plane, .ref wg_ways, .ref wg_slotOf, .ref wg_there, .ref wg_here, .int (zI (wg_thereCount)), .int (zI (wg_thereCount)), .ref wg_then, .ref wg_now, .int (zI (wg_weight)), .int (zI (wg_limit)), .int (zI (wg_reach)), .int (zI (wg_tallying)), .int (zI (wg_greatest))]] dX7_swapLayers_41 rfl rfl (by decide) (List.mem_of_getElem? (i := 6) rfl) rfl rfl rfl rfl (Nat.le_of_ble_eq_true rfl) rfl ?_
  exact z_vret hC hR dX7_swapLayers_44 (Nat.le_of_ble_eq_true rfl) (Nat.le_of_ble_eq_true rfl) ⟨rfl, rfl, by trivial⟩

set_option maxHeartbeats 4000000 in
set_option maxRecDepth 100000 in
theorem c_X7_slotFor (l : Launch) (D : va_G) (K : ClassId × ClassId × ClassId × ClassId) (wg wg_plane wg_ways wg_slotOf wg_here wg_there wg_now wg_then : Nat) (c wg_hereCount wg_thereCount wg_weight wg_limit wg_reach wg_tallying wg_greatest : Int) (so te th : Int → Int) (hc : 0 ≤ c ∧ c < 4489) (htc : 0 ≤ wg_thereCount ∧ wg_thereCount < 1849) (hso : 0 ≤ so c ∧ so c ≤ 1849) : zMet l D K yX7_slotFor wsX7_slotFor ({ frames := 0, cells := 0, slots := 0, locals := 0 }) 0 0 [.ref wg, .int (zI (c))] [wO wg 7 [.ref wg_plane, .ref wg_ways, .ref wg_slotOf, .ref wg_here, .ref wg_there, .int (zI (wg_hereCount)), .int (zI (wg_thereCount)), .ref wg_now, .ref wg_then, .int (zI (wg_weight)), .int (zI (wg_limit)), .int (zI (wg_reach)), .int (zI (wg_tallying)), .int (zI (wg_greatest))], wI wg_slotOf K.2.1 4489 so, wI wg_there K.2.1 1849 te, wJ wg_then K.2.2.1 223729 th] (fun vr_ wr_ => ∃ (r : Int) (so2 : Int → Int) (te2 : Int → Int) (th2 : Int → Int) (tc2 : Int), vr_ = some (.int (zI (r))) ∧ wr_ = [wO wg 7 [.ref wg_plane, .ref wg_ways, .ref wg_slotOf, .ref wg_here, .ref wg_there, .int (zI (wg_hereCount)), .int (zI (tc2)), .ref wg_now, .ref wg_then, .int (zI (wg_weight)), .int (zI (wg_limit)), .int (zI (wg_reach)), .int (zI (wg_tallying)), .int (zI (wg_greatest))], wI wg_slotOf K.2.1 4489 so2, wI wg_there K.2.1 1849 te2, wJ wg_then K.2.2.1 223729 th2] ∧ (slotP so te th so2 te2 th2 wg_thereCount tc2 c r)) := by
  refine zMet_of (cc := cX7_slotFor) (nL := 3) (ret := (some .int)) (by decide) rfl (Nat.le_of_ble_eq_true rfl) ?_
  rintro C rfl rfl rfl hC hR
  have hinX7 : ∀ w ∈ u_ws RX7 TX7 14, w ∈ wsX7_slotFor := by decide +kernel
  show ZW C 0 0 [wO wg 7 [.ref wg_plane, .ref wg_ways, .ref wg_slotOf, .ref wg_here, .ref wg_there, .int (zI (wg_hereCount)), .int (zI (wg_thereCount)), .ref wg_now, .ref wg_then, .int (zI (wg_weight)), .int (zI (wg_limit)), .int (zI (wg_reach)), .int (zI (wg_tallying)), .int (zI (wg_greatest))], wI wg_slotOf (zK C).2.1 4489 so, wI wg_there (zK C).2.1 1849 te, wJ wg_then (zK C).2.2.1 223729 th] [(0, .ref wg), (1, .int (zI (c)))] 0 []
  refine z_iload_n hC 1 dX7_slotFor_0 rfl rfl ?_
  refine z_iflt hC 11 dX7_slotFor_1 (by decide) (by omega) (fun c_1 => by exfalso; omega) (fun c_1 => ?_)
  refine z_iload_n hC 1 dX7_slotFor_4 rfl rfl ?_
  refine z_sipush hC dX7_slotFor_5 (by decide) ?_
  refine z_iclt hC 13 dX7_slotFor_8 (by decide) (by omega) (fun c_2 => ?_) (fun c_2 => by exfalso; omega)
  refine z_aload_n hC 0 dX7_slotFor_13 rfl rfl ?_
  refine z_get hC (T := TX7) (N := 14) hinX7 0 2 dX7_slotFor_14 rfl rfl (by decide) (List.mem_of_getElem? (i := 1) rfl) rfl rfl ?_
  refine z_iload_n hC 1 dX7_slotFor_17 rfl rfl ?_
  refine z_iald hC 1 dX7_slotFor_18 rfl (by omega) ?_
  refine z_ifne hC 91 dX7_slotFor_19 (by decide) (by omega) (fun c_3 => ?_) (fun c_3 => ?_)
  · skip
    refine z_aload_n hC 0 dX7_slotFor_91 rfl rfl ?_
    refine z_get hC (T := TX7) (N := 14) hinX7 0 2 dX7_slotFor_92 rfl rfl (by decide) (List.mem_of_getElem? (i := 1) rfl) rfl rfl ?_
    refine z_iload_n hC 1 dX7_slotFor_95 rfl rfl ?_
    refine z_iald hC 1 dX7_slotFor_96 rfl (by omega) ?_
    refine z_iconst hC dX7_slotFor_97 ?_
    refine z_isub hC ((so c) - 1) dX7_slotFor_98 rfl ?_
    exact z_iret hC hR dX7_slotFor_99 (Nat.le_of_ble_eq_true rfl) (Nat.le_of_ble_eq_true rfl) ⟨(so c) - 1, so, te, th, wg_thereCount, rfl, rfl, by first | exact Or.inl ⟨by omega, rfl, rfl, rfl, rfl, rfl⟩ | exact Or.inr ⟨by omega, rfl, by unfold zu; rw [if_pos rfl]; omega, rfl, rfl, fun j => by rw [vq j, show i = 121 by omega]⟩⟩
  · skip
    refine z_aload_n hC 0 dX7_slotFor_22 rfl rfl ?_
    refine z_get hC (T := TX7) (N := 14) hinX7 0 6 dX7_slotFor_23 rfl rfl (by decide) (List.mem_of_getElem? (i := 2) rfl) rfl rfl ?_
    refine z_sipush hC dX7_slotFor_26 (by decide) ?_
    refine z_icge hC 91 dX7_slotFor_29 (by decide) (by omega) (fun c_4 => by exfalso; omega) (fun c_4 => ?_)
    refine z_aload_n hC 0 dX7_slotFor_32 rfl rfl ?_
    refine z_get hC (T := TX7) (N := 14) hinX7 0 4 dX7_slotFor_33 rfl rfl (by decide) (List.mem_of_getElem? (i := 3) rfl) rfl rfl ?_
    refine z_aload_n hC 0 dX7_slotFor_36 rfl rfl ?_
    refine z_get hC (T := TX7) (N := 14) hinX7 0 6 dX7_slotFor_37 rfl rfl (by decide) (List.mem_of_getElem? (i := 2) rfl) rfl rfl ?_
    refine z_iload_n hC 1 dX7_slotFor_40 rfl rfl ?_
    refine z_iast hC 2 [wO wg 7 [.ref wg_plane, .ref wg_ways, .ref wg_slotOf, .ref wg_here, .ref wg_there, .int (zI (wg_hereCount)), .int (zI (wg_thereCount)), .ref wg_now, .ref wg_then, .int (zI (wg_weight)), .int (zI (wg_limit)), .int (zI (wg_reach)), .int (zI (wg_tallying)), .int (zI (wg_greatest))], wI wg_slotOf (zK C).2.1 4489 so, wI wg_there (zK C).2.1 1849 (zu te wg_thereCount c), wJ wg_then (zK C).2.2.1 223729 th] dX7_slotFor_41 rfl (by omega) rfl ?_
    refine z_iconst hC dX7_slotFor_42 ?_
    refine z_istore_n hC [(2, .int (zI (0))), (0, .ref wg), (1, .int (zI (c)))] dX7_slotFor_43 rfl (by decide) rfl ?_
    refine z_lv (lv' := [(0, .ref wg), (1, .int (zI (c))), (2, .int (zI (0)))]) [1, 2, 0] rfl ?_
    have lp44_5 : ∀ (f7 : Nat) (i : Int) (q : Int → Int), (0 ≤ i ∧ i ≤ 121) → (∀ j, q j = if wg_thereCount * 121 ≤ j ∧ j < wg_thereCount * 121 + i then 0 else th j) → (121 - i).toNat < f7 → ZW C 0 0 [wO wg 7 [.ref wg_plane, .ref wg_ways, .ref wg_slotOf, .ref wg_here, .ref wg_there, .int (zI (wg_hereCount)), .int (zI (wg_thereCount)), .ref wg_now, .ref wg_then, .int (zI (wg_weight)), .int (zI (wg_limit)), .int (zI (wg_reach)), .int (zI (wg_tallying)), .int (zI (wg_greatest))], wI wg_slotOf (zK C).2.1 4489 so, wI wg_there (zK C).2.1 1849 (zu te wg_thereCount c), wJ wg_then (zK C).2.2.1 223729 q] [(0, .ref wg), (1, .int (zI (c))), (2, .int (zI (i)))] 44 [] := by
      intro f7
      induction f7 with
      | zero => intro _ _ _ _ hf; exact absurd hf (Nat.not_lt_zero _)
      | succ f7 ih44_6 =>
        intro i q vi vq hf_44
        refine z_iload_n hC 2 dX7_slotFor_44 rfl rfl ?_
        refine z_bipush hC dX7_slotFor_45 (by decide) ?_
        refine z_icge hC 71 dX7_slotFor_47 (by decide) (by omega) (fun c_8 => ?_) (fun c_8 => ?_)
        · skip
          refine z_aload_n hC 0 dX7_slotFor_71 rfl rfl ?_
          refine z_dup hC dX7_slotFor_72 rfl ?_
          refine z_get hC (T := TX7) (N := 14) hinX7 0 6 dX7_slotFor_73 rfl rfl (by decide) (List.mem_of_getElem? (i := 2) rfl) rfl rfl ?_
          refine z_iconst hC dX7_slotFor_76 ?_
          refine z_iadd hC (wg_thereCount + 1) dX7_slotFor_77 rfl ?_
          refine z_put hC (T := TX7) (N := 14) hinX7 tyX7_ok nmX7 0 6 [wO wg 7 [.ref wg_plane, .ref wg_ways, .ref wg_slotOf, .ref wg_here, .ref wg_there, .int (zI (wg_hereCount)), .int (zI (wg_thereCount + 1)), .ref wg_now, .ref wg_then, .int (zI (wg_weight)), .int (zI (wg_limit)), .int (zI (wg_reach)), .int (zI (wg_tallying)), .int (zI (wg_greatest))], wI wg_slotOf (zK C).2.1 4489 so, wI wg_there (zK C).2.1 1849 (zu te wg_thereCount c), wJ wg_then (zK C).2.2.1 223729 q] dX7_slotFor_78 rfl rfl (by decide) (List.mem_of_getElem? (i := 2) rfl) rfl rfl rfl rfl (Nat.le_of_ble_eq_true rfl) rfl ?_
          refine z_aload_n hC 0 dX7_slotFor_81 rfl rfl ?_
          refine z_get hC (T := TX7) (N := 14) hinX7 0 2 dX7_slotFor_82 rfl rfl (by decide) (List.mem_of_getElem? (i := 1) rfl) rfl rfl ?_
          refine z_iload_n hC 1 dX7_slotFor_85 rfl rfl ?_
          refine z_aload_n hC 0 dX7_slotFor_86 rfl rfl ?_
          refine z_get hC (T := TX7) (N := 14) hinX7 0 6 dX7_slotFor_87 rfl rfl (by decide) (List.mem_of_getElem? (i := 2) rfl) rfl rfl ?_
          refine z_iast hC 1 [wO wg 7 [.ref wg_plane, .ref wg_ways, .ref wg_slotOf, .ref wg_here, .ref wg_there, .int (zI (wg_hereCount)), .int (zI (wg_thereCount + 1)), .ref wg_now, .ref wg_then, .int (zI (wg_weight)), .int (zI (wg_limit)), .int (zI (wg_reach)), .int (zI (wg_tallying)), .int (zI (wg_greatest))], wI wg_slotOf (zK C).2.1 4489 (zu so c (wg_thereCount + 1)), wI wg_there (zK C).2.1 1849 (zu te wg_thereCount c), wJ wg_then (zK C).2.2.1 223729 q] dX7_slotFor_90 rfl (by omega) rfl ?_
          refine z_aload_n hC 0 dX7_slotFor_91 rfl rfl ?_
          refine z_get hC (T := TX7) (N := 14) hinX7 0 2 dX7_slotFor_92 rfl rfl (by decide) (List.mem_of_getElem? (i := 1) rfl) rfl rfl ?_
          refine z_iload_n hC 1 dX7_slotFor_95 rfl rfl ?_
          refine z_iald hC 1 dX7_slotFor_96 rfl (by omega) ?_
          refine z_iconst hC dX7_slotFor_97 ?_
          refine z_isub hC (((zu so c (wg_thereCount + 1)) c) - 1) dX7_slotFor_98 rfl ?_
          exact z_iret hC hR dX7_slotFor_99 (Nat.le_of_ble_eq_true rfl) (Nat.le_of_ble_eq_true rfl) ⟨((zu so c (wg_thereCount + 1)) c) - 1, zu so c (wg_thereCount + 1), zu te wg_thereCount c, q, wg_thereCount + 1, rfl, rfl, by first | exact Or.inl ⟨by omega, rfl, rfl, rfl, rfl, rfl⟩ | exact Or.inr ⟨by omega, rfl, by unfold zu; rw [if_pos rfl]; omega, rfl, rfl, fun j => by rw [vq j, show i = 121 by omega]⟩⟩
        · skip
          refine z_aload_n hC 0 dX7_slotFor_50 rfl rfl ?_
          refine z_get hC (T := TX7) (N := 14) hinX7 0 8 dX7_slotFor_51 rfl rfl (by decide) (List.mem_of_getElem? (i := 4) rfl) rfl rfl ?_
          refine z_aload_n hC 0 dX7_slotFor_54 rfl rfl ?_
          refine z_get hC (T := TX7) (N := 14) hinX7 0 6 dX7_slotFor_55 rfl rfl (by decide) (List.mem_of_getElem? (i := 2) rfl) rfl rfl ?_
          refine z_bipush hC dX7_slotFor_58 (by decide) ?_
          refine z_imul hC (wg_thereCount * 121) dX7_slotFor_60 rfl ?_
          refine z_iload_n hC 2 dX7_slotFor_61 rfl rfl ?_
          refine z_iadd hC ((wg_thereCount * 121) + i) dX7_slotFor_62 rfl ?_
          refine z_lconst (v := 0) hC dX7_slotFor_63 rfl ?_
          refine z_last hC 3 [wO wg 7 [.ref wg_plane, .ref wg_ways, .ref wg_slotOf, .ref wg_here, .ref wg_there, .int (zI (wg_hereCount)), .int (zI (wg_thereCount)), .ref wg_now, .ref wg_then, .int (zI (wg_weight)), .int (zI (wg_limit)), .int (zI (wg_reach)), .int (zI (wg_tallying)), .int (zI (wg_greatest))], wI wg_slotOf (zK C).2.1 4489 so, wI wg_there (zK C).2.1 1849 (zu te wg_thereCount c), wJ wg_then (zK C).2.2.1 223729 (zu q ((wg_thereCount * 121) + i) 0)] dX7_slotFor_64 rfl (by omega) rfl ?_
          refine z_iinc (a := i) (v := 1) (r := i + 1) hC 2 [(2, .int (zI (i + 1))), (0, .ref wg), (1, .int (zI (c)))] dX7_slotFor_65 rfl rfl (by decide) rfl ?_
          refine z_goto hC 44 dX7_slotFor_68 (by decide) ?_
          refine z_lv (lv' := [(0, .ref wg), (1, .int (zI (c))), (2, .int (zI (i + 1)))]) [1, 2, 0] rfl ?_
          exact ih44_6 (i + 1) (zu q ((wg_thereCount * 121) + i) 0) (by omega) (by intro j; unfold zu; by_cases e : j = wg_thereCount * 121 + i; (rw [if_pos e, if_pos (by omega)]); (rw [if_neg e, vq j]; by_cases e2 : wg_thereCount * 121 ≤ j ∧ j < wg_thereCount * 121 + i; (rw [if_pos e2, if_pos (by omega)]); (rw [if_neg e2, if_neg (by omega)]))) (by omega)
    exact lp44_5 _ 0 th (by omega) (by intro j; rw [if_neg (by omega)]) (Nat.lt_succ_self _)
