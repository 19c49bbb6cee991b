set_option maxHeartbeats 4000000 in
set_option maxRecDepth 100000 in
theorem c_X8_leastDivisor (l : Launch) (D : va_G) (K : ClassId × ClassId × ClassId × ClassId) (m : Int) (hm : 2 ≤ m ∧ m ≤ 17) : zMet l D K yX8_leastDivisor wsX8_leastDivisor ({ frames := 0, cells := 0, slots := 0, locals := 0 }) 0 0 [.int (zI (m))] [] (fun vr_ wr_ => ∃ (r : Int), vr_ = some (.int (zI (r))) ∧ wr_ = [] ∧ (r = lD m)) := by
  refine zMet_of (cc := cX8_leastDivisor) (nL := 2) (ret := (some .int)) (by decide) rfl (Nat.le_of_ble_eq_true rfl) ?_
  rintro C rfl rfl rfl hC hR
  show ZW C 0 0 [] [(0, .int (zI (m)))] 0 []
  refine z_iconst hC dX8_leastDivisor_0 ?_
  refine z_istore_n hC [(1, .int (zI (2))), (0, .int (zI (m)))] dX8_leastDivisor_1 rfl (by decide) rfl ?_
  refine z_iload_n hC 0 dX8_leastDivisor_2 rfl rfl ?_
  refine z_iload_n hC 0 dX8_leastDivisor_3 rfl rfl ?_
  refine z_imul hC (4) dX8_leastDivisor_4 (by decide) ?_
  refine z_iload_n hC 1 dX8_leastDivisor_5 rfl rfl ?_
  refine z_icgt hC 23 dX8_leastDivisor_6 (by decide) (by omega) (fun c_1 => ?_) (fun c_1 => ?_)
  · skip
    refine z_iload_n hC 1 dX8_leastDivisor_23 rfl rfl ?_
    exact z_iret hC hR dX8_leastDivisor_24 (Nat.le_of_ble_eq_true rfl) (Nat.le_of_ble_eq_true rfl) ⟨m, rfl, rfl, by unfold lD; (repeat' split) <;> omega⟩
  · skip
    refine z_iload_n hC 1 dX8_leastDivisor_9 rfl rfl ?_
    refine z_iload_n hC 0 dX8_leastDivisor_10 rfl rfl ?_
    refine z_irem hC (m % 2) dX8_leastDivisor_11 (by omega) rfl ?_
    refine z_ifne hC 17 dX8_leastDivisor_12 (by decide) (by omega) (fun c_2 => ?_) (fun c_2 => ?_)
    · skip
      refine z_iinc (a := 2) (v := 1) (r := 3) hC 0 [(1, .int (zI (3))), (0, .int (zI (m)))] dX8_leastDivisor_17 rfl (by decide) (by decide) rfl ?_
      refine z_goto hC 2 dX8_leastDivisor_20 (by decide) ?_
      refine z_iload_n hC 0 dX8_leastDivisor_2 rfl rfl ?_
      refine z_iload_n hC 0 dX8_leastDivisor_3 rfl rfl ?_
      refine z_imul hC (9) dX8_leastDivisor_4 (by decide) ?_
      refine z_iload_n hC 1 dX8_leastDivisor_5 rfl rfl ?_
      refine z_icgt hC 23 dX8_leastDivisor_6 (by decide) (by omega) (fun c_3 => ?_) (fun c_3 => ?_)
      · skip
        refine z_iload_n hC 1 dX8_leastDivisor_23 rfl rfl ?_
        exact z_iret hC hR dX8_leastDivisor_24 (Nat.le_of_ble_eq_true rfl) (Nat.le_of_ble_eq_true rfl) ⟨m, rfl, rfl, by unfold lD; (repeat' split) <;> omega⟩
      · skip
        refine z_iload_n hC 1 dX8_leastDivisor_9 rfl rfl ?_
        refine z_iload_n hC 0 dX8_leastDivisor_10 rfl rfl ?_
        refine z_irem hC (m % 3) dX8_leastDivisor_11 (by omega) rfl ?_
        refine z_ifne hC 17 dX8_leastDivisor_12 (by decide) (by omega) (fun c_4 => ?_) (fun c_4 => ?_)
        · skip
          refine z_iinc (a := 3) (v := 1) (r := 4) hC 0 [(1, .int (zI (4))), (0, .int (zI (m)))] dX8_leastDivisor_17 rfl (by decide) (by decide) rfl ?_
          refine z_goto hC 2 dX8_leastDivisor_20 (by decide) ?_
          refine z_iload_n hC 0 dX8_leastDivisor_2 rfl rfl ?_
          refine z_iload_n hC 0 dX8_leastDivisor_3 rfl rfl ?_
          refine z_imul hC (16) dX8_leastDivisor_4 (by decide) ?_
          refine z_iload_n hC 1 dX8_leastDivisor_5 rfl rfl ?_
          refine z_icgt hC 23 dX8_leastDivisor_6 (by decide) (by omega) (fun c_5 => ?_) (fun c_5 => ?_)
          · skip
            refine z_iload_n hC 1 dX8_leastDivisor_23 rfl rfl ?_
            exact z_iret hC hR dX8_leastDivisor_24 (Nat.le_of_ble_eq_true rfl) (Nat.le_of_ble_eq_true rfl) ⟨m, rfl, rfl, by unfold lD; (repeat' split) <;> omega⟩
          · skip
            refine z_iload_n hC 1 dX8_leastDivisor_9 rfl rfl ?_
            refine z_iload_n hC 0 dX8_leastDivisor_10 rfl rfl ?_
            refine z_irem hC (m % 4) dX8_leastDivisor_11 (by omega) rfl ?_
            refine z_ifne hC 17 dX8_leastDivisor_12 (by decide) (by omega) (fun c_6 => ?_) (fun c_6 => by exfalso; omega)
            refine z_iinc (a := 4) (v := 1) (r := 5) hC 0 [(1, .int (zI (5))), (0, .int (zI (m)))] dX8_leastDivisor_17 rfl (by decide) (by decide) rfl ?_
            refine z_goto hC 2 dX8_leastDivisor_20 (by decide) ?_
            refine z_iload_n hC 0 dX8_leastDivisor_2 rfl rfl ?_
            refine z_iload_n hC 0 dX8_leastDivisor_3 rfl rfl ?_
            refine z_imul hC (25) dX8_leastDivisor_4 (by decide) ?_
            refine z_iload_n hC 1 dX8_leastDivisor_5 rfl rfl ?_
            refine z_icgt hC 23 dX8_leastDivisor_6 (by decide) (by omega) (fun c_7 => ?_) (fun c_7 => by exfalso; omega)
            refine z_iload_n hC 1 dX8_leastDivisor_23 rfl rfl ?_
            exact z_iret hC hR dX8_leastDivisor_24 (Nat.le_of_ble_eq_true rfl) (Nat.le_of_ble_eq_true rfl) ⟨m, rfl, rfl, by unfold lD; (repeat' split) <;> omega⟩
        · skip
          refine z_iload_n hC 0 dX8_leastDivisor_15 rfl rfl ?_
          exact z_iret hC hR dX8_leastDivisor_16 (Nat.le_of_ble_eq_true rfl) (Nat.le_of_ble_eq_true rfl) ⟨3, rfl, rfl, by unfold lD; (repeat' split) <;> omega⟩
    · skip
      refine z_iload_n hC 0 dX8_leastDivisor_15 rfl rfl ?_
      exact z_iret hC hR dX8_leastDivisor_16 (Nat.le_of_ble_eq_true rfl) (Nat.le_of_ble_eq_true rfl) ⟨2, rfl, rfl, by unfold lD; (repeat' split) <;> omega⟩

set_option maxHeartbeats 4000000 in
set_option maxRecDepth 100000 in
theorem c_X8_heaped (l : Launch) (D : va_G) (K : ClassId × ClassId × ClassId × ClassId) (x x_sheets x_plane x_kin x_heights x_levels x_words x_shown x_powers : Nat) (a bb c x_shownCount x_status : Int) (pw : Int → Int) (x_ways x_weigher : Value) (habc : 0 ≤ a ∧ a ≤ 6 ∧ 0 ≤ bb ∧ bb ≤ 6 ∧ 0 ≤ c ∧ c ≤ 6) : zMet l D K yX8_heaped wsX8_heaped ({ frames := 1, cells := 0, slots := 0, locals := 21 }) 0 0 [.ref x, .int (zI (a)), .int (zI (bb)), .int (zI (c))] [wO x 8 [.ref x_sheets, .ref x_plane, .ref x_kin, .ref x_heights, .ref x_levels, .ref x_words, .ref x_shown, .ref x_powers, .int (zI (x_shownCount)), .int (zI (x_status)), x_ways, x_weigher], wI x_powers K.2.1 18 pw] (fun vr_ wr_ => ∃ (r : Int), vr_ = some (.long (zL (r))) ∧ wr_ = [wO x 8 [.ref x_sheets, .ref x_plane, .ref x_kin, .ref x_heights, .ref x_levels, .ref x_words, .ref x_shown, .ref x_powers, .int (zI (x_shownCount)), .int (zI (x_status)), x_ways, x_weigher]] ∧ (r = boxP a bb c)) := by
  refine zMet_of (cc := cX8_heaped) (nL := 8) (ret := (some .long)) (by decide) rfl (Nat.le_of_ble_eq_true rfl) ?_
  rintro C rfl rfl rfl hC hR
  have hinX8 : ∀ w ∈ u_ws RX8 TX8 12, w ∈ wsX8_heaped := by decide +kernel
  show ZW C 0 0 [wO x 8 [.ref x_sheets, .ref x_plane, .ref x_kin, .ref x_heights, .ref x_levels, .ref x_words, .ref x_shown, .ref x_powers, .int (zI (x_shownCount)), .int (zI (x_status)), x_ways, x_weigher], wI x_powers (zK C).2.1 18 pw] [(0, .ref x), (1, .int (zI (a))), (2, .int (zI (bb))), (3, .int (zI (c)))] 0 []
  refine z_iconst hC dX8_heaped_0 ?_
  refine z_istore hC [(4, .int (zI (0))), (0, .ref x), (1, .int (zI (a))), (2, .int (zI (bb))), (3, .int (zI (c)))] dX8_heaped_1 (by decide) rfl ?_
  refine z_lv (lv' := [(0, .ref x), (1, .int (zI (a))), (2, .int (zI (bb))), (3, .int (zI (c))), (4, .int (zI (0)))]) [1, 2, 3, 4, 0] rfl ?_
  have lp3_1 : ∀ (f3 : Nat) (m0 : Int) (q : Int → Int), (0 ≤ m0 ∧ m0 ≤ 18) → (∀ j, 0 ≤ j → j < m0 → q j = 0) → (18 - m0).toNat < f3 → ZW C 0 0 [wO x 8 [.ref x_sheets, .ref x_plane, .ref x_kin, .ref x_heights, .ref x_levels, .ref x_words, .ref x_shown, .ref x_powers, .int (zI (x_shownCount)), .int (zI (x_status)), x_ways, x_weigher], wI x_powers (zK C).2.1 18 q] [(0, .ref x), (1, .int (zI (a))), (2, .int (zI (bb))), (3, .int (zI (c))), (4, .int (zI (m0)))] 3 [] := by
    intro f3
    induction f3 with
    | zero => intro _ _ _ _ hf; exact absurd hf (Nat.not_lt_zero _)
    | succ f3 ih3_2 =>
      intro m0 q vm vq hf_3
      refine z_iload hC 4 dX8_heaped_3 rfl ?_
      refine z_aload_n hC 0 dX8_heaped_5 rfl rfl ?_
      refine z_get hC (T := TX8) (N := 12) hinX8 0 7 dX8_heaped_6 rfl rfl (by decide) (List.mem_of_getElem? (i := 1) rfl) rfl rfl ?_
      refine z_alenI hC 1 dX8_heaped_9 rfl ?_
      show ZW C 0 0 [wO x 8 [.ref x_sheets, .ref x_plane, .ref x_kin, .ref x_heights, .ref x_levels, .ref x_words, .ref x_shown, .ref x_powers, .int (zI (x_shownCount)), .int (zI (x_status)), x_ways, x_weigher], wI x_powers (zK C).2.1 18 q] [(0, .ref x), (1, .int (zI (a))), (2, .int (zI (bb))), (3, .int (zI (c))), (4, .int (zI (m0)))] 10 [.int (zI (18)), .int (zI (m0))]
      refine z_icge hC 27 dX8_heaped_10 (by decide) (by omega) (fun c_4 => ?_) (fun c_4 => ?_)
      · skip
        refine z_iconst hC dX8_heaped_27 ?_
        refine z_istore hC [(4, .int (zI (1))), (0, .ref x), (1, .int (zI (a))), (2, .int (zI (bb))), (3, .int (zI (c)))] dX8_heaped_28 (by decide) rfl ?_
        refine z_lv (lv' := [(0, .ref x), (1, .int (zI (a))), (2, .int (zI (bb))), (3, .int (zI (c))), (4, .int (zI (1)))]) [1, 2, 3, 4, 0] rfl ?_
        have lp30_5 : ∀ (f7 : Nat) (i : Int) (q2 : Int → Int), (1 ≤ i ∧ i ≤ a + 1) → (∀ m, 0 ≤ m → m < 18 → q2 m = sumZ (fun i => bxr bb c (i + 1) m) (i - 1).toNat) → (a + 1 - i).toNat < f7 → ZW C 0 0 [wO x 8 [.ref x_sheets, .ref x_plane, .ref x_kin, .ref x_heights, .ref x_levels, .ref x_words, .ref x_shown, .ref x_powers, .int (zI (x_shownCount)), .int (zI (x_status)), x_ways, x_weigher], wI x_powers (zK C).2.1 18 q2] [(0, .ref x), (1, .int (zI (a))), (2, .int (zI (bb))), (3, .int (zI (c))), (4, .int (zI (i)))] 30 [] := by
          intro f7
          induction f7 with
          | zero => intro _ _ _ _ hf; exact absurd hf (Nat.not_lt_zero _)
          | succ f7 ih30_6 =>
            intro i q2 vi vb hf_30
            refine z_iload hC 4 dX8_heaped_30 rfl ?_
            refine z_iload_n hC 1 dX8_heaped_32 rfl rfl ?_
            refine z_icgt hC 91 dX8_heaped_33 (by decide) (by omega) (fun c_8 => ?_) (fun c_8 => ?_)
            · skip
              refine z_lconst (v := 1) hC dX8_heaped_91 rfl ?_
              refine z_lstore hC [(4, .long (zL (1))), (0, .ref x), (1, .int (zI (a))), (2, .int (zI (bb))), (3, .int (zI (c)))] dX8_heaped_92 (by decide) rfl ?_
              refine z_aload_n hC 1 dX8_heaped_94 rfl rfl ?_
              refine z_get hC (T := TX8) (N := 12) hinX8 0 7 dX8_heaped_95 rfl rfl (by decide) (List.mem_of_getElem? (i := 1) rfl) rfl rfl ?_
              refine z_alenI hC 1 dX8_heaped_98 rfl ?_
              show ZW C 0 0 [wO x 8 [.ref x_sheets, .ref x_plane, .ref x_kin, .ref x_heights, .ref x_levels, .ref x_words, .ref x_shown, .ref x_powers, .int (zI (x_shownCount)), .int (zI (x_status)), x_ways, x_weigher], wI x_powers (zK C).2.1 18 q2] [(4, .long (zL (1))), (0, .ref x), (1, .int (zI (a))), (2, .int (zI (bb))), (3, .int (zI (c)))] 99 [.int (zI (18))]
              refine z_iconst hC dX8_heaped_99 ?_
              refine z_isub hC (17) dX8_heaped_100 (by decide) ?_
              refine z_istore hC [(6, .int (zI (17))), (4, .long (zL (1))), (0, .ref x), (1, .int (zI (a))), (2, .int (zI (bb))), (3, .int (zI (c)))] dX8_heaped_101 (by decide) rfl ?_
              refine z_lv (lv' := [(0, .ref x), (1, .int (zI (a))), (2, .int (zI (bb))), (3, .int (zI (c))), (4, .long (zL (1))), (6, .int (zI (17)))]) [2, 3, 4, 5, 1, 0] rfl ?_
              have lp103_9 : ∀ (f11 : Nat) (m : Int) (q4 : Int → Int), (1 ≤ m ∧ m ≤ 17) → (∀ j, 0 ≤ j → j < 18 → q4 j = bxI a bb c m j) → (m).toNat < f11 → ZW C 0 0 [wO x 8 [.ref x_sheets, .ref x_plane, .ref x_kin, .ref x_heights, .ref x_levels, .ref x_words, .ref x_shown, .ref x_powers, .int (zI (x_shownCount)), .int (zI (x_status)), x_ways, x_weigher], wI x_powers (zK C).2.1 18 q4] [(0, .ref x), (1, .int (zI (a))), (2, .int (zI (bb))), (3, .int (zI (c))), (4, .long (zL (1))), (6, .int (zI (m)))] 103 [] := by
                intro f11
                induction f11 with
                | zero => intro _ _ _ _ hf; exact absurd hf (Nat.not_lt_zero _)
                | succ f11 ih103_10 =>
                  intro m q4 vm2 vd hf_103
                  refine z_iload hC 5 dX8_heaped_103 rfl ?_
                  refine z_iconst hC dX8_heaped_105 ?_
                  refine z_iclt hC 174 dX8_heaped_106 (by decide) (by omega) (fun c_12 => ?_) (fun c_12 => ?_)
                  · skip
                    have hm1 : m = 1 := by omega
                    have vd1 : ∀ j, 0 ≤ j → j < 18 → q4 j = bxI a bb c 1 j := by rw [hm1] at vd; exact vd
                    have hbr := bxI_r habc
                    refine z_iconst hC dX8_heaped_174 ?_
                    refine z_istore hC [(6, .int (zI (2))), (0, .ref x), (1, .int (zI (a))), (2, .int (zI (bb))), (3, .int (zI (c))), (4, .long (zL (1)))] dX8_heaped_175 (by decide) rfl ?_
                    refine z_lv (lv' := [(0, .ref x), (1, .int (zI (a))), (2, .int (zI (bb))), (3, .int (zI (c))), (4, .long (zL (1))), (6, .int (zI (2)))]) [1, 2, 3, 4, 5, 0] rfl ?_
                    have lp177_13 : ∀ (f15 : Nat) (pr : Int) (m2 : Int), (2 ≤ m2 ∧ m2 ≤ 18) → (pr = prI (bxI a bb c 1) (m2 - 2).toNat) → (18 - m2).toNat < f15 → ZW C 0 0 [wO x 8 [.ref x_sheets, .ref x_plane, .ref x_kin, .ref x_heights, .ref x_levels, .ref x_words, .ref x_shown, .ref x_powers, .int (zI (x_shownCount)), .int (zI (x_status)), x_ways, x_weigher], wI x_powers (zK C).2.1 18 q4] [(0, .ref x), (1, .int (zI (a))), (2, .int (zI (bb))), (3, .int (zI (c))), (4, .long (zL (pr))), (6, .int (zI (m2)))] 177 [] := by
                      intro f15
                      induction f15 with
                      | zero => intro _ _ _ _ hf; exact absurd hf (Nat.not_lt_zero _)
                      | succ f15 ih177_14 =>
                        intro pr m2 vm3 vp hf_177
                        refine z_iload hC 5 dX8_heaped_177 rfl ?_
                        refine z_aload_n hC 0 dX8_heaped_179 rfl rfl ?_
                        refine z_get hC (T := TX8) (N := 12) hinX8 0 7 dX8_heaped_180 rfl rfl (by decide) (List.mem_of_getElem? (i := 1) rfl) rfl rfl ?_
                        refine z_alenI hC 1 dX8_heaped_183 rfl ?_
                        show ZW C 0 0 [wO x 8 [.ref x_sheets, .ref x_plane, .ref x_kin, .ref x_heights, .ref x_levels, .ref x_words, .ref x_shown, .ref x_powers, .int (zI (x_shownCount)), .int (zI (x_status)), x_ways, x_weigher], wI x_powers (zK C).2.1 18 q4] [(0, .ref x), (1, .int (zI (a))), (2, .int (zI (bb))), (3, .int (zI (c))), (4, .long (zL (pr))), (6, .int (zI (m2)))] 184 [.int (zI (18)), .int (zI (m2))]
                        refine z_icge hC 222 dX8_heaped_184 (by decide) (by omega) (fun c_16 => ?_) (fun c_16 => ?_)
                        · skip
                          refine z_lload hC 4 dX8_heaped_222 rfl ?_
                          refine z_ws (ws' := [wO x 8 [.ref x_sheets, .ref x_plane, .ref x_kin, .ref x_heights, .ref x_levels, .ref x_words, .ref x_shown, .ref x_powers, .int (zI (x_shownCount)), .int (zI (x_status)), x_ways, x_weigher]]) [0] rfl rfl ?_
                          exact z_lret hC hR dX8_heaped_224 (Nat.le_of_ble_eq_true rfl) (Nat.le_of_ble_eq_true rfl) ⟨pr, rfl, rfl, by unfold boxP; rw [vp, show m2 - 2 = 16 by omega]; rfl⟩
                        · skip
                          refine z_iconst hC dX8_heaped_187 ?_
                          refine z_istore hC [(7, .int (zI (0))), (0, .ref x), (1, .int (zI (a))), (2, .int (zI (bb))), (3, .int (zI (c))), (4, .long (zL (pr))), (6, .int (zI (m2)))] dX8_heaped_188 (by decide) rfl ?_
                          refine z_lv (lv' := [(0, .ref x), (1, .int (zI (a))), (2, .int (zI (bb))), (3, .int (zI (c))), (4, .long (zL (pr))), (6, .int (zI (m2))), (7, .int (zI (0)))]) [1, 2, 3, 4, 5, 6, 0] rfl ?_
                          have lp190_17 : ∀ (f19 : Nat) (pr2 : Int) (i2 : Int), (0 ≤ i2 ∧ (i2 = 0 ∨ i2 ≤ q4 m2)) → (pr2 = prI (bxI a bb c 1) (m2 - 2).toNat * m2 ^ i2.toNat) → (q4 m2 - i2).toNat < f19 → ZW C 0 0 [wO x 8 [.ref x_sheets, .ref x_plane, .ref x_kin, .ref x_heights, .ref x_levels, .ref x_words, .ref x_shown, .ref x_powers, .int (zI (x_shownCount)), .int (zI (x_status)), x_ways, x_weigher], wI x_powers (zK C).2.1 18 q4] [(0, .ref x), (1, .int (zI (a))), (2, .int (zI (bb))), (3, .int (zI (c))), (4, .long (zL (pr2))), (6, .int (zI (m2))), (7, .int (zI (i2)))] 190 [] := by
                            intro f19
                            induction f19 with
                            | zero => intro _ _ _ _ hf; exact absurd hf (Nat.not_lt_zero _)
                            | succ f19 ih190_18 =>
                              intro pr2 i2 vi2 vp2 hf_190
                              refine z_iload hC 6 dX8_heaped_190 rfl ?_
                              refine z_aload_n hC 0 dX8_heaped_192 rfl rfl ?_
                              refine z_get hC (T := TX8) (N := 12) hinX8 0 7 dX8_heaped_193 rfl rfl (by decide) (List.mem_of_getElem? (i := 1) rfl) rfl rfl ?_
                              refine z_iload hC 5 dX8_heaped_196 rfl ?_
                              refine z_iald hC 1 dX8_heaped_198 rfl (by omega) ?_
                              have hq := vd1 m2 (by omega) (by omega)
                              have hq2 := hbr m2
                              refine z_icge hC 216 dX8_heaped_199 (by decide) (by omega) (fun c_22 => ?_) (fun c_22 => ?_)
                              · skip
                                refine z_iinc (a := m2) (v := 1) (r := m2 + 1) hC 5 [(6, .int (zI (m2 + 1))), (0, .ref x), (1, .int (zI (a))), (2, .int (zI (bb))), (3, .int (zI (c))), (4, .long (zL (pr2))), (7, .int (zI (i2)))] dX8_heaped_216 rfl rfl (by decide) rfl ?_
                                refine z_goto hC 177 dX8_heaped_219 (by decide) ?_
                                refine z_lv (lv' := [(0, .ref x), (1, .int (zI (a))), (2, .int (zI (bb))), (3, .int (zI (c))), (4, .long (zL (pr2))), (6, .int (zI (m2 + 1)))]) [1, 2, 3, 4, 5, 0] rfl ?_
                                exact ih177_14 pr2 (m2 + 1) (by omega) (by rw [prI_s (by omega), vp2, show i2.toNat = (bxI a bb c 1 m2).toNat by rw [← vd1 m2 (by omega) (by omega)]; omega]) (by omega)
                              · skip
                                refine z_lload hC 4 dX8_heaped_202 rfl ?_
                                refine z_iload hC 5 dX8_heaped_204 rfl ?_
                                refine z_i2l hC dX8_heaped_206 (by omega) ?_
                                refine z_lmul hC (pr2 * m2) dX8_heaped_207 rfl ?_
                                refine z_lstore hC [(4, .long (zL (pr2 * m2))), (0, .ref x), (1, .int (zI (a))), (2, .int (zI (bb))), (3, .int (zI (c))), (6, .int (zI (m2))), (7, .int (zI (i2)))] dX8_heaped_208 (by decide) rfl ?_
                                refine z_iinc (a := i2) (v := 1) (r := i2 + 1) hC 6 [(7, .int (zI (i2 + 1))), (4, .long (zL (pr2 * m2))), (0, .ref x), (1, .int (zI (a))), (2, .int (zI (bb))), (3, .int (zI (c))), (6, .int (zI (m2)))] dX8_heaped_210 rfl rfl (by decide) rfl ?_
                                refine z_goto hC 190 dX8_heaped_213 (by decide) ?_
                                refine z_lv (lv' := [(0, .ref x), (1, .int (zI (a))), (2, .int (zI (bb))), (3, .int (zI (c))), (4, .long (zL (pr2 * m2))), (6, .int (zI (m2))), (7, .int (zI (i2 + 1)))]) [2, 3, 4, 5, 1, 6, 0] rfl ?_
                                exact ih190_18 (pr2 * m2) (i2 + 1) (by omega) (by rw [← pow_s (by omega), ← vp2]) (by omega)
                          exact lp190_17 _ pr 0 (by omega) (by rw [← vp, show (0 : Int).toNat = 0 by rfl, Int.pow_zero, Int.mul_one]) (Nat.lt_succ_self _)
                    exact lp177_13 _ 1 2 (by omega) (by rfl) (Nat.lt_succ_self _)
                  · skip
                    refine z_iload hC 5 dX8_heaped_109 rfl ?_
                    refine z_callS hC [.int (zI (m))] 1 dX8_heaped_111 (c_X8_leastDivisor (zl C) (zD C) (zK C) m (by first | assumption | omega)) gX8_heaped_X8_leastDivisor rfl rfl rfl ⟨by decide, by decide, by decide +kernel⟩ ⟨(Nat.le_of_ble_eq_true rfl), (Nat.le_of_ble_eq_true rfl)⟩ rfl [] [0, 1] [wO x 8 [.ref x_sheets, .ref x_plane, .ref x_kin, .ref x_heights, .ref x_levels, .ref x_words, .ref x_shown, .ref x_powers, .int (zI (x_shownCount)), .int (zI (x_status)), x_ways, x_weigher], wI x_powers (zK C).2.1 18 q4] [] rfl rfl rfl rfl rfl (by decide) (Nat.le_of_ble_eq_true rfl) ⟨(Nat.le_of_ble_eq_true rfl), (Nat.le_of_ble_eq_true rfl)⟩ ?_
                    rintro v_ w_ ⟨r_23, rfl, rfl, rfl⟩
                    show ZW C 0 0 [wO x 8 [.ref x_sheets, .ref x_plane, .ref x_kin, .ref x_heights, .ref x_levels, .ref x_words, .ref x_shown, .ref x_powers, .int (zI (x_shownCount)), .int (zI (x_status)), x_ways, x_weigher], wI x_powers (zK C).2.1 18 q4] [(0, .ref x), (1, .int (zI (a))), (2, .int (zI (bb))), (3, .int (zI (c))), (4, .long (zL (1))), (6, .int (zI (m)))] 114 [.int (zI (lD m))]
                    have hld := lD_r (m := m) (by omega)
                    refine z_istore hC [(7, .int (zI (lD m))), (0, .ref x), (1, .int (zI (a))), (2, .int (zI (bb))), (3, .int (zI (c))), (4, .long (zL (1))), (6, .int (zI (m)))] dX8_heaped_114 (by decide) rfl ?_
                    refine z_iload hC 0 dX8_heaped_116 rfl ?_
                    refine z_iload hC 6 dX8_heaped_118 rfl ?_
                    refine z_icge hC 168 dX8_heaped_120 (by decide) (by omega) (fun c_25 => ?_) (fun c_25 => ?_)
                    · skip
                      refine z_iinc (a := m) (v := -1) (r := m - 1) hC 6 [(6, .int (zI (m - 1))), (7, .int (zI (lD m))), (0, .ref x), (1, .int (zI (a))), (2, .int (zI (bb))), (3, .int (zI (c))), (4, .long (zL (1)))] dX8_heaped_168 rfl (by omega) (by decide) rfl ?_
                      refine z_goto hC 103 dX8_heaped_171 (by decide) ?_
                      refine z_lv (lv' := [(0, .ref x), (1, .int (zI (a))), (2, .int (zI (bb))), (3, .int (zI (c))), (4, .long (zL (1))), (6, .int (zI (m - 1)))]) [2, 3, 4, 5, 6, 0] rfl ?_
                      exact ih103_10 (m - 1) q4 (by omega) (by intro j h0 h1; first | exact bxI_yes (by omega) (by omega) vd j h0 h1 | (rw [bxI_no (by omega) (by omega)]; exact vd j h0 h1)) (by omega)
                    · skip
                      refine z_aload_n hC 1 dX8_heaped_123 rfl rfl ?_
                      refine z_get hC (T := TX8) (N := 12) hinX8 0 7 dX8_heaped_124 rfl rfl (by decide) (List.mem_of_getElem? (i := 1) rfl) rfl rfl ?_
                      refine z_iload hC 0 dX8_heaped_127 rfl ?_
                      refine z_dup2 hC dX8_heaped_129 rfl rfl ?_
                      refine z_iald hC 1 dX8_heaped_130 rfl (by omega) ?_
                      refine z_aload_n hC 1 dX8_heaped_131 rfl rfl ?_
                      refine z_get hC (T := TX8) (N := 12) hinX8 0 7 dX8_heaped_132 rfl rfl (by decide) (List.mem_of_getElem? (i := 1) rfl) rfl rfl ?_
                      refine z_iload hC 6 dX8_heaped_135 rfl ?_
                      refine z_iald hC 1 dX8_heaped_137 rfl (by omega) ?_
                      refine z_iadd hC ((q4 (lD m)) + (q4 m)) dX8_heaped_138 rfl ?_
                      refine z_iast hC 1 [wO x 8 [.ref x_sheets, .ref x_plane, .ref x_kin, .ref x_heights, .ref x_levels, .ref x_words, .ref x_shown, .ref x_powers, .int (zI (x_shownCount)), .int (zI (x_status)), x_ways, x_weigher], wI x_powers (zK C).2.1 18 (zu q4 (lD m) ((q4 (lD m)) + (q4 m)))] dX8_heaped_139 rfl (by omega) rfl ?_
                      refine z_aload_n hC 1 dX8_heaped_140 rfl rfl ?_
                      refine z_get hC (T := TX8) (N := 12) hinX8 0 7 dX8_heaped_141 rfl rfl (by decide) (List.mem_of_getElem? (i := 1) rfl) rfl rfl ?_
                      refine z_iload hC 6 dX8_heaped_144 rfl ?_
                      refine z_iload hC 0 dX8_heaped_146 rfl ?_
                      refine z_idiv hC (m / (lD m)) dX8_heaped_148 (by omega) rfl ?_
                      refine z_dup2 hC dX8_heaped_149 rfl rfl ?_
                      refine z_iald hC 1 dX8_heaped_150 rfl (by omega) ?_
                      refine z_aload_n hC 1 dX8_heaped_151 rfl rfl ?_
                      refine z_get hC (T := TX8) (N := 12) hinX8 0 7 dX8_heaped_152 rfl rfl (by decide) (List.mem_of_getElem? (i := 1) rfl) rfl rfl ?_
                      refine z_iload hC 6 dX8_heaped_155 rfl ?_
                      refine z_iald hC 1 dX8_heaped_157 rfl (by omega) ?_
                      refine z_iadd hC (((zu q4 (lD m) ((q4 (lD m)) + (q4 m))) (m / (lD m))) + ((zu q4 (lD m) ((q4 (lD m)) + (q4 m))) m)) dX8_heaped_158 rfl ?_
                      refine z_iast hC 1 [wO x 8 [.ref x_sheets, .ref x_plane, .ref x_kin, .ref x_heights, .ref x_levels, .ref x_words, .ref x_shown, .ref x_powers, .int (zI (x_shownCount)), .int (zI (x_status)), x_ways, x_weigher], wI x_powers (zK C).2.1 18 (zu (zu q4 (lD m) ((q4 (lD m)) + (q4 m))) (m / (lD m)) (((zu q4 (lD m) ((q4 (lD m)) + (q4 m))) (m / (lD m))) + ((zu q4 (lD m) ((q4 (lD m)) + (q4 m))) m)))] dX8_heaped_159 rfl (by omega) rfl ?_
                      refine z_aload_n hC 1 dX8_heaped_160 rfl rfl ?_
                      refine z_get hC (T := TX8) (N := 12) hinX8 0 7 dX8_heaped_161 rfl rfl (by decide) (List.mem_of_getElem? (i := 1) rfl) rfl rfl ?_
                      refine z_iload hC 6 dX8_heaped_164 rfl ?_
                      refine z_iconst hC dX8_heaped_166 ?_
                      refine z_iast hC 1 [wO x 8 [.ref x_sheets, .ref x_plane, .ref x_kin, .ref x_heights, .ref x_levels, .ref x_words, .ref x_shown, .ref x_powers, .int (zI (x_shownCount)), .int (zI (x_status)), x_ways, x_weigher], wI x_powers (zK C).2.1 18 (zu (zu (zu q4 (lD m) ((q4 (lD m)) + (q4 m))) (m / (lD m)) (((zu q4 (lD m) ((q4 (lD m)) + (q4 m))) (m / (lD m))) + ((zu q4 (lD m) ((q4 (lD m)) + (q4 m))) m))) m 0)] dX8_heaped_167 rfl (by omega) rfl ?_
                      refine z_iinc (a := m) (v := -1) (r := m - 1) hC 6 [(6, .int (zI (m - 1))), (7, .int (zI (lD m))), (0, .ref x), (1, .int (zI (a))), (2, .int (zI (bb))), (3, .int (zI (c))), (4, .long (zL (1)))] dX8_heaped_168 rfl (by omega) (by decide) rfl ?_
                      refine z_goto hC 103 dX8_heaped_171 (by decide) ?_
                      refine z_lv (lv' := [(0, .ref x), (1, .int (zI (a))), (2, .int (zI (bb))), (3, .int (zI (c))), (4, .long (zL (1))), (6, .int (zI (m - 1)))]) [2, 3, 4, 5, 6, 0] rfl ?_
                      exact ih103_10 (m - 1) (zu (zu (zu q4 (lD m) ((q4 (lD m)) + (q4 m))) (m / (lD m)) (((zu q4 (lD m) ((q4 (lD m)) + (q4 m))) (m / (lD m))) + ((zu q4 (lD m) ((q4 (lD m)) + (q4 m))) m))) m 0) (by omega) (by intro j h0 h1; first | exact bxI_yes (by omega) (by omega) vd j h0 h1 | (rw [bxI_no (by omega) (by omega)]; exact vd j h0 h1)) (by omega)
              exact lp103_9 _ 17 q2 (by omega) (by intro j h0 h1; rw [bxI_17 h0 h1, vb j h0 h1, show i - 1 = a by omega]; rfl) (Nat.lt_succ_self _)
            · skip
              refine z_iconst hC dX8_heaped_36 ?_
              refine z_istore hC [(5, .int (zI (1))), (0, .ref x), (1, .int (zI (a))), (2, .int (zI (bb))), (3, .int (zI (c))), (4, .int (zI (i)))] dX8_heaped_37 (by decide) rfl ?_
              refine z_lv (lv' := [(0, .ref x), (1, .int (zI (a))), (2, .int (zI (bb))), (3, .int (zI (c))), (4, .int (zI (i))), (5, .int (zI (1)))]) [1, 2, 3, 4, 5, 0] rfl ?_
              have lp39_26 : ∀ (f28 : Nat) (jj : Int) (q3 : Int → Int), (1 ≤ jj ∧ jj ≤ bb + 1) → (∀ m, 0 ≤ m → m < 18 → q3 m = sumZ (fun i => bxr bb c (i + 1) m) (i - 1).toNat + sumZ (fun j => bxe c i (j + 1) m) (jj - 1).toNat) → (bb + 1 - jj).toNat < f28 → ZW C 0 0 [wO x 8 [.ref x_sheets, .ref x_plane, .ref x_kin, .ref x_heights, .ref x_levels, .ref x_words, .ref x_shown, .ref x_powers, .int (zI (x_shownCount)), .int (zI (x_status)), x_ways, x_weigher], wI x_powers (zK C).2.1 18 q3] [(0, .ref x), (1, .int (zI (a))), (2, .int (zI (bb))), (3, .int (zI (c))), (4, .int (zI (i))), (5, .int (zI (jj)))] 39 [] := by
                intro f28
                induction f28 with
                | zero => intro _ _ _ _ hf; exact absurd hf (Nat.not_lt_zero _)
                | succ f28 ih39_27 =>
                  intro jj q3 vj vc hf_39
                  refine z_iload hC 5 dX8_heaped_39 rfl ?_
                  refine z_iload_n hC 2 dX8_heaped_41 rfl rfl ?_
                  refine z_icgt hC 85 dX8_heaped_42 (by decide) (by omega) (fun c_29 => ?_) (fun c_29 => ?_)
                  · skip
                    refine z_iinc (a := i) (v := 1) (r := i + 1) hC 4 [(4, .int (zI (i + 1))), (0, .ref x), (1, .int (zI (a))), (2, .int (zI (bb))), (3, .int (zI (c))), (5, .int (zI (jj)))] dX8_heaped_85 rfl rfl (by decide) rfl ?_
                    refine z_goto hC 30 dX8_heaped_88 (by decide) ?_
                    refine z_lv (lv' := [(0, .ref x), (1, .int (zI (a))), (2, .int (zI (bb))), (3, .int (zI (c))), (4, .int (zI (i + 1)))]) [1, 2, 3, 4, 0] rfl ?_
                    exact ih30_6 (i + 1) q3 (by omega) (by intro m h0 h1; exact bq_rows (by omega) (by omega) (vc m h0 h1)) (by omega)
                  · skip
                    refine z_aload_n hC 0 dX8_heaped_45 rfl rfl ?_
                    refine z_get hC (T := TX8) (N := 12) hinX8 0 7 dX8_heaped_46 rfl rfl (by decide) (List.mem_of_getElem? (i := 1) rfl) rfl rfl ?_
                    refine z_iload hC 4 dX8_heaped_49 rfl ?_
                    refine z_iload hC 5 dX8_heaped_51 rfl ?_
                    refine z_iadd hC (i + jj) dX8_heaped_53 rfl ?_
                    refine z_iload_n hC 3 dX8_heaped_54 rfl rfl ?_
                    refine z_iadd hC ((i + jj) + c) dX8_heaped_55 rfl ?_
                    refine z_iconst hC dX8_heaped_56 ?_
                    refine z_isub hC (((i + jj) + c) - 1) dX8_heaped_57 rfl ?_
                    refine z_dup2 hC dX8_heaped_58 rfl rfl ?_
                    refine z_iald hC 1 dX8_heaped_59 rfl (by omega) ?_
                    refine z_iconst hC dX8_heaped_60 ?_
                    refine z_iadd hC ((q3 (((i + jj) + c) - 1)) + 1) dX8_heaped_61 rfl ?_
                    refine z_iast hC 1 [wO x 8 [.ref x_sheets, .ref x_plane, .ref x_kin, .ref x_heights, .ref x_levels, .ref x_words, .ref x_shown, .ref x_powers, .int (zI (x_shownCount)), .int (zI (x_status)), x_ways, x_weigher], wI x_powers (zK C).2.1 18 (zu q3 (((i + jj) + c) - 1) ((q3 (((i + jj) + c) - 1)) + 1))] dX8_heaped_62 rfl (by omega) rfl ?_
                    refine z_aload_n hC 0 dX8_heaped_63 rfl rfl ?_
                    refine z_get hC (T := TX8) (N := 12) hinX8 0 7 dX8_heaped_64 rfl rfl (by decide) (List.mem_of_getElem? (i := 1) rfl) rfl rfl ?_
                    refine z_iload hC 4 dX8_heaped_67 rfl ?_
                    refine z_iload hC 5 dX8_heaped_69 rfl ?_
                    refine z_iadd hC (i + jj) dX8_heaped_71 rfl ?_
                    refine z_iconst hC dX8_heaped_72 ?_
                    refine z_isub hC ((i + jj) - 1) dX8_heaped_73 rfl ?_
                    refine z_dup2 hC dX8_heaped_74 rfl rfl ?_
                    refine z_iald hC 1 dX8_heaped_75 rfl (by omega) ?_
                    refine z_iconst hC dX8_heaped_76 ?_
                    refine z_isub hC (((zu q3 (((i + jj) + c) - 1) ((q3 (((i + jj) + c) - 1)) + 1)) ((i + jj) - 1)) - 1) dX8_heaped_77 rfl ?_
                    refine z_iast hC 1 [wO x 8 [.ref x_sheets, .ref x_plane, .ref x_kin, .ref x_heights, .ref x_levels, .ref x_words, .ref x_shown, .ref x_powers, .int (zI (x_shownCount)), .int (zI (x_status)), x_ways, x_weigher], wI x_powers (zK C).2.1 18 (zu (zu q3 (((i + jj) + c) - 1) ((q3 (((i + jj) + c) - 1)) + 1)) ((i + jj) - 1) (((zu q3 (((i + jj) + c) - 1) ((q3 (((i + jj) + c) - 1)) + 1)) ((i + jj) - 1)) - 1))] dX8_heaped_78 rfl (by omega) rfl ?_
                    refine z_iinc (a := jj) (v := 1) (r := jj + 1) hC 5 [(5, .int (zI (jj + 1))), (0, .ref x), (1, .int (zI (a))), (2, .int (zI (bb))), (3, .int (zI (c))), (4, .int (zI (i)))] dX8_heaped_79 rfl rfl (by decide) rfl ?_
                    refine z_goto hC 39 dX8_heaped_82 (by decide) ?_
                    refine z_lv (lv' := [(0, .ref x), (1, .int (zI (a))), (2, .int (zI (bb))), (3, .int (zI (c))), (4, .int (zI (i))), (5, .int (zI (jj + 1)))]) [1, 2, 3, 4, 5, 0] rfl ?_
                    exact ih39_27 (jj + 1) (zu (zu q3 (((i + jj) + c) - 1) ((q3 (((i + jj) + c) - 1)) + 1)) ((i + jj) - 1) (((zu q3 (((i + jj) + c) - 1) ((q3 (((i + jj) + c) - 1)) + 1)) ((i + jj) - 1)) - 1)) (by omega) (by intro m h0 h1; rw [bq_step, vc m h0 h1]; exact bq_cols (by omega)) (by omega)
              exact lp39_26 _ 1 q2 (by omega) (by intro m h0 h1; rw [vb m h0 h1]; exact (Int.add_zero _).symm) (Nat.lt_succ_self _)
        exact lp30_5 _ 1 q (by omega) (by intro j h0 h1; exact vq j h0 (by omega)) (Nat.lt_succ_self _)
      · skip
        refine z_aload_n hC 0 dX8_heaped_13 rfl rfl ?_
        refine z_get hC (T := TX8) (N := 12) hinX8 0 7 dX8_heaped_14 rfl rfl (by decide) (List.mem_of_getElem? (i := 1) rfl) rfl rfl ?_
        refine z_iload hC 4 dX8_heaped_17 rfl ?_
        refine z_iconst hC dX8_heaped_19 ?_
        refine z_iast hC 1 [wO x 8 [.ref x_sheets, .ref x_plane, .ref x_kin, .ref x_heights, .ref x_levels, .ref x_words, .ref x_shown, .ref x_powers, .int (zI (x_shownCount)), .int (zI (x_status)), x_ways, x_weigher], wI x_powers (zK C).2.1 18 (zu q m0 0)] dX8_heaped_20 rfl (by omega) rfl ?_
        refine z_iinc (a := m0) (v := 1) (r := m0 + 1) hC 4 [(4, .int (zI (m0 + 1))), (0, .ref x), (1, .int (zI (a))), (2, .int (zI (bb))), (3, .int (zI (c)))] dX8_heaped_21 rfl rfl (by decide) rfl ?_
        refine z_goto hC 3 dX8_heaped_24 (by decide) ?_
        refine z_lv (lv' := [(0, .ref x), (1, .int (zI (a))), (2, .int (zI (bb))), (3, .int (zI (c))), (4, .int (zI (m0 + 1)))]) [1, 2, 3, 4, 0] rfl ?_
        exact ih3_2 (m0 + 1) (zu q m0 0) (by omega) (by intro j h0 h1; unfold zu; split; rfl; exact vq j h0 (by omega)) (by omega)
  exact lp3_1 _ 0 pw (by omega) (by intro j h0 h1; omega) (Nat.lt_succ_self _)

set_option maxHeartbeats 4000000 in
set_option maxRecDepth 100000 in
theorem c_X8_boxes (l : Launch) (D : va_G) (K : ClassId × ClassId × ClassId × ClassId) (x x_sheets x_plane x_kin x_heights x_levels x_words x_shown x_powers : Nat) (a bb c x_shownCount x_status : Int) (pw : Int → Int) (x_ways x_weigher : Value) (ha : zR a) (hbb : zR bb) (hc : zR c) : zMet l D K yX8_boxes wsX8_boxes ({ frames := 2, cells := 0, slots := 0, locals := 48 }) 0 0 [.ref x, .int (zI (a)), .int (zI (bb)), .int (zI (c))] [wO x 8 [.ref x_sheets, .ref x_plane, .ref x_kin, .ref x_heights, .ref x_levels, .ref x_words, .ref x_shown, .ref x_powers, .int (zI (x_shownCount)), .int (zI (x_status)), x_ways, x_weigher], wI x_powers K.2.1 18 pw] (fun vr_ wr_ => ∃ (r : Int), vr_ = some (.long (zL (r))) ∧ wr_ = [] ∧ ((¬ (0 ≤ a ∧ a ≤ 6 ∧ 0 ≤ bb ∧ bb ≤ 6 ∧ 0 ≤ c ∧ c ≤ 6) ∧ r = -1) ∨ (0 ≤ a ∧ a ≤ 6 ∧ 0 ≤ bb ∧ bb ≤ 6 ∧ 0 ≤ c ∧ c ≤ 6 ∧ r = boxP a bb c))) := by
  refine zMet_of (cc := cX8_boxes) (nL := 4) (ret := (some .long)) (by decide) rfl (Nat.le_of_ble_eq_true rfl) ?_
  rintro C rfl rfl rfl hC hR
  show ZW C 0 0 [wO x 8 [.ref x_sheets, .ref x_plane, .ref x_kin, .ref x_heights, .ref x_levels, .ref x_words, .ref x_shown, .ref x_powers, .int (zI (x_shownCount)), .int (zI (x_status)), x_ways, x_weigher], wI x_powers (zK C).2.1 18 pw] [(0, .ref x), (1, .int (zI (a))), (2, .int (zI (bb))), (3, .int (zI (c)))] 0 []
  refine z_iload_n hC 1 dX8_boxes_0 rfl rfl ?_
  refine z_iconst hC dX8_boxes_1 ?_
  refine z_bipush hC dX8_boxes_2 (by decide) ?_
  refine z_callS hC [.int (zI (a)), .int (zI (0)), .int (zI (6))] 3 dX8_boxes_4 (c_X8_within (zl C) (zD C) (zK C) a 0 6 (by first | assumption | omega) (by first | assumption | omega) (by first | assumption | omega)) gX8_boxes_X8_within rfl rfl rfl ⟨by decide, by decide, by decide +kernel⟩ ⟨(Nat.le_of_ble_eq_true rfl), (Nat.le_of_ble_eq_true rfl)⟩ rfl [] [0, 1] [wO x 8 [.ref x_sheets, .ref x_plane, .ref x_kin, .ref x_heights, .ref x_levels, .ref x_words, .ref x_shown, .ref x_powers, .int (zI (x_shownCount)), .int (zI (x_status)), x_ways, x_weigher], wI x_powers (zK C).2.1 18 pw] [] rfl rfl rfl rfl rfl (by decide) (Nat.le_of_ble_eq_true rfl) ⟨(Nat.le_of_ble_eq_true rfl), (Nat.le_of_ble_eq_true rfl)⟩ ?_
  rintro v_ w_ ⟨r_1, rfl, rfl, h_4_2⟩
  show ZW C 0 0 [wO x 8 [.ref x_sheets, .ref x_plane, .ref x_kin, .ref x_heights, .ref x_levels, .ref x_words, .ref x_shown, .ref x_powers, .int (zI (x_shownCount)), .int (zI (x_status)), x_ways, x_weigher], wI x_powers (zK C).2.1 18 pw] [(0, .ref x), (1, .int (zI (a))), (2, .int (zI (bb))), (3, .int (zI (c)))] 7 [.int (zI (r_1))]
  refine z_ifeq hC 30 dX8_boxes_7 (by decide) (by omega) (fun c_3 => ?_) (fun c_3 => ?_)
  · skip
    refine z_aload_n hC 0 dX8_boxes_30 rfl rfl ?_
    refine z_iconst hC dX8_boxes_31 ?_
    refine z_callV hC [.int (zI (2))] 1 0 dX8_boxes_32 (c_X8_refused (zl C) (zD C) (zK C) x x_sheets x_plane x_kin x_heights x_levels x_words x_shown x_powers 2 x_shownCount x_status x_ways x_weigher ) gX8_boxes_X8_refused rfl rfl rfl ⟨by decide, by decide, by decide +kernel⟩ ⟨(Nat.le_of_ble_eq_true rfl), (Nat.le_of_ble_eq_true rfl)⟩ rfl rfl rfl rfl [0] [1] [wI x_powers (zK C).2.1 18 pw] [] rfl rfl rfl rfl rfl (by decide) (Nat.le_of_ble_eq_true rfl) ⟨(Nat.le_of_ble_eq_true rfl), (Nat.le_of_ble_eq_true rfl)⟩ ?_
    rintro v_ w_ ⟨rfl, rfl, h_32_4⟩
    show ZW C 0 0 [wI x_powers (zK C).2.1 18 pw, wO x 8 [.ref x_sheets, .ref x_plane, .ref x_kin, .ref x_heights, .ref x_levels, .ref x_words, .ref x_shown, .ref x_powers, .int (zI (x_shownCount)), .int (zI (2)), x_ways, x_weigher]] [(0, .ref x), (1, .int (zI (a))), (2, .int (zI (bb))), (3, .int (zI (c)))] 35 [.int (zI (-1))]
    refine z_i2l hC dX8_boxes_35 (by omega) ?_
    refine z_ws (ws' := []) [] rfl rfl ?_
    exact z_lret hC hR dX8_boxes_36 (Nat.le_of_ble_eq_true rfl) (Nat.le_of_ble_eq_true rfl) ⟨-1, rfl, rfl, by omega⟩
  · skip
    refine z_iload_n hC 2 dX8_boxes_10 rfl rfl ?_
    refine z_iconst hC dX8_boxes_11 ?_
    refine z_bipush hC dX8_boxes_12 (by decide) ?_
    refine z_callS hC [.int (zI (bb)), .int (zI (0)), .int (zI (6))] 3 dX8_boxes_14 (c_X8_within (zl C) (zD C) (zK C) bb 0 6 (by first | assumption | omega) (by first | assumption | omega) (by first | assumption | omega)) gX8_boxes_X8_within rfl rfl rfl ⟨by decide, by decide, by decide +kernel⟩ ⟨(Nat.le_of_ble_eq_true rfl), (Nat.le_of_ble_eq_true rfl)⟩ rfl [] [0, 1] [wO x 8 [.ref x_sheets, .ref x_plane, .ref x_kin, .ref x_heights, .ref x_levels, .ref x_words, .ref x_shown, .ref x_powers, .int (zI (x_shownCount)), .int (zI (x_status)), x_ways, x_weigher], wI x_powers (zK C).2.1 18 pw] [] rfl rfl rfl rfl rfl (by decide) (Nat.le_of_ble_eq_true rfl) ⟨(Nat.le_of_ble_eq_true rfl), (Nat.le_of_ble_eq_true rfl)⟩ ?_
    rintro v_ w_ ⟨r_5, rfl, rfl, h_14_6⟩
    show ZW C 0 0 [wO x 8 [.ref x_sheets, .ref x_plane, .ref x_kin, .ref x_heights, .ref x_levels, .ref x_words, .ref x_shown, .ref x_powers, .int (zI (x_shownCount)), .int (zI (x_status)), x_ways, x_weigher], wI x_powers (zK C).2.1 18 pw] [(0, .ref x), (1, .int (zI (a))), (2, .int (zI (bb))), (3, .int (zI (c)))] 17 [.int (zI (r_5))]
    refine z_ifeq hC 30 dX8_boxes_17 (by decide) (by omega) (fun c_7 => ?_) (fun c_7 => ?_)
    · skip
      refine z_aload_n hC 0 dX8_boxes_30 rfl rfl ?_
      refine z_iconst hC dX8_boxes_31 ?_
      refine z_callV hC [.int (zI (2))] 1 0 dX8_boxes_32 (c_X8_refused (zl C) (zD C) (zK C) x x_sheets x_plane x_kin x_heights x_levels x_words x_shown x_powers 2 x_shownCount x_status x_ways x_weigher ) gX8_boxes_X8_refused rfl rfl rfl ⟨by decide, by decide, by decide +kernel⟩ ⟨(Nat.le_of_ble_eq_true rfl), (Nat.le_of_ble_eq_true rfl)⟩ rfl rfl rfl rfl [0] [1] [wI x_powers (zK C).2.1 18 pw] [] rfl rfl rfl rfl rfl (by decide) (Nat.le_of_ble_eq_true rfl) ⟨(Nat.le_of_ble_eq_true rfl), (Nat.le_of_ble_eq_true rfl)⟩ ?_
      rintro v_ w_ ⟨rfl, rfl, h_32_8⟩
      show ZW C 0 0 [wI x_powers (zK C).2.1 18 pw, wO x 8 [.ref x_sheets, .ref x_plane, .ref x_kin, .ref x_heights, .ref x_levels, .ref x_words, .ref x_shown, .ref x_powers, .int (zI (x_shownCount)), .int (zI (2)), x_ways, x_weigher]] [(0, .ref x), (1, .int (zI (a))), (2, .int (zI (bb))), (3, .int (zI (c)))] 35 [.int (zI (-1))]
      refine z_i2l hC dX8_boxes_35 (by omega) ?_
      refine z_ws (ws' := []) [] rfl rfl ?_
      exact z_lret hC hR dX8_boxes_36 (Nat.le_of_ble_eq_true rfl) (Nat.le_of_ble_eq_true rfl) ⟨-1, rfl, rfl, by omega⟩
    · skip
      refine z_iload_n hC 3 dX8_boxes_20 rfl rfl ?_
      refine z_iconst hC dX8_boxes_21 ?_
      refine z_bipush hC dX8_boxes_22 (by decide) ?_
      refine z_callS hC [.int (zI (c)), .int (zI (0)), .int (zI (6))] 3 dX8_boxes_24 (c_X8_within (zl C) (zD C) (zK C) c 0 6 (by first | assumption | omega) (by first | assumption | omega) (by first | assumption | omega)) gX8_boxes_X8_within rfl rfl rfl ⟨by decide, by decide, by decide +kernel⟩ ⟨(Nat.le_of_ble_eq_true rfl), (Nat.le_of_ble_eq_true rfl)⟩ rfl [] [0, 1] [wO x 8 [.ref x_sheets, .ref x_plane, .ref x_kin, .ref x_heights, .ref x_levels, .ref x_words, .ref x_shown, .ref x_powers, .int (zI (x_shownCount)), .int (zI (x_status)), x_ways, x_weigher], wI x_powers (zK C).2.1 18 pw] [] rfl rfl rfl rfl rfl (by decide) (Nat.le_of_ble_eq_true rfl) ⟨(Nat.le_of_ble_eq_true rfl), (Nat.le_of_ble_eq_true rfl)⟩ ?_
      rintro v_ w_ ⟨r_9, rfl, rfl, h_24_10⟩
      show ZW C 0 0 [wO x 8 [.ref x_sheets, .ref x_plane, .ref x_kin, .ref x_heights, .ref x_levels, .ref x_words, .ref x_shown, .ref x_powers, .int (zI (x_shownCount)), .int (zI (x_status)), x_ways, x_weigher], wI x_powers (zK C).2.1 18 pw] [(0, .ref x), (1, .int (zI (a))), (2, .int (zI (bb))), (3, .int (zI (c)))] 27 [.int (zI (r_9))]
      refine z_ifne hC 37 dX8_boxes_27 (by decide) (by omega) (fun c_11 => ?_) (fun c_11 => ?_)
      · skip
        refine z_aload_n hC 0 dX8_boxes_37 rfl rfl ?_
        refine z_aload_n hC 0 dX8_boxes_38 rfl rfl ?_
        refine z_iload_n hC 1 dX8_boxes_39 rfl rfl ?_
        refine z_iload_n hC 2 dX8_boxes_40 rfl rfl ?_
        refine z_iload_n hC 3 dX8_boxes_41 rfl rfl ?_
        refine z_callV hC [.int (zI (a)), .int (zI (bb)), .int (zI (c))] 3 0 dX8_boxes_42 (c_X8_heaped (zl C) (zD C) (zK C) x x_sheets x_plane x_kin x_heights x_levels x_words x_shown x_powers a bb c x_shownCount x_status pw x_ways x_weigher (by first | assumption | omega)) gX8_boxes_X8_heaped rfl rfl rfl ⟨by decide, by decide, by decide +kernel⟩ ⟨(Nat.le_of_ble_eq_true rfl), (Nat.le_of_ble_eq_true rfl)⟩ rfl rfl rfl rfl [0, 1] [] [] [.ref x] rfl rfl rfl rfl rfl (by decide) (Nat.le_of_ble_eq_true rfl) ⟨(Nat.le_of_ble_eq_true rfl), (Nat.le_of_ble_eq_true rfl)⟩ ?_
        rintro v_ w_ ⟨r_12, rfl, rfl, h_42_13⟩
        show ZW C 0 0 [wO x 8 [.ref x_sheets, .ref x_plane, .ref x_kin, .ref x_heights, .ref x_levels, .ref x_words, .ref x_shown, .ref x_powers, .int (zI (x_shownCount)), .int (zI (x_status)), x_ways, x_weigher]] [(0, .ref x), (1, .int (zI (a))), (2, .int (zI (bb))), (3, .int (zI (c)))] 45 [.long (zL (r_12)), .ref x]
        refine z_callV hC [.long (zL (r_12))] 1 0 dX8_boxes_45 (c_X8_givenLong (zl C) (zD C) (zK C) x x_sheets x_plane x_kin x_heights x_levels x_words x_shown x_powers r_12 x_shownCount x_status x_ways x_weigher ) gX8_boxes_X8_givenLong rfl rfl rfl ⟨by decide, by decide, by decide +kernel⟩ ⟨(Nat.le_of_ble_eq_true rfl), (Nat.le_of_ble_eq_true rfl)⟩ rfl rfl rfl rfl [0] [] [] [] rfl rfl rfl rfl rfl (by decide) (Nat.le_of_ble_eq_true rfl) ⟨(Nat.le_of_ble_eq_true rfl), (Nat.le_of_ble_eq_true rfl)⟩ ?_
        rintro v_ w_ ⟨rfl, rfl, h_45_14⟩
        show ZW C 0 0 [wO x 8 [.ref x_sheets, .ref x_plane, .ref x_kin, .ref x_heights, .ref x_levels, .ref x_words, .ref x_shown, .ref x_powers, .int (zI (x_shownCount)), .int (zI (0)), x_ways, x_weigher]] [(0, .ref x), (1, .int (zI (a))), (2, .int (zI (bb))), (3, .int (zI (c)))] 48 [.long (zL (r_12))]
        refine z_ws (ws' := []) [] rfl rfl ?_
        exact z_lret hC hR dX8_boxes_48 (Nat.le_of_ble_eq_true rfl) (Nat.le_of_ble_eq_true rfl) ⟨r_12, rfl, rfl, by omega⟩
      · skip
        refine z_aload_n hC 0 dX8_boxes_30 rfl rfl ?_
        refine z_iconst hC dX8_boxes_31 ?_
        refine z_callV hC [.int (zI (2))] 1 0 dX8_boxes_32 (c_X8_refused (zl C) (zD C) (zK C) x x_sheets x_plane x_kin x_heights x_levels x_words x_shown x_powers 2 x_shownCount x_status x_ways x_weigher ) gX8_boxes_X8_refused rfl rfl rfl ⟨by decide, by decide, by decide +kernel⟩ ⟨(Nat.le_of_ble_eq_true rfl), (Nat.le_of_ble_eq_true rfl)⟩ rfl rfl rfl rfl [0] [1] [wI x_powers (zK C).2.1 18 pw] [] rfl rfl rfl rfl rfl (by decide) (Nat.le_of_ble_eq_true rfl) ⟨(Nat.le_of_ble_eq_true rfl), (Nat.le_of_ble_eq_true rfl)⟩ ?_
        rintro v_ w_ ⟨rfl, rfl, h_32_15⟩
        show ZW C 0 0 [wI x_powers (zK C).2.1 18 pw, wO x 8 [.ref x_sheets, .ref x_plane, .ref x_kin, .ref x_heights, .ref x_levels, .ref x_words, .ref x_shown, .ref x_powers, .int (zI (x_shownCount)), .int (zI (2)), x_ways, x_weigher]] [(0, .ref x), (1, .int (zI (a))), (2, .int (zI (bb))), (3, .int (zI (c)))] 35 [.int (zI (-1))]
        refine z_i2l hC dX8_boxes_35 (by omega) ?_
        refine z_ws (ws' := []) [] rfl rfl ?_
        exact z_lret hC hR dX8_boxes_36 (Nat.le_of_ble_eq_true rfl) (Nat.le_of_ble_eq_true rfl) ⟨-1, rfl, rfl, by omega⟩
