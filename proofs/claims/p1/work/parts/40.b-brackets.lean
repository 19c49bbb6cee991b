def bE : Nat → Int → Int
  | 0, d => if d = 0 then 1 else 0
  | l + 1, d => if d < 0 ∨ 60 < d then 0 else bE l (d - 1) + bE l (d + 1)
theorem bE_n : ∀ (l : Nat) (d : Int), 0 ≤ bE l d ∧ bE l d ≤ ((2 ^ l : Nat) : Int)
  | 0, d => by
    unfold bE
    split <;> decide
  | l + 1, d => by
    have h1 := bE_n l (d - 1)
    have h2 := bE_n l (d + 1)
    have e : ((2 ^ (l + 1) : Nat) : Int) = 2 * ((2 ^ l : Nat) : Int) := by rw [Nat.pow_succ]; omega
    unfold bE
    rw [e]
    split <;> omega
theorem bE_r {l : Nat} (h : l ≤ 60) (d : Int) : 0 ≤ bE l d ∧ bE l d ≤ 1152921504606846976 := by
  have h1 := bE_n l d
  have h2 : 2 ^ l ≤ 2 ^ 60 := Nat.pow_le_pow_right (by decide) h
  have h3 : (2 : Nat) ^ 60 = 1152921504606846976 := by decide
  omega
theorem bE_far : ∀ (l : Nat) (d : Int), (l : Int) < d ∨ d < 0 → bE l d = 0
  | 0, d, h => by
    unfold bE
    rw [if_neg (by omega)]
  | l + 1, d, h => by
    unfold bE
    split
    · rfl
    · rw [bE_far l (d - 1) (by omega), bE_far l (d + 1) (by omega)]
      rfl
theorem bE_s {l d : Int} (hl : 1 ≤ l) (hd : 0 ≤ d ∧ d ≤ 60) : bE l.toNat d = bE (l - 1).toNat (d - 1) + bE (l - 1).toNat (d + 1) := by
  rw [show l.toNat = (l - 1).toNat + 1 by omega]
  show (if d < 0 ∨ 60 < d then _ else _) = _
  rw [if_neg (by omega)]
theorem bE_61 {l : Int} (hl : 0 ≤ l) : bE l.toNat 61 = 0 := by
  by_cases q : l = 0
  · subst q; rfl
  · rw [show l.toNat = (l - 1).toNat + 1 by omega]
    rfl
set_option maxHeartbeats 4000000 in
set_option maxRecDepth 100000 in
theorem c_X0_fill0 (l : Launch) (D : va_G) (K : ClassId × ClassId × ClassId × ClassId) (b b_ends : Nat) (g : Int → Int) (hz : ∀ j, 0 ≤ j → j < 3782 → g j = 0) : zMet l D K yX0_fill wsX0_fill ({ frames := 0, cells := 0, slots := 0, locals := 0 }) 0 0 [.ref b] [wO b 0 [.ref b_ends, .int (zI (0))], wJ b_ends K.2.2.1 3782 g] (fun vr_ wr_ => ∃ (g2 : Int → Int), vr_ = none ∧ wr_ = [wO b 0 [.ref b_ends, .int (zI (1))], wJ b_ends K.2.2.1 3782 g2] ∧ (∀ l d, 0 ≤ l → l ≤ 60 → 0 ≤ d → d ≤ 61 → g2 (l * 62 + d) = bE l.toNat d)) := by
  refine zMet_of (cc := cX0_fill) (nL := 6) (ret := none) (by decide) rfl (Nat.le_of_ble_eq_true rfl) ?_
  rintro C rfl rfl rfl hC hR
  have hinX0 : ∀ w ∈ u_ws RX0 TX0 2, w ∈ wsX0_fill := by decide +kernel
  show ZW C 0 0 [wO b 0 [.ref b_ends, .int (zI (0))], wJ b_ends (zK C).2.2.1 3782 g] [(0, .ref b)] 0 []
  refine z_aload_n hC 0 dX0_fill_0 rfl rfl ?_
  refine z_get hC (T := TX0) (N := 2) hinX0 0 1 dX0_fill_1 rfl rfl (by decide) (List.mem_of_getElem? (i := 1) rfl) rfl rfl ?_
  refine z_ifeq hC 8 dX0_fill_4 (by decide) (by omega) (fun c_1 => ?_) (fun c_1 => by exfalso; omega)
  refine z_aload_n hC 0 dX0_fill_8 rfl rfl ?_
  refine z_iconst hC dX0_fill_9 ?_
  refine z_put hC (T := TX0) (N := 2) hinX0 tyX0_ok nmX0 0 1 [wO b 0 [.ref b_ends, .int (zI (1))], wJ b_ends (zK C).2.2.1 3782 g] dX0_fill_10 rfl rfl (by decide) (List.mem_of_getElem? (i := 1) rfl) rfl rfl rfl rfl (Nat.le_of_ble_eq_true rfl) rfl ?_
  refine z_aload_n hC 0 dX0_fill_13 rfl rfl ?_
  refine z_get hC (T := TX0) (N := 2) hinX0 0 0 dX0_fill_14 rfl rfl (by decide) (List.mem_of_getElem? (i := 2) rfl) rfl rfl ?_
  refine z_iconst hC dX0_fill_17 ?_
  refine z_lconst (v := 1) hC dX0_fill_18 rfl ?_
  refine z_last hC 1 [wO b 0 [.ref b_ends, .int (zI (1))], wJ b_ends (zK C).2.2.1 3782 (zu g 0 1)] dX0_fill_19 rfl (by omega) rfl ?_
  refine z_iconst hC dX0_fill_20 ?_
  refine z_istore_n hC [(1, .int (zI (1))), (0, .ref b)] dX0_fill_21 rfl (by decide) rfl ?_
  refine z_lv (lv' := [(0, .ref b), (1, .int (zI (1)))]) [1, 0] rfl ?_
  have lp22_2 : ∀ (f4 : Nat) (l : Int) (q : Int → Int), (1 ≤ l ∧ l ≤ 61) → (∀ p d, 0 ≤ p → p < l → 0 ≤ d → d ≤ 61 → q (p * 62 + d) = bE p.toNat d) → (∀ j, l * 62 ≤ j → j < 3782 → q j = 0) → (61 - l).toNat < f4 → ZW C 0 0 [wO b 0 [.ref b_ends, .int (zI (1))], wJ b_ends (zK C).2.2.1 3782 q] [(0, .ref b), (1, .int (zI (l)))] 22 [] := by
    intro f4
    induction f4 with
    | zero => intro _ _ _ _ _ hf; exact absurd hf (Nat.not_lt_zero _)
    | succ f4 ih22_3 =>
      intro l q vl vt vz hf_22
      refine z_iload_n hC 1 dX0_fill_22 rfl rfl ?_
      refine z_bipush hC dX0_fill_23 (by decide) ?_
      refine z_icgt hC 99 dX0_fill_25 (by decide) (by omega) (fun c_5 => ?_) (fun c_5 => ?_)
      · skip
        exact z_vret hC hR dX0_fill_99 (Nat.le_of_ble_eq_true rfl) (Nat.le_of_ble_eq_true rfl) ⟨q, rfl, rfl, by intro p e p0 p1 e0 e1; exact vt p e p0 (by omega) e0 e1⟩
      · skip
        refine z_iload_n hC 1 dX0_fill_28 rfl rfl ?_
        refine z_iconst hC dX0_fill_29 ?_
        refine z_isub hC (l - 1) dX0_fill_30 rfl ?_
        refine z_bipush hC dX0_fill_31 (by decide) ?_
        refine z_imul hC ((l - 1) * 62) dX0_fill_33 rfl ?_
        refine z_istore_n hC [(2, .int (zI ((l - 1) * 62))), (0, .ref b), (1, .int (zI (l)))] dX0_fill_34 rfl (by decide) rfl ?_
        refine z_iconst hC dX0_fill_35 ?_
        refine z_istore_n hC [(3, .int (zI (0))), (2, .int (zI ((l - 1) * 62))), (0, .ref b), (1, .int (zI (l)))] dX0_fill_36 rfl (by decide) rfl ?_
        refine z_lv (lv' := [(0, .ref b), (1, .int (zI (l))), (2, .int (zI ((l - 1) * 62))), (3, .int (zI (0)))]) [2, 3, 1, 0] rfl ?_
        have lp37_6 : ∀ (f8 : Nat) (d : Int) (q2 : Int → Int), (0 ≤ d ∧ d ≤ 61) → (∀ p d, 0 ≤ p → p < l → 0 ≤ d → d ≤ 61 → q2 (p * 62 + d) = bE p.toNat d) → (∀ e, 0 ≤ e → e < d → q2 (l * 62 + e) = bE l.toNat e) → (∀ j, l * 62 + d ≤ j → j < 3782 → q2 j = 0) → (61 - d).toNat < f8 → ZW C 0 0 [wO b 0 [.ref b_ends, .int (zI (1))], wJ b_ends (zK C).2.2.1 3782 q2] [(0, .ref b), (1, .int (zI (l))), (2, .int (zI ((l - 1) * 62))), (3, .int (zI (d)))] 37 [] := by
          intro f8
          induction f8 with
          | zero => intro _ _ _ _ _ _ hf; exact absurd hf (Nat.not_lt_zero _)
          | succ f8 ih37_7 =>
            intro d q2 vd vt2 vw vz2 hf_37
            refine z_iload_n hC 3 dX0_fill_37 rfl rfl ?_
            refine z_bipush hC dX0_fill_38 (by decide) ?_
            refine z_icgt hC 93 dX0_fill_40 (by decide) (by omega) (fun c_9 => ?_) (fun c_9 => ?_)
            · skip
              refine z_iinc (a := l) (v := 1) (r := l + 1) hC 1 [(1, .int (zI (l + 1))), (0, .ref b), (2, .int (zI ((l - 1) * 62))), (3, .int (zI (d)))] dX0_fill_93 rfl rfl (by decide) rfl ?_
              refine z_goto hC 22 dX0_fill_96 (by decide) ?_
              refine z_lv (lv' := [(0, .ref b), (1, .int (zI (l + 1)))]) [1, 0] rfl ?_
              exact ih22_3 (l + 1) q2 (by omega) (by intro p e p0 p1 e0 e1; by_cases e2 : p = l; (rw [e2]; by_cases e3 : e = 61; (rw [e3, bE_61 (by omega)]; exact vz2 _ (by omega) (by omega)); exact vw e e0 (by omega)); exact vt2 p e p0 (by omega) e0 e1) (by intro j h0 h1; exact vz2 j (by omega) h1) (by omega)
            · skip
              refine z_iload_n hC 3 dX0_fill_43 rfl rfl ?_
              refine z_ifle hC 60 dX0_fill_44 (by decide) (by omega) (fun c_10 => ?_) (fun c_10 => ?_)
              · skip
                refine z_lconst (v := 0) hC dX0_fill_60 rfl ?_
                refine z_lstore hC [(4, .long (zL (0))), (0, .ref b), (1, .int (zI (l))), (2, .int (zI ((l - 1) * 62))), (3, .int (zI (d)))] dX0_fill_61 (by decide) rfl ?_
                refine z_aload_n hC 1 dX0_fill_63 rfl rfl ?_
                refine z_get hC (T := TX0) (N := 2) hinX0 0 0 dX0_fill_64 rfl rfl (by decide) (List.mem_of_getElem? (i := 2) rfl) rfl rfl ?_
                refine z_iload_n hC 2 dX0_fill_67 rfl rfl ?_
                refine z_bipush hC dX0_fill_68 (by decide) ?_
                refine z_imul hC (l * 62) dX0_fill_70 rfl ?_
                refine z_iload_n hC 4 dX0_fill_71 rfl rfl ?_
                refine z_iadd hC ((l * 62) + d) dX0_fill_72 rfl ?_
                refine z_lload hC 0 dX0_fill_73 rfl ?_
                refine z_aload_n hC 1 dX0_fill_75 rfl rfl ?_
                refine z_get hC (T := TX0) (N := 2) hinX0 0 0 dX0_fill_76 rfl rfl (by decide) (List.mem_of_getElem? (i := 2) rfl) rfl rfl ?_
                refine z_iload_n hC 3 dX0_fill_79 rfl rfl ?_
                refine z_iload_n hC 4 dX0_fill_80 rfl rfl ?_
                refine z_iadd hC (((l - 1) * 62) + d) dX0_fill_81 rfl ?_
                refine z_iconst hC dX0_fill_82 ?_
                refine z_iadd hC ((((l - 1) * 62) + d) + 1) dX0_fill_83 rfl ?_
                refine z_lald hC 1 dX0_fill_84 rfl (by omega) ?_
                refine z_topl (b := bE (l - 1).toNat (d + 1)) (by rw [show (l - 1) * 62 + d + 1 = (l - 1) * 62 + (d + 1) by omega]; exact vt2 (l - 1) (d + 1) (by omega) (by omega) (by omega) (by omega)) ?_
                refine z_ladd hC (bE (l - 1).toNat (d + 1)) dX0_fill_85 (by omega) ?_
                refine z_last hC 1 [wO b 0 [.ref b_ends, .int (zI (1))], wJ b_ends (zK C).2.2.1 3782 (zu q2 ((l * 62) + d) (bE (l - 1).toNat (d + 1)))] dX0_fill_86 rfl (by omega) rfl ?_
                refine z_iinc (a := d) (v := 1) (r := d + 1) hC 4 [(3, .int (zI (d + 1))), (4, .long (zL (0))), (0, .ref b), (1, .int (zI (l))), (2, .int (zI ((l - 1) * 62)))] dX0_fill_87 rfl rfl (by decide) rfl ?_
                refine z_goto hC 37 dX0_fill_90 (by decide) ?_
                refine z_lv (lv' := [(0, .ref b), (1, .int (zI (l))), (2, .int (zI ((l - 1) * 62))), (3, .int (zI (d + 1)))]) [2, 3, 4, 0] rfl ?_
                exact ih37_7 (d + 1) (zu q2 ((l * 62) + d) (bE (l - 1).toNat (d + 1))) (by omega) (by intro p e p0 p1 e0 e1; unfold zu; rw [if_neg (by omega)]; exact vt2 p e p0 p1 e0 e1) (by intro e e0 e1; unfold zu; by_cases e2 : e = d; (rw [e2, if_pos rfl]; have e5 := bE_s (l := l) (d := d) (by omega) (by omega); first | omega | (have e4 := bE_far (l - 1).toNat (d - 1) (by omega); omega)); (rw [if_neg (by omega)]; exact vw e e0 (by omega))) (by intro j h0 h1; unfold zu; rw [if_neg (by omega)]; exact vz2 j (by omega) h1) (by omega)
              · skip
                refine z_aload_n hC 0 dX0_fill_47 rfl rfl ?_
                refine z_get hC (T := TX0) (N := 2) hinX0 0 0 dX0_fill_48 rfl rfl (by decide) (List.mem_of_getElem? (i := 2) rfl) rfl rfl ?_
                refine z_iload_n hC 2 dX0_fill_51 rfl rfl ?_
                refine z_iload_n hC 3 dX0_fill_52 rfl rfl ?_
                refine z_iadd hC (((l - 1) * 62) + d) dX0_fill_53 rfl ?_
                refine z_iconst hC dX0_fill_54 ?_
                refine z_isub hC ((((l - 1) * 62) + d) - 1) dX0_fill_55 rfl ?_
                refine z_lald hC 1 dX0_fill_56 rfl (by omega) ?_
                refine z_topl (b := bE (l - 1).toNat (d - 1)) (by rw [show (l - 1) * 62 + d - 1 = (l - 1) * 62 + (d - 1) by omega]; exact vt2 (l - 1) (d - 1) (by omega) (by omega) (by omega) (by omega)) ?_
                refine z_goto hC 61 dX0_fill_57 (by decide) ?_
                refine z_lstore hC [(4, .long (zL (bE (l - 1).toNat (d - 1)))), (0, .ref b), (1, .int (zI (l))), (2, .int (zI ((l - 1) * 62))), (3, .int (zI (d)))] dX0_fill_61 (by decide) rfl ?_
                refine z_aload_n hC 1 dX0_fill_63 rfl rfl ?_
                refine z_get hC (T := TX0) (N := 2) hinX0 0 0 dX0_fill_64 rfl rfl (by decide) (List.mem_of_getElem? (i := 2) rfl) rfl rfl ?_
                refine z_iload_n hC 2 dX0_fill_67 rfl rfl ?_
                refine z_bipush hC dX0_fill_68 (by decide) ?_
                refine z_imul hC (l * 62) dX0_fill_70 rfl ?_
                refine z_iload_n hC 4 dX0_fill_71 rfl rfl ?_
                refine z_iadd hC ((l * 62) + d) dX0_fill_72 rfl ?_
                refine z_lload hC 0 dX0_fill_73 rfl ?_
                refine z_aload_n hC 1 dX0_fill_75 rfl rfl ?_
                refine z_get hC (T := TX0) (N := 2) hinX0 0 0 dX0_fill_76 rfl rfl (by decide) (List.mem_of_getElem? (i := 2) rfl) rfl rfl ?_
                refine z_iload_n hC 3 dX0_fill_79 rfl rfl ?_
                refine z_iload_n hC 4 dX0_fill_80 rfl rfl ?_
                refine z_iadd hC (((l - 1) * 62) + d) dX0_fill_81 rfl ?_
                refine z_iconst hC dX0_fill_82 ?_
                refine z_iadd hC ((((l - 1) * 62) + d) + 1) dX0_fill_83 rfl ?_
                refine z_lald hC 1 dX0_fill_84 rfl (by omega) ?_
                refine z_topl (b := bE (l - 1).toNat (d + 1)) (by rw [show (l - 1) * 62 + d + 1 = (l - 1) * 62 + (d + 1) by omega]; exact vt2 (l - 1) (d + 1) (by omega) (by omega) (by omega) (by omega)) ?_
                refine z_ladd hC ((bE (l - 1).toNat (d - 1)) + (bE (l - 1).toNat (d + 1))) dX0_fill_85 rfl ?_
                refine z_last hC 1 [wO b 0 [.ref b_ends, .int (zI (1))], wJ b_ends (zK C).2.2.1 3782 (zu q2 ((l * 62) + d) ((bE (l - 1).toNat (d - 1)) + (bE (l - 1).toNat (d + 1))))] dX0_fill_86 rfl (by omega) rfl ?_
                refine z_iinc (a := d) (v := 1) (r := d + 1) hC 4 [(3, .int (zI (d + 1))), (4, .long (zL (bE (l - 1).toNat (d - 1)))), (0, .ref b), (1, .int (zI (l))), (2, .int (zI ((l - 1) * 62)))] dX0_fill_87 rfl rfl (by decide) rfl ?_
                refine z_goto hC 37 dX0_fill_90 (by decide) ?_
                refine z_lv (lv' := [(0, .ref b), (1, .int (zI (l))), (2, .int (zI ((l - 1) * 62))), (3, .int (zI (d + 1)))]) [2, 3, 4, 0] rfl ?_
                exact ih37_7 (d + 1) (zu q2 ((l * 62) + d) ((bE (l - 1).toNat (d - 1)) + (bE (l - 1).toNat (d + 1)))) (by omega) (by intro p e p0 p1 e0 e1; unfold zu; rw [if_neg (by omega)]; exact vt2 p e p0 p1 e0 e1) (by intro e e0 e1; unfold zu; by_cases e2 : e = d; (rw [e2, if_pos rfl]; have e5 := bE_s (l := l) (d := d) (by omega) (by omega); first | omega | (have e4 := bE_far (l - 1).toNat (d - 1) (by omega); omega)); (rw [if_neg (by omega)]; exact vw e e0 (by omega))) (by intro j h0 h1; unfold zu; rw [if_neg (by omega)]; exact vz2 j (by omega) h1) (by omega)
        exact lp37_6 _ 0 q (by omega) (by exact vt) (by intro e e0 e1; omega) (by intro j h0 h1; exact vz j (by omega) h1) (Nat.lt_succ_self _)
  exact lp22_2 _ 1 (zu g 0 1) (by omega) (by intro p d p0 p1 d0 d1; rw [show p = 0 by omega]; show zu g 0 1 (0 * 62 + d) = bE 0 d; unfold zu bE; by_cases e : d = 0; (rw [if_pos e, if_pos (by omega)]); (rw [if_neg e, if_neg (by omega)]; exact hz _ (by omega) (by omega))) (by intro j h0 h1; unfold zu; rw [if_neg (by omega)]; exact hz j (by omega) h1) (Nat.lt_succ_self _)

set_option maxHeartbeats 4000000 in
set_option maxRecDepth 100000 in
theorem c_X0_fill1 (l : Launch) (D : va_G) (K : ClassId × ClassId × ClassId × ClassId) (b b_ends : Nat) : zMet l D K yX0_fill wsX0_fill ({ frames := 0, cells := 0, slots := 0, locals := 0 }) 0 0 [.ref b] [wO b 0 [.ref b_ends, .int (zI (1))]] (fun vr_ wr_ => vr_ = none ∧ wr_ = [wO b 0 [.ref b_ends, .int (zI (1))]] ∧ (True)) := by
  refine zMet_of (cc := cX0_fill) (nL := 6) (ret := none) (by decide) rfl (Nat.le_of_ble_eq_true rfl) ?_
  rintro C rfl rfl rfl hC hR
  have hinX0 : ∀ w ∈ u_ws RX0 TX0 2, w ∈ wsX0_fill := by decide +kernel
  show ZW C 0 0 [wO b 0 [.ref b_ends, .int (zI (1))]] [(0, .ref b)] 0 []
  refine z_aload_n hC 0 dX0_fill_0 rfl rfl ?_
  refine z_get hC (T := TX0) (N := 2) hinX0 0 1 dX0_fill_1 rfl rfl (by decide) (List.mem_of_getElem? (i := 1) rfl) rfl rfl ?_
  refine z_ifeq hC 8 dX0_fill_4 (by decide) (by omega) (fun c_1 => by exfalso; omega) (fun c_1 => ?_)
  exact z_vret hC hR dX0_fill_7 (Nat.le_of_ble_eq_true rfl) (Nat.le_of_ble_eq_true rfl) ⟨rfl, rfl, by trivial⟩

set_option maxHeartbeats 4000000 in
set_option maxRecDepth 100000 in
theorem c_X0_endings0 (l : Launch) (D : va_G) (K : ClassId × ClassId × ClassId × ClassId) (b b_ends : Nat) (left dp : Int) (g : Int → Int) (hleft : zR left) (hdp : zR dp) (hz : ∀ j, 0 ≤ j → j < 3782 → g j = 0) : zMet l D K yX0_endings wsX0_endings ({ frames := 1, cells := 0, slots := 0, locals := 25 }) 0 0 [.ref b, .int (zI (left)), .int (zI (dp))] [wO b 0 [.ref b_ends, .int (zI (0))], wJ b_ends K.2.2.1 3782 g] (fun vr_ wr_ => ∃ (r : Int) (g2 : Int → Int), vr_ = some (.long (zL (r))) ∧ wr_ = [wO b 0 [.ref b_ends, .int (zI (1))], wJ b_ends K.2.2.1 3782 g2] ∧ ((0 ≤ r ∧ r ≤ 1152921504606846976) ∧ (0 ≤ left → left ≤ 60 → 0 ≤ dp → dp ≤ 61 → r = bE left.toNat dp) ∧ (∀ l d, 0 ≤ l → l ≤ 60 → 0 ≤ d → d ≤ 61 → g2 (l * 62 + d) = bE l.toNat d))) := by
  refine zMet_of (cc := cX0_endings) (nL := 3) (ret := (some .long)) (by decide) rfl (Nat.le_of_ble_eq_true rfl) ?_
  rintro C rfl rfl rfl hC hR
  have hinX0 : ∀ w ∈ u_ws RX0 TX0 2, w ∈ wsX0_endings := by decide +kernel
  show ZW C 0 0 [wO b 0 [.ref b_ends, .int (zI (0))], wJ b_ends (zK C).2.2.1 3782 g] [(0, .ref b), (1, .int (zI (left))), (2, .int (zI (dp)))] 0 []
  refine z_aload_n hC 0 dX0_endings_0 rfl rfl ?_
  refine z_callV hC [] 0 0 dX0_endings_1 (c_X0_fill0 (zl C) (zD C) (zK C) b b_ends g (by first | assumption | omega)) gX0_endings_X0_fill rfl rfl rfl ⟨by decide, by decide, by decide +kernel⟩ ⟨(Nat.le_of_ble_eq_true rfl), (Nat.le_of_ble_eq_true rfl)⟩ rfl rfl rfl rfl [0, 1] [] [] [] rfl rfl rfl rfl rfl (by decide) (Nat.le_of_ble_eq_true rfl) ⟨(Nat.le_of_ble_eq_true rfl), (Nat.le_of_ble_eq_true rfl)⟩ ?_
  rintro v_ w_ ⟨g2_1, rfl, rfl, hb⟩
  show ZW C 0 0 [wO b 0 [.ref b_ends, .int (zI (1))], wJ b_ends (zK C).2.2.1 3782 g2_1] [(0, .ref b), (1, .int (zI (left))), (2, .int (zI (dp)))] 4 []
  refine z_iload_n hC 1 dX0_endings_4 rfl rfl ?_
  refine z_iflt hC 24 dX0_endings_5 (by decide) (by omega) (fun c_2 => ?_) (fun c_2 => ?_)
  · skip
    refine z_lconst (v := 0) hC dX0_endings_24 rfl ?_
    exact z_lret hC hR dX0_endings_25 (Nat.le_of_ble_eq_true rfl) (Nat.le_of_ble_eq_true rfl) ⟨0, g2_1, rfl, rfl, by exact ⟨⟨by decide, by decide⟩, fun _ _ _ _ => by omega, hb⟩⟩
  · skip
    refine z_iload_n hC 1 dX0_endings_8 rfl rfl ?_
    refine z_bipush hC dX0_endings_9 (by decide) ?_
    refine z_icgt hC 24 dX0_endings_11 (by decide) (by omega) (fun c_3 => ?_) (fun c_3 => ?_)
    · skip
      refine z_lconst (v := 0) hC dX0_endings_24 rfl ?_
      exact z_lret hC hR dX0_endings_25 (Nat.le_of_ble_eq_true rfl) (Nat.le_of_ble_eq_true rfl) ⟨0, g2_1, rfl, rfl, by exact ⟨⟨by decide, by decide⟩, fun _ _ _ _ => by omega, hb⟩⟩
    · skip
      refine z_iload_n hC 2 dX0_endings_14 rfl rfl ?_
      refine z_iflt hC 24 dX0_endings_15 (by decide) (by omega) (fun c_4 => ?_) (fun c_4 => ?_)
      · skip
        refine z_lconst (v := 0) hC dX0_endings_24 rfl ?_
        exact z_lret hC hR dX0_endings_25 (Nat.le_of_ble_eq_true rfl) (Nat.le_of_ble_eq_true rfl) ⟨0, g2_1, rfl, rfl, by exact ⟨⟨by decide, by decide⟩, fun _ _ _ _ => by omega, hb⟩⟩
      · skip
        refine z_iload_n hC 2 dX0_endings_18 rfl rfl ?_
        refine z_bipush hC dX0_endings_19 (by decide) ?_
        refine z_iclt hC 26 dX0_endings_21 (by decide) (by omega) (fun c_5 => ?_) (fun c_5 => ?_)
        · skip
          refine z_aload_n hC 0 dX0_endings_26 rfl rfl ?_
          refine z_get hC (T := TX0) (N := 2) hinX0 0 0 dX0_endings_27 rfl rfl (by decide) (List.mem_of_getElem? (i := 1) rfl) rfl rfl ?_
          refine z_iload_n hC 1 dX0_endings_30 rfl rfl ?_
          refine z_bipush hC dX0_endings_31 (by decide) ?_
          refine z_imul hC (left * 62) dX0_endings_33 rfl ?_
          refine z_iload_n hC 2 dX0_endings_34 rfl rfl ?_
          refine z_iadd hC ((left * 62) + dp) dX0_endings_35 rfl ?_
          refine z_lald hC 1 dX0_endings_36 rfl (by omega) ?_
          exact z_lret hC hR dX0_endings_37 (Nat.le_of_ble_eq_true rfl) (Nat.le_of_ble_eq_true rfl) ⟨g2_1 ((left * 62) + dp), g2_1, rfl, rfl, by refine ⟨?_, fun a b c d => hb left dp a b c d, hb⟩; rw [hb left dp (by omega) (by omega) (by omega) (by omega)]; exact bE_r (by omega) dp⟩
        · skip
          refine z_lconst (v := 0) hC dX0_endings_24 rfl ?_
          exact z_lret hC hR dX0_endings_25 (Nat.le_of_ble_eq_true rfl) (Nat.le_of_ble_eq_true rfl) ⟨0, g2_1, rfl, rfl, by exact ⟨⟨by decide, by decide⟩, fun _ _ _ _ => by omega, hb⟩⟩

set_option maxHeartbeats 4000000 in
set_option maxRecDepth 100000 in
theorem c_X0_endings1 (l : Launch) (D : va_G) (K : ClassId × ClassId × ClassId × ClassId) (b b_ends : Nat) (left dp : Int) (g : Int → Int) (hleft : zR left) (hdp : zR dp) (hb : ∀ l d, 0 ≤ l → l ≤ 60 → 0 ≤ d → d ≤ 61 → g (l * 62 + d) = bE l.toNat d) : zMet l D K yX0_endings wsX0_endings ({ frames := 1, cells := 0, slots := 0, locals := 25 }) 0 0 [.ref b, .int (zI (left)), .int (zI (dp))] [wO b 0 [.ref b_ends, .int (zI (1))], wJ b_ends K.2.2.1 3782 g] (fun vr_ wr_ => ∃ (r : Int), vr_ = some (.long (zL (r))) ∧ wr_ = [wO b 0 [.ref b_ends, .int (zI (1))], wJ b_ends K.2.2.1 3782 g] ∧ ((0 ≤ r ∧ r ≤ 1152921504606846976) ∧ (0 ≤ left → left ≤ 60 → 0 ≤ dp → dp ≤ 61 → r = bE left.toNat dp))) := by
  refine zMet_of (cc := cX0_endings) (nL := 3) (ret := (some .long)) (by decide) rfl (Nat.le_of_ble_eq_true rfl) ?_
  rintro C rfl rfl rfl hC hR
  have hinX0 : ∀ w ∈ u_ws RX0 TX0 2, w ∈ wsX0_endings := by decide +kernel
  show ZW C 0 0 [wO b 0 [.ref b_ends, .int (zI (1))], wJ b_ends (zK C).2.2.1 3782 g] [(0, .ref b), (1, .int (zI (left))), (2, .int (zI (dp)))] 0 []
  refine z_aload_n hC 0 dX0_endings_0 rfl rfl ?_
  refine z_callV hC [] 0 0 dX0_endings_1 (c_X0_fill1 (zl C) (zD C) (zK C) b b_ends ) gX0_endings_X0_fill rfl rfl rfl ⟨by decide, by decide, by decide +kernel⟩ ⟨(Nat.le_of_ble_eq_true rfl), (Nat.le_of_ble_eq_true rfl)⟩ rfl rfl rfl rfl [0] [1] [wJ b_ends (zK C).2.2.1 3782 g] [] rfl rfl rfl rfl rfl (by decide) (Nat.le_of_ble_eq_true rfl) ⟨(Nat.le_of_ble_eq_true rfl), (Nat.le_of_ble_eq_true rfl)⟩ ?_
  rintro v_ w_ ⟨rfl, rfl, h_1_1⟩
  show ZW C 0 0 [wJ b_ends (zK C).2.2.1 3782 g, wO b 0 [.ref b_ends, .int (zI (1))]] [(0, .ref b), (1, .int (zI (left))), (2, .int (zI (dp)))] 4 []
  refine z_iload_n hC 1 dX0_endings_4 rfl rfl ?_
  refine z_iflt hC 24 dX0_endings_5 (by decide) (by omega) (fun c_2 => ?_) (fun c_2 => ?_)
  · skip
    refine z_lconst (v := 0) hC dX0_endings_24 rfl ?_
    refine z_ws (ws' := [wO b 0 [.ref b_ends, .int (zI (1))], wJ b_ends (zK C).2.2.1 3782 g]) [1, 0] rfl rfl ?_
    exact z_lret hC hR dX0_endings_25 (Nat.le_of_ble_eq_true rfl) (Nat.le_of_ble_eq_true rfl) ⟨0, rfl, rfl, by exact ⟨⟨by decide, by decide⟩, fun _ _ _ _ => by omega⟩⟩
  · skip
    refine z_iload_n hC 1 dX0_endings_8 rfl rfl ?_
    refine z_bipush hC dX0_endings_9 (by decide) ?_
    refine z_icgt hC 24 dX0_endings_11 (by decide) (by omega) (fun c_3 => ?_) (fun c_3 => ?_)
    · skip
      refine z_lconst (v := 0) hC dX0_endings_24 rfl ?_
      refine z_ws (ws' := [wO b 0 [.ref b_ends, .int (zI (1))], wJ b_ends (zK C).2.2.1 3782 g]) [1, 0] rfl rfl ?_
      exact z_lret hC hR dX0_endings_25 (Nat.le_of_ble_eq_true rfl) (Nat.le_of_ble_eq_true rfl) ⟨0, rfl, rfl, by exact ⟨⟨by decide, by decide⟩, fun _ _ _ _ => by omega⟩⟩
    · skip
      refine z_iload_n hC 2 dX0_endings_14 rfl rfl ?_
      refine z_iflt hC 24 dX0_endings_15 (by decide) (by omega) (fun c_4 => ?_) (fun c_4 => ?_)
      · skip
        refine z_lconst (v := 0) hC dX0_endings_24 rfl ?_
        refine z_ws (ws' := [wO b 0 [.ref b_ends, .int (zI (1))], wJ b_ends (zK C).2.2.1 3782 g]) [1, 0] rfl rfl ?_
        exact z_lret hC hR dX0_endings_25 (Nat.le_of_ble_eq_true rfl) (Nat.le_of_ble_eq_true rfl) ⟨0, rfl, rfl, by exact ⟨⟨by decide, by decide⟩, fun _ _ _ _ => by omega⟩⟩
      · skip
        refine z_iload_n hC 2 dX0_endings_18 rfl rfl ?_
        refine z_bipush hC dX0_endings_19 (by decide) ?_
        refine z_iclt hC 26 dX0_endings_21 (by decide) (by omega) (fun c_5 => ?_) (fun c_5 => ?_)
        · skip
          refine z_aload_n hC 0 dX0_endings_26 rfl rfl ?_
          refine z_get hC (T := TX0) (N := 2) hinX0 1 0 dX0_endings_27 rfl rfl (by decide) (List.mem_of_getElem? (i := 1) rfl) rfl rfl ?_
          refine z_iload_n hC 1 dX0_endings_30 rfl rfl ?_
          refine z_bipush hC dX0_endings_31 (by decide) ?_
          refine z_imul hC (left * 62) dX0_endings_33 rfl ?_
          refine z_iload_n hC 2 dX0_endings_34 rfl rfl ?_
          refine z_iadd hC ((left * 62) + dp) dX0_endings_35 rfl ?_
          refine z_lald hC 0 dX0_endings_36 rfl (by omega) ?_
          refine z_ws (ws' := [wO b 0 [.ref b_ends, .int (zI (1))], wJ b_ends (zK C).2.2.1 3782 g]) [1, 0] rfl rfl ?_
          exact z_lret hC hR dX0_endings_37 (Nat.le_of_ble_eq_true rfl) (Nat.le_of_ble_eq_true rfl) ⟨g ((left * 62) + dp), rfl, rfl, by refine ⟨?_, fun a b c d => hb left dp a b c d⟩; rw [hb left dp (by omega) (by omega) (by omega) (by omega)]; exact bE_r (by omega) dp⟩
        · skip
          refine z_lconst (v := 0) hC dX0_endings_24 rfl ?_
          refine z_ws (ws' := [wO b 0 [.ref b_ends, .int (zI (1))], wJ b_ends (zK C).2.2.1 3782 g]) [1, 0] rfl rfl ?_
          exact z_lret hC hR dX0_endings_25 (Nat.le_of_ble_eq_true rfl) (Nat.le_of_ble_eq_true rfl) ⟨0, rfl, rfl, by exact ⟨⟨by decide, by decide⟩, fun _ _ _ _ => by omega⟩⟩

set_option maxHeartbeats 4000000 in
set_option maxRecDepth 100000 in
theorem c_X0_spell (l : Launch) (D : va_G) (K : ClassId × ClassId × ClassId × ClassId) (b lt b_ends : Nat) (n k : Int) (g sh : Int → Int) (hn : 0 ≤ n ∧ n ≤ 30) (hk : 0 ≤ k ∧ k < 9223372036854775808) (hb : ∀ l d, 0 ≤ l → l ≤ 60 → 0 ≤ d → d ≤ 61 → g (l * 62 + d) = bE l.toNat d) : zMet l D K yX0_spell wsX0_spell ({ frames := 2, cells := 0, slots := 0, locals := 47 }) 0 0 [.ref b, .int (zI (n)), .long (zL (k)), .ref lt] [wO b 0 [.ref b_ends, .int (zI (1))], wJ b_ends K.2.2.1 3782 g, wI lt K.2.1 60 sh] (fun vr_ wr_ => vr_ = none ∧ wr_ = [] ∧ (True)) := by
  refine zMet_of (cc := cX0_spell) (nL := 11) (ret := none) (by decide) rfl (Nat.le_of_ble_eq_true rfl) ?_
  rintro C rfl rfl rfl hC hR
  show ZW C 0 0 [wO b 0 [.ref b_ends, .int (zI (1))], wJ b_ends (zK C).2.2.1 3782 g, wI lt (zK C).2.1 60 sh] [(0, .ref b), (1, .int (zI (n))), (2, .long (zL (k))), (4, .ref lt)] 0 []
  refine z_lload_n hC 2 dX0_spell_0 rfl rfl ?_
  refine z_lstore hC [(5, .long (zL (k))), (0, .ref b), (1, .int (zI (n))), (2, .long (zL (k))), (4, .ref lt)] dX0_spell_1 (by decide) rfl ?_
  refine z_iconst hC dX0_spell_3 ?_
  refine z_istore hC [(7, .int (zI (0))), (5, .long (zL (k))), (0, .ref b), (1, .int (zI (n))), (2, .long (zL (k))), (4, .ref lt)] dX0_spell_4 (by decide) rfl ?_
  refine z_iconst hC dX0_spell_6 ?_
  refine z_istore hC [(8, .int (zI (0))), (7, .int (zI (0))), (5, .long (zL (k))), (0, .ref b), (1, .int (zI (n))), (2, .long (zL (k))), (4, .ref lt)] dX0_spell_7 (by decide) rfl ?_
  refine z_lv (lv' := [(0, .ref b), (1, .int (zI (n))), (2, .long (zL (k))), (4, .ref lt), (5, .long (zL (k))), (7, .int (zI (0))), (8, .int (zI (0)))]) [3, 4, 5, 6, 2, 1, 0] rfl ?_
  have lp9_1 : ∀ (f3 : Nat) (left : Int) (dp : Int) (i : Int) (q : Int → Int), (0 ≤ i ∧ i ≤ 2 * n) → (-i ≤ dp ∧ dp ≤ i) → (0 ≤ left ∧ left < 9223372036854775808) → (2 * n - i).toNat < f3 → ZW C 0 0 [wO b 0 [.ref b_ends, .int (zI (1))], wJ b_ends (zK C).2.2.1 3782 g, wI lt (zK C).2.1 60 q] [(0, .ref b), (1, .int (zI (n))), (2, .long (zL (k))), (4, .ref lt), (5, .long (zL (left))), (7, .int (zI (dp))), (8, .int (zI (i)))] 9 [] := by
    intro f3
    induction f3 with
    | zero => intro _ _ _ _ _ _ _ hf; exact absurd hf (Nat.not_lt_zero _)
    | succ f3 ih9_2 =>
      intro left dp i q vi vd vl hf_9
      refine z_iload hC 6 dX0_spell_9 rfl ?_
      refine z_iconst hC dX0_spell_11 ?_
      refine z_iload_n hC 1 dX0_spell_12 rfl rfl ?_
      refine z_imul hC (2 * n) dX0_spell_13 rfl ?_
      refine z_icge hC 87 dX0_spell_14 (by decide) (by omega) (fun c_4 => ?_) (fun c_4 => ?_)
      · skip
        refine z_ws (ws' := []) [] rfl rfl ?_
        exact z_vret hC hR dX0_spell_87 (Nat.le_of_ble_eq_true rfl) (Nat.le_of_ble_eq_true rfl) ⟨rfl, rfl, by trivial⟩
      · skip
        refine z_iload hC 6 dX0_spell_17 rfl ?_
        refine z_aload hC 3 dX0_spell_19 rfl ?_
        refine z_alenI hC 2 dX0_spell_21 rfl ?_
        show ZW C 0 0 [wO b 0 [.ref b_ends, .int (zI (1))], wJ b_ends (zK C).2.2.1 3782 g, wI lt (zK C).2.1 60 q] [(0, .ref b), (1, .int (zI (n))), (2, .long (zL (k))), (4, .ref lt), (5, .long (zL (left))), (7, .int (zI (dp))), (8, .int (zI (i)))] 22 [.int (zI (60)), .int (zI (i))]
        refine z_icge hC 87 dX0_spell_22 (by decide) (by omega) (fun c_5 => by exfalso; omega) (fun c_5 => ?_)
        refine z_aload_n hC 0 dX0_spell_25 rfl rfl ?_
        refine z_iconst hC dX0_spell_26 ?_
        refine z_iload_n hC 1 dX0_spell_27 rfl rfl ?_
        refine z_imul hC (2 * n) dX0_spell_28 rfl ?_
        refine z_iload hC 6 dX0_spell_29 rfl ?_
        refine z_isub hC ((2 * n) - i) dX0_spell_31 rfl ?_
        refine z_iconst hC dX0_spell_32 ?_
        refine z_isub hC (((2 * n) - i) - 1) dX0_spell_33 rfl ?_
        refine z_iload hC 5 dX0_spell_34 rfl ?_
        refine z_iconst hC dX0_spell_36 ?_
        refine z_iadd hC (dp + 1) dX0_spell_37 rfl ?_
        refine z_callV hC [.int (zI (((2 * n) - i) - 1)), .int (zI (dp + 1))] 2 0 dX0_spell_38 (c_X0_endings1 (zl C) (zD C) (zK C) b b_ends (((2 * n) - i) - 1) (dp + 1) g (by first | assumption | omega) (by first | assumption | omega) (by first | assumption | omega)) gX0_spell_X0_endings rfl rfl rfl ⟨by decide, by decide, by decide +kernel⟩ ⟨(Nat.le_of_ble_eq_true rfl), (Nat.le_of_ble_eq_true rfl)⟩ rfl rfl rfl rfl [0, 1] [2] [wI lt (zK C).2.1 60 q] [] rfl rfl rfl rfl rfl (by decide) (Nat.le_of_ble_eq_true rfl) ⟨(Nat.le_of_ble_eq_true rfl), (Nat.le_of_ble_eq_true rfl)⟩ ?_
        rintro v_ w_ ⟨r_6, rfl, rfl, he⟩
        show ZW C 0 0 [wI lt (zK C).2.1 60 q, wO b 0 [.ref b_ends, .int (zI (1))], wJ b_ends (zK C).2.2.1 3782 g] [(0, .ref b), (1, .int (zI (n))), (2, .long (zL (k))), (4, .ref lt), (5, .long (zL (left))), (7, .int (zI (dp))), (8, .int (zI (i)))] 41 [.long (zL (r_6))]
        refine z_lstore hC [(9, .long (zL (r_6))), (0, .ref b), (1, .int (zI (n))), (2, .long (zL (k))), (4, .ref lt), (5, .long (zL (left))), (7, .int (zI (dp))), (8, .int (zI (i)))] dX0_spell_41 (by decide) rfl ?_
        refine z_lload hC 5 dX0_spell_43 rfl ?_
        refine z_lload hC 0 dX0_spell_45 rfl ?_
        refine z_lcge hC 64 dX0_spell_47 dX0_spell_48 (by decide) (by omega) (fun c_7 => ?_) (fun c_7 => ?_)
        · skip
          refine z_lload hC 5 dX0_spell_64 rfl ?_
          refine z_lload hC 0 dX0_spell_66 rfl ?_
          refine z_lsub hC (left - r_6) dX0_spell_68 rfl ?_
          refine z_lstore hC [(5, .long (zL (left - r_6))), (9, .long (zL (r_6))), (0, .ref b), (1, .int (zI (n))), (2, .long (zL (k))), (4, .ref lt), (7, .int (zI (dp))), (8, .int (zI (i)))] dX0_spell_69 (by decide) rfl ?_
          refine z_aload hC 5 dX0_spell_71 rfl ?_
          refine z_iload hC 7 dX0_spell_73 rfl ?_
          refine z_bipush hC dX0_spell_75 (by decide) ?_
          refine z_iast hC 0 [wI lt (zK C).2.1 60 (zu q i 41), wO b 0 [.ref b_ends, .int (zI (1))], wJ b_ends (zK C).2.2.1 3782 g] dX0_spell_77 rfl (by omega) rfl ?_
          refine z_iinc (a := dp) (v := -1) (r := dp - 1) hC 6 [(7, .int (zI (dp - 1))), (5, .long (zL (left - r_6))), (9, .long (zL (r_6))), (0, .ref b), (1, .int (zI (n))), (2, .long (zL (k))), (4, .ref lt), (8, .int (zI (i)))] dX0_spell_78 rfl (by omega) (by decide) rfl ?_
          refine z_iinc (a := i) (v := 1) (r := i + 1) hC 7 [(8, .int (zI (i + 1))), (7, .int (zI (dp - 1))), (5, .long (zL (left - r_6))), (9, .long (zL (r_6))), (0, .ref b), (1, .int (zI (n))), (2, .long (zL (k))), (4, .ref lt)] dX0_spell_81 rfl rfl (by decide) rfl ?_
          refine z_goto hC 9 dX0_spell_84 (by decide) ?_
          refine z_lv (lv' := [(0, .ref b), (1, .int (zI (n))), (2, .long (zL (k))), (4, .ref lt), (5, .long (zL (left - r_6))), (7, .int (zI (dp - 1))), (8, .int (zI (i + 1)))]) [4, 5, 6, 7, 2, 1, 0] rfl ?_
          refine z_ws (ws' := [wO b 0 [.ref b_ends, .int (zI (1))], wJ b_ends (zK C).2.2.1 3782 g, wI lt (zK C).2.1 60 (zu q i 41)]) [1, 2, 0] rfl rfl ?_
          exact ih9_2 (left - r_6) (dp - 1) (i + 1) (zu q i 41) (by omega) (by omega) (by omega) (by omega)
        · skip
          refine z_aload hC 4 dX0_spell_51 rfl ?_
          refine z_iload hC 7 dX0_spell_53 rfl ?_
          refine z_bipush hC dX0_spell_55 (by decide) ?_
          refine z_iast hC 0 [wI lt (zK C).2.1 60 (zu q i 40), wO b 0 [.ref b_ends, .int (zI (1))], wJ b_ends (zK C).2.2.1 3782 g] dX0_spell_57 rfl (by omega) rfl ?_
          refine z_iinc (a := dp) (v := 1) (r := dp + 1) hC 6 [(7, .int (zI (dp + 1))), (9, .long (zL (r_6))), (0, .ref b), (1, .int (zI (n))), (2, .long (zL (k))), (4, .ref lt), (5, .long (zL (left))), (8, .int (zI (i)))] dX0_spell_58 rfl rfl (by decide) rfl ?_
          refine z_goto hC 81 dX0_spell_61 (by decide) ?_
          refine z_iinc (a := i) (v := 1) (r := i + 1) hC 7 [(8, .int (zI (i + 1))), (7, .int (zI (dp + 1))), (9, .long (zL (r_6))), (0, .ref b), (1, .int (zI (n))), (2, .long (zL (k))), (4, .ref lt), (5, .long (zL (left)))] dX0_spell_81 rfl rfl (by decide) rfl ?_
          refine z_goto hC 9 dX0_spell_84 (by decide) ?_
          refine z_lv (lv' := [(0, .ref b), (1, .int (zI (n))), (2, .long (zL (k))), (4, .ref lt), (5, .long (zL (left))), (7, .int (zI (dp + 1))), (8, .int (zI (i + 1)))]) [3, 4, 5, 6, 7, 1, 0] rfl ?_
          refine z_ws (ws' := [wO b 0 [.ref b_ends, .int (zI (1))], wJ b_ends (zK C).2.2.1 3782 g, wI lt (zK C).2.1 60 (zu q i 40)]) [1, 2, 0] rfl rfl ?_
          exact ih9_2 left (dp + 1) (i + 1) (zu q i 40) (by omega) (by omega) (by omega) (by omega)
  exact lp9_1 _ k 0 0 sh (by omega) (by omega) (by omega) (Nat.lt_succ_self _)

set_option maxHeartbeats 4000000 in
set_option maxRecDepth 100000 in
theorem c_X8_brackets (l : Launch) (D : va_G) (K : ClassId × ClassId × ClassId × ClassId) (x x_sheets x_plane x_kin x_heights x_levels b x_shown x_powers b_ends : Nat) (n kk x_shownCount x_status : Int) (g shn : Int → Int) (x_ways x_weigher : Value) (hn : zR n) (hkk : zRL kk) (hz : ∀ j, 0 ≤ j → j < 3782 → g j = 0) : zMet l D K yX8_brackets wsX8_brackets ({ frames := 3, cells := 0, slots := 0, locals := 77 }) 0 0 [.ref x, .int (zI (n)), .long (zL (kk))] [wO x 8 [.ref x_sheets, .ref x_plane, .ref x_kin, .ref x_heights, .ref x_levels, .ref b, .ref x_shown, .ref x_powers, .int (zI (x_shownCount)), .int (zI (x_status)), x_ways, x_weigher], wO b 0 [.ref b_ends, .int (zI (0))], wJ b_ends K.2.2.1 3782 g, wI x_shown K.2.1 60 shn] (fun vr_ wr_ => ∃ (r : Int), vr_ = some (.int (zI (r))) ∧ wr_ = [] ∧ (((n < 0 ∨ 30 < n) ∧ r = -1) ∨ (0 ≤ n ∧ n ≤ 30 ∧ (((kk < 0 ∨ bE (2 * n).toNat 0 ≤ kk) ∧ r = -1) ∨ (0 ≤ kk ∧ kk < bE (2 * n).toNat 0 ∧ r = 2 * n))))) := by
  refine zMet_of (cc := cX8_brackets) (nL := 4) (ret := (some .int)) (by decide) rfl (Nat.le_of_ble_eq_true rfl) ?_
  rintro C rfl rfl rfl hC hR
  have hinX8 : ∀ w ∈ u_ws RX8 TX8 12, w ∈ wsX8_brackets := by decide +kernel
  show ZW C 0 0 [wO x 8 [.ref x_sheets, .ref x_plane, .ref x_kin, .ref x_heights, .ref x_levels, .ref b, .ref x_shown, .ref x_powers, .int (zI (x_shownCount)), .int (zI (x_status)), x_ways, x_weigher], wO b 0 [.ref b_ends, .int (zI (0))], wJ b_ends (zK C).2.2.1 3782 g, wI x_shown (zK C).2.1 60 shn] [(0, .ref x), (1, .int (zI (n))), (2, .long (zL (kk)))] 0 []
  refine z_iload_n hC 1 dX8_brackets_0 rfl rfl ?_
  refine z_iconst hC dX8_brackets_1 ?_
  refine z_bipush hC dX8_brackets_2 (by decide) ?_
  refine z_callS hC [.int (zI (n)), .int (zI (0)), .int (zI (30))] 3 dX8_brackets_4 (c_X8_within (zl C) (zD C) (zK C) n 0 30 (by first | assumption | omega) (by first | assumption | omega) (by first | assumption | omega)) gX8_brackets_X8_within rfl rfl rfl ⟨by decide, by decide, by decide +kernel⟩ ⟨(Nat.le_of_ble_eq_true rfl), (Nat.le_of_ble_eq_true rfl)⟩ rfl [] [0, 1, 2, 3] [wO x 8 [.ref x_sheets, .ref x_plane, .ref x_kin, .ref x_heights, .ref x_levels, .ref b, .ref x_shown, .ref x_powers, .int (zI (x_shownCount)), .int (zI (x_status)), x_ways, x_weigher], wO b 0 [.ref b_ends, .int (zI (0))], wJ b_ends (zK C).2.2.1 3782 g, wI x_shown (zK C).2.1 60 shn] [] rfl rfl rfl rfl rfl (by decide) (Nat.le_of_ble_eq_true rfl) ⟨(Nat.le_of_ble_eq_true rfl), (Nat.le_of_ble_eq_true rfl)⟩ ?_
  rintro v_ w_ ⟨r_1, rfl, rfl, h_4_2⟩
  show ZW C 0 0 [wO x 8 [.ref x_sheets, .ref x_plane, .ref x_kin, .ref x_heights, .ref x_levels, .ref b, .ref x_shown, .ref x_powers, .int (zI (x_shownCount)), .int (zI (x_status)), x_ways, x_weigher], wO b 0 [.ref b_ends, .int (zI (0))], wJ b_ends (zK C).2.2.1 3782 g, wI x_shown (zK C).2.1 60 shn] [(0, .ref x), (1, .int (zI (n))), (2, .long (zL (kk)))] 7 [.int (zI (r_1))]
  refine z_ifne hC 16 dX8_brackets_7 (by decide) (by omega) (fun c_3 => ?_) (fun c_3 => ?_)
  · skip
    refine z_lload_n hC 2 dX8_brackets_16 rfl rfl ?_
    refine z_lconst (v := 0) hC dX8_brackets_17 rfl ?_
    refine z_lclt hC 38 dX8_brackets_18 dX8_brackets_19 (by decide) (by omega) (fun c_4 => ?_) (fun c_4 => ?_)
    · skip
      refine z_aload_n hC 0 dX8_brackets_38 rfl rfl ?_
      refine z_bipush hC dX8_brackets_39 (by decide) ?_
      refine z_callV hC [.int (zI (8))] 1 0 dX8_brackets_41 (c_X8_refused (zl C) (zD C) (zK C) x x_sheets x_plane x_kin x_heights x_levels b x_shown x_powers 8 x_shownCount x_status x_ways x_weigher ) gX8_brackets_X8_refused rfl rfl rfl ⟨by decide, by decide, by decide +kernel⟩ ⟨(Nat.le_of_ble_eq_true rfl), (Nat.le_of_ble_eq_true rfl)⟩ rfl rfl rfl rfl [0] [1, 2, 3] [wO b 0 [.ref b_ends, .int (zI (0))], wJ b_ends (zK C).2.2.1 3782 g, wI x_shown (zK C).2.1 60 shn] [] rfl rfl rfl rfl rfl (by decide) (Nat.le_of_ble_eq_true rfl) ⟨(Nat.le_of_ble_eq_true rfl), (Nat.le_of_ble_eq_true rfl)⟩ ?_
      rintro v_ w_ ⟨rfl, rfl, h_41_5⟩
      show ZW C 0 0 [wO b 0 [.ref b_ends, .int (zI (0))], wJ b_ends (zK C).2.2.1 3782 g, wI x_shown (zK C).2.1 60 shn, wO x 8 [.ref x_sheets, .ref x_plane, .ref x_kin, .ref x_heights, .ref x_levels, .ref b, .ref x_shown, .ref x_powers, .int (zI (x_shownCount)), .int (zI (8)), x_ways, x_weigher]] [(0, .ref x), (1, .int (zI (n))), (2, .long (zL (kk)))] 44 [.int (zI (-1))]
      refine z_ws (ws' := []) [] rfl rfl ?_
      exact z_iret hC hR dX8_brackets_44 (Nat.le_of_ble_eq_true rfl) (Nat.le_of_ble_eq_true rfl) ⟨-1, rfl, rfl, by omega⟩
    · skip
      refine z_lload_n hC 2 dX8_brackets_22 rfl rfl ?_
      refine z_aload_n hC 0 dX8_brackets_23 rfl rfl ?_
      refine z_get hC (T := TX8) (N := 12) hinX8 0 5 dX8_brackets_24 rfl rfl (by decide) (List.mem_of_getElem? (i := 1) rfl) rfl rfl ?_
      refine z_iconst hC dX8_brackets_27 ?_
      refine z_iload_n hC 1 dX8_brackets_28 rfl rfl ?_
      refine z_imul hC (2 * n) dX8_brackets_29 rfl ?_
      refine z_iconst hC dX8_brackets_30 ?_
      refine z_callV hC [.int (zI (2 * n)), .int (zI (0))] 2 0 dX8_brackets_31 (c_X0_endings0 (zl C) (zD C) (zK C) b b_ends (2 * n) 0 g (by first | assumption | omega) (by first | assumption | omega) (by first | assumption | omega)) gX8_brackets_X0_endings rfl rfl rfl ⟨by decide, by decide, by decide +kernel⟩ ⟨(Nat.le_of_ble_eq_true rfl), (Nat.le_of_ble_eq_true rfl)⟩ rfl rfl rfl rfl [1, 2] [0, 3] [wO x 8 [.ref x_sheets, .ref x_plane, .ref x_kin, .ref x_heights, .ref x_levels, .ref b, .ref x_shown, .ref x_powers, .int (zI (x_shownCount)), .int (zI (x_status)), x_ways, x_weigher], wI x_shown (zK C).2.1 60 shn] [.long (zL (kk))] rfl rfl rfl rfl rfl (by decide) (Nat.le_of_ble_eq_true rfl) ⟨(Nat.le_of_ble_eq_true rfl), (Nat.le_of_ble_eq_true rfl)⟩ ?_
      rintro v_ w_ ⟨r_6, g2_7, rfl, rfl, he⟩
      show ZW C 0 0 [wO x 8 [.ref x_sheets, .ref x_plane, .ref x_kin, .ref x_heights, .ref x_levels, .ref b, .ref x_shown, .ref x_powers, .int (zI (x_shownCount)), .int (zI (x_status)), x_ways, x_weigher], wI x_shown (zK C).2.1 60 shn, wO b 0 [.ref b_ends, .int (zI (1))], wJ b_ends (zK C).2.2.1 3782 g2_7] [(0, .ref x), (1, .int (zI (n))), (2, .long (zL (kk)))] 34 [.long (zL (r_6)), .long (zL (kk))]
      have he2 := he.2.1 (by omega) (by omega) (by omega) (by omega)
      have he3 := bE_r (l := (2 * n).toNat) (by omega) 0
      refine z_lclt hC 45 dX8_brackets_34 dX8_brackets_35 (by decide) (by omega) (fun c_8 => ?_) (fun c_8 => ?_)
      · skip
        refine z_aload_n hC 0 dX8_brackets_45 rfl rfl ?_
        refine z_get hC (T := TX8) (N := 12) hinX8 0 5 dX8_brackets_46 rfl rfl (by decide) (List.mem_of_getElem? (i := 1) rfl) rfl rfl ?_
        refine z_iload_n hC 1 dX8_brackets_49 rfl rfl ?_
        refine z_lload_n hC 2 dX8_brackets_50 rfl rfl ?_
        refine z_aload_n hC 0 dX8_brackets_51 rfl rfl ?_
        refine z_get hC (T := TX8) (N := 12) hinX8 0 6 dX8_brackets_52 rfl rfl (by decide) (List.mem_of_getElem? (i := 2) rfl) rfl rfl ?_
        refine z_callV hC [.int (zI (n)), .long (zL (kk)), .ref x_shown] 3 0 dX8_brackets_55 (c_X0_spell (zl C) (zD C) (zK C) b x_shown b_ends n kk g2_7 shn (by first | assumption | omega) (by first | assumption | omega) (by exact he.2.2)) gX8_brackets_X0_spell rfl rfl rfl ⟨by decide, by decide, by decide +kernel⟩ ⟨(Nat.le_of_ble_eq_true rfl), (Nat.le_of_ble_eq_true rfl)⟩ rfl rfl rfl rfl [2, 3, 1] [0] [wO x 8 [.ref x_sheets, .ref x_plane, .ref x_kin, .ref x_heights, .ref x_levels, .ref b, .ref x_shown, .ref x_powers, .int (zI (x_shownCount)), .int (zI (x_status)), x_ways, x_weigher]] [] rfl rfl rfl rfl rfl (by decide) (Nat.le_of_ble_eq_true rfl) ⟨(Nat.le_of_ble_eq_true rfl), (Nat.le_of_ble_eq_true rfl)⟩ ?_
        rintro v_ w_ ⟨rfl, rfl, h_55_9⟩
        show ZW C 0 0 [wO x 8 [.ref x_sheets, .ref x_plane, .ref x_kin, .ref x_heights, .ref x_levels, .ref b, .ref x_shown, .ref x_powers, .int (zI (x_shownCount)), .int (zI (x_status)), x_ways, x_weigher]] [(0, .ref x), (1, .int (zI (n))), (2, .long (zL (kk)))] 58 []
        refine z_aload_n hC 0 dX8_brackets_58 rfl rfl ?_
        refine z_iconst hC dX8_brackets_59 ?_
        refine z_iload_n hC 1 dX8_brackets_60 rfl rfl ?_
        refine z_imul hC (2 * n) dX8_brackets_61 rfl ?_
        refine z_put hC (T := TX8) (N := 12) hinX8 tyX8_ok nmX8 0 8 [wO x 8 [.ref x_sheets, .ref x_plane, .ref x_kin, .ref x_heights, .ref x_levels, .ref b, .ref x_shown, .ref x_powers, .int (zI (2 * n)), .int (zI (x_status)), x_ways, x_weigher]] dX8_brackets_62 rfl rfl (by decide) (List.mem_of_getElem? (i := 3) rfl) rfl rfl rfl rfl (Nat.le_of_ble_eq_true rfl) rfl ?_
        refine z_aload_n hC 0 dX8_brackets_65 rfl rfl ?_
        refine z_aload_n hC 0 dX8_brackets_66 rfl rfl ?_
        refine z_get hC (T := TX8) (N := 12) hinX8 0 8 dX8_brackets_67 rfl rfl (by decide) (List.mem_of_getElem? (i := 3) rfl) rfl rfl ?_
        refine z_callV hC [.int (zI (2 * n))] 1 0 dX8_brackets_70 (c_X8_given (zl C) (zD C) (zK C) x x_sheets x_plane x_kin x_heights x_levels b x_shown x_powers (2 * n) (2 * n) x_status x_ways x_weigher ) gX8_brackets_X8_given rfl rfl rfl ⟨by decide, by decide, by decide +kernel⟩ ⟨(Nat.le_of_ble_eq_true rfl), (Nat.le_of_ble_eq_true rfl)⟩ rfl rfl rfl rfl [0] [] [] [] rfl rfl rfl rfl rfl (by decide) (Nat.le_of_ble_eq_true rfl) ⟨(Nat.le_of_ble_eq_true rfl), (Nat.le_of_ble_eq_true rfl)⟩ ?_
        rintro v_ w_ ⟨rfl, rfl, h_70_10⟩
        show ZW C 0 0 [wO x 8 [.ref x_sheets, .ref x_plane, .ref x_kin, .ref x_heights, .ref x_levels, .ref b, .ref x_shown, .ref x_powers, .int (zI (2 * n)), .int (zI (0)), x_ways, x_weigher]] [(0, .ref x), (1, .int (zI (n))), (2, .long (zL (kk)))] 73 [.int (zI (2 * n))]
        refine z_ws (ws' := []) [] rfl rfl ?_
        exact z_iret hC hR dX8_brackets_73 (Nat.le_of_ble_eq_true rfl) (Nat.le_of_ble_eq_true rfl) ⟨2 * n, rfl, rfl, by omega⟩
      · skip
        refine z_aload_n hC 0 dX8_brackets_38 rfl rfl ?_
        refine z_bipush hC dX8_brackets_39 (by decide) ?_
        refine z_callV hC [.int (zI (8))] 1 0 dX8_brackets_41 (c_X8_refused (zl C) (zD C) (zK C) x x_sheets x_plane x_kin x_heights x_levels b x_shown x_powers 8 x_shownCount x_status x_ways x_weigher ) gX8_brackets_X8_refused rfl rfl rfl ⟨by decide, by decide, by decide +kernel⟩ ⟨(Nat.le_of_ble_eq_true rfl), (Nat.le_of_ble_eq_true rfl)⟩ rfl rfl rfl rfl [0] [1, 2, 3] [wI x_shown (zK C).2.1 60 shn, wO b 0 [.ref b_ends, .int (zI (1))], wJ b_ends (zK C).2.2.1 3782 g2_7] [] rfl rfl rfl rfl rfl (by decide) (Nat.le_of_ble_eq_true rfl) ⟨(Nat.le_of_ble_eq_true rfl), (Nat.le_of_ble_eq_true rfl)⟩ ?_
        rintro v_ w_ ⟨rfl, rfl, h_41_11⟩
        show ZW C 0 0 [wI x_shown (zK C).2.1 60 shn, wO b 0 [.ref b_ends, .int (zI (1))], wJ b_ends (zK C).2.2.1 3782 g2_7, wO x 8 [.ref x_sheets, .ref x_plane, .ref x_kin, .ref x_heights, .ref x_levels, .ref b, .ref x_shown, .ref x_powers, .int (zI (x_shownCount)), .int (zI (8)), x_ways, x_weigher]] [(0, .ref x), (1, .int (zI (n))), (2, .long (zL (kk)))] 44 [.int (zI (-1))]
        refine z_ws (ws' := []) [] rfl rfl ?_
        exact z_iret hC hR dX8_brackets_44 (Nat.le_of_ble_eq_true rfl) (Nat.le_of_ble_eq_true rfl) ⟨-1, rfl, rfl, by omega⟩
  · skip
    refine z_aload_n hC 0 dX8_brackets_10 rfl rfl ?_
    refine z_iconst hC dX8_brackets_11 ?_
    refine z_callV hC [.int (zI (2))] 1 0 dX8_brackets_12 (c_X8_refused (zl C) (zD C) (zK C) x x_sheets x_plane x_kin x_heights x_levels b x_shown x_powers 2 x_shownCount x_status x_ways x_weigher ) gX8_brackets_X8_refused rfl rfl rfl ⟨by decide, by decide, by decide +kernel⟩ ⟨(Nat.le_of_ble_eq_true rfl), (Nat.le_of_ble_eq_true rfl)⟩ rfl rfl rfl rfl [0] [1, 2, 3] [wO b 0 [.ref b_ends, .int (zI (0))], wJ b_ends (zK C).2.2.1 3782 g, wI x_shown (zK C).2.1 60 shn] [] rfl rfl rfl rfl rfl (by decide) (Nat.le_of_ble_eq_true rfl) ⟨(Nat.le_of_ble_eq_true rfl), (Nat.le_of_ble_eq_true rfl)⟩ ?_
    rintro v_ w_ ⟨rfl, rfl, h_12_12⟩
    show ZW C 0 0 [wO b 0 [.ref b_ends, .int (zI (0))], wJ b_ends (zK C).2.2.1 3782 g, wI x_shown (zK C).2.1 60 shn, wO x 8 [.ref x_sheets, .ref x_plane, .ref x_kin, .ref x_heights, .ref x_levels, .ref b, .ref x_shown, .ref x_powers, .int (zI (x_shownCount)), .int (zI (2)), x_ways, x_weigher]] [(0, .ref x), (1, .int (zI (n))), (2, .long (zL (kk)))] 15 [.int (zI (-1))]
    refine z_ws (ws' := []) [] rfl rfl ?_
    exact z_iret hC hR dX8_brackets_15 (Nat.le_of_ble_eq_true rfl) (Nat.le_of_ble_eq_true rfl) ⟨-1, rfl, rfl, by omega⟩
