set_option maxHeartbeats 4000000 in
set_option maxRecDepth 100000 in
theorem c_X3_reduce (l : Launch) (D : va_G) (K : ClassId × ClassId × ClassId × ClassId) (v v_terms v_now v_then v_link v_older v_spare v_parts v_rest v_product v_keptParts : Nat) (hi v_keptDegree : Int) (pt pr rs : Int → Int) (hh : 5 ≤ hi ∧ hi ≤ 11) (hpt : rl pt) (hpr : ∀ j, 0 ≤ j → j ≤ hi → 0 ≤ pr j ∧ pr j < 998244353) : zMet l D K yX3_reduce wsX3_reduce ({ frames := 0, cells := 0, slots := 0, locals := 0 }) 0 0 [.ref v, .int (zI (hi))] [wO v 3 [.ref v_terms, .ref v_now, .ref v_then, .ref v_link, .ref v_older, .ref v_spare, .ref v_parts, .ref v_rest, .ref v_product, .ref v_keptParts, .int (zI (6)), .int (zI (v_keptDegree))], wJ v_parts K.2.2.1 64 pt, wJ v_product K.2.2.1 64 pr, wJ v_rest K.2.2.1 64 rs] (fun vr_ wr_ => ∃ (rs2 : Int → Int) (pr2 : Int → Int), vr_ = none ∧ wr_ = [wO v 3 [.ref v_terms, .ref v_now, .ref v_then, .ref v_link, .ref v_older, .ref v_spare, .ref v_parts, .ref v_rest, .ref v_product, .ref v_keptParts, .int (zI (6)), .int (zI (v_keptDegree))], wJ v_parts K.2.2.1 64 pt, wJ v_product K.2.2.1 64 pr2, wJ v_rest K.2.2.1 64 rs2] ∧ ((∀ m, 0 ≤ m → pS rs2 m 6 % 998244353 = pS pr m (hi + 1).toNat % 998244353) ∧ (∀ j, 0 ≤ j → j < 6 → 0 ≤ rs2 j ∧ rs2 j < 998244353))) := by
  refine zMet_of (cc := cX3_reduce) (nL := 4) (ret := none) (by decide) rfl (Nat.le_of_ble_eq_true rfl) ?_
  rintro C rfl rfl rfl hC hR
  have hinX3 : ∀ w ∈ u_ws RX3 TX3 12, w ∈ wsX3_reduce := by decide +kernel
  show ZW C 0 0 [wO v 3 [.ref v_terms, .ref v_now, .ref v_then, .ref v_link, .ref v_older, .ref v_spare, .ref v_parts, .ref v_rest, .ref v_product, .ref v_keptParts, .int (zI (6)), .int (zI (v_keptDegree))], wJ v_parts (zK C).2.2.1 64 pt, wJ v_product (zK C).2.2.1 64 pr, wJ v_rest (zK C).2.2.1 64 rs] [(0, .ref v), (1, .int (zI (hi)))] 0 []
  refine z_iload_n hC 1 dX3_reduce_0 rfl rfl ?_
  refine z_istore_n hC [(2, .int (zI (hi))), (0, .ref v), (1, .int (zI (hi)))] dX3_reduce_1 rfl (by decide) rfl ?_
  refine z_lv (lv' := [(0, .ref v), (1, .int (zI (hi))), (2, .int (zI (hi)))]) [1, 2, 0] rfl ?_
  have lp2_1 : ∀ (f3 : Nat) (j : Int) (q : Int → Int), (5 ≤ j ∧ j ≤ hi) → (∀ m, 0 ≤ m → pS q m (j + 1).toNat % 998244353 = pS pr m (hi + 1).toNat % 998244353) → (∀ k, 0 ≤ k → k ≤ hi → 0 ≤ q k ∧ q k < 998244353) → (j).toNat < f3 → ZW C 0 0 [wO v 3 [.ref v_terms, .ref v_now, .ref v_then, .ref v_link, .ref v_older, .ref v_spare, .ref v_parts, .ref v_rest, .ref v_product, .ref v_keptParts, .int (zI (6)), .int (zI (v_keptDegree))], wJ v_parts (zK C).2.2.1 64 pt, wJ v_product (zK C).2.2.1 64 q, wJ v_rest (zK C).2.2.1 64 rs] [(0, .ref v), (1, .int (zI (hi))), (2, .int (zI (j)))] 2 [] := by
    intro f3
    induction f3 with
    | zero => intro _ _ _ _ _ hf; exact absurd hf (Nat.not_lt_zero _)
    | succ f3 ih2_2 =>
      intro j q vj vs vr hf_2
      refine z_iload_n hC 2 dX3_reduce_2 rfl rfl ?_
      refine z_aload_n hC 0 dX3_reduce_3 rfl rfl ?_
      refine z_get hC (T := TX3) (N := 12) hinX3 0 10 dX3_reduce_4 rfl rfl (by decide) (List.mem_of_getElem? (i := 1) rfl) rfl rfl ?_
      refine z_iclt hC 66 dX3_reduce_7 (by decide) (by omega) (fun c_4 => ?_) (fun c_4 => ?_)
      · skip
        refine z_iconst hC dX3_reduce_66 ?_
        refine z_istore_n hC [(2, .int (zI (0))), (0, .ref v), (1, .int (zI (hi)))] dX3_reduce_67 rfl (by decide) rfl ?_
        refine z_lv (lv' := [(0, .ref v), (1, .int (zI (hi))), (2, .int (zI (0)))]) [1, 2, 0] rfl ?_
        have lp68_5 : ∀ (f7 : Nat) (k : Int) (rq : Int → Int), (0 ≤ k ∧ k ≤ 6) → (∀ i, 0 ≤ i → i < k → rq i = q i) → (6 - k).toNat < f7 → ZW C 0 0 [wO v 3 [.ref v_terms, .ref v_now, .ref v_then, .ref v_link, .ref v_older, .ref v_spare, .ref v_parts, .ref v_rest, .ref v_product, .ref v_keptParts, .int (zI (6)), .int (zI (v_keptDegree))], wJ v_parts (zK C).2.2.1 64 pt, wJ v_product (zK C).2.2.1 64 q, wJ v_rest (zK C).2.2.1 64 rq] [(0, .ref v), (1, .int (zI (hi))), (2, .int (zI (k)))] 68 [] := by
          intro f7
          induction f7 with
          | zero => intro _ _ _ _ hf; exact absurd hf (Nat.not_lt_zero _)
          | succ f7 ih68_6 =>
            intro k rq vk vc hf_68
            refine z_iload_n hC 2 dX3_reduce_68 rfl rfl ?_
            refine z_aload_n hC 0 dX3_reduce_69 rfl rfl ?_
            refine z_get hC (T := TX3) (N := 12) hinX3 0 10 dX3_reduce_70 rfl rfl (by decide) (List.mem_of_getElem? (i := 1) rfl) rfl rfl ?_
            refine z_icge hC 94 dX3_reduce_73 (by decide) (by omega) (fun c_8 => ?_) (fun c_8 => ?_)
            · skip
              exact z_vret hC hR dX3_reduce_94 (Nat.le_of_ble_eq_true rfl) (Nat.le_of_ble_eq_true rfl) ⟨rq, q, rfl, rfl, by refine ⟨fun m hm => ?_, fun i a b => ?_⟩; (rw [← vs m hm, show (j + 1).toNat = 6 by omega]; congr 1; exact sumZ_cong (fun i a b => by rw [vc i a (by omega)])); (rw [vc i a (by omega)]; exact vr i a (by omega))⟩
            · skip
              refine z_aload_n hC 0 dX3_reduce_76 rfl rfl ?_
              refine z_get hC (T := TX3) (N := 12) hinX3 0 7 dX3_reduce_77 rfl rfl (by decide) (List.mem_of_getElem? (i := 5) rfl) rfl rfl ?_
              refine z_iload_n hC 2 dX3_reduce_80 rfl rfl ?_
              refine z_aload_n hC 0 dX3_reduce_81 rfl rfl ?_
              refine z_get hC (T := TX3) (N := 12) hinX3 0 8 dX3_reduce_82 rfl rfl (by decide) (List.mem_of_getElem? (i := 2) rfl) rfl rfl ?_
              refine z_iload_n hC 2 dX3_reduce_85 rfl rfl ?_
              refine z_lald hC 2 dX3_reduce_86 rfl (by omega) ?_
              refine z_last hC 3 [wO v 3 [.ref v_terms, .ref v_now, .ref v_then, .ref v_link, .ref v_older, .ref v_spare, .ref v_parts, .ref v_rest, .ref v_product, .ref v_keptParts, .int (zI (6)), .int (zI (v_keptDegree))], wJ v_parts (zK C).2.2.1 64 pt, wJ v_product (zK C).2.2.1 64 q, wJ v_rest (zK C).2.2.1 64 (zu rq k (q k))] dX3_reduce_87 rfl (by omega) rfl ?_
              refine z_iinc (a := k) (v := 1) (r := k + 1) hC 2 [(2, .int (zI (k + 1))), (0, .ref v), (1, .int (zI (hi)))] dX3_reduce_88 rfl rfl (by decide) rfl ?_
              refine z_goto hC 68 dX3_reduce_91 (by decide) ?_
              refine z_lv (lv' := [(0, .ref v), (1, .int (zI (hi))), (2, .int (zI (k + 1)))]) [1, 2, 0] rfl ?_
              exact ih68_6 (k + 1) (zu rq k (q k)) (by omega) (by intro i a b; unfold zu; by_cases e : i = k; (rw [if_pos e, e]); (rw [if_neg e]; exact vc i a (by omega))) (by omega)
        exact lp68_5 _ 0 rs (by omega) (by intro i a b; omega) (Nat.lt_succ_self _)
      · skip
        refine z_iconst hC dX3_reduce_10 ?_
        refine z_istore_n hC [(3, .int (zI (1))), (0, .ref v), (1, .int (zI (hi))), (2, .int (zI (j)))] dX3_reduce_11 rfl (by decide) rfl ?_
        refine z_lv (lv' := [(0, .ref v), (1, .int (zI (hi))), (2, .int (zI (j))), (3, .int (zI (1)))]) [1, 2, 3, 0] rfl ?_
        have lp12_9 : ∀ (f11 : Nat) (i : Int) (q2 : Int → Int), (1 ≤ i ∧ i ≤ 7) → (∀ m, 0 ≤ m → (pS q2 m j.toNat + q2 j * rmn pt (j + m) (i - 1).toNat) % 998244353 = pS pr m (hi + 1).toNat % 998244353) → (∀ k, 0 ≤ k → k ≤ hi → 0 ≤ q2 k ∧ q2 k < 998244353) → (7 - i).toNat < f11 → ZW C 0 0 [wO v 3 [.ref v_terms, .ref v_now, .ref v_then, .ref v_link, .ref v_older, .ref v_spare, .ref v_parts, .ref v_rest, .ref v_product, .ref v_keptParts, .int (zI (6)), .int (zI (v_keptDegree))], wJ v_parts (zK C).2.2.1 64 pt, wJ v_product (zK C).2.2.1 64 q2, wJ v_rest (zK C).2.2.1 64 rs] [(0, .ref v), (1, .int (zI (hi))), (2, .int (zI (j))), (3, .int (zI (i)))] 12 [] := by
          intro f11
          induction f11 with
          | zero => intro _ _ _ _ _ hf; exact absurd hf (Nat.not_lt_zero _)
          | succ f11 ih12_10 =>
            intro i q2 vi vt vr2 hf_12
            refine z_iload_n hC 3 dX3_reduce_12 rfl rfl ?_
            refine z_aload_n hC 0 dX3_reduce_13 rfl rfl ?_
            refine z_get hC (T := TX3) (N := 12) hinX3 0 10 dX3_reduce_14 rfl rfl (by decide) (List.mem_of_getElem? (i := 1) rfl) rfl rfl ?_
            refine z_icgt hC 60 dX3_reduce_17 (by decide) (by omega) (fun c_12 => ?_) (fun c_12 => ?_)
            · skip
              refine z_iinc (a := j) (v := -1) (r := j - 1) hC 2 [(2, .int (zI (j - 1))), (0, .ref v), (1, .int (zI (hi))), (3, .int (zI (i)))] dX3_reduce_60 rfl (by omega) (by decide) rfl ?_
              refine z_goto hC 2 dX3_reduce_63 (by decide) ?_
              refine z_lv (lv' := [(0, .ref v), (1, .int (zI (hi))), (2, .int (zI (j - 1)))]) [1, 2, 0] rfl ?_
              exact ih2_2 (j - 1) q2 (by omega) (by intro m hm; rw [show j - 1 + 1 = j by omega]; have h7 := vt m hm; rw [show i = 7 by omega] at h7; exact red_out hpt (by omega) hm h7) (by exact vr2) (by omega)
            · skip
              have hq1 := vr2 (j - i) (by omega) (by omega)
              have hq2 := vr2 j (by omega) (by omega)
              have hq3 := rl_r hpt (j := i) (by omega)
              have hq4 := mul_r hq2 hq3
              refine z_aload_n hC 0 dX3_reduce_20 rfl rfl ?_
              refine z_get hC (T := TX3) (N := 12) hinX3 0 8 dX3_reduce_21 rfl rfl (by decide) (List.mem_of_getElem? (i := 2) rfl) rfl rfl ?_
              refine z_iload_n hC 2 dX3_reduce_24 rfl rfl ?_
              refine z_iload_n hC 3 dX3_reduce_25 rfl rfl ?_
              refine z_isub hC (j - i) dX3_reduce_26 rfl ?_
              refine z_aload_n hC 0 dX3_reduce_27 rfl rfl ?_
              refine z_get hC (T := TX3) (N := 12) hinX3 0 8 dX3_reduce_28 rfl rfl (by decide) (List.mem_of_getElem? (i := 2) rfl) rfl rfl ?_
              refine z_iload_n hC 2 dX3_reduce_31 rfl rfl ?_
              refine z_iload_n hC 3 dX3_reduce_32 rfl rfl ?_
              refine z_isub hC (j - i) dX3_reduce_33 rfl ?_
              refine z_lald hC 2 dX3_reduce_34 rfl (by omega) ?_
              refine z_aload_n hC 0 dX3_reduce_35 rfl rfl ?_
              refine z_get hC (T := TX3) (N := 12) hinX3 0 8 dX3_reduce_36 rfl rfl (by decide) (List.mem_of_getElem? (i := 2) rfl) rfl rfl ?_
              refine z_iload_n hC 2 dX3_reduce_39 rfl rfl ?_
              refine z_lald hC 2 dX3_reduce_40 rfl (by omega) ?_
              refine z_aload_n hC 0 dX3_reduce_41 rfl rfl ?_
              refine z_get hC (T := TX3) (N := 12) hinX3 0 6 dX3_reduce_42 rfl rfl (by decide) (List.mem_of_getElem? (i := 3) rfl) rfl rfl ?_
              refine z_iload_n hC 3 dX3_reduce_45 rfl rfl ?_
              refine z_lald hC 1 dX3_reduce_46 rfl (by omega) ?_
              refine z_lmul hC ((q2 j) * (pt i)) dX3_reduce_47 rfl ?_
              refine z_ladd hC ((q2 (j - i)) + ((q2 j) * (pt i))) dX3_reduce_48 rfl ?_
              refine z_ldc2 (v := 998244353) hC (List.mem_of_getElem? (i := 4) rfl) rfl dX3_reduce_49 ?_
              refine z_lrem hC (((q2 (j - i)) + ((q2 j) * (pt i))) % 998244353) dX3_reduce_52 (by omega) rfl ?_
              refine z_last hC 2 [wO v 3 [.ref v_terms, .ref v_now, .ref v_then, .ref v_link, .ref v_older, .ref v_spare, .ref v_parts, .ref v_rest, .ref v_product, .ref v_keptParts, .int (zI (6)), .int (zI (v_keptDegree))], wJ v_parts (zK C).2.2.1 64 pt, wJ v_product (zK C).2.2.1 64 (zu q2 (j - i) (((q2 (j - i)) + ((q2 j) * (pt i))) % 998244353)), wJ v_rest (zK C).2.2.1 64 rs] dX3_reduce_53 rfl (by omega) rfl ?_
              refine z_iinc (a := i) (v := 1) (r := i + 1) hC 3 [(3, .int (zI (i + 1))), (0, .ref v), (1, .int (zI (hi))), (2, .int (zI (j)))] dX3_reduce_54 rfl rfl (by decide) rfl ?_
              refine z_goto hC 12 dX3_reduce_57 (by decide) ?_
              refine z_lv (lv' := [(0, .ref v), (1, .int (zI (hi))), (2, .int (zI (j))), (3, .int (zI (i + 1)))]) [1, 2, 3, 0] rfl ?_
              exact ih12_10 (i + 1) (zu q2 (j - i) (((q2 (j - i)) + ((q2 j) * (pt i))) % 998244353)) (by omega) (by intro m hm; exact red_step (by omega) (by omega) (vt m hm)) (by intro k a b; unfold zu; split; exact mod_r _; exact vr2 k a b) (by omega)
        exact lp12_9 _ 1 q (by omega) (by intro m hm; exact red_in (by omega) (vs m hm)) (by exact vr) (Nat.lt_succ_self _)
  exact lp2_1 _ hi pr (by omega) (by intro m _; rfl) (by exact hpr) (Nat.lt_succ_self _)

set_option maxHeartbeats 4000000 in
set_option maxRecDepth 100000 in
theorem c_X3_square (l : Launch) (D : va_G) (K : ClassId × ClassId × ClassId × ClassId) (v v_terms v_now v_then v_link v_older v_spare v_parts v_rest v_product v_keptParts : Nat) (v_keptDegree : Int) (pt pr rs : Int → Int) (e : Int) (hpt : rl pt) (hrs : ∀ j, 0 ≤ j → j < 6 → 0 ≤ rs j ∧ rs j < 998244353) (he : 0 ≤ e) (hph : ∀ m, 0 ≤ m → pS rs m 6 % 998244353 = tE (e + m) % 998244353) : zMet l D K yX3_square wsX3_square ({ frames := 1, cells := 0, slots := 0, locals := 23 }) 0 0 [.ref v] [wO v 3 [.ref v_terms, .ref v_now, .ref v_then, .ref v_link, .ref v_older, .ref v_spare, .ref v_parts, .ref v_rest, .ref v_product, .ref v_keptParts, .int (zI (6)), .int (zI (v_keptDegree))], wJ v_parts K.2.2.1 64 pt, wJ v_product K.2.2.1 64 pr, wJ v_rest K.2.2.1 64 rs] (fun vr_ wr_ => ∃ (rs2 : Int → Int) (pr2 : Int → Int), vr_ = none ∧ wr_ = [wO v 3 [.ref v_terms, .ref v_now, .ref v_then, .ref v_link, .ref v_older, .ref v_spare, .ref v_parts, .ref v_rest, .ref v_product, .ref v_keptParts, .int (zI (6)), .int (zI (v_keptDegree))], wJ v_parts K.2.2.1 64 pt, wJ v_product K.2.2.1 64 pr2, wJ v_rest K.2.2.1 64 rs2] ∧ ((∀ m, 0 ≤ m → pS rs2 m 6 % 998244353 = tE (2 * e + m) % 998244353) ∧ (∀ j, 0 ≤ j → j < 6 → 0 ≤ rs2 j ∧ rs2 j < 998244353))) := by
  refine zMet_of (cc := cX3_square) (nL := 3) (ret := none) (by decide) rfl (Nat.le_of_ble_eq_true rfl) ?_
  rintro C rfl rfl rfl hC hR
  have hinX3 : ∀ w ∈ u_ws RX3 TX3 12, w ∈ wsX3_square := by decide +kernel
  show ZW C 0 0 [wO v 3 [.ref v_terms, .ref v_now, .ref v_then, .ref v_link, .ref v_older, .ref v_spare, .ref v_parts, .ref v_rest, .ref v_product, .ref v_keptParts, .int (zI (6)), .int (zI (v_keptDegree))], wJ v_parts (zK C).2.2.1 64 pt, wJ v_product (zK C).2.2.1 64 pr, wJ v_rest (zK C).2.2.1 64 rs] [(0, .ref v)] 0 []
  refine z_iconst hC dX3_square_0 ?_
  refine z_istore_n hC [(1, .int (zI (0))), (0, .ref v)] dX3_square_1 rfl (by decide) rfl ?_
  refine z_lv (lv' := [(0, .ref v), (1, .int (zI (0)))]) [1, 0] rfl ?_
  have lp2_1 : ∀ (f3 : Nat) (k0 : Int) (q0 : Int → Int), (0 ≤ k0 ∧ k0 ≤ 64) → (∀ j, 0 ≤ j → j < k0 → q0 j = 0) → (64 - k0).toNat < f3 → ZW C 0 0 [wO v 3 [.ref v_terms, .ref v_now, .ref v_then, .ref v_link, .ref v_older, .ref v_spare, .ref v_parts, .ref v_rest, .ref v_product, .ref v_keptParts, .int (zI (6)), .int (zI (v_keptDegree))], wJ v_parts (zK C).2.2.1 64 pt, wJ v_product (zK C).2.2.1 64 q0, wJ v_rest (zK C).2.2.1 64 rs] [(0, .ref v), (1, .int (zI (k0)))] 2 [] := by
    intro f3
    induction f3 with
    | zero => intro _ _ _ _ hf; exact absurd hf (Nat.not_lt_zero _)
    | succ f3 ih2_2 =>
      intro k0 q0 vk0 vz hf_2
      refine z_iload_n hC 1 dX3_square_2 rfl rfl ?_
      refine z_bipush hC dX3_square_3 (by decide) ?_
      refine z_icge hC 21 dX3_square_5 (by decide) (by omega) (fun c_4 => ?_) (fun c_4 => ?_)
      · skip
        refine z_iconst hC dX3_square_21 ?_
        refine z_istore_n hC [(1, .int (zI (0))), (0, .ref v)] dX3_square_22 rfl (by decide) rfl ?_
        refine z_lv (lv' := [(0, .ref v), (1, .int (zI (0)))]) [1, 0] rfl ?_
        have lp23_5 : ∀ (f7 : Nat) (i : Int) (q : Int → Int), (0 ≤ i ∧ i ≤ 6) → (∀ m, pS q m 11 % 998244353 = sqS rs m i.toNat % 998244353) → (∀ k, 0 ≤ k → k < 64 → 0 ≤ q k ∧ q k < 998244353) → (6 - i).toNat < f7 → ZW C 0 0 [wO v 3 [.ref v_terms, .ref v_now, .ref v_then, .ref v_link, .ref v_older, .ref v_spare, .ref v_parts, .ref v_rest, .ref v_product, .ref v_keptParts, .int (zI (6)), .int (zI (v_keptDegree))], wJ v_parts (zK C).2.2.1 64 pt, wJ v_product (zK C).2.2.1 64 q, wJ v_rest (zK C).2.2.1 64 rs] [(0, .ref v), (1, .int (zI (i)))] 23 [] := by
          intro f7
          induction f7 with
          | zero => intro _ _ _ _ _ hf; exact absurd hf (Nat.not_lt_zero _)
          | succ f7 ih23_6 =>
            intro i q vi vs vr hf_23
            refine z_iload_n hC 1 dX3_square_23 rfl rfl ?_
            refine z_aload_n hC 0 dX3_square_24 rfl rfl ?_
            refine z_get hC (T := TX3) (N := 12) hinX3 0 10 dX3_square_25 rfl rfl (by decide) (List.mem_of_getElem? (i := 2) rfl) rfl rfl ?_
            refine z_icge hC 87 dX3_square_28 (by decide) (by omega) (fun c_8 => ?_) (fun c_8 => ?_)
            · skip
              refine z_aload_n hC 0 dX3_square_87 rfl rfl ?_
              refine z_iconst hC dX3_square_88 ?_
              refine z_aload_n hC 0 dX3_square_89 rfl rfl ?_
              refine z_get hC (T := TX3) (N := 12) hinX3 0 10 dX3_square_90 rfl rfl (by decide) (List.mem_of_getElem? (i := 2) rfl) rfl rfl ?_
              refine z_imul hC (12) dX3_square_93 (by decide) ?_
              refine z_iconst hC dX3_square_94 ?_
              refine z_isub hC (10) dX3_square_95 (by decide) ?_
              refine z_callV hC [.int (zI (10))] 1 0 dX3_square_96 (c_X3_reduce (zl C) (zD C) (zK C) v v_terms v_now v_then v_link v_older v_spare v_parts v_rest v_product v_keptParts 10 v_keptDegree pt q rs (by first | assumption | omega) (by first | assumption | omega) (by intro k a b; exact vr k a (by omega))) gX3_square_X3_reduce rfl rfl rfl ⟨by decide, by decide, by decide +kernel⟩ ⟨(Nat.le_of_ble_eq_true rfl), (Nat.le_of_ble_eq_true rfl)⟩ rfl rfl rfl rfl [0, 1, 2, 3] [] [] [] rfl rfl rfl rfl rfl (by decide) (Nat.le_of_ble_eq_true rfl) ⟨(Nat.le_of_ble_eq_true rfl), (Nat.le_of_ble_eq_true rfl)⟩ ?_
              rintro v_ w_ ⟨rs2_9, pr2_10, rfl, rfl, hrd⟩
              show ZW C 0 0 [wO v 3 [.ref v_terms, .ref v_now, .ref v_then, .ref v_link, .ref v_older, .ref v_spare, .ref v_parts, .ref v_rest, .ref v_product, .ref v_keptParts, .int (zI (6)), .int (zI (v_keptDegree))], wJ v_parts (zK C).2.2.1 64 pt, wJ v_product (zK C).2.2.1 64 pr2_10, wJ v_rest (zK C).2.2.1 64 rs2_9] [(0, .ref v), (1, .int (zI (i)))] 99 []
              exact z_vret hC hR dX3_square_99 (Nat.le_of_ble_eq_true rfl) (Nat.le_of_ble_eq_true rfl) ⟨rs2_9, pr2_10, rfl, rfl, by refine ⟨fun m hm => ?_, hrd.2⟩; rw [hrd.1 m hm]; have h1 := vs m; rw [show i = 6 by omega] at h1; exact h1.trans (sqS_val he hph hm)⟩
            · skip
              refine z_iconst hC dX3_square_31 ?_
              refine z_istore_n hC [(2, .int (zI (0))), (0, .ref v), (1, .int (zI (i)))] dX3_square_32 rfl (by decide) rfl ?_
              refine z_lv (lv' := [(0, .ref v), (1, .int (zI (i))), (2, .int (zI (0)))]) [1, 2, 0] rfl ?_
              have lp33_11 : ∀ (f13 : Nat) (j : Int) (q2 : Int → Int), (0 ≤ j ∧ j ≤ 6) → (∀ m, pS q2 m 11 % 998244353 = (sqS rs m i.toNat + sqR rs m i j.toNat) % 998244353) → (∀ k, 0 ≤ k → k < 64 → 0 ≤ q2 k ∧ q2 k < 998244353) → (6 - j).toNat < f13 → ZW C 0 0 [wO v 3 [.ref v_terms, .ref v_now, .ref v_then, .ref v_link, .ref v_older, .ref v_spare, .ref v_parts, .ref v_rest, .ref v_product, .ref v_keptParts, .int (zI (6)), .int (zI (v_keptDegree))], wJ v_parts (zK C).2.2.1 64 pt, wJ v_product (zK C).2.2.1 64 q2, wJ v_rest (zK C).2.2.1 64 rs] [(0, .ref v), (1, .int (zI (i))), (2, .int (zI (j)))] 33 [] := by
                intro f13
                induction f13 with
                | zero => intro _ _ _ _ _ hf; exact absurd hf (Nat.not_lt_zero _)
                | succ f13 ih33_12 =>
                  intro j q2 vj vt vr2 hf_33
                  refine z_iload_n hC 2 dX3_square_33 rfl rfl ?_
                  refine z_aload_n hC 0 dX3_square_34 rfl rfl ?_
                  refine z_get hC (T := TX3) (N := 12) hinX3 0 10 dX3_square_35 rfl rfl (by decide) (List.mem_of_getElem? (i := 2) rfl) rfl rfl ?_
                  refine z_icge hC 81 dX3_square_38 (by decide) (by omega) (fun c_14 => ?_) (fun c_14 => ?_)
                  · skip
                    refine z_iinc (a := i) (v := 1) (r := i + 1) hC 1 [(1, .int (zI (i + 1))), (0, .ref v), (2, .int (zI (j)))] dX3_square_81 rfl rfl (by decide) rfl ?_
                    refine z_goto hC 23 dX3_square_84 (by decide) ?_
                    refine z_lv (lv' := [(0, .ref v), (1, .int (zI (i + 1)))]) [1, 0] rfl ?_
                    exact ih23_6 (i + 1) q2 (by omega) (by intro m; rw [vt m, show j = 6 by omega, show (i + 1).toNat = i.toNat + 1 by omega]; show _ = (sqS rs m i.toNat + sqR rs m (i.toNat : Int) 6) % 998244353; rw [show ((i.toNat : Nat) : Int) = i by omega]; rfl) (by exact vr2) (by omega)
                  · skip
                    have hq1 := vr2 (i + j) (by omega) (by omega)
                    have hq2 := mul_r (hrs i (by omega) (by omega)) (hrs j (by omega) (by omega))
                    refine z_aload_n hC 0 dX3_square_41 rfl rfl ?_
                    refine z_get hC (T := TX3) (N := 12) hinX3 0 8 dX3_square_42 rfl rfl (by decide) (List.mem_of_getElem? (i := 1) rfl) rfl rfl ?_
                    refine z_iload_n hC 1 dX3_square_45 rfl rfl ?_
                    refine z_iload_n hC 2 dX3_square_46 rfl rfl ?_
                    refine z_iadd hC (i + j) dX3_square_47 rfl ?_
                    refine z_aload_n hC 0 dX3_square_48 rfl rfl ?_
                    refine z_get hC (T := TX3) (N := 12) hinX3 0 8 dX3_square_49 rfl rfl (by decide) (List.mem_of_getElem? (i := 1) rfl) rfl rfl ?_
                    refine z_iload_n hC 1 dX3_square_52 rfl rfl ?_
                    refine z_iload_n hC 2 dX3_square_53 rfl rfl ?_
                    refine z_iadd hC (i + j) dX3_square_54 rfl ?_
                    refine z_lald hC 2 dX3_square_55 rfl (by omega) ?_
                    refine z_aload_n hC 0 dX3_square_56 rfl rfl ?_
                    refine z_get hC (T := TX3) (N := 12) hinX3 0 7 dX3_square_57 rfl rfl (by decide) (List.mem_of_getElem? (i := 3) rfl) rfl rfl ?_
                    refine z_iload_n hC 1 dX3_square_60 rfl rfl ?_
                    refine z_lald hC 3 dX3_square_61 rfl (by omega) ?_
                    refine z_aload_n hC 0 dX3_square_62 rfl rfl ?_
                    refine z_get hC (T := TX3) (N := 12) hinX3 0 7 dX3_square_63 rfl rfl (by decide) (List.mem_of_getElem? (i := 3) rfl) rfl rfl ?_
                    refine z_iload_n hC 2 dX3_square_66 rfl rfl ?_
                    refine z_lald hC 3 dX3_square_67 rfl (by omega) ?_
                    refine z_lmul hC ((rs i) * (rs j)) dX3_square_68 rfl ?_
                    refine z_ladd hC ((q2 (i + j)) + ((rs i) * (rs j))) dX3_square_69 rfl ?_
                    refine z_ldc2 (v := 998244353) hC (List.mem_of_getElem? (i := 4) rfl) rfl dX3_square_70 ?_
                    refine z_lrem hC (((q2 (i + j)) + ((rs i) * (rs j))) % 998244353) dX3_square_73 (by omega) rfl ?_
                    refine z_last hC 2 [wO v 3 [.ref v_terms, .ref v_now, .ref v_then, .ref v_link, .ref v_older, .ref v_spare, .ref v_parts, .ref v_rest, .ref v_product, .ref v_keptParts, .int (zI (6)), .int (zI (v_keptDegree))], wJ v_parts (zK C).2.2.1 64 pt, wJ v_product (zK C).2.2.1 64 (zu q2 (i + j) (((q2 (i + j)) + ((rs i) * (rs j))) % 998244353)), wJ v_rest (zK C).2.2.1 64 rs] dX3_square_74 rfl (by omega) rfl ?_
                    refine z_iinc (a := j) (v := 1) (r := j + 1) hC 2 [(2, .int (zI (j + 1))), (0, .ref v), (1, .int (zI (i)))] dX3_square_75 rfl rfl (by decide) rfl ?_
                    refine z_goto hC 33 dX3_square_78 (by decide) ?_
                    refine z_lv (lv' := [(0, .ref v), (1, .int (zI (i))), (2, .int (zI (j + 1)))]) [1, 2, 0] rfl ?_
                    exact ih33_12 (j + 1) (zu q2 (i + j) (((q2 (i + j)) + ((rs i) * (rs j))) % 998244353)) (by omega) (by intro m; exact sq_step (by omega) (by omega) (vt m)) (by intro k a b; unfold zu; split; exact mod_r _; exact vr2 k a b) (by omega)
              exact lp33_11 _ 0 q (by omega) (by intro m; rw [vs m]; show _ = (sqS rs m i.toNat + 0) % 998244353; rw [Int.add_zero]) (by exact vr) (Nat.lt_succ_self _)
        exact lp23_5 _ 0 q0 (by omega) (by intro m; rw [pS_0 (fun j a b => vz j a (by omega))]; rfl) (by intro k a b; rw [vz k a (by omega)]; decide) (Nat.lt_succ_self _)
      · skip
        refine z_aload_n hC 0 dX3_square_8 rfl rfl ?_
        refine z_get hC (T := TX3) (N := 12) hinX3 0 8 dX3_square_9 rfl rfl (by decide) (List.mem_of_getElem? (i := 1) rfl) rfl rfl ?_
        refine z_iload_n hC 1 dX3_square_12 rfl rfl ?_
        refine z_lconst (v := 0) hC dX3_square_13 rfl ?_
        refine z_last hC 2 [wO v 3 [.ref v_terms, .ref v_now, .ref v_then, .ref v_link, .ref v_older, .ref v_spare, .ref v_parts, .ref v_rest, .ref v_product, .ref v_keptParts, .int (zI (6)), .int (zI (v_keptDegree))], wJ v_parts (zK C).2.2.1 64 pt, wJ v_product (zK C).2.2.1 64 (zu q0 k0 0), wJ v_rest (zK C).2.2.1 64 rs] dX3_square_14 rfl (by omega) rfl ?_
        refine z_iinc (a := k0) (v := 1) (r := k0 + 1) hC 1 [(1, .int (zI (k0 + 1))), (0, .ref v)] dX3_square_15 rfl rfl (by decide) rfl ?_
        refine z_goto hC 2 dX3_square_18 (by decide) ?_
        refine z_lv (lv' := [(0, .ref v), (1, .int (zI (k0 + 1)))]) [1, 0] rfl ?_
        exact ih2_2 (k0 + 1) (zu q0 k0 0) (by omega) (by intro j a b; unfold zu; split; rfl; exact vz j a (by omega)) (by omega)
  exact lp2_1 _ 0 pr (by omega) (by intro j a b; omega) (Nat.lt_succ_self _)

set_option maxHeartbeats 4000000 in
set_option maxRecDepth 100000 in
theorem c_X3_raise (l : Launch) (D : va_G) (K : ClassId × ClassId × ClassId × ClassId) (v v_terms v_now v_then v_link v_older v_spare v_parts v_rest v_product v_keptParts : Nat) (v_keptDegree : Int) (pt pr rs : Int → Int) (e : Int) (hpt : rl pt) (hrs : ∀ j, 0 ≤ j → j < 6 → 0 ≤ rs j ∧ rs j < 998244353) (he : 0 ≤ e) (hph : ∀ m, 0 ≤ m → pS rs m 6 % 998244353 = tE (e + m) % 998244353) : zMet l D K yX3_raise wsX3_raise ({ frames := 1, cells := 0, slots := 0, locals := 23 }) 0 0 [.ref v] [wO v 3 [.ref v_terms, .ref v_now, .ref v_then, .ref v_link, .ref v_older, .ref v_spare, .ref v_parts, .ref v_rest, .ref v_product, .ref v_keptParts, .int (zI (6)), .int (zI (v_keptDegree))], wJ v_parts K.2.2.1 64 pt, wJ v_product K.2.2.1 64 pr, wJ v_rest K.2.2.1 64 rs] (fun vr_ wr_ => ∃ (rs2 : Int → Int) (pr2 : Int → Int), vr_ = none ∧ wr_ = [wO v 3 [.ref v_terms, .ref v_now, .ref v_then, .ref v_link, .ref v_older, .ref v_spare, .ref v_parts, .ref v_rest, .ref v_product, .ref v_keptParts, .int (zI (6)), .int (zI (v_keptDegree))], wJ v_parts K.2.2.1 64 pt, wJ v_product K.2.2.1 64 pr2, wJ v_rest K.2.2.1 64 rs2] ∧ ((∀ m, 0 ≤ m → pS rs2 m 6 % 998244353 = tE (e + 1 + m) % 998244353) ∧ (∀ j, 0 ≤ j → j < 6 → 0 ≤ rs2 j ∧ rs2 j < 998244353))) := by
  refine zMet_of (cc := cX3_raise) (nL := 2) (ret := none) (by decide) rfl (Nat.le_of_ble_eq_true rfl) ?_
  rintro C rfl rfl rfl hC hR
  have hinX3 : ∀ w ∈ u_ws RX3 TX3 12, w ∈ wsX3_raise := by decide +kernel
  show ZW C 0 0 [wO v 3 [.ref v_terms, .ref v_now, .ref v_then, .ref v_link, .ref v_older, .ref v_spare, .ref v_parts, .ref v_rest, .ref v_product, .ref v_keptParts, .int (zI (6)), .int (zI (v_keptDegree))], wJ v_parts (zK C).2.2.1 64 pt, wJ v_product (zK C).2.2.1 64 pr, wJ v_rest (zK C).2.2.1 64 rs] [(0, .ref v)] 0 []
  refine z_aload_n hC 0 dX3_raise_0 rfl rfl ?_
  refine z_get hC (T := TX3) (N := 12) hinX3 0 8 dX3_raise_1 rfl rfl (by decide) (List.mem_of_getElem? (i := 1) rfl) rfl rfl ?_
  refine z_iconst hC dX3_raise_4 ?_
  refine z_lconst (v := 0) hC dX3_raise_5 rfl ?_
  refine z_last hC 2 [wO v 3 [.ref v_terms, .ref v_now, .ref v_then, .ref v_link, .ref v_older, .ref v_spare, .ref v_parts, .ref v_rest, .ref v_product, .ref v_keptParts, .int (zI (6)), .int (zI (v_keptDegree))], wJ v_parts (zK C).2.2.1 64 pt, wJ v_product (zK C).2.2.1 64 (zu pr 0 0), wJ v_rest (zK C).2.2.1 64 rs] dX3_raise_6 rfl (by omega) rfl ?_
  refine z_iconst hC dX3_raise_7 ?_
  refine z_istore_n hC [(1, .int (zI (0))), (0, .ref v)] dX3_raise_8 rfl (by decide) rfl ?_
  refine z_lv (lv' := [(0, .ref v), (1, .int (zI (0)))]) [1, 0] rfl ?_
  have lp9_1 : ∀ (f3 : Nat) (i : Int) (q : Int → Int), (0 ≤ i ∧ i ≤ 6) → (q 0 = 0) → (∀ k, 0 ≤ k → k < i → q (k + 1) = rs k) → (6 - i).toNat < f3 → ZW C 0 0 [wO v 3 [.ref v_terms, .ref v_now, .ref v_then, .ref v_link, .ref v_older, .ref v_spare, .ref v_parts, .ref v_rest, .ref v_product, .ref v_keptParts, .int (zI (6)), .int (zI (v_keptDegree))], wJ v_parts (zK C).2.2.1 64 pt, wJ v_product (zK C).2.2.1 64 q, wJ v_rest (zK C).2.2.1 64 rs] [(0, .ref v), (1, .int (zI (i)))] 9 [] := by
    intro f3
    induction f3 with
    | zero => intro _ _ _ _ _ hf; exact absurd hf (Nat.not_lt_zero _)
    | succ f3 ih9_2 =>
      intro i q vi vz vq hf_9
      refine z_iload_n hC 1 dX3_raise_9 rfl rfl ?_
      refine z_aload_n hC 0 dX3_raise_10 rfl rfl ?_
      refine z_get hC (T := TX3) (N := 12) hinX3 0 10 dX3_raise_11 rfl rfl (by decide) (List.mem_of_getElem? (i := 2) rfl) rfl rfl ?_
      refine z_icge hC 37 dX3_raise_14 (by decide) (by omega) (fun c_4 => ?_) (fun c_4 => ?_)
      · skip
        refine z_aload_n hC 0 dX3_raise_37 rfl rfl ?_
        refine z_aload_n hC 0 dX3_raise_38 rfl rfl ?_
        refine z_get hC (T := TX3) (N := 12) hinX3 0 10 dX3_raise_39 rfl rfl (by decide) (List.mem_of_getElem? (i := 2) rfl) rfl rfl ?_
        refine z_callV hC [.int (zI (6))] 1 0 dX3_raise_42 (c_X3_reduce (zl C) (zD C) (zK C) v v_terms v_now v_then v_link v_older v_spare v_parts v_rest v_product v_keptParts 6 v_keptDegree pt q rs (by first | assumption | omega) (by first | assumption | omega) (by intro k a b; by_cases e0 : k = 0; (rw [e0, vz]; decide); (have e1 := vq (k - 1) (by omega) (by omega); rw [show k - 1 + 1 = k by omega] at e1; rw [e1]; exact hrs (k - 1) (by omega) (by omega)))) gX3_raise_X3_reduce rfl rfl rfl ⟨by decide, by decide, by decide +kernel⟩ ⟨(Nat.le_of_ble_eq_true rfl), (Nat.le_of_ble_eq_true rfl)⟩ rfl rfl rfl rfl [0, 1, 2, 3] [] [] [] rfl rfl rfl rfl rfl (by decide) (Nat.le_of_ble_eq_true rfl) ⟨(Nat.le_of_ble_eq_true rfl), (Nat.le_of_ble_eq_true rfl)⟩ ?_
        rintro v_ w_ ⟨rs2_5, pr2_6, rfl, rfl, hrd⟩
        show ZW C 0 0 [wO v 3 [.ref v_terms, .ref v_now, .ref v_then, .ref v_link, .ref v_older, .ref v_spare, .ref v_parts, .ref v_rest, .ref v_product, .ref v_keptParts, .int (zI (6)), .int (zI (v_keptDegree))], wJ v_parts (zK C).2.2.1 64 pt, wJ v_product (zK C).2.2.1 64 pr2_6, wJ v_rest (zK C).2.2.1 64 rs2_5] [(0, .ref v), (1, .int (zI (i)))] 45 []
        exact z_vret hC hR dX3_raise_45 (Nat.le_of_ble_eq_true rfl) (Nat.le_of_ble_eq_true rfl) ⟨rs2_5, pr2_6, rfl, rfl, by refine ⟨fun m hm => ?_, hrd.2⟩; rw [hrd.1 m hm]; show pS q m 7 % _ = _; rw [raise_val vz (fun k a b => vq k a (by omega)), hph (m + 1) (by omega), show e + (m + 1) = e + 1 + m by omega]⟩
      · skip
        refine z_aload_n hC 0 dX3_raise_17 rfl rfl ?_
        refine z_get hC (T := TX3) (N := 12) hinX3 0 8 dX3_raise_18 rfl rfl (by decide) (List.mem_of_getElem? (i := 1) rfl) rfl rfl ?_
        refine z_iload_n hC 1 dX3_raise_21 rfl rfl ?_
        refine z_iconst hC dX3_raise_22 ?_
        refine z_iadd hC (i + 1) dX3_raise_23 rfl ?_
        refine z_aload_n hC 0 dX3_raise_24 rfl rfl ?_
        refine z_get hC (T := TX3) (N := 12) hinX3 0 7 dX3_raise_25 rfl rfl (by decide) (List.mem_of_getElem? (i := 3) rfl) rfl rfl ?_
        refine z_iload_n hC 1 dX3_raise_28 rfl rfl ?_
        refine z_lald hC 3 dX3_raise_29 rfl (by omega) ?_
        refine z_last hC 2 [wO v 3 [.ref v_terms, .ref v_now, .ref v_then, .ref v_link, .ref v_older, .ref v_spare, .ref v_parts, .ref v_rest, .ref v_product, .ref v_keptParts, .int (zI (6)), .int (zI (v_keptDegree))], wJ v_parts (zK C).2.2.1 64 pt, wJ v_product (zK C).2.2.1 64 (zu q (i + 1) (rs i)), wJ v_rest (zK C).2.2.1 64 rs] dX3_raise_30 rfl (by omega) rfl ?_
        refine z_iinc (a := i) (v := 1) (r := i + 1) hC 1 [(1, .int (zI (i + 1))), (0, .ref v)] dX3_raise_31 rfl rfl (by decide) rfl ?_
        refine z_goto hC 9 dX3_raise_34 (by decide) ?_
        refine z_lv (lv' := [(0, .ref v), (1, .int (zI (i + 1)))]) [1, 0] rfl ?_
        exact ih9_2 (i + 1) (zu q (i + 1) (rs i)) (by omega) (by unfold zu; rw [if_neg (by omega)]; exact vz) (by intro k a b; unfold zu; by_cases e0 : k = i; (rw [if_pos (by omega), e0]); (rw [if_neg (by omega)]; exact vq k a (by omega))) (by omega)
  exact lp9_1 _ 0 (zu pr 0 0) (by omega) (by unfold zu; rw [if_pos rfl]) (by intro k a b; omega) (Nat.lt_succ_self _)

set_option maxHeartbeats 4000000 in
set_option maxRecDepth 100000 in
theorem c_X3_distant (l : Launch) (D : va_G) (K : ClassId × ClassId × ClassId × ClassId) (v v_terms v_now v_then v_link v_older v_spare v_parts v_rest v_product v_keptParts : Nat) (n v_keptDegree : Int) (tm pt pr rs : Int → Int) (hn : 0 ≤ n ∧ n < 9223372036854775808) (hpt : rl pt) (htm : ∀ j, 0 ≤ j → j < 62 → tm j = arL TL j) : zMet l D K yX3_distant wsX3_distant ({ frames := 2, cells := 0, slots := 0, locals := 45 }) 0 0 [.ref v, .long (zL (n))] [wO v 3 [.ref v_terms, .ref v_now, .ref v_then, .ref v_link, .ref v_older, .ref v_spare, .ref v_parts, .ref v_rest, .ref v_product, .ref v_keptParts, .int (zI (6)), .int (zI (v_keptDegree))], wJ v_terms K.2.2.1 64 tm, wJ v_parts K.2.2.1 64 pt, wJ v_product K.2.2.1 64 pr, wJ v_rest K.2.2.1 64 rs] (fun vr_ wr_ => ∃ (r : Int), vr_ = some (.long (zL (r))) ∧ wr_ = [] ∧ (r = tE n % 998244353)) := by
  refine zMet_of (cc := cX3_distant) (nL := 6) (ret := (some .long)) (by decide) rfl (Nat.le_of_ble_eq_true rfl) ?_
  rintro C rfl rfl rfl hC hR
  have hinX3 : ∀ w ∈ u_ws RX3 TX3 12, w ∈ wsX3_distant := by decide +kernel
  show ZW C 0 0 [wO v 3 [.ref v_terms, .ref v_now, .ref v_then, .ref v_link, .ref v_older, .ref v_spare, .ref v_parts, .ref v_rest, .ref v_product, .ref v_keptParts, .int (zI (6)), .int (zI (v_keptDegree))], wJ v_terms (zK C).2.2.1 64 tm, wJ v_parts (zK C).2.2.1 64 pt, wJ v_product (zK C).2.2.1 64 pr, wJ v_rest (zK C).2.2.1 64 rs] [(0, .ref v), (1, .long (zL (n)))] 0 []
  refine z_aload_n hC 0 dX3_distant_0 rfl rfl ?_
  refine z_get hC (T := TX3) (N := 12) hinX3 0 10 dX3_distant_1 rfl rfl (by decide) (List.mem_of_getElem? (i := 1) rfl) rfl rfl ?_
  refine z_iconst hC dX3_distant_4 ?_
  refine z_iclt hC 19 dX3_distant_5 (by decide) (by omega) (fun c_1 => by exfalso; omega) (fun c_1 => ?_)
  refine z_iconst hC dX3_distant_8 ?_
  refine z_aload_n hC 0 dX3_distant_9 rfl rfl ?_
  refine z_get hC (T := TX3) (N := 12) hinX3 0 10 dX3_distant_10 rfl rfl (by decide) (List.mem_of_getElem? (i := 1) rfl) rfl rfl ?_
  refine z_imul hC (12) dX3_distant_13 (by decide) ?_
  refine z_bipush hC dX3_distant_14 (by decide) ?_
  refine z_iclt hC 21 dX3_distant_16 (by decide) (by omega) (fun c_2 => ?_) (fun c_2 => by exfalso; omega)
  refine z_iconst hC dX3_distant_21 ?_
  refine z_istore_n hC [(3, .int (zI (0))), (0, .ref v), (1, .long (zL (n)))] dX3_distant_22 rfl (by decide) rfl ?_
  refine z_lv (lv' := [(0, .ref v), (1, .long (zL (n))), (3, .int (zI (0)))]) [1, 2, 0] rfl ?_
  have lp23_3 : ∀ (f5 : Nat) (k0 : Int) (q0 : Int → Int), (0 ≤ k0 ∧ k0 ≤ 64) → (∀ j, 0 ≤ j → j < k0 → q0 j = if j = 0 then 1 else 0) → (64 - k0).toNat < f5 → ZW C 0 0 [wO v 3 [.ref v_terms, .ref v_now, .ref v_then, .ref v_link, .ref v_older, .ref v_spare, .ref v_parts, .ref v_rest, .ref v_product, .ref v_keptParts, .int (zI (6)), .int (zI (v_keptDegree))], wJ v_terms (zK C).2.2.1 64 tm, wJ v_parts (zK C).2.2.1 64 pt, wJ v_product (zK C).2.2.1 64 pr, wJ v_rest (zK C).2.2.1 64 q0] [(0, .ref v), (1, .long (zL (n))), (3, .int (zI (k0)))] 23 [] := by
    intro f5
    induction f5 with
    | zero => intro _ _ _ _ hf; exact absurd hf (Nat.not_lt_zero _)
    | succ f5 ih23_4 =>
      intro k0 q0 vk0 vz hf_23
      refine z_iload_n hC 2 dX3_distant_23 rfl rfl ?_
      refine z_bipush hC dX3_distant_24 (by decide) ?_
      refine z_icge hC 50 dX3_distant_26 (by decide) (by omega) (fun c_6 => ?_) (fun c_6 => ?_)
      · skip
        refine z_bipush hC dX3_distant_50 (by decide) ?_
        refine z_istore_n hC [(3, .int (zI (62))), (0, .ref v), (1, .long (zL (n)))] dX3_distant_52 rfl (by decide) rfl ?_
        refine z_lv (lv' := [(0, .ref v), (1, .long (zL (n))), (3, .int (zI (62)))]) [1, 2, 0] rfl ?_
        have lp53_7 : ∀ (f9 : Nat) (b : Int) (pq : Int → Int) (q : Int → Int), (-1 ≤ b ∧ b ≤ 62) → (∀ m, 0 ≤ m → pS q m 6 % 998244353 = tE (n / 2 ^ (b + 1).toNat + m) % 998244353) → (∀ j, 0 ≤ j → j < 6 → 0 ≤ q j ∧ q j < 998244353) → (b + 1).toNat < f9 → ZW C 0 0 [wO v 3 [.ref v_terms, .ref v_now, .ref v_then, .ref v_link, .ref v_older, .ref v_spare, .ref v_parts, .ref v_rest, .ref v_product, .ref v_keptParts, .int (zI (6)), .int (zI (v_keptDegree))], wJ v_terms (zK C).2.2.1 64 tm, wJ v_parts (zK C).2.2.1 64 pt, wJ v_product (zK C).2.2.1 64 pq, wJ v_rest (zK C).2.2.1 64 q] [(0, .ref v), (1, .long (zL (n))), (3, .int (zI (b)))] 53 [] := by
          intro f9
          induction f9 with
          | zero => intro _ _ _ _ _ _ hf; exact absurd hf (Nat.not_lt_zero _)
          | succ f9 ih53_8 =>
            intro b pq q vb vph vr hf_53
            refine z_iload_n hC 2 dX3_distant_53 rfl rfl ?_
            refine z_iflt hC 81 dX3_distant_54 (by decide) (by omega) (fun c_10 => ?_) (fun c_10 => ?_)
            · skip
              refine z_lconst (v := 0) hC dX3_distant_81 rfl ?_
              refine z_lstore_n hC [(3, .long (zL (0))), (0, .ref v), (1, .long (zL (n)))] dX3_distant_82 rfl (by decide) rfl ?_
              refine z_iconst hC dX3_distant_83 ?_
              refine z_istore hC [(5, .int (zI (0))), (3, .long (zL (0))), (0, .ref v), (1, .long (zL (n)))] dX3_distant_84 (by decide) rfl ?_
              refine z_lv (lv' := [(0, .ref v), (1, .long (zL (n))), (3, .long (zL (0))), (5, .int (zI (0)))]) [2, 3, 1, 0] rfl ?_
              have lp86_11 : ∀ (f13 : Nat) (fd : Int) (i : Int), (0 ≤ i ∧ i ≤ 6) → (fd = sumZ (fun k => q k * arL TL k) i.toNat % 998244353) → (0 ≤ fd ∧ fd < 998244353) → (6 - i).toNat < f13 → ZW C 0 0 [wO v 3 [.ref v_terms, .ref v_now, .ref v_then, .ref v_link, .ref v_older, .ref v_spare, .ref v_parts, .ref v_rest, .ref v_product, .ref v_keptParts, .int (zI (6)), .int (zI (v_keptDegree))], wJ v_terms (zK C).2.2.1 64 tm, wJ v_parts (zK C).2.2.1 64 pt, wJ v_product (zK C).2.2.1 64 pq, wJ v_rest (zK C).2.2.1 64 q] [(0, .ref v), (1, .long (zL (n))), (3, .long (zL (fd))), (5, .int (zI (i)))] 86 [] := by
                intro f13
                induction f13 with
                | zero => intro _ _ _ _ _ hf; exact absurd hf (Nat.not_lt_zero _)
                | succ f13 ih86_12 =>
                  intro fd i vi vf vfr hf_86
                  refine z_iload hC 3 dX3_distant_86 rfl ?_
                  refine z_aload_n hC 0 dX3_distant_88 rfl rfl ?_
                  refine z_get hC (T := TX3) (N := 12) hinX3 0 10 dX3_distant_89 rfl rfl (by decide) (List.mem_of_getElem? (i := 1) rfl) rfl rfl ?_
                  refine z_icge hC 123 dX3_distant_92 (by decide) (by omega) (fun c_14 => ?_) (fun c_14 => ?_)
                  · skip
                    refine z_lload_n hC 2 dX3_distant_123 rfl rfl ?_
                    refine z_ws (ws' := []) [] rfl rfl ?_
                    exact z_lret hC hR dX3_distant_124 (Nat.le_of_ble_eq_true rfl) (Nat.le_of_ble_eq_true rfl) ⟨fd, rfl, rfl, by have h0 := vph 0 (by omega); rw [show b = -1 by omega] at h0; rw [vf, show i = 6 by omega]; exact dist_end h0⟩
                  · skip
                    have hq1 := vr i (by omega) (by omega)
                    have hq2 := TL_r i
                    have hq3 := mul_r hq1 hq2
                    refine z_lload_n hC 2 dX3_distant_95 rfl rfl ?_
                    refine z_aload_n hC 0 dX3_distant_96 rfl rfl ?_
                    refine z_get hC (T := TX3) (N := 12) hinX3 0 7 dX3_distant_97 rfl rfl (by decide) (List.mem_of_getElem? (i := 2) rfl) rfl rfl ?_
                    refine z_iload hC 3 dX3_distant_100 rfl ?_
                    refine z_lald hC 4 dX3_distant_102 rfl (by omega) ?_
                    refine z_aload_n hC 0 dX3_distant_103 rfl rfl ?_
                    refine z_get hC (T := TX3) (N := 12) hinX3 0 0 dX3_distant_104 rfl rfl (by decide) (List.mem_of_getElem? (i := 3) rfl) rfl rfl ?_
                    refine z_iload hC 3 dX3_distant_107 rfl ?_
                    refine z_lald hC 1 dX3_distant_109 rfl (by omega) ?_
                    refine z_topl (b := arL TL i) (by exact htm i (by omega) (by omega)) ?_
                    refine z_lmul hC ((q i) * (arL TL i)) dX3_distant_110 rfl ?_
                    refine z_ladd hC (fd + ((q i) * (arL TL i))) dX3_distant_111 rfl ?_
                    refine z_ldc2 (v := 998244353) hC (List.mem_of_getElem? (i := 4) rfl) rfl dX3_distant_112 ?_
                    refine z_lrem hC ((fd + ((q i) * (arL TL i))) % 998244353) dX3_distant_115 (by omega) rfl ?_
                    refine z_lstore_n hC [(3, .long (zL ((fd + ((q i) * (arL TL i))) % 998244353))), (0, .ref v), (1, .long (zL (n))), (5, .int (zI (i)))] dX3_distant_116 rfl (by decide) rfl ?_
                    refine z_iinc (a := i) (v := 1) (r := i + 1) hC 3 [(5, .int (zI (i + 1))), (3, .long (zL ((fd + ((q i) * (arL TL i))) % 998244353))), (0, .ref v), (1, .long (zL (n)))] dX3_distant_117 rfl rfl (by decide) rfl ?_
                    refine z_goto hC 86 dX3_distant_120 (by decide) ?_
                    refine z_lv (lv' := [(0, .ref v), (1, .long (zL (n))), (3, .long (zL ((fd + ((q i) * (arL TL i))) % 998244353))), (5, .int (zI (i + 1)))]) [2, 3, 1, 0] rfl ?_
                    exact ih86_12 ((fd + ((q i) * (arL TL i))) % 998244353) (i + 1) (by omega) (by rw [sumZ_s (by omega), vf]; omega) (by exact mod_r _) (by omega)
              exact lp86_11 _ 0 0 (by omega) (by rfl) (by omega) (Nat.lt_succ_self _)
            · skip
              have hbr := bit_r (b := b + 1) hn
              have hbr2 := bit_r (b := b) hn
              have hbs := bit_s (n := n) (b := b) (by omega) (by omega)
              refine z_aload_n hC 0 dX3_distant_57 rfl rfl ?_
              refine z_callV hC [] 0 0 dX3_distant_58 (c_X3_square (zl C) (zD C) (zK C) v v_terms v_now v_then v_link v_older v_spare v_parts v_rest v_product v_keptParts v_keptDegree pt pq q (n / 2 ^ (b + 1).toNat) (by first | assumption | omega) (by exact vr) (by first | assumption | omega) (by exact vph)) gX3_distant_X3_square rfl rfl rfl ⟨by decide, by decide, by decide +kernel⟩ ⟨(Nat.le_of_ble_eq_true rfl), (Nat.le_of_ble_eq_true rfl)⟩ rfl rfl rfl rfl [0, 2, 3, 4] [1] [wJ v_terms (zK C).2.2.1 64 tm] [] rfl rfl rfl rfl rfl (by decide) (Nat.le_of_ble_eq_true rfl) ⟨(Nat.le_of_ble_eq_true rfl), (Nat.le_of_ble_eq_true rfl)⟩ ?_
              rintro v_ w_ ⟨rs2_15, pr2_16, rfl, rfl, hsq⟩
              show ZW C 0 0 [wJ v_terms (zK C).2.2.1 64 tm, wO v 3 [.ref v_terms, .ref v_now, .ref v_then, .ref v_link, .ref v_older, .ref v_spare, .ref v_parts, .ref v_rest, .ref v_product, .ref v_keptParts, .int (zI (6)), .int (zI (v_keptDegree))], wJ v_parts (zK C).2.2.1 64 pt, wJ v_product (zK C).2.2.1 64 pr2_16, wJ v_rest (zK C).2.2.1 64 rs2_15] [(0, .ref v), (1, .long (zL (n))), (3, .int (zI (b)))] 61 []
              refine z_lload_n hC 1 dX3_distant_61 rfl rfl ?_
              refine z_iload_n hC 2 dX3_distant_62 rfl rfl ?_
              refine z_lshr hC dX3_distant_63 ?_
              refine z_topl (b := n / 2 ^ b.toNat) (by exact zshr_p hn (by omega)) ?_
              refine z_lconst (v := 1) hC dX3_distant_64 rfl ?_
              refine z_land hC dX3_distant_65 ?_
              refine z_topl (b := n / 2 ^ b.toNat % 2) (by exact zand_1 (by omega)) ?_
              refine z_lconst (v := 0) hC dX3_distant_66 rfl ?_
              refine z_lceq hC 75 dX3_distant_67 dX3_distant_68 (by decide) (by omega) (fun c_17 => ?_) (fun c_17 => ?_)
              · skip
                refine z_iinc (a := b) (v := -1) (r := b - 1) hC 2 [(3, .int (zI (b - 1))), (0, .ref v), (1, .long (zL (n)))] dX3_distant_75 rfl (by omega) (by decide) rfl ?_
                refine z_goto hC 53 dX3_distant_78 (by decide) ?_
                refine z_lv (lv' := [(0, .ref v), (1, .long (zL (n))), (3, .int (zI (b - 1)))]) [1, 2, 0] rfl ?_
                refine z_ws (ws' := [wO v 3 [.ref v_terms, .ref v_now, .ref v_then, .ref v_link, .ref v_older, .ref v_spare, .ref v_parts, .ref v_rest, .ref v_product, .ref v_keptParts, .int (zI (6)), .int (zI (v_keptDegree))], wJ v_terms (zK C).2.2.1 64 tm, wJ v_parts (zK C).2.2.1 64 pt, wJ v_product (zK C).2.2.1 64 pr2_16, wJ v_rest (zK C).2.2.1 64 rs2_15]) [1, 0, 2, 3, 4] rfl rfl ?_
                exact ih53_8 (b - 1) pr2_16 rs2_15 (by omega) (by intro m hm; rw [show b - 1 + 1 = b by omega, hbs]; first | (rw [show n / 2 ^ b.toNat % 2 = 0 by omega, Int.add_zero]; exact hsq.1 m hm) | (rw [show n / 2 ^ b.toNat % 2 = 1 by omega]; exact hra.1 m hm)) (by first | exact hsq.2 | exact hra.2) (by omega)
              · skip
                refine z_aload_n hC 0 dX3_distant_71 rfl rfl ?_
                refine z_callV hC [] 0 0 dX3_distant_72 (c_X3_raise (zl C) (zD C) (zK C) v v_terms v_now v_then v_link v_older v_spare v_parts v_rest v_product v_keptParts v_keptDegree pt pr2_16 rs2_15 (2 * (n / 2 ^ (b + 1).toNat)) (by first | assumption | omega) (by exact hsq.2) (by first | assumption | omega) (by exact hsq.1)) gX3_distant_X3_raise rfl rfl rfl ⟨by decide, by decide, by decide +kernel⟩ ⟨(Nat.le_of_ble_eq_true rfl), (Nat.le_of_ble_eq_true rfl)⟩ rfl rfl rfl rfl [1, 2, 3, 4] [0] [wJ v_terms (zK C).2.2.1 64 tm] [] rfl rfl rfl rfl rfl (by decide) (Nat.le_of_ble_eq_true rfl) ⟨(Nat.le_of_ble_eq_true rfl), (Nat.le_of_ble_eq_true rfl)⟩ ?_
                rintro v_ w_ ⟨rs2_18, pr2_19, rfl, rfl, hra⟩
                show ZW C 0 0 [wJ v_terms (zK C).2.2.1 64 tm, wO v 3 [.ref v_terms, .ref v_now, .ref v_then, .ref v_link, .ref v_older, .ref v_spare, .ref v_parts, .ref v_rest, .ref v_product, .ref v_keptParts, .int (zI (6)), .int (zI (v_keptDegree))], wJ v_parts (zK C).2.2.1 64 pt, wJ v_product (zK C).2.2.1 64 pr2_19, wJ v_rest (zK C).2.2.1 64 rs2_18] [(0, .ref v), (1, .long (zL (n))), (3, .int (zI (b)))] 75 []
                refine z_iinc (a := b) (v := -1) (r := b - 1) hC 2 [(3, .int (zI (b - 1))), (0, .ref v), (1, .long (zL (n)))] dX3_distant_75 rfl (by omega) (by decide) rfl ?_
                refine z_goto hC 53 dX3_distant_78 (by decide) ?_
                refine z_lv (lv' := [(0, .ref v), (1, .long (zL (n))), (3, .int (zI (b - 1)))]) [1, 2, 0] rfl ?_
                refine z_ws (ws' := [wO v 3 [.ref v_terms, .ref v_now, .ref v_then, .ref v_link, .ref v_older, .ref v_spare, .ref v_parts, .ref v_rest, .ref v_product, .ref v_keptParts, .int (zI (6)), .int (zI (v_keptDegree))], wJ v_terms (zK C).2.2.1 64 tm, wJ v_parts (zK C).2.2.1 64 pt, wJ v_product (zK C).2.2.1 64 pr2_19, wJ v_rest (zK C).2.2.1 64 rs2_18]) [1, 0, 2, 3, 4] rfl rfl ?_
                exact ih53_8 (b - 1) pr2_19 rs2_18 (by omega) (by intro m hm; rw [show b - 1 + 1 = b by omega, hbs]; first | (rw [show n / 2 ^ b.toNat % 2 = 0 by omega, Int.add_zero]; exact hsq.1 m hm) | (rw [show n / 2 ^ b.toNat % 2 = 1 by omega]; exact hra.1 m hm)) (by first | exact hsq.2 | exact hra.2) (by omega)
        exact lp53_7 _ 62 pr q0 (by omega) (by intro m _; rw [bit_63 hn]; exact pS_one (fun j a b => vz j a (by omega))) (by intro j a b; rw [vz j a (by omega)]; split <;> decide) (Nat.lt_succ_self _)
      · skip
        refine z_aload_n hC 0 dX3_distant_29 rfl rfl ?_
        refine z_get hC (T := TX3) (N := 12) hinX3 0 7 dX3_distant_30 rfl rfl (by decide) (List.mem_of_getElem? (i := 2) rfl) rfl rfl ?_
        refine z_iload_n hC 2 dX3_distant_33 rfl rfl ?_
        refine z_iload_n hC 2 dX3_distant_34 rfl rfl ?_
        refine z_ifne hC 42 dX3_distant_35 (by decide) (by omega) (fun c_20 => ?_) (fun c_20 => ?_)
        · skip
          refine z_lconst (v := 0) hC dX3_distant_42 rfl ?_
          refine z_last hC 4 [wO v 3 [.ref v_terms, .ref v_now, .ref v_then, .ref v_link, .ref v_older, .ref v_spare, .ref v_parts, .ref v_rest, .ref v_product, .ref v_keptParts, .int (zI (6)), .int (zI (v_keptDegree))], wJ v_terms (zK C).2.2.1 64 tm, wJ v_parts (zK C).2.2.1 64 pt, wJ v_product (zK C).2.2.1 64 pr, wJ v_rest (zK C).2.2.1 64 (zu q0 k0 0)] dX3_distant_43 rfl (by omega) rfl ?_
          refine z_iinc (a := k0) (v := 1) (r := k0 + 1) hC 2 [(3, .int (zI (k0 + 1))), (0, .ref v), (1, .long (zL (n)))] dX3_distant_44 rfl rfl (by decide) rfl ?_
          refine z_goto hC 23 dX3_distant_47 (by decide) ?_
          refine z_lv (lv' := [(0, .ref v), (1, .long (zL (n))), (3, .int (zI (k0 + 1)))]) [1, 2, 0] rfl ?_
          exact ih23_4 (k0 + 1) (zu q0 k0 0) (by omega) (by intro j a b; unfold zu; by_cases e : j = k0; (rw [if_pos e]; first | rw [if_pos (by omega)] | rw [if_neg (by omega)]); (rw [if_neg e]; exact vz j a (by omega))) (by omega)
        · skip
          refine z_lconst (v := 1) hC dX3_distant_38 rfl ?_
          refine z_goto hC 43 dX3_distant_39 (by decide) ?_
          refine z_last hC 4 [wO v 3 [.ref v_terms, .ref v_now, .ref v_then, .ref v_link, .ref v_older, .ref v_spare, .ref v_parts, .ref v_rest, .ref v_product, .ref v_keptParts, .int (zI (6)), .int (zI (v_keptDegree))], wJ v_terms (zK C).2.2.1 64 tm, wJ v_parts (zK C).2.2.1 64 pt, wJ v_product (zK C).2.2.1 64 pr, wJ v_rest (zK C).2.2.1 64 (zu q0 k0 1)] dX3_distant_43 rfl (by omega) rfl ?_
          refine z_iinc (a := k0) (v := 1) (r := k0 + 1) hC 2 [(3, .int (zI (k0 + 1))), (0, .ref v), (1, .long (zL (n)))] dX3_distant_44 rfl rfl (by decide) rfl ?_
          refine z_goto hC 23 dX3_distant_47 (by decide) ?_
          refine z_lv (lv' := [(0, .ref v), (1, .long (zL (n))), (3, .int (zI (k0 + 1)))]) [1, 2, 0] rfl ?_
          exact ih23_4 (k0 + 1) (zu q0 k0 1) (by omega) (by intro j a b; unfold zu; by_cases e : j = k0; (rw [if_pos e]; first | rw [if_pos (by omega)] | rw [if_neg (by omega)]); (rw [if_neg e]; exact vz j a (by omega))) (by omega)
  exact lp23_3 _ 0 rs (by omega) (by intro j a b; omega) (Nat.lt_succ_self _)

set_option maxHeartbeats 4000000 in
set_option maxRecDepth 100000 in
theorem c_X3_keepRule (l : Launch) (D : va_G) (K : ClassId × ClassId × ClassId × ClassId) (v p v_terms v_now v_then v_link v_older v_spare v_parts v_rest v_product v_keptParts p_dx p_dy p_weights p_leaps p_barred p_passable : Nat) (v_degree v_keptDegree p_kind p_round p_barredCount p_ax p_bx : Int) (dy tm nw th lk ol sp pt kp : Int → Int) (hdyc : ∀ k, 0 ≤ k → k < 8 → dy k = sdy k) : zMet l D K yX3_keepRule wsX3_keepRule ({ frames := 3, cells := 0, slots := 0, locals := 83 }) 0 0 [.ref v, .ref p] [wO v 3 [.ref v_terms, .ref v_now, .ref v_then, .ref v_link, .ref v_older, .ref v_spare, .ref v_parts, .ref v_rest, .ref v_product, .ref v_keptParts, .int (zI (v_degree)), .int (zI (v_keptDegree))], wO p 4 [.ref p_dx, .ref p_dy, .ref p_weights, .ref p_leaps, .int (zI (4)), .int (zI (p_kind)), .int (zI (5)), .int (zI (p_round)), .int (zI (p_barredCount)), .int (zI (p_ax)), .int (zI (0)), .int (zI (p_bx)), .int (zI (0)), .ref p_barred, .ref p_passable], wI p_dy K.2.1 8 dy, wJ v_terms K.2.2.1 64 tm, wJ v_now K.2.2.1 31 nw, wJ v_then K.2.2.1 31 th, wJ v_link K.2.2.1 64 lk, wJ v_older K.2.2.1 64 ol, wJ v_spare K.2.2.1 64 sp, wJ v_parts K.2.2.1 64 pt, wI v_keptParts K.2.1 64 kp] (fun vr_ wr_ => ∃ (r : Int), vr_ = some (.int (zI (r))) ∧ wr_ = [] ∧ (r = 6)) := by
  refine zMet_of (cc := cX3_keepRule) (nL := 3) (ret := (some .int)) (by decide) rfl (Nat.le_of_ble_eq_true rfl) ?_
  rintro C rfl rfl rfl hC hR
  have hinX3 : ∀ w ∈ u_ws RX3 TX3 12, w ∈ wsX3_keepRule := by decide +kernel
  show ZW C 0 0 [wO v 3 [.ref v_terms, .ref v_now, .ref v_then, .ref v_link, .ref v_older, .ref v_spare, .ref v_parts, .ref v_rest, .ref v_product, .ref v_keptParts, .int (zI (v_degree)), .int (zI (v_keptDegree))], wO p 4 [.ref p_dx, .ref p_dy, .ref p_weights, .ref p_leaps, .int (zI (4)), .int (zI (p_kind)), .int (zI (5)), .int (zI (p_round)), .int (zI (p_barredCount)), .int (zI (p_ax)), .int (zI (0)), .int (zI (p_bx)), .int (zI (0)), .ref p_barred, .ref p_passable], wI p_dy (zK C).2.1 8 dy, wJ v_terms (zK C).2.2.1 64 tm, wJ v_now (zK C).2.2.1 31 nw, wJ v_then (zK C).2.2.1 31 th, wJ v_link (zK C).2.2.1 64 lk, wJ v_older (zK C).2.2.1 64 ol, wJ v_spare (zK C).2.2.1 64 sp, wJ v_parts (zK C).2.2.1 64 pt, wI v_keptParts (zK C).2.1 64 kp] [(0, .ref v), (1, .ref p)] 0 []
  refine z_aload_n hC 0 dX3_keepRule_0 rfl rfl ?_
  refine z_aload_n hC 1 dX3_keepRule_1 rfl rfl ?_
  refine z_callV hC [.ref p] 1 0 dX3_keepRule_2 (c_X3_findRule (zl C) (zD C) (zK C) v p v_terms v_now v_then v_link v_older v_spare v_parts v_rest v_product v_keptParts p_dx p_dy p_weights p_leaps p_barred p_passable v_degree v_keptDegree p_kind p_round p_barredCount p_ax p_bx dy tm nw th lk ol sp pt (by first | assumption | omega)) gX3_keepRule_X3_findRule rfl rfl rfl ⟨by decide, by decide, by decide +kernel⟩ ⟨(Nat.le_of_ble_eq_true rfl), (Nat.le_of_ble_eq_true rfl)⟩ rfl rfl rfl rfl [0, 1, 2, 3, 4, 5, 6, 7, 8, 9] [10] [wI v_keptParts (zK C).2.1 64 kp] [] rfl rfl rfl rfl rfl (by decide) (Nat.le_of_ble_eq_true rfl) ⟨(Nat.le_of_ble_eq_true rfl), (Nat.le_of_ble_eq_true rfl)⟩ ?_
  rintro v_ w_ ⟨na_1, nb_2, oa_3, ob_4, tm2_5, pt2_6, rfl, rfl, h_2_7⟩
  show ZW C 0 0 [wI v_keptParts (zK C).2.1 64 kp, wO v 3 [.ref v_terms, .ref na_1, .ref nb_2, .ref v_link, .ref oa_3, .ref ob_4, .ref v_parts, .ref v_rest, .ref v_product, .ref v_keptParts, .int (zI (6)), .int (zI (v_keptDegree))], wO p 4 [.ref p_dx, .ref p_dy, .ref p_weights, .ref p_leaps, .int (zI (4)), .int (zI (p_kind)), .int (zI (5)), .int (zI (p_round)), .int (zI (p_barredCount)), .int (zI (p_ax)), .int (zI (0)), .int (zI (p_bx)), .int (zI (0)), .ref p_barred, .ref p_passable], wI p_dy (zK C).2.1 8 dy, wJ v_terms (zK C).2.2.1 64 tm2_5, wJ v_parts (zK C).2.2.1 64 pt2_6] [(0, .ref v), (1, .ref p)] 5 []
  refine z_aload_n hC 0 dX3_keepRule_5 rfl rfl ?_
  refine z_aload_n hC 0 dX3_keepRule_6 rfl rfl ?_
  refine z_get hC (T := TX3) (N := 12) hinX3 1 10 dX3_keepRule_7 rfl rfl (by decide) (List.mem_of_getElem? (i := 1) rfl) rfl rfl ?_
  refine z_put hC (T := TX3) (N := 12) hinX3 tyX3_ok nmX3 1 11 [wI v_keptParts (zK C).2.1 64 kp, wO v 3 [.ref v_terms, .ref na_1, .ref nb_2, .ref v_link, .ref oa_3, .ref ob_4, .ref v_parts, .ref v_rest, .ref v_product, .ref v_keptParts, .int (zI (6)), .int (zI (6))], wO p 4 [.ref p_dx, .ref p_dy, .ref p_weights, .ref p_leaps, .int (zI (4)), .int (zI (p_kind)), .int (zI (5)), .int (zI (p_round)), .int (zI (p_barredCount)), .int (zI (p_ax)), .int (zI (0)), .int (zI (p_bx)), .int (zI (0)), .ref p_barred, .ref p_passable], wI p_dy (zK C).2.1 8 dy, wJ v_terms (zK C).2.2.1 64 tm2_5, wJ v_parts (zK C).2.2.1 64 pt2_6] dX3_keepRule_10 rfl rfl (by decide) (List.mem_of_getElem? (i := 2) rfl) rfl rfl rfl rfl (Nat.le_of_ble_eq_true rfl) rfl ?_
  refine z_iconst hC dX3_keepRule_13 ?_
  refine z_istore_n hC [(2, .int (zI (1))), (0, .ref v), (1, .ref p)] dX3_keepRule_14 rfl (by decide) rfl ?_
  refine z_lv (lv' := [(0, .ref v), (1, .ref p), (2, .int (zI (1)))]) [1, 2, 0] rfl ?_
  have lp15_8 : ∀ (f10 : Nat) (i : Int) (kq : Int → Int), (1 ≤ i ∧ i ≤ 7) → (7 - i).toNat < f10 → ZW C 0 0 [wI v_keptParts (zK C).2.1 64 kq, wO v 3 [.ref v_terms, .ref na_1, .ref nb_2, .ref v_link, .ref oa_3, .ref ob_4, .ref v_parts, .ref v_rest, .ref v_product, .ref v_keptParts, .int (zI (6)), .int (zI (6))], wO p 4 [.ref p_dx, .ref p_dy, .ref p_weights, .ref p_leaps, .int (zI (4)), .int (zI (p_kind)), .int (zI (5)), .int (zI (p_round)), .int (zI (p_barredCount)), .int (zI (p_ax)), .int (zI (0)), .int (zI (p_bx)), .int (zI (0)), .ref p_barred, .ref p_passable], wI p_dy (zK C).2.1 8 dy, wJ v_terms (zK C).2.2.1 64 tm2_5, wJ v_parts (zK C).2.2.1 64 pt2_6] [(0, .ref v), (1, .ref p), (2, .int (zI (i)))] 15 [] := by
    intro f10
    induction f10 with
    | zero => intro _ _ _ hf; exact absurd hf (Nat.not_lt_zero _)
    | succ f10 ih15_9 =>
      intro i kq vi hf_15
      refine z_iload_n hC 2 dX3_keepRule_15 rfl rfl ?_
      refine z_aload_n hC 0 dX3_keepRule_16 rfl rfl ?_
      refine z_get hC (T := TX3) (N := 12) hinX3 1 10 dX3_keepRule_17 rfl rfl (by decide) (List.mem_of_getElem? (i := 1) rfl) rfl rfl ?_
      refine z_icgt hC 48 dX3_keepRule_20 (by decide) (by omega) (fun c_11 => ?_) (fun c_11 => ?_)
      · skip
        refine z_aload_n hC 0 dX3_keepRule_48 rfl rfl ?_
        refine z_get hC (T := TX3) (N := 12) hinX3 1 11 dX3_keepRule_49 rfl rfl (by decide) (List.mem_of_getElem? (i := 2) rfl) rfl rfl ?_
        refine z_ws (ws' := []) [] rfl rfl ?_
        exact z_iret hC hR dX3_keepRule_52 (Nat.le_of_ble_eq_true rfl) (Nat.le_of_ble_eq_true rfl) ⟨6, rfl, rfl, by omega⟩
      · skip
        refine z_iload_n hC 2 dX3_keepRule_23 rfl rfl ?_
        refine z_bipush hC dX3_keepRule_24 (by decide) ?_
        refine z_icge hC 48 dX3_keepRule_26 (by decide) (by omega) (fun c_12 => by exfalso; omega) (fun c_12 => ?_)
        refine z_aload_n hC 0 dX3_keepRule_29 rfl rfl ?_
        refine z_get hC (T := TX3) (N := 12) hinX3 1 9 dX3_keepRule_30 rfl rfl (by decide) (List.mem_of_getElem? (i := 3) rfl) rfl rfl ?_
        refine z_iload_n hC 2 dX3_keepRule_33 rfl rfl ?_
        refine z_aload_n hC 0 dX3_keepRule_34 rfl rfl ?_
        refine z_get hC (T := TX3) (N := 12) hinX3 1 6 dX3_keepRule_35 rfl rfl (by decide) (List.mem_of_getElem? (i := 4) rfl) rfl rfl ?_
        refine z_iload_n hC 2 dX3_keepRule_38 rfl rfl ?_
        refine z_lald hC 5 dX3_keepRule_39 rfl (by omega) ?_
        refine z_l2i hC dX3_keepRule_40 ?_
        refine z_iast hC 0 [wI v_keptParts (zK C).2.1 64 (zu kq i (pt2_6 i)), wO v 3 [.ref v_terms, .ref na_1, .ref nb_2, .ref v_link, .ref oa_3, .ref ob_4, .ref v_parts, .ref v_rest, .ref v_product, .ref v_keptParts, .int (zI (6)), .int (zI (6))], wO p 4 [.ref p_dx, .ref p_dy, .ref p_weights, .ref p_leaps, .int (zI (4)), .int (zI (p_kind)), .int (zI (5)), .int (zI (p_round)), .int (zI (p_barredCount)), .int (zI (p_ax)), .int (zI (0)), .int (zI (p_bx)), .int (zI (0)), .ref p_barred, .ref p_passable], wI p_dy (zK C).2.1 8 dy, wJ v_terms (zK C).2.2.1 64 tm2_5, wJ v_parts (zK C).2.2.1 64 pt2_6] dX3_keepRule_41 rfl (by omega) rfl ?_
        refine z_iinc (a := i) (v := 1) (r := i + 1) hC 2 [(2, .int (zI (i + 1))), (0, .ref v), (1, .ref p)] dX3_keepRule_42 rfl rfl (by decide) rfl ?_
        refine z_goto hC 15 dX3_keepRule_45 (by decide) ?_
        refine z_lv (lv' := [(0, .ref v), (1, .ref p), (2, .int (zI (i + 1)))]) [1, 2, 0] rfl ?_
        exact ih15_9 (i + 1) (zu kq i (pt2_6 i)) (by omega) (by omega)
  exact lp15_8 _ 1 kp (by omega) (Nat.lt_succ_self _)

set_option maxHeartbeats 4000000 in
set_option maxRecDepth 100000 in
theorem c_X3_after (l : Launch) (D : va_G) (K : ClassId × ClassId × ClassId × ClassId) (v p v_terms v_now v_then v_link v_older v_spare v_parts v_rest v_product v_keptParts p_dx p_dy p_weights p_leaps p_barred p_passable : Nat) (n v_degree v_keptDegree p_kind p_round p_barredCount p_ax p_bx : Int) (dy tm nw th lk ol sp pt pr rs : Int → Int) (hn : 0 ≤ n ∧ n < 9223372036854775808) (hdyc : ∀ k, 0 ≤ k → k < 8 → dy k = sdy k) : zMet l D K yX3_after wsX3_after ({ frames := 3, cells := 0, slots := 0, locals := 83 }) 0 0 [.ref v, .ref p, .long (zL (n))] [wO v 3 [.ref v_terms, .ref v_now, .ref v_then, .ref v_link, .ref v_older, .ref v_spare, .ref v_parts, .ref v_rest, .ref v_product, .ref v_keptParts, .int (zI (v_degree)), .int (zI (v_keptDegree))], wO p 4 [.ref p_dx, .ref p_dy, .ref p_weights, .ref p_leaps, .int (zI (4)), .int (zI (p_kind)), .int (zI (5)), .int (zI (p_round)), .int (zI (p_barredCount)), .int (zI (p_ax)), .int (zI (0)), .int (zI (p_bx)), .int (zI (0)), .ref p_barred, .ref p_passable], wI p_dy K.2.1 8 dy, wJ v_terms K.2.2.1 64 tm, wJ v_now K.2.2.1 31 nw, wJ v_then K.2.2.1 31 th, wJ v_link K.2.2.1 64 lk, wJ v_older K.2.2.1 64 ol, wJ v_spare K.2.2.1 64 sp, wJ v_parts K.2.2.1 64 pt, wJ v_product K.2.2.1 64 pr, wJ v_rest K.2.2.1 64 rs] (fun vr_ wr_ => ∃ (r : Int), vr_ = some (.int (zI (r))) ∧ wr_ = [] ∧ (r = tE n % 998244353)) := by
  refine zMet_of (cc := cX3_after) (nL := 4) (ret := (some .int)) (by decide) rfl (Nat.le_of_ble_eq_true rfl) ?_
  rintro C rfl rfl rfl hC hR
  have hinX3 : ∀ w ∈ u_ws RX3 TX3 12, w ∈ wsX3_after := by decide +kernel
  show ZW C 0 0 [wO v 3 [.ref v_terms, .ref v_now, .ref v_then, .ref v_link, .ref v_older, .ref v_spare, .ref v_parts, .ref v_rest, .ref v_product, .ref v_keptParts, .int (zI (v_degree)), .int (zI (v_keptDegree))], wO p 4 [.ref p_dx, .ref p_dy, .ref p_weights, .ref p_leaps, .int (zI (4)), .int (zI (p_kind)), .int (zI (5)), .int (zI (p_round)), .int (zI (p_barredCount)), .int (zI (p_ax)), .int (zI (0)), .int (zI (p_bx)), .int (zI (0)), .ref p_barred, .ref p_passable], wI p_dy (zK C).2.1 8 dy, wJ v_terms (zK C).2.2.1 64 tm, wJ v_now (zK C).2.2.1 31 nw, wJ v_then (zK C).2.2.1 31 th, wJ v_link (zK C).2.2.1 64 lk, wJ v_older (zK C).2.2.1 64 ol, wJ v_spare (zK C).2.2.1 64 sp, wJ v_parts (zK C).2.2.1 64 pt, wJ v_product (zK C).2.2.1 64 pr, wJ v_rest (zK C).2.2.1 64 rs] [(0, .ref v), (1, .ref p), (2, .long (zL (n)))] 0 []
  refine z_aload_n hC 0 dX3_after_0 rfl rfl ?_
  refine z_aload_n hC 1 dX3_after_1 rfl rfl ?_
  refine z_callV hC [.ref p] 1 0 dX3_after_2 (c_X3_findRule (zl C) (zD C) (zK C) v p v_terms v_now v_then v_link v_older v_spare v_parts v_rest v_product v_keptParts p_dx p_dy p_weights p_leaps p_barred p_passable v_degree v_keptDegree p_kind p_round p_barredCount p_ax p_bx dy tm nw th lk ol sp pt (by first | assumption | omega)) gX3_after_X3_findRule rfl rfl rfl ⟨by decide, by decide, by decide +kernel⟩ ⟨(Nat.le_of_ble_eq_true rfl), (Nat.le_of_ble_eq_true rfl)⟩ rfl rfl rfl rfl [0, 1, 2, 3, 4, 5, 6, 7, 8, 9] [10, 11] [wJ v_product (zK C).2.2.1 64 pr, wJ v_rest (zK C).2.2.1 64 rs] [] rfl rfl rfl rfl rfl (by decide) (Nat.le_of_ble_eq_true rfl) ⟨(Nat.le_of_ble_eq_true rfl), (Nat.le_of_ble_eq_true rfl)⟩ ?_
  rintro v_ w_ ⟨na_1, nb_2, oa_3, ob_4, tm2_5, pt2_6, rfl, rfl, hfr⟩
  show ZW C 0 0 [wJ v_product (zK C).2.2.1 64 pr, wJ v_rest (zK C).2.2.1 64 rs, wO v 3 [.ref v_terms, .ref na_1, .ref nb_2, .ref v_link, .ref oa_3, .ref ob_4, .ref v_parts, .ref v_rest, .ref v_product, .ref v_keptParts, .int (zI (6)), .int (zI (v_keptDegree))], wO p 4 [.ref p_dx, .ref p_dy, .ref p_weights, .ref p_leaps, .int (zI (4)), .int (zI (p_kind)), .int (zI (5)), .int (zI (p_round)), .int (zI (p_barredCount)), .int (zI (p_ax)), .int (zI (0)), .int (zI (p_bx)), .int (zI (0)), .ref p_barred, .ref p_passable], wI p_dy (zK C).2.1 8 dy, wJ v_terms (zK C).2.2.1 64 tm2_5, wJ v_parts (zK C).2.2.1 64 pt2_6] [(0, .ref v), (1, .ref p), (2, .long (zL (n)))] 5 []
  refine z_lload_n hC 2 dX3_after_5 rfl rfl ?_
  refine z_ldc2 (v := 62) hC (List.mem_of_getElem? (i := 1) rfl) rfl dX3_after_6 ?_
  refine z_lcge hC 22 dX3_after_9 dX3_after_10 (by decide) (by omega) (fun c_7 => ?_) (fun c_7 => ?_)
  · skip
    refine z_aload_n hC 0 dX3_after_22 rfl rfl ?_
    refine z_lload_n hC 2 dX3_after_23 rfl rfl ?_
    refine z_callV hC [.long (zL (n))] 1 0 dX3_after_24 (c_X3_distant (zl C) (zD C) (zK C) v v_terms na_1 nb_2 v_link oa_3 ob_4 v_parts v_rest v_product v_keptParts n v_keptDegree tm2_5 pt2_6 pr rs (by first | assumption | omega) (by exact hfr.2.1) (by exact hfr.1)) gX3_after_X3_distant rfl rfl rfl ⟨by decide, by decide, by decide +kernel⟩ ⟨(Nat.le_of_ble_eq_true rfl), (Nat.le_of_ble_eq_true rfl)⟩ rfl rfl rfl rfl [2, 5, 6, 0, 1] [3, 4] [wO p 4 [.ref p_dx, .ref p_dy, .ref p_weights, .ref p_leaps, .int (zI (4)), .int (zI (p_kind)), .int (zI (5)), .int (zI (p_round)), .int (zI (p_barredCount)), .int (zI (p_ax)), .int (zI (0)), .int (zI (p_bx)), .int (zI (0)), .ref p_barred, .ref p_passable], wI p_dy (zK C).2.1 8 dy] [] rfl rfl rfl rfl rfl (by decide) (Nat.le_of_ble_eq_true rfl) ⟨(Nat.le_of_ble_eq_true rfl), (Nat.le_of_ble_eq_true rfl)⟩ ?_
    rintro v_ w_ ⟨r_8, rfl, rfl, h_24_9⟩
    show ZW C 0 0 [wO p 4 [.ref p_dx, .ref p_dy, .ref p_weights, .ref p_leaps, .int (zI (4)), .int (zI (p_kind)), .int (zI (5)), .int (zI (p_round)), .int (zI (p_barredCount)), .int (zI (p_ax)), .int (zI (0)), .int (zI (p_bx)), .int (zI (0)), .ref p_barred, .ref p_passable], wI p_dy (zK C).2.1 8 dy] [(0, .ref v), (1, .ref p), (2, .long (zL (n)))] 27 [.long (zL (r_8))]
    refine z_l2i hC dX3_after_27 ?_
    refine z_ws (ws' := []) [] rfl rfl ?_
    exact z_iret hC hR dX3_after_28 (Nat.le_of_ble_eq_true rfl) (Nat.le_of_ble_eq_true rfl) ⟨r_8, rfl, rfl, by first | assumption | omega⟩
  · skip
    refine z_aload_n hC 0 dX3_after_13 rfl rfl ?_
    refine z_get hC (T := TX3) (N := 12) hinX3 2 0 dX3_after_14 rfl rfl (by decide) (List.mem_of_getElem? (i := 2) rfl) rfl rfl ?_
    refine z_lload_n hC 2 dX3_after_17 rfl rfl ?_
    refine z_l2i hC dX3_after_18 ?_
    refine z_lald hC 5 dX3_after_19 rfl (by omega) ?_
    refine z_l2i hC dX3_after_20 ?_
    refine z_ws (ws' := []) [] rfl rfl ?_
    exact z_iret hC hR dX3_after_21 (Nat.le_of_ble_eq_true rfl) (Nat.le_of_ble_eq_true rfl) ⟨tm2_5 n, rfl, rfl, by rw [hfr.1 n (by omega) (by omega), TL_t (by omega) (by omega)]⟩
