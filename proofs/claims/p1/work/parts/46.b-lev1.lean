theorem TL_r (j : Int) : 0 ≤ arL TL j ∧ arL TL j < 998244353 := all_r (by decide +kernel) j
theorem invI_r : ∀ (f : Nat) (p q e : Int), 0 ≤ q → q < 998244353 → 0 ≤ invI f p q e ∧ invI f p q e < 998244353
  | 0, _, q, _, h0, h1 => ⟨h0, h1⟩
  | f + 1, p, q, e, h0, h1 => by
    unfold invI
    split
    · split
      · exact invI_r f _ _ _ (mod_r _).1 (mod_r _).2
      · exact invI_r f _ _ _ h0 h1
    · exact ⟨h0, h1⟩
theorem inv_r (v : Int) : 0 ≤ inv v ∧ inv v < 998244353 := invI_r 31 v 1 998244351 (by decide) (by decide)
theorem lev_0 {q : Int → Int} (h : ∀ j, 0 ≤ j → j < 31 → q j = if j = 0 then 1 else 0) : ∀ j, 0 ≤ j → j < 31 → q j = lvE (0 : Int).toNat j := by
  intro j a b
  rw [h j a b]
  unfold lvE
  show _ = if j ≤ 5 then (if 0 = j then 1 else 0) % 998244353 else 0
  by_cases e : j = 0
  · subst e
    rfl
  · rw [if_neg e, if_neg (show ¬ 0 = j by omega)]
    split <;> rfl
theorem lev_push {nw q q2 : Int → Int} {h k : Int} (hh : 0 ≤ h ∧ h ≤ 5) (hk : 0 ≤ k ∧ k < 4) (vc : ∀ j, 0 ≤ j → j ≤ 5 → q j = (psL nw h.toNat j + pkL nw h j k.toNat) % 998244353) (h2 : (¬ (0 ≤ h + sdy k ∧ h + sdy k ≤ 5) ∧ q2 = q) ∨ ((0 ≤ h + sdy k ∧ h + sdy k ≤ 5) ∧ q2 = zu q (h + sdy k) ((q (h + sdy k) + nw h) % 998244353))) : ∀ j, 0 ≤ j → j ≤ 5 → q2 j = (psL nw h.toNat j + pkL nw h j (k + 1).toNat) % 998244353 := by
  intro j a b
  rw [pkL_s hk.1]
  rcases h2 with ⟨h3, rfl⟩ | ⟨h3, rfl⟩
  · rw [if_neg (by omega), vc j a b, Int.add_zero]
  · unfold zu
    by_cases e : j = h + sdy k
    · rw [if_pos e, if_pos e, ← e, vc j a b]
      omega
    · rw [if_neg e, if_neg e, vc j a b, Int.add_zero]
theorem miss_s {l : Int → Int} {n i ms : Int} (h : 0 ≤ i) (hm : ms = bmMiss l n i.toNat) : (ms + l i * arL TL (n - i)) % 998244353 = bmMiss l n (i + 1).toNat := by
  rw [show (i + 1).toNat = i.toNat + 1 by omega]
  show _ = (bmMiss l n i.toNat + l ((i.toNat : Nat) : Int) * arL TL (n - ((i.toNat : Nat) : Int))) % 998244353
  rw [Int.toNat_of_nonneg h, hm]
def mdf (share gap : Int) (L O : List Int) (i j : Int) : Int := if gap ≤ j ∧ j < i + gap then (arL L j + (998244353 - share) * arL O (j - gap)) % 998244353 else arL L j
theorem mdf_end {share gap : Int} {L O : List Int} {j : Int} (h0 : 0 ≤ j) (h1 : j < 64) (hg : 0 ≤ gap) : mdf share gap L O (64 - gap) j = arL (bmMend share gap L O) j := by
  unfold bmMend
  rw [arL_map (f := fun j => if j < gap then arL L j else (arL L j + (998244353 - share) * arL O (j - gap)) % 998244353) h0 (by omega)]
  unfold mdf
  by_cases e : j < gap
  · rw [if_neg (by omega), if_pos e]
  · rw [if_pos (by omega), if_neg e]
theorem bmU_at {q : Int → Int} {n : Int} (h : ∀ j, 0 ≤ j → j < n → q j = if j = 0 then 1 else 0) (hn : 64 ≤ n) : ∀ j, 0 ≤ j → j < 64 → q j = arL bmU j := by
  intro j a b
  rw [h j a (by omega)]
  unfold bmU
  exact (arL_map (f := fun j => if j = 0 then 1 else 0) a (by omega)).symm
theorem pS_one {q : Int → Int} {m : Int} (h : ∀ j, 0 ≤ j → j < 64 → q j = if j = 0 then 1 else 0) : pS q m 6 % 998244353 = tE (0 + m) % 998244353 := by
  congr 1
  unfold pS
  rw [sumZ_cong (g := fun k => if k = 0 then tE (k + m) else 0) (fun k a b => by
    rw [h k a (by omega)]
    split
    · exact Int.one_mul _
    · exact Int.zero_mul _)]
  exact sumZ_one (f := fun k => tE (k + m)) (i := 0) (by omega) (by omega)
theorem dist_end {q : Int → Int} {n : Int} (h : pS q 0 6 % 998244353 = tE (n / 2 ^ (-1 + 1 : Int).toNat + 0) % 998244353) : sumZ (fun k => q k * arL TL k) (6 : Int).toNat % 998244353 = tE n % 998244353 := by
  have e : n / 2 ^ (-1 + 1 : Int).toNat + 0 = n := by
    show n / 1 + 0 = n
    omega
  rw [e] at h
  rw [← h]
  refine sum_mod (fun k a b => ?_)
  rw [TL_t a (by omega), mul_mod2, Int.add_zero]
set_option maxHeartbeats 4000000 in
set_option maxRecDepth 100000 in
theorem c_X3_inverse (l : Launch) (D : va_G) (K : ClassId × ClassId × ClassId × ClassId) (vv : Int) (hv : 0 ≤ vv ∧ vv < 998244353) : zMet l D K yX3_inverse wsX3_inverse ({ frames := 0, cells := 0, slots := 0, locals := 0 }) 0 0 [.long (zL (vv))] [] (fun vr_ wr_ => ∃ (r : Int), vr_ = some (.long (zL (r))) ∧ wr_ = [] ∧ (r = inv vv)) := by
  refine zMet_of (cc := cX3_inverse) (nL := 8) (ret := (some .long)) (by decide) rfl (Nat.le_of_ble_eq_true rfl) ?_
  rintro C rfl rfl rfl hC hR
  show ZW C 0 0 [] [(0, .long (zL (vv)))] 0 []
  refine z_lload_n hC 0 dX3_inverse_0 rfl rfl ?_
  refine z_ldc2 (v := 998244353) hC (List.mem_of_getElem? (i := 1) rfl) rfl dX3_inverse_1 ?_
  refine z_lrem hC (vv % 998244353) dX3_inverse_4 (by omega) rfl ?_
  refine z_topl (b := vv) (by omega) ?_
  refine z_lstore_n hC [(2, .long (zL (vv))), (0, .long (zL (vv)))] dX3_inverse_5 rfl (by decide) rfl ?_
  refine z_lconst (v := 1) hC dX3_inverse_6 rfl ?_
  refine z_lstore hC [(4, .long (zL (1))), (2, .long (zL (vv))), (0, .long (zL (vv)))] dX3_inverse_7 (by decide) rfl ?_
  refine z_ldc2 (v := 998244351) hC (List.mem_of_getElem? (i := 2) rfl) rfl dX3_inverse_9 ?_
  refine z_lstore hC [(6, .long (zL (998244351))), (4, .long (zL (1))), (2, .long (zL (vv))), (0, .long (zL (vv)))] dX3_inverse_12 (by decide) rfl ?_
  refine z_lv (lv' := [(0, .long (zL (vv))), (2, .long (zL (vv))), (4, .long (zL (1))), (6, .long (zL (998244351)))]) [3, 2, 1, 0] rfl ?_
  have lp14_1 : ∀ (f3 : Nat) (p : Int) (q : Int) (e : Int), (0 ≤ e ∧ e < 998244353) → (0 ≤ p ∧ p < 998244353) → (0 ≤ q ∧ q < 998244353) → (∃ f : Nat, invI f p q e = inv vv ∧ e < 2 ^ f) → (e).toNat < f3 → ZW C 0 0 [] [(0, .long (zL (vv))), (2, .long (zL (p))), (4, .long (zL (q))), (6, .long (zL (e)))] 14 [] := by
    intro f3
    induction f3 with
    | zero => intro _ _ _ _ _ _ _ hf; exact absurd hf (Nat.not_lt_zero _)
    | succ f3 ih14_2 =>
      intro p q e ve vp vq0 vi hf_14
      refine z_lload hC 3 dX3_inverse_14 rfl ?_
      refine z_lconst (v := 0) hC dX3_inverse_16 rfl ?_
      refine z_lcle hC 57 dX3_inverse_17 dX3_inverse_18 (by decide) (by omega) (fun c_4 => ?_) (fun c_4 => ?_)
      · skip
        refine z_lload hC 2 dX3_inverse_57 rfl ?_
        exact z_lret hC hR dX3_inverse_59 (Nat.le_of_ble_eq_true rfl) (Nat.le_of_ble_eq_true rfl) ⟨q, rfl, rfl, by exact inv_e vi (by omega)⟩
      · skip
        have hp1 := mul_r vq0 vp
        have hp2 := mul_r vp vp
        have hp3 := mod_r (q * p)
        have hp4 := mod_r (p * p)
        refine z_lload hC 3 dX3_inverse_21 rfl ?_
        refine z_lconst (v := 1) hC dX3_inverse_23 rfl ?_
        refine z_land hC dX3_inverse_24 ?_
        refine z_topl (b := e % 2) (by exact zand_1 (by omega)) ?_
        refine z_lconst (v := 0) hC dX3_inverse_25 rfl ?_
        refine z_lceq hC 40 dX3_inverse_26 dX3_inverse_27 (by decide) (by omega) (fun c_5 => ?_) (fun c_5 => ?_)
        · skip
          refine z_lload_n hC 1 dX3_inverse_40 rfl rfl ?_
          refine z_lload_n hC 1 dX3_inverse_41 rfl rfl ?_
          refine z_lmul hC (p * p) dX3_inverse_42 rfl ?_
          refine z_ldc2 (v := 998244353) hC (List.mem_of_getElem? (i := 1) rfl) rfl dX3_inverse_43 ?_
          refine z_lrem hC ((p * p) % 998244353) dX3_inverse_46 (by omega) rfl ?_
          refine z_lstore_n hC [(2, .long (zL ((p * p) % 998244353))), (0, .long (zL (vv))), (4, .long (zL (q))), (6, .long (zL (e)))] dX3_inverse_47 rfl (by decide) rfl ?_
          refine z_lload hC 3 dX3_inverse_48 rfl ?_
          refine z_iconst hC dX3_inverse_50 ?_
          refine z_lshr hC dX3_inverse_51 ?_
          refine z_topl (b := e / 2) (by exact zshr_1 (by omega)) ?_
          refine z_lstore hC [(6, .long (zL (e / 2))), (2, .long (zL ((p * p) % 998244353))), (0, .long (zL (vv))), (4, .long (zL (q)))] dX3_inverse_52 (by decide) rfl ?_
          refine z_goto hC 14 dX3_inverse_54 (by decide) ?_
          refine z_lv (lv' := [(0, .long (zL (vv))), (2, .long (zL ((p * p) % 998244353))), (4, .long (zL (q))), (6, .long (zL (e / 2)))]) [2, 1, 3, 0] rfl ?_
          exact ih14_2 ((p * p) % 998244353) q (e / 2) (by omega) (by omega) (by omega) (by first | exact inv_s vi (by omega) (Or.inl ⟨by omega, rfl⟩) | exact inv_s vi (by omega) (Or.inr ⟨by omega, rfl⟩)) (by omega)
        · skip
          refine z_lload hC 2 dX3_inverse_30 rfl ?_
          refine z_lload_n hC 1 dX3_inverse_32 rfl rfl ?_
          refine z_lmul hC (q * p) dX3_inverse_33 rfl ?_
          refine z_ldc2 (v := 998244353) hC (List.mem_of_getElem? (i := 1) rfl) rfl dX3_inverse_34 ?_
          refine z_lrem hC ((q * p) % 998244353) dX3_inverse_37 (by omega) rfl ?_
          refine z_lstore hC [(4, .long (zL ((q * p) % 998244353))), (0, .long (zL (vv))), (2, .long (zL (p))), (6, .long (zL (e)))] dX3_inverse_38 (by decide) rfl ?_
          refine z_lload_n hC 2 dX3_inverse_40 rfl rfl ?_
          refine z_lload_n hC 2 dX3_inverse_41 rfl rfl ?_
          refine z_lmul hC (p * p) dX3_inverse_42 rfl ?_
          refine z_ldc2 (v := 998244353) hC (List.mem_of_getElem? (i := 1) rfl) rfl dX3_inverse_43 ?_
          refine z_lrem hC ((p * p) % 998244353) dX3_inverse_46 (by omega) rfl ?_
          refine z_lstore_n hC [(2, .long (zL ((p * p) % 998244353))), (4, .long (zL ((q * p) % 998244353))), (0, .long (zL (vv))), (6, .long (zL (e)))] dX3_inverse_47 rfl (by decide) rfl ?_
          refine z_lload hC 3 dX3_inverse_48 rfl ?_
          refine z_iconst hC dX3_inverse_50 ?_
          refine z_lshr hC dX3_inverse_51 ?_
          refine z_topl (b := e / 2) (by exact zshr_1 (by omega)) ?_
          refine z_lstore hC [(6, .long (zL (e / 2))), (2, .long (zL ((p * p) % 998244353))), (4, .long (zL ((q * p) % 998244353))), (0, .long (zL (vv)))] dX3_inverse_52 (by decide) rfl ?_
          refine z_goto hC 14 dX3_inverse_54 (by decide) ?_
          refine z_lv (lv' := [(0, .long (zL (vv))), (2, .long (zL ((p * p) % 998244353))), (4, .long (zL ((q * p) % 998244353))), (6, .long (zL (e / 2)))]) [3, 1, 2, 0] rfl ?_
          exact ih14_2 ((p * p) % 998244353) ((q * p) % 998244353) (e / 2) (by omega) (by omega) (by omega) (by first | exact inv_s vi (by omega) (Or.inl ⟨by omega, rfl⟩) | exact inv_s vi (by omega) (Or.inr ⟨by omega, rfl⟩)) (by omega)
  exact lp14_1 _ vv 1 998244351 (by omega) (by omega) (by omega) (by exact ⟨31, rfl, by decide⟩) (Nat.lt_succ_self _)

set_option maxHeartbeats 4000000 in
set_option maxRecDepth 100000 in
theorem c_X3_climb (l : Launch) (D : va_G) (K : ClassId × ClassId × ClassId × ClassId) (v p v_terms v_now v_then v_link v_older v_spare v_parts v_rest v_product v_keptParts p_dx p_dy p_weights p_leaps p_barred p_passable : Nat) (v_degree v_keptDegree p_kind p_round p_barredCount p_ax p_bx : Int) (dy nw th : Int → Int) (nn : Nat) (hdyc : ∀ k, 0 ≤ k → k < 8 → dy k = sdy k) (hnw : ∀ j, 0 ≤ j → j < 31 → nw j = lvE nn j) : zMet l D K yX3_climb wsX3_climb ({ frames := 0, cells := 0, slots := 0, locals := 0 }) 0 0 [.ref v, .ref p] [wO v 3 [.ref v_terms, .ref v_now, .ref v_then, .ref v_link, .ref v_older, .ref v_spare, .ref v_parts, .ref v_rest, .ref v_product, .ref v_keptParts, .int (zI (v_degree)), .int (zI (v_keptDegree))], wO p 4 [.ref p_dx, .ref p_dy, .ref p_weights, .ref p_leaps, .int (zI (4)), .int (zI (p_kind)), .int (zI (5)), .int (zI (p_round)), .int (zI (p_barredCount)), .int (zI (p_ax)), .int (zI (0)), .int (zI (p_bx)), .int (zI (0)), .ref p_barred, .ref p_passable], wI p_dy K.2.1 8 dy, wJ v_now K.2.2.1 31 nw, wJ v_then K.2.2.1 31 th] (fun vr_ wr_ => ∃ (n2 : Int → Int), vr_ = none ∧ wr_ = [wO v 3 [.ref v_terms, .ref v_then, .ref v_now, .ref v_link, .ref v_older, .ref v_spare, .ref v_parts, .ref v_rest, .ref v_product, .ref v_keptParts, .int (zI (v_degree)), .int (zI (v_keptDegree))], wO p 4 [.ref p_dx, .ref p_dy, .ref p_weights, .ref p_leaps, .int (zI (4)), .int (zI (p_kind)), .int (zI (5)), .int (zI (p_round)), .int (zI (p_barredCount)), .int (zI (p_ax)), .int (zI (0)), .int (zI (p_bx)), .int (zI (0)), .ref p_barred, .ref p_passable], wI p_dy K.2.1 8 dy, wJ v_then K.2.2.1 31 n2, wJ v_now K.2.2.1 31 nw] ∧ (∀ j, 0 ≤ j → j < 31 → n2 j = lvE (nn + 1) j)) := by
  refine zMet_of (cc := cX3_climb) (nL := 5) (ret := none) (by decide) rfl (Nat.le_of_ble_eq_true rfl) ?_
  rintro C rfl rfl rfl hC hR
  have hinX3 : ∀ w ∈ u_ws RX3 TX3 12, w ∈ wsX3_climb := by decide +kernel
  have hinX4 : ∀ w ∈ u_ws RX4 TX4 15, w ∈ wsX3_climb := by decide +kernel
  have hnr : ∀ j, 0 ≤ j → j < 31 → 0 ≤ nw j ∧ nw j < 998244353 := fun j h0 h1 => by rw [hnw j h0 h1]; unfold lvE; split; exact mod_r _; omega
  show ZW C 0 0 [wO v 3 [.ref v_terms, .ref v_now, .ref v_then, .ref v_link, .ref v_older, .ref v_spare, .ref v_parts, .ref v_rest, .ref v_product, .ref v_keptParts, .int (zI (v_degree)), .int (zI (v_keptDegree))], wO p 4 [.ref p_dx, .ref p_dy, .ref p_weights, .ref p_leaps, .int (zI (4)), .int (zI (p_kind)), .int (zI (5)), .int (zI (p_round)), .int (zI (p_barredCount)), .int (zI (p_ax)), .int (zI (0)), .int (zI (p_bx)), .int (zI (0)), .ref p_barred, .ref p_passable], wI p_dy (zK C).2.1 8 dy, wJ v_now (zK C).2.2.1 31 nw, wJ v_then (zK C).2.2.1 31 th] [(0, .ref v), (1, .ref p)] 0 []
  refine z_iconst hC dX3_climb_0 ?_
  refine z_istore_n hC [(2, .int (zI (0))), (0, .ref v), (1, .ref p)] dX3_climb_1 rfl (by decide) rfl ?_
  refine z_lv (lv' := [(0, .ref v), (1, .ref p), (2, .int (zI (0)))]) [1, 2, 0] rfl ?_
  have lp2_1 : ∀ (f3 : Nat) (h0 : Int) (q : Int → Int), (0 ≤ h0 ∧ h0 ≤ 31) → (∀ j, 0 ≤ j → j < h0 → q j = 0) → (31 - h0).toNat < f3 → ZW C 0 0 [wO v 3 [.ref v_terms, .ref v_now, .ref v_then, .ref v_link, .ref v_older, .ref v_spare, .ref v_parts, .ref v_rest, .ref v_product, .ref v_keptParts, .int (zI (v_degree)), .int (zI (v_keptDegree))], wO p 4 [.ref p_dx, .ref p_dy, .ref p_weights, .ref p_leaps, .int (zI (4)), .int (zI (p_kind)), .int (zI (5)), .int (zI (p_round)), .int (zI (p_barredCount)), .int (zI (p_ax)), .int (zI (0)), .int (zI (p_bx)), .int (zI (0)), .ref p_barred, .ref p_passable], wI p_dy (zK C).2.1 8 dy, wJ v_now (zK C).2.2.1 31 nw, wJ v_then (zK C).2.2.1 31 q] [(0, .ref v), (1, .ref p), (2, .int (zI (h0)))] 2 [] := by
    intro f3
    induction f3 with
    | zero => intro _ _ _ _ hf; exact absurd hf (Nat.not_lt_zero _)
    | succ f3 ih2_2 =>
      intro h0 q vh vq hf_2
      refine z_iload_n hC 2 dX3_climb_2 rfl rfl ?_
      refine z_bipush hC dX3_climb_3 (by decide) ?_
      refine z_icge hC 21 dX3_climb_5 (by decide) (by omega) (fun c_4 => ?_) (fun c_4 => ?_)
      · skip
        refine z_iconst hC dX3_climb_21 ?_
        refine z_istore_n hC [(2, .int (zI (0))), (0, .ref v), (1, .ref p)] dX3_climb_22 rfl (by decide) rfl ?_
        refine z_lv (lv' := [(0, .ref v), (1, .ref p), (2, .int (zI (0)))]) [1, 2, 0] rfl ?_
        have lp23_5 : ∀ (f7 : Nat) (h : Int) (q2 : Int → Int), (0 ≤ h ∧ h ≤ 6) → (∀ j, 0 ≤ j → j ≤ 5 → q2 j = psL nw h.toNat j % 998244353) → (∀ j, 6 ≤ j → j < 31 → q2 j = 0) → (∀ j, 0 ≤ j → j < 31 → 0 ≤ q2 j ∧ q2 j < 998244353) → (6 - h).toNat < f7 → ZW C 0 0 [wO v 3 [.ref v_terms, .ref v_now, .ref v_then, .ref v_link, .ref v_older, .ref v_spare, .ref v_parts, .ref v_rest, .ref v_product, .ref v_keptParts, .int (zI (v_degree)), .int (zI (v_keptDegree))], wO p 4 [.ref p_dx, .ref p_dy, .ref p_weights, .ref p_leaps, .int (zI (4)), .int (zI (p_kind)), .int (zI (5)), .int (zI (p_round)), .int (zI (p_barredCount)), .int (zI (p_ax)), .int (zI (0)), .int (zI (p_bx)), .int (zI (0)), .ref p_barred, .ref p_passable], wI p_dy (zK C).2.1 8 dy, wJ v_now (zK C).2.2.1 31 nw, wJ v_then (zK C).2.2.1 31 q2] [(0, .ref v), (1, .ref p), (2, .int (zI (h)))] 23 [] := by
          intro f7
          induction f7 with
          | zero => intro _ _ _ _ _ _ hf; exact absurd hf (Nat.not_lt_zero _)
          | succ f7 ih23_6 =>
            intro h q2 vh2 vb vo vr hf_23
            refine z_iload_n hC 2 dX3_climb_23 rfl rfl ?_
            refine z_aload_n hC 1 dX3_climb_24 rfl rfl ?_
            refine z_get hC (T := TX4) (N := 15) hinX4 1 6 dX3_climb_25 rfl rfl (by decide) (List.mem_of_getElem? (i := 2) rfl) rfl rfl ?_
            refine z_icgt hC 115 dX3_climb_28 (by decide) (by omega) (fun c_8 => ?_) (fun c_8 => ?_)
            · skip
              refine z_aload_n hC 0 dX3_climb_115 rfl rfl ?_
              refine z_get hC (T := TX3) (N := 12) hinX3 0 1 dX3_climb_116 rfl rfl (by decide) (List.mem_of_getElem? (i := 5) rfl) rfl rfl ?_
              refine z_astore_n hC [(2, .ref v_now), (0, .ref v), (1, .ref p)] dX3_climb_119 rfl (by decide) rfl ?_
              refine z_aload_n hC 1 dX3_climb_120 rfl rfl ?_
              refine z_aload_n hC 1 dX3_climb_121 rfl rfl ?_
              refine z_get hC (T := TX3) (N := 12) hinX3 0 2 dX3_climb_122 rfl rfl (by decide) (List.mem_of_getElem? (i := 1) rfl) rfl rfl ?_
              refine z_put hC (T := TX3) (N := 12) hinX3 tyX3_ok nmX3 0 1 [wO v 3 [.ref v_terms, .ref v_then, .ref v_then, .ref v_link, .ref v_older, .ref v_spare, .ref v_parts, .ref v_rest, .ref v_product, .ref v_keptParts, .int (zI (v_degree)), .int (zI (v_keptDegree))], wO p 4 [.ref p_dx, .ref p_dy, .ref p_weights, .ref p_leaps, .int (zI (4)), .int (zI (p_kind)), .int (zI (5)), .int (zI (p_round)), .int (zI (p_barredCount)), .int (zI (p_ax)), .int (zI (0)), .int (zI (p_bx)), .int (zI (0)), .ref p_barred, .ref p_passable], wI p_dy (zK C).2.1 8 dy, wJ v_now (zK C).2.2.1 31 nw, wJ v_then (zK C).2.2.1 31 q2] dX3_climb_125 rfl rfl (by decide) (List.mem_of_getElem? (i := 5) rfl) rfl rfl rfl rfl (Nat.le_of_ble_eq_true rfl) rfl ?_
              refine z_aload_n hC 1 dX3_climb_128 rfl rfl ?_
              refine z_aload_n hC 0 dX3_climb_129 rfl rfl ?_
              refine z_put hC (T := TX3) (N := 12) hinX3 tyX3_ok nmX3 0 2 [wO v 3 [.ref v_terms, .ref v_then, .ref v_now, .ref v_link, .ref v_older, .ref v_spare, .ref v_parts, .ref v_rest, .ref v_product, .ref v_keptParts, .int (zI (v_degree)), .int (zI (v_keptDegree))], wO p 4 [.ref p_dx, .ref p_dy, .ref p_weights, .ref p_leaps, .int (zI (4)), .int (zI (p_kind)), .int (zI (5)), .int (zI (p_round)), .int (zI (p_barredCount)), .int (zI (p_ax)), .int (zI (0)), .int (zI (p_bx)), .int (zI (0)), .ref p_barred, .ref p_passable], wI p_dy (zK C).2.1 8 dy, wJ v_now (zK C).2.2.1 31 nw, wJ v_then (zK C).2.2.1 31 q2] dX3_climb_130 rfl rfl (by decide) (List.mem_of_getElem? (i := 1) rfl) rfl rfl rfl rfl (Nat.le_of_ble_eq_true rfl) rfl ?_
              refine z_ws (ws' := [wO v 3 [.ref v_terms, .ref v_then, .ref v_now, .ref v_link, .ref v_older, .ref v_spare, .ref v_parts, .ref v_rest, .ref v_product, .ref v_keptParts, .int (zI (v_degree)), .int (zI (v_keptDegree))], wO p 4 [.ref p_dx, .ref p_dy, .ref p_weights, .ref p_leaps, .int (zI (4)), .int (zI (p_kind)), .int (zI (5)), .int (zI (p_round)), .int (zI (p_barredCount)), .int (zI (p_ax)), .int (zI (0)), .int (zI (p_bx)), .int (zI (0)), .ref p_barred, .ref p_passable], wI p_dy (zK C).2.1 8 dy, wJ v_then (zK C).2.2.1 31 q2, wJ v_now (zK C).2.2.1 31 nw]) [0, 1, 2, 4, 3] rfl rfl ?_
              exact z_vret hC hR dX3_climb_133 (Nat.le_of_ble_eq_true rfl) (Nat.le_of_ble_eq_true rfl) ⟨q2, rfl, rfl, by intro j a b; unfold lvE; by_cases e : j ≤ 5; (rw [if_pos e, vb j a e, show h = 6 by omega]; exact lev_fin hnw a e); (rw [if_neg e]; exact vo j (by omega) b)⟩
            · skip
              refine z_iload_n hC 2 dX3_climb_31 rfl rfl ?_
              refine z_bipush hC dX3_climb_32 (by decide) ?_
              refine z_icge hC 115 dX3_climb_34 (by decide) (by omega) (fun c_9 => by exfalso; omega) (fun c_9 => ?_)
              refine z_iconst hC dX3_climb_37 ?_
              refine z_istore_n hC [(3, .int (zI (0))), (0, .ref v), (1, .ref p), (2, .int (zI (h)))] dX3_climb_38 rfl (by decide) rfl ?_
              refine z_lv (lv' := [(0, .ref v), (1, .ref p), (2, .int (zI (h))), (3, .int (zI (0)))]) [1, 2, 3, 0] rfl ?_
              have lp39_10 : ∀ (f12 : Nat) (k : Int) (q3 : Int → Int), (0 ≤ k ∧ k ≤ 4) → (∀ j, 0 ≤ j → j ≤ 5 → q3 j = (psL nw h.toNat j + pkL nw h j k.toNat) % 998244353) → (∀ j, 6 ≤ j → j < 31 → q3 j = 0) → (∀ j, 0 ≤ j → j < 31 → 0 ≤ q3 j ∧ q3 j < 998244353) → (4 - k).toNat < f12 → ZW C 0 0 [wO v 3 [.ref v_terms, .ref v_now, .ref v_then, .ref v_link, .ref v_older, .ref v_spare, .ref v_parts, .ref v_rest, .ref v_product, .ref v_keptParts, .int (zI (v_degree)), .int (zI (v_keptDegree))], wO p 4 [.ref p_dx, .ref p_dy, .ref p_weights, .ref p_leaps, .int (zI (4)), .int (zI (p_kind)), .int (zI (5)), .int (zI (p_round)), .int (zI (p_barredCount)), .int (zI (p_ax)), .int (zI (0)), .int (zI (p_bx)), .int (zI (0)), .ref p_barred, .ref p_passable], wI p_dy (zK C).2.1 8 dy, wJ v_now (zK C).2.2.1 31 nw, wJ v_then (zK C).2.2.1 31 q3] [(0, .ref v), (1, .ref p), (2, .int (zI (h))), (3, .int (zI (k)))] 39 [] := by
                intro f12
                induction f12 with
                | zero => intro _ _ _ _ _ _ hf; exact absurd hf (Nat.not_lt_zero _)
                | succ f12 ih39_11 =>
                  intro k q3 vk vc vo2 vr2 hf_39
                  refine z_iload_n hC 3 dX3_climb_39 rfl rfl ?_
                  refine z_aload_n hC 1 dX3_climb_40 rfl rfl ?_
                  refine z_get hC (T := TX4) (N := 15) hinX4 1 4 dX3_climb_41 rfl rfl (by decide) (List.mem_of_getElem? (i := 3) rfl) rfl rfl ?_
                  refine z_icge hC 109 dX3_climb_44 (by decide) (by omega) (fun c_13 => ?_) (fun c_13 => ?_)
                  · skip
                    refine z_iinc (a := h) (v := 1) (r := h + 1) hC 2 [(2, .int (zI (h + 1))), (0, .ref v), (1, .ref p), (3, .int (zI (k)))] dX3_climb_109 rfl rfl (by decide) rfl ?_
                    refine z_goto hC 23 dX3_climb_112 (by decide) ?_
                    refine z_lv (lv' := [(0, .ref v), (1, .ref p), (2, .int (zI (h + 1)))]) [1, 2, 0] rfl ?_
                    exact ih23_6 (h + 1) q3 (by omega) (by intro j a b; rw [psL_s (by omega), vc j a b, show k = 4 by omega]; rfl) (by exact vo2) (by exact vr2) (by omega)
                  · skip
                    have hsd := sdy_c k
                    refine z_iload_n hC 2 dX3_climb_47 rfl rfl ?_
                    refine z_aload_n hC 1 dX3_climb_48 rfl rfl ?_
                    refine z_get hC (T := TX4) (N := 15) hinX4 1 1 dX3_climb_49 rfl rfl (by decide) (List.mem_of_getElem? (i := 4) rfl) rfl rfl ?_
                    refine z_iload_n hC 3 dX3_climb_52 rfl rfl ?_
                    refine z_iald hC 2 dX3_climb_53 rfl (by omega) ?_
                    refine z_topi (b := sdy k) (by exact hdyc k (by omega) (by omega)) ?_
                    refine z_iadd hC (h + (sdy k)) dX3_climb_54 rfl ?_
                    refine z_istore hC [(4, .int (zI (h + (sdy k)))), (0, .ref v), (1, .ref p), (2, .int (zI (h))), (3, .int (zI (k)))] dX3_climb_55 (by decide) rfl ?_
                    refine z_iload hC 0 dX3_climb_57 rfl ?_
                    refine z_iflt hC 103 dX3_climb_59 (by decide) (by omega) (fun c_14 => ?_) (fun c_14 => ?_)
                    · skip
                      refine z_iinc (a := k) (v := 1) (r := k + 1) hC 4 [(3, .int (zI (k + 1))), (4, .int (zI (h + (sdy k)))), (0, .ref v), (1, .ref p), (2, .int (zI (h)))] dX3_climb_103 rfl rfl (by decide) rfl ?_
                      refine z_goto hC 39 dX3_climb_106 (by decide) ?_
                      refine z_lv (lv' := [(0, .ref v), (1, .ref p), (2, .int (zI (h))), (3, .int (zI (k + 1)))]) [2, 3, 4, 0] rfl ?_
                      exact ih39_11 (k + 1) q3 (by omega) (by exact lev_push (by omega) (by omega) vc (by first | exact Or.inl ⟨by omega, rfl⟩ | exact Or.inr ⟨by omega, rfl⟩)) (by intro j a b; first | exact vo2 j a b | (unfold zu; rw [if_neg (by omega)]; exact vo2 j a b)) (by intro j a b; first | exact vr2 j a b | (unfold zu; split; exact mod_r _; exact vr2 j a b)) (by omega)
                    · skip
                      refine z_iload hC 0 dX3_climb_62 rfl ?_
                      refine z_aload_n hC 2 dX3_climb_64 rfl rfl ?_
                      refine z_get hC (T := TX4) (N := 15) hinX4 1 6 dX3_climb_65 rfl rfl (by decide) (List.mem_of_getElem? (i := 2) rfl) rfl rfl ?_
                      refine z_icgt hC 103 dX3_climb_68 (by decide) (by omega) (fun c_15 => ?_) (fun c_15 => ?_)
                      · skip
                        refine z_iinc (a := k) (v := 1) (r := k + 1) hC 4 [(3, .int (zI (k + 1))), (4, .int (zI (h + (sdy k)))), (0, .ref v), (1, .ref p), (2, .int (zI (h)))] dX3_climb_103 rfl rfl (by decide) rfl ?_
                        refine z_goto hC 39 dX3_climb_106 (by decide) ?_
                        refine z_lv (lv' := [(0, .ref v), (1, .ref p), (2, .int (zI (h))), (3, .int (zI (k + 1)))]) [2, 3, 4, 0] rfl ?_
                        exact ih39_11 (k + 1) q3 (by omega) (by exact lev_push (by omega) (by omega) vc (by first | exact Or.inl ⟨by omega, rfl⟩ | exact Or.inr ⟨by omega, rfl⟩)) (by intro j a b; first | exact vo2 j a b | (unfold zu; rw [if_neg (by omega)]; exact vo2 j a b)) (by intro j a b; first | exact vr2 j a b | (unfold zu; split; exact mod_r _; exact vr2 j a b)) (by omega)
                      · skip
                        refine z_iload hC 0 dX3_climb_71 rfl ?_
                        refine z_bipush hC dX3_climb_73 (by decide) ?_
                        refine z_icge hC 103 dX3_climb_75 (by decide) (by omega) (fun c_16 => by exfalso; omega) (fun c_16 => ?_)
                        refine z_aload_n hC 1 dX3_climb_78 rfl rfl ?_
                        refine z_get hC (T := TX3) (N := 12) hinX3 0 2 dX3_climb_79 rfl rfl (by decide) (List.mem_of_getElem? (i := 1) rfl) rfl rfl ?_
                        refine z_iload hC 0 dX3_climb_82 rfl ?_
                        refine z_aload_n hC 1 dX3_climb_84 rfl rfl ?_
                        refine z_get hC (T := TX3) (N := 12) hinX3 0 2 dX3_climb_85 rfl rfl (by decide) (List.mem_of_getElem? (i := 1) rfl) rfl rfl ?_
                        refine z_iload hC 0 dX3_climb_88 rfl ?_
                        refine z_lald hC 4 dX3_climb_90 rfl (by omega) ?_
                        have l_17 := vr2 (h + (sdy k)) (by omega) (by omega)
                        refine z_aload_n hC 1 dX3_climb_91 rfl rfl ?_
                        refine z_get hC (T := TX3) (N := 12) hinX3 0 1 dX3_climb_92 rfl rfl (by decide) (List.mem_of_getElem? (i := 5) rfl) rfl rfl ?_
                        refine z_iload_n hC 3 dX3_climb_95 rfl rfl ?_
                        refine z_lald hC 3 dX3_climb_96 rfl (by omega) ?_
                        have l_18 := hnr h (by omega) (by omega)
                        refine z_ladd hC ((q3 (h + (sdy k))) + (nw h)) dX3_climb_97 rfl ?_
                        refine z_ldc2 (v := 998244353) hC (List.mem_of_getElem? (i := 6) rfl) rfl dX3_climb_98 ?_
                        refine z_lrem hC (((q3 (h + (sdy k))) + (nw h)) % 998244353) dX3_climb_101 (by omega) rfl ?_
                        refine z_last hC 4 [wO v 3 [.ref v_terms, .ref v_now, .ref v_then, .ref v_link, .ref v_older, .ref v_spare, .ref v_parts, .ref v_rest, .ref v_product, .ref v_keptParts, .int (zI (v_degree)), .int (zI (v_keptDegree))], wO p 4 [.ref p_dx, .ref p_dy, .ref p_weights, .ref p_leaps, .int (zI (4)), .int (zI (p_kind)), .int (zI (5)), .int (zI (p_round)), .int (zI (p_barredCount)), .int (zI (p_ax)), .int (zI (0)), .int (zI (p_bx)), .int (zI (0)), .ref p_barred, .ref p_passable], wI p_dy (zK C).2.1 8 dy, wJ v_now (zK C).2.2.1 31 nw, wJ v_then (zK C).2.2.1 31 (zu q3 (h + (sdy k)) (((q3 (h + (sdy k))) + (nw h)) % 998244353))] dX3_climb_102 rfl (by omega) rfl ?_
                        refine z_iinc (a := k) (v := 1) (r := k + 1) hC 4 [(3, .int (zI (k + 1))), (4, .int (zI (h + (sdy k)))), (0, .ref v), (1, .ref p), (2, .int (zI (h)))] dX3_climb_103 rfl rfl (by decide) rfl ?_
                        refine z_goto hC 39 dX3_climb_106 (by decide) ?_
                        refine z_lv (lv' := [(0, .ref v), (1, .ref p), (2, .int (zI (h))), (3, .int (zI (k + 1)))]) [2, 3, 4, 0] rfl ?_
                        exact ih39_11 (k + 1) (zu q3 (h + (sdy k)) (((q3 (h + (sdy k))) + (nw h)) % 998244353)) (by omega) (by exact lev_push (by omega) (by omega) vc (by first | exact Or.inl ⟨by omega, rfl⟩ | exact Or.inr ⟨by omega, rfl⟩)) (by intro j a b; first | exact vo2 j a b | (unfold zu; rw [if_neg (by omega)]; exact vo2 j a b)) (by intro j a b; first | exact vr2 j a b | (unfold zu; split; exact mod_r _; exact vr2 j a b)) (by omega)
              exact lp39_10 _ 0 q2 (by omega) (by intro j a b; rw [vb j a b]; show _ = (psL nw h.toNat j + 0) % 998244353; rw [Int.add_zero]) (by exact vo) (by exact vr) (Nat.lt_succ_self _)
        exact lp23_5 _ 0 q (by omega) (by intro j a b; exact vq j a (by omega)) (by intro j a b; exact vq j (by omega) (by omega)) (by intro j a b; rw [vq j a (by omega)]; decide) (Nat.lt_succ_self _)
      · skip
        refine z_aload_n hC 0 dX3_climb_8 rfl rfl ?_
        refine z_get hC (T := TX3) (N := 12) hinX3 0 2 dX3_climb_9 rfl rfl (by decide) (List.mem_of_getElem? (i := 1) rfl) rfl rfl ?_
        refine z_iload_n hC 2 dX3_climb_12 rfl rfl ?_
        refine z_lconst (v := 0) hC dX3_climb_13 rfl ?_
        refine z_last hC 4 [wO v 3 [.ref v_terms, .ref v_now, .ref v_then, .ref v_link, .ref v_older, .ref v_spare, .ref v_parts, .ref v_rest, .ref v_product, .ref v_keptParts, .int (zI (v_degree)), .int (zI (v_keptDegree))], wO p 4 [.ref p_dx, .ref p_dy, .ref p_weights, .ref p_leaps, .int (zI (4)), .int (zI (p_kind)), .int (zI (5)), .int (zI (p_round)), .int (zI (p_barredCount)), .int (zI (p_ax)), .int (zI (0)), .int (zI (p_bx)), .int (zI (0)), .ref p_barred, .ref p_passable], wI p_dy (zK C).2.1 8 dy, wJ v_now (zK C).2.2.1 31 nw, wJ v_then (zK C).2.2.1 31 (zu q h0 0)] dX3_climb_14 rfl (by omega) rfl ?_
        refine z_iinc (a := h0) (v := 1) (r := h0 + 1) hC 2 [(2, .int (zI (h0 + 1))), (0, .ref v), (1, .ref p)] dX3_climb_15 rfl rfl (by decide) rfl ?_
        refine z_goto hC 2 dX3_climb_18 (by decide) ?_
        refine z_lv (lv' := [(0, .ref v), (1, .ref p), (2, .int (zI (h0 + 1)))]) [1, 2, 0] rfl ?_
        exact ih2_2 (h0 + 1) (zu q h0 0) (by omega) (by intro j a b; unfold zu; split; rfl; exact vq j a (by omega)) (by omega)
  exact lp2_1 _ 0 th (by omega) (by intro j a b; omega) (Nat.lt_succ_self _)

set_option maxHeartbeats 4000000 in
set_option maxRecDepth 100000 in
theorem c_X3_findTerms (l : Launch) (D : va_G) (K : ClassId × ClassId × ClassId × ClassId) (v p v_terms v_now v_then v_link v_older v_spare v_parts v_rest v_product v_keptParts p_dx p_dy p_weights p_leaps p_barred p_passable : Nat) (v_degree v_keptDegree p_kind p_round p_barredCount p_ax p_bx : Int) (dy tm nw th : Int → Int) (hdyc : ∀ k, 0 ≤ k → k < 8 → dy k = sdy k) : zMet l D K yX3_findTerms wsX3_findTerms ({ frames := 1, cells := 0, slots := 0, locals := 24 }) 0 0 [.ref v, .ref p] [wO v 3 [.ref v_terms, .ref v_now, .ref v_then, .ref v_link, .ref v_older, .ref v_spare, .ref v_parts, .ref v_rest, .ref v_product, .ref v_keptParts, .int (zI (v_degree)), .int (zI (v_keptDegree))], wO p 4 [.ref p_dx, .ref p_dy, .ref p_weights, .ref p_leaps, .int (zI (4)), .int (zI (p_kind)), .int (zI (5)), .int (zI (p_round)), .int (zI (p_barredCount)), .int (zI (p_ax)), .int (zI (0)), .int (zI (p_bx)), .int (zI (0)), .ref p_barred, .ref p_passable], wI p_dy K.2.1 8 dy, wJ v_terms K.2.2.1 64 tm, wJ v_now K.2.2.1 31 nw, wJ v_then K.2.2.1 31 th] (fun vr_ wr_ => ∃ (na : Nat) (nb : Nat) (tm2 : Int → Int), vr_ = none ∧ wr_ = [wO v 3 [.ref v_terms, .ref na, .ref nb, .ref v_link, .ref v_older, .ref v_spare, .ref v_parts, .ref v_rest, .ref v_product, .ref v_keptParts, .int (zI (v_degree)), .int (zI (v_keptDegree))], wO p 4 [.ref p_dx, .ref p_dy, .ref p_weights, .ref p_leaps, .int (zI (4)), .int (zI (p_kind)), .int (zI (5)), .int (zI (p_round)), .int (zI (p_barredCount)), .int (zI (p_ax)), .int (zI (0)), .int (zI (p_bx)), .int (zI (0)), .ref p_barred, .ref p_passable], wI p_dy K.2.1 8 dy, wJ v_terms K.2.2.1 64 tm2] ∧ (∀ j, 0 ≤ j → j < 62 → tm2 j = arL TL j)) := by
  refine zMet_of (cc := cX3_findTerms) (nL := 3) (ret := none) (by decide) rfl (Nat.le_of_ble_eq_true rfl) ?_
  rintro C rfl rfl rfl hC hR
  have hinX3 : ∀ w ∈ u_ws RX3 TX3 12, w ∈ wsX3_findTerms := by decide +kernel
  have hinX4 : ∀ w ∈ u_ws RX4 TX4 15, w ∈ wsX3_findTerms := by decide +kernel
  show ZW C 0 0 [wO v 3 [.ref v_terms, .ref v_now, .ref v_then, .ref v_link, .ref v_older, .ref v_spare, .ref v_parts, .ref v_rest, .ref v_product, .ref v_keptParts, .int (zI (v_degree)), .int (zI (v_keptDegree))], wO p 4 [.ref p_dx, .ref p_dy, .ref p_weights, .ref p_leaps, .int (zI (4)), .int (zI (p_kind)), .int (zI (5)), .int (zI (p_round)), .int (zI (p_barredCount)), .int (zI (p_ax)), .int (zI (0)), .int (zI (p_bx)), .int (zI (0)), .ref p_barred, .ref p_passable], wI p_dy (zK C).2.1 8 dy, wJ v_terms (zK C).2.2.1 64 tm, wJ v_now (zK C).2.2.1 31 nw, wJ v_then (zK C).2.2.1 31 th] [(0, .ref v), (1, .ref p)] 0 []
  refine z_iconst hC dX3_findTerms_0 ?_
  refine z_istore_n hC [(2, .int (zI (0))), (0, .ref v), (1, .ref p)] dX3_findTerms_1 rfl (by decide) rfl ?_
  refine z_lv (lv' := [(0, .ref v), (1, .ref p), (2, .int (zI (0)))]) [1, 2, 0] rfl ?_
  have lp2_1 : ∀ (f3 : Nat) (h : Int) (q : Int → Int), (0 ≤ h ∧ h ≤ 31) → (∀ j, 0 ≤ j → j < h → q j = if j = 0 then 1 else 0) → (31 - h).toNat < f3 → ZW C 0 0 [wO v 3 [.ref v_terms, .ref v_now, .ref v_then, .ref v_link, .ref v_older, .ref v_spare, .ref v_parts, .ref v_rest, .ref v_product, .ref v_keptParts, .int (zI (v_degree)), .int (zI (v_keptDegree))], wO p 4 [.ref p_dx, .ref p_dy, .ref p_weights, .ref p_leaps, .int (zI (4)), .int (zI (p_kind)), .int (zI (5)), .int (zI (p_round)), .int (zI (p_barredCount)), .int (zI (p_ax)), .int (zI (0)), .int (zI (p_bx)), .int (zI (0)), .ref p_barred, .ref p_passable], wI p_dy (zK C).2.1 8 dy, wJ v_terms (zK C).2.2.1 64 tm, wJ v_now (zK C).2.2.1 31 q, wJ v_then (zK C).2.2.1 31 th] [(0, .ref v), (1, .ref p), (2, .int (zI (h)))] 2 [] := by
    intro f3
    induction f3 with
    | zero => intro _ _ _ _ hf; exact absurd hf (Nat.not_lt_zero _)
    | succ f3 ih2_2 =>
      intro h q vh vq hf_2
      refine z_iload_n hC 2 dX3_findTerms_2 rfl rfl ?_
      refine z_bipush hC dX3_findTerms_3 (by decide) ?_
      refine z_icge hC 33 dX3_findTerms_5 (by decide) (by omega) (fun c_4 => ?_) (fun c_4 => ?_)
      · skip
        refine z_iconst hC dX3_findTerms_33 ?_
        refine z_istore_n hC [(2, .int (zI (0))), (0, .ref v), (1, .ref p)] dX3_findTerms_34 rfl (by decide) rfl ?_
        refine z_lv (lv' := [(0, .ref v), (1, .ref p), (2, .int (zI (0)))]) [1, 2, 0] rfl ?_
        have lp35_5 : ∀ (f7 : Nat) (NA : Nat) (TA : Nat) (n : Int) (tq : Int → Int) (nq : Int → Int) (hq : Int → Int), (0 ≤ n ∧ n ≤ 62) → (∀ j, 0 ≤ j → j < n → tq j = arL TL j) → (∀ j, 0 ≤ j → j < 31 → nq j = lvE n.toNat j) → (62 - n).toNat < f7 → ZW C 0 0 [wO v 3 [.ref v_terms, .ref NA, .ref TA, .ref v_link, .ref v_older, .ref v_spare, .ref v_parts, .ref v_rest, .ref v_product, .ref v_keptParts, .int (zI (v_degree)), .int (zI (v_keptDegree))], wO p 4 [.ref p_dx, .ref p_dy, .ref p_weights, .ref p_leaps, .int (zI (4)), .int (zI (p_kind)), .int (zI (5)), .int (zI (p_round)), .int (zI (p_barredCount)), .int (zI (p_ax)), .int (zI (0)), .int (zI (p_bx)), .int (zI (0)), .ref p_barred, .ref p_passable], wI p_dy (zK C).2.1 8 dy, wJ v_terms (zK C).2.2.1 64 tq, wJ NA (zK C).2.2.1 31 nq, wJ TA (zK C).2.2.1 31 hq] [(0, .ref v), (1, .ref p), (2, .int (zI (n)))] 35 [] := by
          intro f7
          induction f7 with
          | zero => intro _ _ _ _ _ _ _ _ _ hf; exact absurd hf (Nat.not_lt_zero _)
          | succ f7 ih35_6 =>
            intro NA TA n tq nq hq vn0 vt vn hf_35
            refine z_iload_n hC 2 dX3_findTerms_35 rfl rfl ?_
            refine z_bipush hC dX3_findTerms_36 (by decide) ?_
            refine z_icge hC 87 dX3_findTerms_38 (by decide) (by omega) (fun c_8 => ?_) (fun c_8 => ?_)
            · skip
              refine z_ws (ws' := [wO v 3 [.ref v_terms, .ref NA, .ref TA, .ref v_link, .ref v_older, .ref v_spare, .ref v_parts, .ref v_rest, .ref v_product, .ref v_keptParts, .int (zI (v_degree)), .int (zI (v_keptDegree))], wO p 4 [.ref p_dx, .ref p_dy, .ref p_weights, .ref p_leaps, .int (zI (4)), .int (zI (p_kind)), .int (zI (5)), .int (zI (p_round)), .int (zI (p_barredCount)), .int (zI (p_ax)), .int (zI (0)), .int (zI (p_bx)), .int (zI (0)), .ref p_barred, .ref p_passable], wI p_dy (zK C).2.1 8 dy, wJ v_terms (zK C).2.2.1 64 tq]) [0, 1, 2, 3] rfl rfl ?_
              exact z_vret hC hR dX3_findTerms_87 (Nat.le_of_ble_eq_true rfl) (Nat.le_of_ble_eq_true rfl) ⟨NA, TA, tq, rfl, rfl, by intro j a b; exact vt j a (by omega)⟩
            · skip
              refine z_aload_n hC 0 dX3_findTerms_41 rfl rfl ?_
              refine z_get hC (T := TX3) (N := 12) hinX3 0 0 dX3_findTerms_42 rfl rfl (by decide) (List.mem_of_getElem? (i := 3) rfl) rfl rfl ?_
              refine z_iload_n hC 2 dX3_findTerms_45 rfl rfl ?_
              refine z_aload_n hC 1 dX3_findTerms_46 rfl rfl ?_
              refine z_get hC (T := TX4) (N := 15) hinX4 1 12 dX3_findTerms_47 rfl rfl (by decide) (List.mem_of_getElem? (i := 4) rfl) rfl rfl ?_
              refine z_iflt hC 74 dX3_findTerms_50 (by decide) (by omega) (fun c_9 => by exfalso; omega) (fun c_9 => ?_)
              refine z_aload_n hC 1 dX3_findTerms_53 rfl rfl ?_
              refine z_get hC (T := TX4) (N := 15) hinX4 1 12 dX3_findTerms_54 rfl rfl (by decide) (List.mem_of_getElem? (i := 4) rfl) rfl rfl ?_
              refine z_bipush hC dX3_findTerms_57 (by decide) ?_
              refine z_icge hC 74 dX3_findTerms_59 (by decide) (by omega) (fun c_10 => by exfalso; omega) (fun c_10 => ?_)
              refine z_aload_n hC 0 dX3_findTerms_62 rfl rfl ?_
              refine z_get hC (T := TX3) (N := 12) hinX3 0 1 dX3_findTerms_63 rfl rfl (by decide) (List.mem_of_getElem? (i := 1) rfl) rfl rfl ?_
              refine z_aload_n hC 1 dX3_findTerms_66 rfl rfl ?_
              refine z_get hC (T := TX4) (N := 15) hinX4 1 12 dX3_findTerms_67 rfl rfl (by decide) (List.mem_of_getElem? (i := 4) rfl) rfl rfl ?_
              refine z_lald hC 4 dX3_findTerms_70 rfl (by omega) ?_
              refine z_goto hC 75 dX3_findTerms_71 (by decide) ?_
              refine z_last hC 3 [wO v 3 [.ref v_terms, .ref NA, .ref TA, .ref v_link, .ref v_older, .ref v_spare, .ref v_parts, .ref v_rest, .ref v_product, .ref v_keptParts, .int (zI (v_degree)), .int (zI (v_keptDegree))], wO p 4 [.ref p_dx, .ref p_dy, .ref p_weights, .ref p_leaps, .int (zI (4)), .int (zI (p_kind)), .int (zI (5)), .int (zI (p_round)), .int (zI (p_barredCount)), .int (zI (p_ax)), .int (zI (0)), .int (zI (p_bx)), .int (zI (0)), .ref p_barred, .ref p_passable], wI p_dy (zK C).2.1 8 dy, wJ v_terms (zK C).2.2.1 64 (zu tq n (nq 0)), wJ NA (zK C).2.2.1 31 nq, wJ TA (zK C).2.2.1 31 hq] dX3_findTerms_75 rfl (by omega) rfl ?_
              refine z_aload_n hC 0 dX3_findTerms_76 rfl rfl ?_
              refine z_aload_n hC 1 dX3_findTerms_77 rfl rfl ?_
              refine z_callV hC [.ref p] 1 0 dX3_findTerms_78 (c_X3_climb (zl C) (zD C) (zK C) v p v_terms NA TA v_link v_older v_spare v_parts v_rest v_product v_keptParts p_dx p_dy p_weights p_leaps p_barred p_passable v_degree v_keptDegree p_kind p_round p_barredCount p_ax p_bx dy nq hq n.toNat (by first | assumption | omega) (by exact vn)) gX3_findTerms_X3_climb rfl rfl rfl ⟨by decide, by decide, by decide +kernel⟩ ⟨(Nat.le_of_ble_eq_true rfl), (Nat.le_of_ble_eq_true rfl)⟩ rfl rfl rfl rfl [0, 1, 2, 4, 5] [3] [wJ v_terms (zK C).2.2.1 64 (zu tq n (nq 0))] [] rfl rfl rfl rfl rfl (by decide) (Nat.le_of_ble_eq_true rfl) ⟨(Nat.le_of_ble_eq_true rfl), (Nat.le_of_ble_eq_true rfl)⟩ ?_
              rintro v_ w_ ⟨n2_11, rfl, rfl, hcl⟩
              show ZW C 0 0 [wJ v_terms (zK C).2.2.1 64 (zu tq n (nq 0)), wO v 3 [.ref v_terms, .ref TA, .ref NA, .ref v_link, .ref v_older, .ref v_spare, .ref v_parts, .ref v_rest, .ref v_product, .ref v_keptParts, .int (zI (v_degree)), .int (zI (v_keptDegree))], wO p 4 [.ref p_dx, .ref p_dy, .ref p_weights, .ref p_leaps, .int (zI (4)), .int (zI (p_kind)), .int (zI (5)), .int (zI (p_round)), .int (zI (p_barredCount)), .int (zI (p_ax)), .int (zI (0)), .int (zI (p_bx)), .int (zI (0)), .ref p_barred, .ref p_passable], wI p_dy (zK C).2.1 8 dy, wJ TA (zK C).2.2.1 31 n2_11, wJ NA (zK C).2.2.1 31 nq] [(0, .ref v), (1, .ref p), (2, .int (zI (n)))] 81 []
              refine z_iinc (a := n) (v := 1) (r := n + 1) hC 2 [(2, .int (zI (n + 1))), (0, .ref v), (1, .ref p)] dX3_findTerms_81 rfl rfl (by decide) rfl ?_
              refine z_goto hC 35 dX3_findTerms_84 (by decide) ?_
              refine z_lv (lv' := [(0, .ref v), (1, .ref p), (2, .int (zI (n + 1)))]) [1, 2, 0] rfl ?_
              refine z_ws (ws' := [wO v 3 [.ref v_terms, .ref TA, .ref NA, .ref v_link, .ref v_older, .ref v_spare, .ref v_parts, .ref v_rest, .ref v_product, .ref v_keptParts, .int (zI (v_degree)), .int (zI (v_keptDegree))], wO p 4 [.ref p_dx, .ref p_dy, .ref p_weights, .ref p_leaps, .int (zI (4)), .int (zI (p_kind)), .int (zI (5)), .int (zI (p_round)), .int (zI (p_barredCount)), .int (zI (p_ax)), .int (zI (0)), .int (zI (p_bx)), .int (zI (0)), .ref p_barred, .ref p_passable], wI p_dy (zK C).2.1 8 dy, wJ v_terms (zK C).2.2.1 64 (zu tq n (nq 0)), wJ TA (zK C).2.2.1 31 n2_11, wJ NA (zK C).2.2.1 31 nq]) [1, 2, 3, 0, 4, 5] rfl rfl ?_
              exact ih35_6 TA NA (n + 1) (zu tq n (nq 0)) n2_11 nq (by omega) (by intro j a b; unfold zu; by_cases e : j = n; (rw [if_pos e, vn 0 (by omega) (by omega), e, TL_t (by omega) (by omega)]; rfl); (rw [if_neg e]; exact vt j a (by omega))) (by rw [show (n + 1).toNat = n.toNat + 1 by omega]; exact hcl) (by omega)
        exact lp35_5 _ v_now v_then 0 tm q th (by omega) (by intro j a b; omega) (by exact lev_0 (fun j a b => vq j a (by omega))) (Nat.lt_succ_self _)
      · skip
        refine z_aload_n hC 0 dX3_findTerms_8 rfl rfl ?_
        refine z_get hC (T := TX3) (N := 12) hinX3 0 1 dX3_findTerms_9 rfl rfl (by decide) (List.mem_of_getElem? (i := 1) rfl) rfl rfl ?_
        refine z_iload_n hC 2 dX3_findTerms_12 rfl rfl ?_
        refine z_iload_n hC 2 dX3_findTerms_13 rfl rfl ?_
        refine z_aload_n hC 1 dX3_findTerms_14 rfl rfl ?_
        refine z_get hC (T := TX4) (N := 15) hinX4 1 10 dX3_findTerms_15 rfl rfl (by decide) (List.mem_of_getElem? (i := 2) rfl) rfl rfl ?_
        refine z_icne hC 25 dX3_findTerms_18 (by decide) (by omega) (fun c_12 => ?_) (fun c_12 => ?_)
        · skip
          refine z_lconst (v := 0) hC dX3_findTerms_25 rfl ?_
          refine z_last hC 4 [wO v 3 [.ref v_terms, .ref v_now, .ref v_then, .ref v_link, .ref v_older, .ref v_spare, .ref v_parts, .ref v_rest, .ref v_product, .ref v_keptParts, .int (zI (v_degree)), .int (zI (v_keptDegree))], wO p 4 [.ref p_dx, .ref p_dy, .ref p_weights, .ref p_leaps, .int (zI (4)), .int (zI (p_kind)), .int (zI (5)), .int (zI (p_round)), .int (zI (p_barredCount)), .int (zI (p_ax)), .int (zI (0)), .int (zI (p_bx)), .int (zI (0)), .ref p_barred, .ref p_passable], wI p_dy (zK C).2.1 8 dy, wJ v_terms (zK C).2.2.1 64 tm, wJ v_now (zK C).2.2.1 31 (zu q h 0), wJ v_then (zK C).2.2.1 31 th] dX3_findTerms_26 rfl (by omega) rfl ?_
          refine z_iinc (a := h) (v := 1) (r := h + 1) hC 2 [(2, .int (zI (h + 1))), (0, .ref v), (1, .ref p)] dX3_findTerms_27 rfl rfl (by decide) rfl ?_
          refine z_goto hC 2 dX3_findTerms_30 (by decide) ?_
          refine z_lv (lv' := [(0, .ref v), (1, .ref p), (2, .int (zI (h + 1)))]) [1, 2, 0] rfl ?_
          exact ih2_2 (h + 1) (zu q h 0) (by omega) (by intro j a b; unfold zu; by_cases e : j = h; (rw [if_pos e]; first | rw [if_pos (by omega)] | rw [if_neg (by omega)]); (rw [if_neg e]; exact vq j a (by omega))) (by omega)
        · skip
          refine z_lconst (v := 1) hC dX3_findTerms_21 rfl ?_
          refine z_goto hC 26 dX3_findTerms_22 (by decide) ?_
          refine z_last hC 4 [wO v 3 [.ref v_terms, .ref v_now, .ref v_then, .ref v_link, .ref v_older, .ref v_spare, .ref v_parts, .ref v_rest, .ref v_product, .ref v_keptParts, .int (zI (v_degree)), .int (zI (v_keptDegree))], wO p 4 [.ref p_dx, .ref p_dy, .ref p_weights, .ref p_leaps, .int (zI (4)), .int (zI (p_kind)), .int (zI (5)), .int (zI (p_round)), .int (zI (p_barredCount)), .int (zI (p_ax)), .int (zI (0)), .int (zI (p_bx)), .int (zI (0)), .ref p_barred, .ref p_passable], wI p_dy (zK C).2.1 8 dy, wJ v_terms (zK C).2.2.1 64 tm, wJ v_now (zK C).2.2.1 31 (zu q h 1), wJ v_then (zK C).2.2.1 31 th] dX3_findTerms_26 rfl (by omega) rfl ?_
          refine z_iinc (a := h) (v := 1) (r := h + 1) hC 2 [(2, .int (zI (h + 1))), (0, .ref v), (1, .ref p)] dX3_findTerms_27 rfl rfl (by decide) rfl ?_
          refine z_goto hC 2 dX3_findTerms_30 (by decide) ?_
          refine z_lv (lv' := [(0, .ref v), (1, .ref p), (2, .int (zI (h + 1)))]) [1, 2, 0] rfl ?_
          exact ih2_2 (h + 1) (zu q h 1) (by omega) (by intro j a b; unfold zu; by_cases e : j = h; (rw [if_pos e]; first | rw [if_pos (by omega)] | rw [if_neg (by omega)]); (rw [if_neg e]; exact vq j a (by omega))) (by omega)
  exact lp2_1 _ 0 nw (by omega) (by intro j a b; omega) (Nat.lt_succ_self _)

set_option maxHeartbeats 4000000 in
set_option maxRecDepth 100000 in
theorem c_X3_missAt (l : Launch) (D : va_G) (K : ClassId × ClassId × ClassId × ClassId) (v v_terms v_now v_then v_link v_older v_spare v_parts v_rest v_product v_keptParts : Nat) (n v_degree v_keptDegree : Int) (lk tm : Int → Int) (LL : List Int) (hn : 0 ≤ n ∧ n < 62) (hd : 0 ≤ v_degree ∧ v_degree ≤ 31) (ht : ∀ j, 0 ≤ j → j < 62 → tm j = arL TL j) (hl : ∀ j, 0 ≤ j → j < 64 → lk j = arL LL j) (hlr : ∀ j, 0 ≤ arL LL j ∧ arL LL j < 998244353) : zMet l D K yX3_missAt wsX3_missAt ({ frames := 0, cells := 0, slots := 0, locals := 0 }) 0 0 [.ref v, .int (zI (n))] [wO v 3 [.ref v_terms, .ref v_now, .ref v_then, .ref v_link, .ref v_older, .ref v_spare, .ref v_parts, .ref v_rest, .ref v_product, .ref v_keptParts, .int (zI (v_degree)), .int (zI (v_keptDegree))], wJ v_link K.2.2.1 64 lk, wJ v_terms K.2.2.1 64 tm] (fun vr_ wr_ => ∃ (r : Int), vr_ = some (.long (zL (r))) ∧ wr_ = [wO v 3 [.ref v_terms, .ref v_now, .ref v_then, .ref v_link, .ref v_older, .ref v_spare, .ref v_parts, .ref v_rest, .ref v_product, .ref v_keptParts, .int (zI (v_degree)), .int (zI (v_keptDegree))], wJ v_link K.2.2.1 64 lk, wJ v_terms K.2.2.1 64 tm] ∧ (r = bmMiss (arL LL) n (min v_degree n + 1).toNat ∧ 0 ≤ r ∧ r < 998244353)) := by
  refine zMet_of (cc := cX3_missAt) (nL := 5) (ret := (some .long)) (by decide) rfl (Nat.le_of_ble_eq_true rfl) ?_
  rintro C rfl rfl rfl hC hR
  have hinX3 : ∀ w ∈ u_ws RX3 TX3 12, w ∈ wsX3_missAt := by decide +kernel
  show ZW C 0 0 [wO v 3 [.ref v_terms, .ref v_now, .ref v_then, .ref v_link, .ref v_older, .ref v_spare, .ref v_parts, .ref v_rest, .ref v_product, .ref v_keptParts, .int (zI (v_degree)), .int (zI (v_keptDegree))], wJ v_link (zK C).2.2.1 64 lk, wJ v_terms (zK C).2.2.1 64 tm] [(0, .ref v), (1, .int (zI (n)))] 0 []
  refine z_lconst (v := 0) hC dX3_missAt_0 rfl ?_
  refine z_lstore_n hC [(2, .long (zL (0))), (0, .ref v), (1, .int (zI (n)))] dX3_missAt_1 rfl (by decide) rfl ?_
  refine z_iconst hC dX3_missAt_2 ?_
  refine z_istore hC [(4, .int (zI (0))), (2, .long (zL (0))), (0, .ref v), (1, .int (zI (n)))] dX3_missAt_3 (by decide) rfl ?_
  refine z_lv (lv' := [(0, .ref v), (1, .int (zI (n))), (2, .long (zL (0))), (4, .int (zI (0)))]) [2, 3, 1, 0] rfl ?_
  have lp5_1 : ∀ (f3 : Nat) (ms : Int) (i : Int), (0 ≤ i ∧ i ≤ v_degree + 1 ∧ i ≤ n + 1) → (ms = bmMiss (arL LL) n i.toNat) → (0 ≤ ms ∧ ms < 998244353) → (v_degree + 1 - i).toNat < f3 → ZW C 0 0 [wO v 3 [.ref v_terms, .ref v_now, .ref v_then, .ref v_link, .ref v_older, .ref v_spare, .ref v_parts, .ref v_rest, .ref v_product, .ref v_keptParts, .int (zI (v_degree)), .int (zI (v_keptDegree))], wJ v_link (zK C).2.2.1 64 lk, wJ v_terms (zK C).2.2.1 64 tm] [(0, .ref v), (1, .int (zI (n))), (2, .long (zL (ms))), (4, .int (zI (i)))] 5 [] := by
    intro f3
    induction f3 with
    | zero => intro _ _ _ _ _ hf; exact absurd hf (Nat.not_lt_zero _)
    | succ f3 ih5_2 =>
      intro ms i vi vm vr hf_5
      refine z_iload hC 3 dX3_missAt_5 rfl ?_
      refine z_aload_n hC 0 dX3_missAt_7 rfl rfl ?_
      refine z_get hC (T := TX3) (N := 12) hinX3 0 10 dX3_missAt_8 rfl rfl (by decide) (List.mem_of_getElem? (i := 1) rfl) rfl rfl ?_
      refine z_icgt hC 50 dX3_missAt_11 (by decide) (by omega) (fun c_4 => ?_) (fun c_4 => ?_)
      · skip
        refine z_lload_n hC 2 dX3_missAt_50 rfl rfl ?_
        exact z_lret hC hR dX3_missAt_51 (Nat.le_of_ble_eq_true rfl) (Nat.le_of_ble_eq_true rfl) ⟨ms, rfl, rfl, by exact ⟨by rw [vm, show i = min v_degree n + 1 by omega], vr⟩⟩
      · skip
        refine z_iload hC 3 dX3_missAt_14 rfl ?_
        refine z_iload_n hC 1 dX3_missAt_16 rfl rfl ?_
        refine z_icgt hC 50 dX3_missAt_17 (by decide) (by omega) (fun c_5 => ?_) (fun c_5 => ?_)
        · skip
          refine z_lload_n hC 2 dX3_missAt_50 rfl rfl ?_
          exact z_lret hC hR dX3_missAt_51 (Nat.le_of_ble_eq_true rfl) (Nat.le_of_ble_eq_true rfl) ⟨ms, rfl, rfl, by exact ⟨by rw [vm, show i = min v_degree n + 1 by omega], vr⟩⟩
        · skip
          have hm := mul_r (hlr i) (TL_r (n - i))
          refine z_lload_n hC 2 dX3_missAt_20 rfl rfl ?_
          refine z_aload_n hC 0 dX3_missAt_21 rfl rfl ?_
          refine z_get hC (T := TX3) (N := 12) hinX3 0 3 dX3_missAt_22 rfl rfl (by decide) (List.mem_of_getElem? (i := 2) rfl) rfl rfl ?_
          refine z_iload hC 3 dX3_missAt_25 rfl ?_
          refine z_lald hC 1 dX3_missAt_27 rfl (by omega) ?_
          refine z_topl (b := arL LL i) (by exact hl i (by omega) (by omega)) ?_
          refine z_aload_n hC 0 dX3_missAt_28 rfl rfl ?_
          refine z_get hC (T := TX3) (N := 12) hinX3 0 0 dX3_missAt_29 rfl rfl (by decide) (List.mem_of_getElem? (i := 3) rfl) rfl rfl ?_
          refine z_iload_n hC 1 dX3_missAt_32 rfl rfl ?_
          refine z_iload hC 3 dX3_missAt_33 rfl ?_
          refine z_isub hC (n - i) dX3_missAt_35 rfl ?_
          refine z_lald hC 2 dX3_missAt_36 rfl (by omega) ?_
          refine z_topl (b := arL TL (n - i)) (by exact ht (n - i) (by omega) (by omega)) ?_
          refine z_lmul hC ((arL LL i) * (arL TL (n - i))) dX3_missAt_37 rfl ?_
          refine z_ladd hC (ms + ((arL LL i) * (arL TL (n - i)))) dX3_missAt_38 rfl ?_
          refine z_ldc2 (v := 998244353) hC (List.mem_of_getElem? (i := 4) rfl) rfl dX3_missAt_39 ?_
          refine z_lrem hC ((ms + ((arL LL i) * (arL TL (n - i)))) % 998244353) dX3_missAt_42 (by omega) rfl ?_
          refine z_lstore_n hC [(2, .long (zL ((ms + ((arL LL i) * (arL TL (n - i)))) % 998244353))), (0, .ref v), (1, .int (zI (n))), (4, .int (zI (i)))] dX3_missAt_43 rfl (by decide) rfl ?_
          refine z_iinc (a := i) (v := 1) (r := i + 1) hC 3 [(4, .int (zI (i + 1))), (2, .long (zL ((ms + ((arL LL i) * (arL TL (n - i)))) % 998244353))), (0, .ref v), (1, .int (zI (n)))] dX3_missAt_44 rfl rfl (by decide) rfl ?_
          refine z_goto hC 5 dX3_missAt_47 (by decide) ?_
          refine z_lv (lv' := [(0, .ref v), (1, .int (zI (n))), (2, .long (zL ((ms + ((arL LL i) * (arL TL (n - i)))) % 998244353))), (4, .int (zI (i + 1)))]) [2, 3, 1, 0] rfl ?_
          exact ih5_2 ((ms + ((arL LL i) * (arL TL (n - i)))) % 998244353) (i + 1) (by omega) (by exact miss_s (by omega) vm) (by exact mod_r _) (by omega)
  exact lp5_1 _ 0 0 (by omega) (by rfl) (by omega) (Nat.lt_succ_self _)

set_option maxHeartbeats 4000000 in
set_option maxRecDepth 100000 in
theorem c_X3_mend (l : Launch) (D : va_G) (K : ClassId × ClassId × ClassId × ClassId) (v v_terms v_now v_then v_link v_older v_spare v_parts v_rest v_product v_keptParts : Nat) (ms om gp v_degree v_keptDegree : Int) (lk ol : Int → Int) (LL : List Int) (OO : List Int) (hm : 0 ≤ ms ∧ ms < 998244353) (ho : 0 ≤ om ∧ om < 998244353) (hg : 1 ≤ gp ∧ gp ≤ 63) (hl : ∀ j, 0 ≤ j → j < 64 → lk j = arL LL j) (hlr : ∀ j, 0 ≤ arL LL j ∧ arL LL j < 998244353) (hl2 : ∀ j, 0 ≤ j → j < 64 → ol j = arL OO j) (hlr2 : ∀ j, 0 ≤ arL OO j ∧ arL OO j < 998244353) : zMet l D K yX3_mend wsX3_mend ({ frames := 1, cells := 0, slots := 0, locals := 27 }) 0 0 [.ref v, .long (zL (ms)), .long (zL (om)), .int (zI (gp))] [wO v 3 [.ref v_terms, .ref v_now, .ref v_then, .ref v_link, .ref v_older, .ref v_spare, .ref v_parts, .ref v_rest, .ref v_product, .ref v_keptParts, .int (zI (v_degree)), .int (zI (v_keptDegree))], wJ v_link K.2.2.1 64 lk, wJ v_older K.2.2.1 64 ol] (fun vr_ wr_ => ∃ (lk2 : Int → Int), vr_ = none ∧ wr_ = [wO v 3 [.ref v_terms, .ref v_now, .ref v_then, .ref v_link, .ref v_older, .ref v_spare, .ref v_parts, .ref v_rest, .ref v_product, .ref v_keptParts, .int (zI (v_degree)), .int (zI (v_keptDegree))], wJ v_link K.2.2.1 64 lk2, wJ v_older K.2.2.1 64 ol] ∧ (∀ j, 0 ≤ j → j < 64 → lk2 j = arL (bmMend (ms * inv om % 998244353) gp LL OO) j)) := by
  refine zMet_of (cc := cX3_mend) (nL := 9) (ret := none) (by decide) rfl (Nat.le_of_ble_eq_true rfl) ?_
  rintro C rfl rfl rfl hC hR
  have hinX3 : ∀ w ∈ u_ws RX3 TX3 12, w ∈ wsX3_mend := by decide +kernel
  have hi0 := inv_r om
  have hi1 := mul_r hm hi0
  have hi2 := mod_r (ms * inv om)
  show ZW C 0 0 [wO v 3 [.ref v_terms, .ref v_now, .ref v_then, .ref v_link, .ref v_older, .ref v_spare, .ref v_parts, .ref v_rest, .ref v_product, .ref v_keptParts, .int (zI (v_degree)), .int (zI (v_keptDegree))], wJ v_link (zK C).2.2.1 64 lk, wJ v_older (zK C).2.2.1 64 ol] [(0, .ref v), (1, .long (zL (ms))), (3, .long (zL (om))), (5, .int (zI (gp)))] 0 []
  refine z_lload_n hC 1 dX3_mend_0 rfl rfl ?_
  refine z_lload_n hC 2 dX3_mend_1 rfl rfl ?_
  refine z_callS hC [.long (zL (om))] 1 dX3_mend_2 (c_X3_inverse (zl C) (zD C) (zK C) om (by first | assumption | omega)) gX3_mend_X3_inverse rfl rfl rfl ⟨by decide, by decide, by decide +kernel⟩ ⟨(Nat.le_of_ble_eq_true rfl), (Nat.le_of_ble_eq_true rfl)⟩ rfl [] [0, 1, 2] [wO v 3 [.ref v_terms, .ref v_now, .ref v_then, .ref v_link, .ref v_older, .ref v_spare, .ref v_parts, .ref v_rest, .ref v_product, .ref v_keptParts, .int (zI (v_degree)), .int (zI (v_keptDegree))], wJ v_link (zK C).2.2.1 64 lk, wJ v_older (zK C).2.2.1 64 ol] [.long (zL (ms))] rfl rfl rfl rfl rfl (by decide) (Nat.le_of_ble_eq_true rfl) ⟨(Nat.le_of_ble_eq_true rfl), (Nat.le_of_ble_eq_true rfl)⟩ ?_
  rintro v_ w_ ⟨r_1, rfl, rfl, rfl⟩
  show ZW C 0 0 [wO v 3 [.ref v_terms, .ref v_now, .ref v_then, .ref v_link, .ref v_older, .ref v_spare, .ref v_parts, .ref v_rest, .ref v_product, .ref v_keptParts, .int (zI (v_degree)), .int (zI (v_keptDegree))], wJ v_link (zK C).2.2.1 64 lk, wJ v_older (zK C).2.2.1 64 ol] [(0, .ref v), (1, .long (zL (ms))), (3, .long (zL (om))), (5, .int (zI (gp)))] 5 [.long (zL (inv om)), .long (zL (ms))]
  refine z_lmul hC (ms * (inv om)) dX3_mend_5 rfl ?_
  refine z_ldc2 (v := 998244353) hC (List.mem_of_getElem? (i := 1) rfl) rfl dX3_mend_6 ?_
  refine z_lrem hC ((ms * (inv om)) % 998244353) dX3_mend_9 (by omega) rfl ?_
  refine z_lstore hC [(6, .long (zL ((ms * (inv om)) % 998244353))), (0, .ref v), (1, .long (zL (ms))), (3, .long (zL (om))), (5, .int (zI (gp)))] dX3_mend_10 (by decide) rfl ?_
  refine z_iconst hC dX3_mend_12 ?_
  refine z_istore hC [(8, .int (zI (0))), (6, .long (zL ((ms * (inv om)) % 998244353))), (0, .ref v), (1, .long (zL (ms))), (3, .long (zL (om))), (5, .int (zI (gp)))] dX3_mend_13 (by decide) rfl ?_
  refine z_lv (lv' := [(0, .ref v), (1, .long (zL (ms))), (3, .long (zL (om))), (5, .int (zI (gp))), (6, .long (zL ((ms * (inv om)) % 998244353))), (8, .int (zI (0)))]) [2, 3, 4, 5, 1, 0] rfl ?_
  have lp15_3 : ∀ (f5 : Nat) (i : Int) (q : Int → Int), (0 ≤ i ∧ i ≤ 64 - gp) → (∀ j, 0 ≤ j → j < 64 → q j = mdf (ms * inv om % 998244353) gp LL OO i j) → (64 - gp - i).toNat < f5 → ZW C 0 0 [wO v 3 [.ref v_terms, .ref v_now, .ref v_then, .ref v_link, .ref v_older, .ref v_spare, .ref v_parts, .ref v_rest, .ref v_product, .ref v_keptParts, .int (zI (v_degree)), .int (zI (v_keptDegree))], wJ v_link (zK C).2.2.1 64 q, wJ v_older (zK C).2.2.1 64 ol] [(0, .ref v), (1, .long (zL (ms))), (3, .long (zL (om))), (5, .int (zI (gp))), (6, .long (zL ((ms * (inv om)) % 998244353))), (8, .int (zI (i)))] 15 [] := by
    intro f5
    induction f5 with
    | zero => intro _ _ _ _ hf; exact absurd hf (Nat.not_lt_zero _)
    | succ f5 ih15_4 =>
      intro i q vi vq hf_15
      refine z_iload hC 5 dX3_mend_15 rfl ?_
      refine z_iload hC 3 dX3_mend_17 rfl ?_
      refine z_iadd hC (i + gp) dX3_mend_19 rfl ?_
      refine z_bipush hC dX3_mend_20 (by decide) ?_
      refine z_icge hC 70 dX3_mend_22 (by decide) (by omega) (fun c_6 => ?_) (fun c_6 => ?_)
      · skip
        exact z_vret hC hR dX3_mend_70 (Nat.le_of_ble_eq_true rfl) (Nat.le_of_ble_eq_true rfl) ⟨q, rfl, rfl, by intro j a b; rw [vq j a b, show i = 64 - gp by omega]; exact mdf_end a b (by omega)⟩
      · skip
        have hm2 := mul_r2 (x := 998244353 - ms * inv om % 998244353) (y := arL OO i) (by omega) (hlr2 i)
        have hm3 := hlr (i + gp)
        refine z_aload_n hC 0 dX3_mend_25 rfl rfl ?_
        refine z_get hC (T := TX3) (N := 12) hinX3 0 3 dX3_mend_26 rfl rfl (by decide) (List.mem_of_getElem? (i := 2) rfl) rfl rfl ?_
        refine z_iload hC 5 dX3_mend_29 rfl ?_
        refine z_iload hC 3 dX3_mend_31 rfl ?_
        refine z_iadd hC (i + gp) dX3_mend_33 rfl ?_
        refine z_aload_n hC 0 dX3_mend_34 rfl rfl ?_
        refine z_get hC (T := TX3) (N := 12) hinX3 0 3 dX3_mend_35 rfl rfl (by decide) (List.mem_of_getElem? (i := 2) rfl) rfl rfl ?_
        refine z_iload hC 5 dX3_mend_38 rfl ?_
        refine z_iload hC 3 dX3_mend_40 rfl ?_
        refine z_iadd hC (i + gp) dX3_mend_42 rfl ?_
        refine z_lald hC 1 dX3_mend_43 rfl (by omega) ?_
        refine z_topl (b := arL LL (i + gp)) (by rw [vq _ (by omega) (by omega)]; unfold mdf; rw [if_neg (by omega)]) ?_
        refine z_ldc2 (v := 998244353) hC (List.mem_of_getElem? (i := 1) rfl) rfl dX3_mend_44 ?_
        refine z_lload hC 4 dX3_mend_47 rfl ?_
        refine z_lsub hC (998244353 - ((ms * (inv om)) % 998244353)) dX3_mend_49 rfl ?_
        refine z_aload_n hC 0 dX3_mend_50 rfl rfl ?_
        refine z_get hC (T := TX3) (N := 12) hinX3 0 4 dX3_mend_51 rfl rfl (by decide) (List.mem_of_getElem? (i := 3) rfl) rfl rfl ?_
        refine z_iload hC 5 dX3_mend_54 rfl ?_
        refine z_lald hC 2 dX3_mend_56 rfl (by omega) ?_
        refine z_topl (b := arL OO i) (by exact hl2 i (by omega) (by omega)) ?_
        refine z_lmul hC ((998244353 - ((ms * (inv om)) % 998244353)) * (arL OO i)) dX3_mend_57 rfl ?_
        refine z_ladd hC ((arL LL (i + gp)) + ((998244353 - ((ms * (inv om)) % 998244353)) * (arL OO i))) dX3_mend_58 rfl ?_
        refine z_ldc2 (v := 998244353) hC (List.mem_of_getElem? (i := 1) rfl) rfl dX3_mend_59 ?_
        refine z_lrem hC (((arL LL (i + gp)) + ((998244353 - ((ms * (inv om)) % 998244353)) * (arL OO i))) % 998244353) dX3_mend_62 (by omega) rfl ?_
        refine z_last hC 1 [wO v 3 [.ref v_terms, .ref v_now, .ref v_then, .ref v_link, .ref v_older, .ref v_spare, .ref v_parts, .ref v_rest, .ref v_product, .ref v_keptParts, .int (zI (v_degree)), .int (zI (v_keptDegree))], wJ v_link (zK C).2.2.1 64 (zu q (i + gp) (((arL LL (i + gp)) + ((998244353 - ((ms * (inv om)) % 998244353)) * (arL OO i))) % 998244353)), wJ v_older (zK C).2.2.1 64 ol] dX3_mend_63 rfl (by omega) rfl ?_
        refine z_iinc (a := i) (v := 1) (r := i + 1) hC 5 [(8, .int (zI (i + 1))), (0, .ref v), (1, .long (zL (ms))), (3, .long (zL (om))), (5, .int (zI (gp))), (6, .long (zL ((ms * (inv om)) % 998244353)))] dX3_mend_64 rfl rfl (by decide) rfl ?_
        refine z_goto hC 15 dX3_mend_67 (by decide) ?_
        refine z_lv (lv' := [(0, .ref v), (1, .long (zL (ms))), (3, .long (zL (om))), (5, .int (zI (gp))), (6, .long (zL ((ms * (inv om)) % 998244353))), (8, .int (zI (i + 1)))]) [1, 2, 3, 4, 5, 0] rfl ?_
        exact ih15_4 (i + 1) (zu q (i + gp) (((arL LL (i + gp)) + ((998244353 - ((ms * (inv om)) % 998244353)) * (arL OO i))) % 998244353)) (by omega) (by intro j a b; unfold zu; by_cases e : j = i + gp; (rw [if_pos e, e]; unfold mdf; rw [if_pos (by omega), show i + gp - gp = i by omega]); (rw [if_neg e, vq j a b]; unfold mdf; by_cases e2 : gp ≤ j ∧ j < i + gp; (rw [if_pos e2, if_pos (by omega)]); (rw [if_neg e2, if_neg (by omega)]))) (by omega)
  exact lp15_3 _ 0 lk (by omega) (by intro j a b; rw [hl j a b]; unfold mdf; rw [if_neg (by omega)]) (Nat.lt_succ_self _)
