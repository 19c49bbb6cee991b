def iB (j : Int) : Int := if j = 2244 then 1 else 0
def iA (_ : Int) : Int := 1
theorem iB_r (j : Int) : 0 ≤ iB j ∧ iB j ≤ 1 := by unfold iB; split <;> omega
theorem iA_r (j : Int) : 0 ≤ iA j ∧ iA j ≤ 1 := by unfold iA; omega
theorem cW_0 (j : Int) : (if 2244 ≤ j ∧ j < 2244 + 1 ∧ oP j = 1 then (1 : Int) else 0) = cntC oP slp 4 iB (0 : Int).toNat j := by
  show _ = cntC oP slp 4 iB 0 j
  unfold cntC iB
  by_cases h : oP j = 1
  · rw [if_pos h]
    by_cases e : j = 2244
    · rw [if_pos e, if_pos ⟨by omega, by omega, h⟩]
    · rw [if_neg e, if_neg (by omega)]
  · rw [if_neg h, if_neg (by omega)]
theorem cA_0 (j : Int) (h0 : 0 ≤ j) (h1 : j < 4489) : (if 0 ≤ j ∧ j < 4489 ∧ oP j = 1 then (1 : Int) else 0) = cntC oP slp 4 iA (1 - 1 : Int).toNat j := by
  show _ = cntC oP slp 4 iA 0 j
  unfold cntC iA
  by_cases h : oP j = 1
  · rw [if_pos h, if_pos ⟨h0, h1, h⟩]
  · rw [if_neg h, if_neg (by omega)]
theorem cW_far : ∀ (r : Nat) (j : Int), (r : Int) < j / 67 - 33 ∨ j / 67 - 33 < -(r : Int) → cntC oP slp 4 iB r j = 0
  | 0, j, h => by
    unfold cntC iB
    split
    · rw [if_neg (by omega)]
    · rfl
  | r + 1, j, h => by
    unfold cntC
    split
    · rename_i ho
      have h3 := oP_1 ho
      rw [sumZ_pos (fun k k0 k1 => ?_)]
      · decide
      · have := slp_c k
        exact cW_far r _ (by omega)
    · rfl
theorem cW_step {g : Int → Int} {r j : Int} (hr : 1 ≤ r) (h0 : 0 ≤ j) (h1 : j < 4489) (hg : ∀ j2, 0 ≤ j2 → j2 < 4489 → g ((r - 1) * 4489 + j2) = cntC oP slp 4 iB (r - 1).toNat j2) :
    spr g ((r - 1) * 4489) 0 r j = cntC oP slp 4 iB r.toNat j := by
  have e : r.toNat = (r - 1).toNat + 1 := by omega
  unfold spr
  by_cases h : oP j = 1
  · have h3 := oP_1 h
    by_cases q : 0 - r ≤ j / 67 - 33 ∧ j / 67 - 33 ≤ 0 + r
    · rw [if_pos ⟨q.1, q.2, h⟩, e]
      show _ = if oP j = 1 then _ else _
      rw [if_pos h]
      congr 1
      refine sumZ_cong (fun k k0 k1 => ?_)
      have := slp_c k
      have h4 := hg (j + slp k) (by omega) (by omega)
      rw [← h4]
      congr 1
      omega
    · rw [if_neg (by omega)]
      exact (cW_far r.toNat j (by omega)).symm
  · rw [if_neg (by omega), e]
    show _ = if oP j = 1 then _ else _
    rw [if_neg h]
theorem cA_step {g : Int → Int} {n r bs j : Int} (hr : 1 ≤ r ∧ r ≤ n) (h0 : 0 ≤ j) (h1 : j < 4489) (q0 : j / 67 - 33 ≤ n - r) (q1 : r - n ≤ j / 67 - 33) (hg : ∀ j2, 0 ≤ j2 → j2 < 4489 → j2 / 67 - 33 ≤ n + 1 - r → r - n - 1 ≤ j2 / 67 - 33 → g (bs + j2) = cntC oP slp 4 iA (r - 1).toNat j2) :
    spr g bs 0 (n - r) j = cntC oP slp 4 iA r.toNat j := by
  have e : r.toNat = (r - 1).toNat + 1 := by omega
  unfold spr
  by_cases h : oP j = 1
  · have h3 := oP_1 h
    rw [if_pos ⟨by omega, by omega, h⟩, e]
    show _ = if oP j = 1 then _ else _
    rw [if_pos h]
    congr 1
    refine sumZ_cong (fun k k0 k1 => ?_)
    have := slp_c k
    have h4 := hg (j + slp k) (by omega) (by omega) (by omega) (by omega)
    rw [← h4]
    congr 1
    omega
  · rw [if_neg (by omega), e]
    show _ = if oP j = 1 then _ else _
    rw [if_neg h]
theorem cW_A0 : cntC oP slp 4 iB (0 : Int).toNat 2244 = 1 := by
  show cntC oP slp 4 iB 0 2244 = 1
  unfold cntC iB
  rw [if_pos (by rw [oP_iff]; decide), if_pos rfl]
theorem oP_A : oP 2244 = 1 := by rw [oP_iff]; decide
set_option maxHeartbeats 4000000 in
set_option maxRecDepth 100000 in
theorem c_X6_prepare (l : Launch) (D : va_G) (K : ClassId × ClassId × ClassId × ClassId) (w p a w_spreading p_dx p_dy p_weights p_leaps p_barred p_passable : Nat) (n p_top p_round p_barredCount : Int) (lp dy pas g : Int → Int) (hn : 0 ≤ n ∧ n ≤ 60) (hp : ∀ j, 0 ≤ j → j < 4489 → pas j = oP j) (hlp : ∀ k, 0 ≤ k → k < 8 → lp k = slp k) (hdyc : ∀ k, 0 ≤ k → k < 8 → dy k = sdy k) (hg : ∀ j, 0 ≤ j → j < 273829 → 0 ≤ g j ∧ g j ≤ 4611686018427387904) : zMet l D K yX6_prepare wsX6_prepare ({ frames := 3, cells := 0, slots := 0, locals := 69 }) 0 0 [.ref w, .int (zI (n))] [wO w 6 [.ref p, .ref a, .ref w_spreading, .int (zI (0))], wO p 4 [.ref p_dx, .ref p_dy, .ref p_weights, .ref p_leaps, .int (zI (4)), .int (zI (0)), .int (zI (p_top)), .int (zI (p_round)), .int (zI (p_barredCount)), .int (zI (0)), .int (zI (0)), .int (zI (0)), .int (zI (0)), .ref p_barred, .ref p_passable], wI p_leaps K.2.1 8 lp, wI p_dy K.2.1 8 dy, wI p_passable K.1 4489 pas, wJ a K.2.2.1 273829 g] (fun vr_ wr_ => ∃ (rd : Int) (g2 : Int → Int), vr_ = none ∧ wr_ = [wO w 6 [.ref p, .ref a, .ref w_spreading, .int (zI (rd))], wO p 4 [.ref p_dx, .ref p_dy, .ref p_weights, .ref p_leaps, .int (zI (4)), .int (zI (0)), .int (zI (p_top)), .int (zI (p_round)), .int (zI (p_barredCount)), .int (zI (0)), .int (zI (0)), .int (zI (0)), .int (zI (0)), .ref p_barred, .ref p_passable], wI p_leaps K.2.1 8 lp, wI p_dy K.2.1 8 dy, wI p_passable K.1 4489 pas, wJ a K.2.2.1 273829 g2] ∧ (rd = n + 1 ∧ (∀ r j, 0 ≤ r → r ≤ n → 0 ≤ j → j < 4489 → g2 (r * 4489 + j) = cntC oP slp 4 iB (r).toNat (j)))) := by
  refine zMet_of (cc := cX6_prepare) (nL := 3) (ret := none) (by decide) rfl (Nat.le_of_ble_eq_true rfl) ?_
  rintro C rfl rfl rfl hC hR
  have hinX4 : ∀ w ∈ u_ws RX4 TX4 15, w ∈ wsX6_prepare := by decide +kernel
  have hinX6 : ∀ w ∈ u_ws RX6 TX6 4, w ∈ wsX6_prepare := by decide +kernel
  show ZW C 0 0 [wO w 6 [.ref p, .ref a, .ref w_spreading, .int (zI (0))], wO p 4 [.ref p_dx, .ref p_dy, .ref p_weights, .ref p_leaps, .int (zI (4)), .int (zI (0)), .int (zI (p_top)), .int (zI (p_round)), .int (zI (p_barredCount)), .int (zI (0)), .int (zI (0)), .int (zI (0)), .int (zI (0)), .ref p_barred, .ref p_passable], wI p_leaps (zK C).2.1 8 lp, wI p_dy (zK C).2.1 8 dy, wI p_passable (zK C).1 4489 pas, wJ a (zK C).2.2.1 273829 g] [(0, .ref w), (1, .int (zI (n)))] 0 []
  refine z_aload_n hC 0 dX6_prepare_0 rfl rfl ?_
  refine z_get hC (T := TX6) (N := 4) hinX6 0 3 dX6_prepare_1 rfl rfl (by decide) (List.mem_of_getElem? (i := 1) rfl) rfl rfl ?_
  refine z_ifne hC 36 dX6_prepare_4 (by decide) (by omega) (fun c_1 => by exfalso; omega) (fun c_1 => ?_)
  refine z_aload_n hC 0 dX6_prepare_7 rfl rfl ?_
  refine z_aload_n hC 0 dX6_prepare_8 rfl rfl ?_
  refine z_get hC (T := TX6) (N := 4) hinX6 0 1 dX6_prepare_9 rfl rfl (by decide) (List.mem_of_getElem? (i := 2) rfl) rfl rfl ?_
  refine z_aload_n hC 0 dX6_prepare_12 rfl rfl ?_
  refine z_get hC (T := TX6) (N := 4) hinX6 0 0 dX6_prepare_13 rfl rfl (by decide) (List.mem_of_getElem? (i := 3) rfl) rfl rfl ?_
  refine z_callV hC [] 0 0 dX6_prepare_16 (c_X4_cellB (zl C) (zD C) (zK C) p p_dx p_dy p_weights p_leaps p_barred p_passable 4 0 p_top p_round p_barredCount 0 0 0 0 ) gX6_prepare_X4_cellB rfl rfl rfl ⟨by decide, by decide, by decide +kernel⟩ ⟨(Nat.le_of_ble_eq_true rfl), (Nat.le_of_ble_eq_true rfl)⟩ rfl rfl rfl rfl [1] [0, 2, 3, 4, 5] [wO w 6 [.ref p, .ref a, .ref w_spreading, .int (zI (0))], wI p_leaps (zK C).2.1 8 lp, wI p_dy (zK C).2.1 8 dy, wI p_passable (zK C).1 4489 pas, wJ a (zK C).2.2.1 273829 g] [.ref a, .ref w] rfl rfl rfl rfl rfl (by decide) (Nat.le_of_ble_eq_true rfl) ⟨(Nat.le_of_ble_eq_true rfl), (Nat.le_of_ble_eq_true rfl)⟩ ?_
  rintro v_ w_ ⟨rfl, rfl, h_16_2⟩
  show ZW C 0 0 [wO w 6 [.ref p, .ref a, .ref w_spreading, .int (zI (0))], wI p_leaps (zK C).2.1 8 lp, wI p_dy (zK C).2.1 8 dy, wI p_passable (zK C).1 4489 pas, wJ a (zK C).2.2.1 273829 g, wO p 4 [.ref p_dx, .ref p_dy, .ref p_weights, .ref p_leaps, .int (zI (4)), .int (zI (0)), .int (zI (p_top)), .int (zI (p_round)), .int (zI (p_barredCount)), .int (zI (0)), .int (zI (0)), .int (zI (0)), .int (zI (0)), .ref p_barred, .ref p_passable]] [(0, .ref w), (1, .int (zI (n)))] 19 [.int (zI ((0 + 33) * 67 + 0 + 33)), .ref a, .ref w]
  refine z_aload_n hC 0 dX6_prepare_19 rfl rfl ?_
  refine z_get hC (T := TX6) (N := 4) hinX6 0 0 dX6_prepare_20 rfl rfl (by decide) (List.mem_of_getElem? (i := 3) rfl) rfl rfl ?_
  refine z_callV hC [] 0 0 dX6_prepare_23 (c_X4_cellB (zl C) (zD C) (zK C) p p_dx p_dy p_weights p_leaps p_barred p_passable 4 0 p_top p_round p_barredCount 0 0 0 0 ) gX6_prepare_X4_cellB rfl rfl rfl ⟨by decide, by decide, by decide +kernel⟩ ⟨(Nat.le_of_ble_eq_true rfl), (Nat.le_of_ble_eq_true rfl)⟩ rfl rfl rfl rfl [5] [0, 1, 2, 3, 4] [wO w 6 [.ref p, .ref a, .ref w_spreading, .int (zI (0))], wI p_leaps (zK C).2.1 8 lp, wI p_dy (zK C).2.1 8 dy, wI p_passable (zK C).1 4489 pas, wJ a (zK C).2.2.1 273829 g] [.int (zI ((0 + 33) * 67 + 0 + 33)), .ref a, .ref w] rfl rfl rfl rfl rfl (by decide) (Nat.le_of_ble_eq_true rfl) ⟨(Nat.le_of_ble_eq_true rfl), (Nat.le_of_ble_eq_true rfl)⟩ ?_
  rintro v_ w_ ⟨rfl, rfl, h_23_3⟩
  show ZW C 0 0 [wO w 6 [.ref p, .ref a, .ref w_spreading, .int (zI (0))], wI p_leaps (zK C).2.1 8 lp, wI p_dy (zK C).2.1 8 dy, wI p_passable (zK C).1 4489 pas, wJ a (zK C).2.2.1 273829 g, wO p 4 [.ref p_dx, .ref p_dy, .ref p_weights, .ref p_leaps, .int (zI (4)), .int (zI (0)), .int (zI (p_top)), .int (zI (p_round)), .int (zI (p_barredCount)), .int (zI (0)), .int (zI (0)), .int (zI (0)), .int (zI (0)), .ref p_barred, .ref p_passable]] [(0, .ref w), (1, .int (zI (n)))] 26 [.int (zI ((0 + 33) * 67 + 0 + 33)), .int (zI ((0 + 33) * 67 + 0 + 33)), .ref a, .ref w]
  refine z_iconst hC dX6_prepare_26 ?_
  refine z_iadd hC (((0 + 33) * 67 + 0 + 33) + 1) dX6_prepare_27 rfl ?_
  refine z_callV hC [.ref a, .int (zI ((0 + 33) * 67 + 0 + 33)), .int (zI (((0 + 33) * 67 + 0 + 33) + 1))] 3 0 dX6_prepare_28 (c_X6_beginL (zl C) (zD C) (zK C) w a p a w_spreading p_dx p_dy p_weights p_leaps p_barred p_passable ((0 + 33) * 67 + 0 + 33) (((0 + 33) * 67 + 0 + 33) + 1) 0 4 p_top p_round p_barredCount 0 0 0 0 pas g (by first | assumption | omega) (by first | assumption | omega) (by first | assumption | omega)) gX6_prepare_X6_begin rfl rfl rfl ⟨by decide, by decide, by decide +kernel⟩ ⟨(Nat.le_of_ble_eq_true rfl), (Nat.le_of_ble_eq_true rfl)⟩ rfl rfl rfl rfl [0, 5, 3, 4] [1, 2] [wI p_leaps (zK C).2.1 8 lp, wI p_dy (zK C).2.1 8 dy] [] rfl rfl rfl rfl rfl (by decide) (Nat.le_of_ble_eq_true rfl) ⟨(Nat.le_of_ble_eq_true rfl), (Nat.le_of_ble_eq_true rfl)⟩ ?_
  rintro v_ w_ ⟨g2_4, rfl, rfl, hbg⟩
  show ZW C 0 0 [wI p_leaps (zK C).2.1 8 lp, wI p_dy (zK C).2.1 8 dy, wO w 6 [.ref p, .ref a, .ref w_spreading, .int (zI (0))], wO p 4 [.ref p_dx, .ref p_dy, .ref p_weights, .ref p_leaps, .int (zI (4)), .int (zI (0)), .int (zI (p_top)), .int (zI (p_round)), .int (zI (p_barredCount)), .int (zI (0)), .int (zI (0)), .int (zI (0)), .int (zI (0)), .ref p_barred, .ref p_passable], wI p_passable (zK C).1 4489 pas, wJ a (zK C).2.2.1 273829 g2_4] [(0, .ref w), (1, .int (zI (n)))] 31 []
  refine z_aload_n hC 0 dX6_prepare_31 rfl rfl ?_
  refine z_iconst hC dX6_prepare_32 ?_
  refine z_put hC (T := TX6) (N := 4) hinX6 tyX6_ok nmX6 2 3 [wI p_leaps (zK C).2.1 8 lp, wI p_dy (zK C).2.1 8 dy, wO w 6 [.ref p, .ref a, .ref w_spreading, .int (zI (1))], wO p 4 [.ref p_dx, .ref p_dy, .ref p_weights, .ref p_leaps, .int (zI (4)), .int (zI (0)), .int (zI (p_top)), .int (zI (p_round)), .int (zI (p_barredCount)), .int (zI (0)), .int (zI (0)), .int (zI (0)), .int (zI (0)), .ref p_barred, .ref p_passable], wI p_passable (zK C).1 4489 pas, wJ a (zK C).2.2.1 273829 g2_4] dX6_prepare_33 rfl rfl (by decide) (List.mem_of_getElem? (i := 1) rfl) rfl rfl rfl rfl (Nat.le_of_ble_eq_true rfl) rfl ?_
  refine z_aload_n hC 0 dX6_prepare_36 rfl rfl ?_
  refine z_get hC (T := TX6) (N := 4) hinX6 2 0 dX6_prepare_37 rfl rfl (by decide) (List.mem_of_getElem? (i := 3) rfl) rfl rfl ?_
  refine z_callV hC [] 0 0 dX6_prepare_40 (c_X4_tallestStep (zl C) (zD C) (zK C) p p_dx p_dy p_weights p_leaps p_barred p_passable 0 p_top p_round p_barredCount 0 0 0 0 dy (by first | assumption | omega)) gX6_prepare_X4_tallestStep rfl rfl rfl ⟨by decide, by decide, by decide +kernel⟩ ⟨(Nat.le_of_ble_eq_true rfl), (Nat.le_of_ble_eq_true rfl)⟩ rfl rfl rfl rfl [3, 1] [0, 2, 4, 5] [wI p_leaps (zK C).2.1 8 lp, wO w 6 [.ref p, .ref a, .ref w_spreading, .int (zI (1))], wI p_passable (zK C).1 4489 pas, wJ a (zK C).2.2.1 273829 g2_4] [] rfl rfl rfl rfl rfl (by decide) (Nat.le_of_ble_eq_true rfl) ⟨(Nat.le_of_ble_eq_true rfl), (Nat.le_of_ble_eq_true rfl)⟩ ?_
  rintro v_ w_ ⟨r_5, rfl, rfl, rfl⟩
  show ZW C 0 0 [wI p_leaps (zK C).2.1 8 lp, wO w 6 [.ref p, .ref a, .ref w_spreading, .int (zI (1))], wI p_passable (zK C).1 4489 pas, wJ a (zK C).2.2.1 273829 g2_4, wO p 4 [.ref p_dx, .ref p_dy, .ref p_weights, .ref p_leaps, .int (zI (4)), .int (zI (0)), .int (zI (p_top)), .int (zI (p_round)), .int (zI (p_barredCount)), .int (zI (0)), .int (zI (0)), .int (zI (0)), .int (zI (0)), .ref p_barred, .ref p_passable], wI p_dy (zK C).2.1 8 dy] [(0, .ref w), (1, .int (zI (n)))] 43 [.int (zI (1))]
  refine z_istore_n hC [(2, .int (zI (1))), (0, .ref w), (1, .int (zI (n)))] dX6_prepare_43 rfl (by decide) rfl ?_
  refine z_lv (lv' := [(0, .ref w), (1, .int (zI (n))), (2, .int (zI (1)))]) [1, 2, 0] rfl ?_
  have lp44_7 : ∀ (f9 : Nat) (rd : Int) (q : Int → Int), (1 ≤ rd ∧ rd ≤ n + 1) → (∀ r j, 0 ≤ r → r < rd → 0 ≤ j → j < 4489 → q (r * 4489 + j) = cntC oP slp 4 iB (r).toNat (j)) → (∀ j, 0 ≤ j → j < 273829 → 0 ≤ q j ∧ q j ≤ 4611686018427387904) → (n + 1 - rd).toNat < f9 → ZW C 0 0 [wI p_leaps (zK C).2.1 8 lp, wO w 6 [.ref p, .ref a, .ref w_spreading, .int (zI (rd))], wI p_passable (zK C).1 4489 pas, wJ a (zK C).2.2.1 273829 q, wO p 4 [.ref p_dx, .ref p_dy, .ref p_weights, .ref p_leaps, .int (zI (4)), .int (zI (0)), .int (zI (p_top)), .int (zI (p_round)), .int (zI (p_barredCount)), .int (zI (0)), .int (zI (0)), .int (zI (0)), .int (zI (0)), .ref p_barred, .ref p_passable], wI p_dy (zK C).2.1 8 dy] [(0, .ref w), (1, .int (zI (n))), (2, .int (zI (1)))] 44 [] := by
    intro f9
    induction f9 with
    | zero => intro _ _ _ _ _ hf; exact absurd hf (Nat.not_lt_zero _)
    | succ f9 ih44_8 =>
      intro rd q vi vq vr hf_44
      refine z_aload_n hC 0 dX6_prepare_44 rfl rfl ?_
      refine z_get hC (T := TX6) (N := 4) hinX6 1 3 dX6_prepare_45 rfl rfl (by decide) (List.mem_of_getElem? (i := 1) rfl) rfl rfl ?_
      refine z_iload_n hC 1 dX6_prepare_48 rfl rfl ?_
      refine z_icgt hC 113 dX6_prepare_49 (by decide) (by omega) (fun c_10 => ?_) (fun c_10 => ?_)
      · skip
        refine z_ws (ws' := [wO w 6 [.ref p, .ref a, .ref w_spreading, .int (zI (rd))], wO p 4 [.ref p_dx, .ref p_dy, .ref p_weights, .ref p_leaps, .int (zI (4)), .int (zI (0)), .int (zI (p_top)), .int (zI (p_round)), .int (zI (p_barredCount)), .int (zI (0)), .int (zI (0)), .int (zI (0)), .int (zI (0)), .ref p_barred, .ref p_passable], wI p_leaps (zK C).2.1 8 lp, wI p_dy (zK C).2.1 8 dy, wI p_passable (zK C).1 4489 pas, wJ a (zK C).2.2.1 273829 q]) [1, 4, 0, 5, 2, 3] rfl rfl ?_
        exact z_vret hC hR dX6_prepare_113 (Nat.le_of_ble_eq_true rfl) (Nat.le_of_ble_eq_true rfl) ⟨rd, q, rfl, rfl, by exact ⟨by omega, fun r j r0 r1 h0 h1 => vq r j r0 (by omega) h0 h1⟩⟩
      · skip
        refine z_aload_n hC 0 dX6_prepare_52 rfl rfl ?_
        refine z_get hC (T := TX6) (N := 4) hinX6 1 3 dX6_prepare_53 rfl rfl (by decide) (List.mem_of_getElem? (i := 1) rfl) rfl rfl ?_
        refine z_bipush hC dX6_prepare_56 (by decide) ?_
        refine z_icgt hC 113 dX6_prepare_58 (by decide) (by omega) (fun c_11 => by exfalso; omega) (fun c_11 => ?_)
        refine z_aload_n hC 0 dX6_prepare_61 rfl rfl ?_
        refine z_aload_n hC 0 dX6_prepare_62 rfl rfl ?_
        refine z_get hC (T := TX6) (N := 4) hinX6 1 1 dX6_prepare_63 rfl rfl (by decide) (List.mem_of_getElem? (i := 2) rfl) rfl rfl ?_
        refine z_aload_n hC 0 dX6_prepare_66 rfl rfl ?_
        refine z_get hC (T := TX6) (N := 4) hinX6 1 3 dX6_prepare_67 rfl rfl (by decide) (List.mem_of_getElem? (i := 1) rfl) rfl rfl ?_
        refine z_iconst hC dX6_prepare_70 ?_
        refine z_isub hC (rd - 1) dX6_prepare_71 rfl ?_
        refine z_sipush hC dX6_prepare_72 (by decide) ?_
        refine z_imul hC ((rd - 1) * 4489) dX6_prepare_75 rfl ?_
        refine z_aload_n hC 0 dX6_prepare_76 rfl rfl ?_
        refine z_get hC (T := TX6) (N := 4) hinX6 1 3 dX6_prepare_77 rfl rfl (by decide) (List.mem_of_getElem? (i := 1) rfl) rfl rfl ?_
        refine z_sipush hC dX6_prepare_80 (by decide) ?_
        refine z_imul hC (rd * 4489) dX6_prepare_83 rfl ?_
        refine z_aload_n hC 0 dX6_prepare_84 rfl rfl ?_
        refine z_get hC (T := TX6) (N := 4) hinX6 1 0 dX6_prepare_85 rfl rfl (by decide) (List.mem_of_getElem? (i := 3) rfl) rfl rfl ?_
        refine z_get hC (T := TX4) (N := 15) hinX4 4 12 dX6_prepare_88 rfl rfl (by decide) (List.mem_of_getElem? (i := 4) rfl) rfl rfl ?_
        refine z_iload_n hC 2 dX6_prepare_91 rfl rfl ?_
        refine z_aload_n hC 0 dX6_prepare_92 rfl rfl ?_
        refine z_get hC (T := TX6) (N := 4) hinX6 1 3 dX6_prepare_93 rfl rfl (by decide) (List.mem_of_getElem? (i := 1) rfl) rfl rfl ?_
        refine z_imul hC (rd) dX6_prepare_96 (by omega) ?_
        refine z_callV hC [.ref a, .int (zI ((rd - 1) * 4489)), .int (zI (rd * 4489)), .int (zI (0)), .int (zI (rd))] 5 0 dX6_prepare_97 (c_X6_spreadL (zl C) (zD C) (zK C) w a p a w_spreading p_dx p_dy p_weights p_leaps p_barred p_passable ((rd - 1) * 4489) (rd * 4489) 0 rd rd p_top p_round p_barredCount 0 0 0 0 lp pas q (by first | assumption | omega) (by first | assumption | omega) (by exact vr) (by omega) (by first | assumption | omega)) gX6_prepare_X6_spread rfl rfl rfl ⟨by decide, by decide, by decide +kernel⟩ ⟨(Nat.le_of_ble_eq_true rfl), (Nat.le_of_ble_eq_true rfl)⟩ rfl rfl rfl rfl [1, 4, 0, 2, 3] [5] [wI p_dy (zK C).2.1 8 dy] [] rfl rfl rfl rfl rfl (by decide) (Nat.le_of_ble_eq_true rfl) ⟨(Nat.le_of_ble_eq_true rfl), (Nat.le_of_ble_eq_true rfl)⟩ ?_
        rintro v_ w_ ⟨g2_12, rfl, rfl, hsp⟩
        show ZW C 0 0 [wI p_dy (zK C).2.1 8 dy, wO w 6 [.ref p, .ref a, .ref w_spreading, .int (zI (rd))], wO p 4 [.ref p_dx, .ref p_dy, .ref p_weights, .ref p_leaps, .int (zI (4)), .int (zI (0)), .int (zI (p_top)), .int (zI (p_round)), .int (zI (p_barredCount)), .int (zI (0)), .int (zI (0)), .int (zI (0)), .int (zI (0)), .ref p_barred, .ref p_passable], wI p_leaps (zK C).2.1 8 lp, wI p_passable (zK C).1 4489 pas, wJ a (zK C).2.2.1 273829 g2_12] [(0, .ref w), (1, .int (zI (n))), (2, .int (zI (1)))] 100 []
        refine z_aload_n hC 0 dX6_prepare_100 rfl rfl ?_
        refine z_dup hC dX6_prepare_101 rfl ?_
        refine z_get hC (T := TX6) (N := 4) hinX6 1 3 dX6_prepare_102 rfl rfl (by decide) (List.mem_of_getElem? (i := 1) rfl) rfl rfl ?_
        refine z_iconst hC dX6_prepare_105 ?_
        refine z_iadd hC (rd + 1) dX6_prepare_106 rfl ?_
        refine z_put hC (T := TX6) (N := 4) hinX6 tyX6_ok nmX6 1 3 [wI p_dy (zK C).2.1 8 dy, wO w 6 [.ref p, .ref a, .ref w_spreading, .int (zI (rd + 1))], wO p 4 [.ref p_dx, .ref p_dy, .ref p_weights, .ref p_leaps, .int (zI (4)), .int (zI (0)), .int (zI (p_top)), .int (zI (p_round)), .int (zI (p_barredCount)), .int (zI (0)), .int (zI (0)), .int (zI (0)), .int (zI (0)), .ref p_barred, .ref p_passable], wI p_leaps (zK C).2.1 8 lp, wI p_passable (zK C).1 4489 pas, wJ a (zK C).2.2.1 273829 g2_12] dX6_prepare_107 rfl rfl (by decide) (List.mem_of_getElem? (i := 1) rfl) rfl rfl rfl rfl (Nat.le_of_ble_eq_true rfl) rfl ?_
        refine z_goto hC 44 dX6_prepare_110 (by decide) ?_
        refine z_ws (ws' := [wI p_leaps (zK C).2.1 8 lp, wO w 6 [.ref p, .ref a, .ref w_spreading, .int (zI (rd + 1))], wI p_passable (zK C).1 4489 pas, wJ a (zK C).2.2.1 273829 g2_12, wO p 4 [.ref p_dx, .ref p_dy, .ref p_weights, .ref p_leaps, .int (zI (4)), .int (zI (0)), .int (zI (p_top)), .int (zI (p_round)), .int (zI (p_barredCount)), .int (zI (0)), .int (zI (0)), .int (zI (0)), .int (zI (0)), .ref p_barred, .ref p_passable], wI p_dy (zK C).2.1 8 dy]) [3, 1, 4, 5, 2, 0] rfl rfl ?_
        exact ih44_8 (rd + 1) g2_12 (by omega) (by intro r j r0 r1 h0 h1; by_cases e : r = rd; (rw [e]; rw [hsp.1 j h0 h1]; exact cW_step (by omega) h0 h1 (fun j2 a b => by have := vq (rd - 1) j2 (by omega) (by omega) a b; exact this)); (rw [hsp.2.1 _ (by omega)]; exact vq r j r0 (by omega) h0 h1)) (by exact hsp.2.2) (by omega)
  exact lp44_7 _ 1 g2_4 (by omega) (by intro r j r0 r1 h0 h1; rw [show r = 0 by omega, show (0 : Int) * 4489 + j = j by omega, hbg.1 j h0 h1]; exact cW_0 j) (by intro j h0 h1; by_cases e : j < 4489; (rw [hbg.1 j h0 e]; split <;> omega); (rw [hbg.2 j (by omega)]; exact hg j h0 h1)) (Nat.lt_succ_self _)

set_option maxHeartbeats 4000000 in
set_option maxRecDepth 100000 in
theorem c_X6_anywhere (l : Launch) (D : va_G) (K : ClassId × ClassId × ClassId × ClassId) (w p w_layers a p_dx p_dy p_weights p_leaps p_barred p_passable : Nat) (n w_ready p_top p_round p_barredCount : Int) (lp dy pas g : Int → Int) (hn : 0 ≤ n ∧ n ≤ 60) (hp : ∀ j, 0 ≤ j → j < 4489 → pas j = oP j) (hlp : ∀ k, 0 ≤ k → k < 8 → lp k = slp k) (hdyc : ∀ k, 0 ≤ k → k < 8 → dy k = sdy k) (hg : ∀ j, 0 ≤ j → j < 8978 → 0 ≤ g j ∧ g j ≤ 4611686018427387904) : zMet l D K yX6_anywhere wsX6_anywhere ({ frames := 3, cells := 0, slots := 0, locals := 69 }) 0 0 [.ref w, .int (zI (n))] [wO w 6 [.ref p, .ref w_layers, .ref a, .int (zI (w_ready))], wO p 4 [.ref p_dx, .ref p_dy, .ref p_weights, .ref p_leaps, .int (zI (4)), .int (zI (0)), .int (zI (p_top)), .int (zI (p_round)), .int (zI (p_barredCount)), .int (zI (0)), .int (zI (0)), .int (zI (0)), .int (zI (0)), .ref p_barred, .ref p_passable], wI p_leaps K.2.1 8 lp, wI p_dy K.2.1 8 dy, wI p_passable K.1 4489 pas, wJ a K.2.2.1 8978 g] (fun vr_ wr_ => ∃ (r : Int), vr_ = some (.long (zL (r))) ∧ wr_ = [] ∧ (r = cntC oP slp 4 iA (n).toNat (2244))) := by
  refine zMet_of (cc := cX6_anywhere) (nL := 5) (ret := (some .long)) (by decide) rfl (Nat.le_of_ble_eq_true rfl) ?_
  rintro C rfl rfl rfl hC hR
  have hinX4 : ∀ w ∈ u_ws RX4 TX4 15, w ∈ wsX6_anywhere := by decide +kernel
  have hinX6 : ∀ w ∈ u_ws RX6 TX6 4, w ∈ wsX6_anywhere := by decide +kernel
  show ZW C 0 0 [wO w 6 [.ref p, .ref w_layers, .ref a, .int (zI (w_ready))], wO p 4 [.ref p_dx, .ref p_dy, .ref p_weights, .ref p_leaps, .int (zI (4)), .int (zI (0)), .int (zI (p_top)), .int (zI (p_round)), .int (zI (p_barredCount)), .int (zI (0)), .int (zI (0)), .int (zI (0)), .int (zI (0)), .ref p_barred, .ref p_passable], wI p_leaps (zK C).2.1 8 lp, wI p_dy (zK C).2.1 8 dy, wI p_passable (zK C).1 4489 pas, wJ a (zK C).2.2.1 8978 g] [(0, .ref w), (1, .int (zI (n)))] 0 []
  refine z_aload_n hC 0 dX6_anywhere_0 rfl rfl ?_
  refine z_aload_n hC 0 dX6_anywhere_1 rfl rfl ?_
  refine z_get hC (T := TX6) (N := 4) hinX6 0 2 dX6_anywhere_2 rfl rfl (by decide) (List.mem_of_getElem? (i := 1) rfl) rfl rfl ?_
  refine z_iconst hC dX6_anywhere_5 ?_
  refine z_sipush hC dX6_anywhere_6 (by decide) ?_
  refine z_callV hC [.ref a, .int (zI (0)), .int (zI (4489))] 3 0 dX6_anywhere_9 (c_X6_beginS (zl C) (zD C) (zK C) w a p w_layers a p_dx p_dy p_weights p_leaps p_barred p_passable 0 4489 w_ready 4 p_top p_round p_barredCount 0 0 0 0 pas g (by first | assumption | omega) (by first | assumption | omega) (by first | assumption | omega)) gX6_anywhere_X6_begin rfl rfl rfl ⟨by decide, by decide, by decide +kernel⟩ ⟨(Nat.le_of_ble_eq_true rfl), (Nat.le_of_ble_eq_true rfl)⟩ rfl rfl rfl rfl [0, 1, 4, 5] [2, 3] [wI p_leaps (zK C).2.1 8 lp, wI p_dy (zK C).2.1 8 dy] [] rfl rfl rfl rfl rfl (by decide) (Nat.le_of_ble_eq_true rfl) ⟨(Nat.le_of_ble_eq_true rfl), (Nat.le_of_ble_eq_true rfl)⟩ ?_
  rintro v_ w_ ⟨g2_1, rfl, rfl, hbg⟩
  show ZW C 0 0 [wI p_leaps (zK C).2.1 8 lp, wI p_dy (zK C).2.1 8 dy, wO w 6 [.ref p, .ref w_layers, .ref a, .int (zI (w_ready))], wO p 4 [.ref p_dx, .ref p_dy, .ref p_weights, .ref p_leaps, .int (zI (4)), .int (zI (0)), .int (zI (p_top)), .int (zI (p_round)), .int (zI (p_barredCount)), .int (zI (0)), .int (zI (0)), .int (zI (0)), .int (zI (0)), .ref p_barred, .ref p_passable], wI p_passable (zK C).1 4489 pas, wJ a (zK C).2.2.1 8978 g2_1] [(0, .ref w), (1, .int (zI (n)))] 12 []
  refine z_aload_n hC 0 dX6_anywhere_12 rfl rfl ?_
  refine z_get hC (T := TX6) (N := 4) hinX6 2 0 dX6_anywhere_13 rfl rfl (by decide) (List.mem_of_getElem? (i := 2) rfl) rfl rfl ?_
  refine z_callV hC [] 0 0 dX6_anywhere_16 (c_X4_tallestStep (zl C) (zD C) (zK C) p p_dx p_dy p_weights p_leaps p_barred p_passable 0 p_top p_round p_barredCount 0 0 0 0 dy (by first | assumption | omega)) gX6_anywhere_X4_tallestStep rfl rfl rfl ⟨by decide, by decide, by decide +kernel⟩ ⟨(Nat.le_of_ble_eq_true rfl), (Nat.le_of_ble_eq_true rfl)⟩ rfl rfl rfl rfl [3, 1] [0, 2, 4, 5] [wI p_leaps (zK C).2.1 8 lp, wO w 6 [.ref p, .ref w_layers, .ref a, .int (zI (w_ready))], wI p_passable (zK C).1 4489 pas, wJ a (zK C).2.2.1 8978 g2_1] [] rfl rfl rfl rfl rfl (by decide) (Nat.le_of_ble_eq_true rfl) ⟨(Nat.le_of_ble_eq_true rfl), (Nat.le_of_ble_eq_true rfl)⟩ ?_
  rintro v_ w_ ⟨r_2, rfl, rfl, rfl⟩
  show ZW C 0 0 [wI p_leaps (zK C).2.1 8 lp, wO w 6 [.ref p, .ref w_layers, .ref a, .int (zI (w_ready))], wI p_passable (zK C).1 4489 pas, wJ a (zK C).2.2.1 8978 g2_1, wO p 4 [.ref p_dx, .ref p_dy, .ref p_weights, .ref p_leaps, .int (zI (4)), .int (zI (0)), .int (zI (p_top)), .int (zI (p_round)), .int (zI (p_barredCount)), .int (zI (0)), .int (zI (0)), .int (zI (0)), .int (zI (0)), .ref p_barred, .ref p_passable], wI p_dy (zK C).2.1 8 dy] [(0, .ref w), (1, .int (zI (n)))] 19 [.int (zI (1))]
  refine z_istore_n hC [(2, .int (zI (1))), (0, .ref w), (1, .int (zI (n)))] dX6_anywhere_19 rfl (by decide) rfl ?_
  refine z_iconst hC dX6_anywhere_20 ?_
  refine z_istore_n hC [(3, .int (zI (0))), (2, .int (zI (1))), (0, .ref w), (1, .int (zI (n)))] dX6_anywhere_21 rfl (by decide) rfl ?_
  refine z_iconst hC dX6_anywhere_22 ?_
  refine z_istore hC [(4, .int (zI (1))), (3, .int (zI (0))), (2, .int (zI (1))), (0, .ref w), (1, .int (zI (n)))] dX6_anywhere_23 (by decide) rfl ?_
  refine z_lv (lv' := [(0, .ref w), (1, .int (zI (n))), (2, .int (zI (1))), (3, .int (zI (0))), (4, .int (zI (1)))]) [3, 4, 2, 1, 0] rfl ?_
  have lp25_4 : ∀ (f6 : Nat) (bs : Int) (lf : Int) (q : Int → Int), (1 ≤ lf ∧ lf ≤ n + 1) → (bs = 0 ∨ bs = 4489) → (∀ j, 0 ≤ j → j < 4489 → j / 67 - 33 ≤ n + 1 - lf → lf - n - 1 ≤ j / 67 - 33 → q (bs + j) = cntC oP slp 4 iA (lf - 1).toNat (j)) → (∀ j, 0 ≤ j → j < 8978 → 0 ≤ q j ∧ q j ≤ 4611686018427387904) → (n + 1 - lf).toNat < f6 → ZW C 0 0 [wI p_leaps (zK C).2.1 8 lp, wO w 6 [.ref p, .ref w_layers, .ref a, .int (zI (w_ready))], wI p_passable (zK C).1 4489 pas, wJ a (zK C).2.2.1 8978 q, wO p 4 [.ref p_dx, .ref p_dy, .ref p_weights, .ref p_leaps, .int (zI (4)), .int (zI (0)), .int (zI (p_top)), .int (zI (p_round)), .int (zI (p_barredCount)), .int (zI (0)), .int (zI (0)), .int (zI (0)), .int (zI (0)), .ref p_barred, .ref p_passable], wI p_dy (zK C).2.1 8 dy] [(0, .ref w), (1, .int (zI (n))), (2, .int (zI (1))), (3, .int (zI (bs))), (4, .int (zI (lf)))] 25 [] := by
    intro f6
    induction f6 with
    | zero => intro _ _ _ _ _ _ _ hf; exact absurd hf (Nat.not_lt_zero _)
    | succ f6 ih25_5 =>
      intro bs lf q vi vb vq vr hf_25
      refine z_iload hC 4 dX6_anywhere_25 rfl ?_
      refine z_iload_n hC 1 dX6_anywhere_27 rfl rfl ?_
      refine z_icgt hC 70 dX6_anywhere_28 (by decide) (by omega) (fun c_7 => ?_) (fun c_7 => ?_)
      · skip
        refine z_aload_n hC 0 dX6_anywhere_70 rfl rfl ?_
        refine z_get hC (T := TX6) (N := 4) hinX6 1 2 dX6_anywhere_71 rfl rfl (by decide) (List.mem_of_getElem? (i := 1) rfl) rfl rfl ?_
        refine z_iload_n hC 3 dX6_anywhere_74 rfl rfl ?_
        refine z_aload_n hC 0 dX6_anywhere_75 rfl rfl ?_
        refine z_get hC (T := TX6) (N := 4) hinX6 1 0 dX6_anywhere_76 rfl rfl (by decide) (List.mem_of_getElem? (i := 2) rfl) rfl rfl ?_
        refine z_callV hC [] 0 0 dX6_anywhere_79 (c_X4_cellA (zl C) (zD C) (zK C) p p_dx p_dy p_weights p_leaps p_barred p_passable 4 0 p_top p_round p_barredCount 0 0 0 0 ) gX6_anywhere_X4_cellA rfl rfl rfl ⟨by decide, by decide, by decide +kernel⟩ ⟨(Nat.le_of_ble_eq_true rfl), (Nat.le_of_ble_eq_true rfl)⟩ rfl rfl rfl rfl [4] [0, 1, 2, 3, 5] [wI p_leaps (zK C).2.1 8 lp, wO w 6 [.ref p, .ref w_layers, .ref a, .int (zI (w_ready))], wI p_passable (zK C).1 4489 pas, wJ a (zK C).2.2.1 8978 q, wI p_dy (zK C).2.1 8 dy] [.int (zI (bs)), .ref a] rfl rfl rfl rfl rfl (by decide) (Nat.le_of_ble_eq_true rfl) ⟨(Nat.le_of_ble_eq_true rfl), (Nat.le_of_ble_eq_true rfl)⟩ ?_
        rintro v_ w_ ⟨rfl, rfl, h_79_8⟩
        show ZW C 0 0 [wI p_leaps (zK C).2.1 8 lp, wO w 6 [.ref p, .ref w_layers, .ref a, .int (zI (w_ready))], wI p_passable (zK C).1 4489 pas, wJ a (zK C).2.2.1 8978 q, wI p_dy (zK C).2.1 8 dy, wO p 4 [.ref p_dx, .ref p_dy, .ref p_weights, .ref p_leaps, .int (zI (4)), .int (zI (0)), .int (zI (p_top)), .int (zI (p_round)), .int (zI (p_barredCount)), .int (zI (0)), .int (zI (0)), .int (zI (0)), .int (zI (0)), .ref p_barred, .ref p_passable]] [(0, .ref w), (1, .int (zI (n))), (2, .int (zI (1))), (3, .int (zI (bs))), (4, .int (zI (lf)))] 82 [.int (zI ((0 + 33) * 67 + 0 + 33)), .int (zI (bs)), .ref a]
        refine z_iadd hC (bs + ((0 + 33) * 67 + 0 + 33)) dX6_anywhere_82 rfl ?_
        refine z_lald hC 3 dX6_anywhere_83 rfl (by omega) ?_
        refine z_ws (ws' := []) [] rfl rfl ?_
        exact z_lret hC hR dX6_anywhere_84 (Nat.le_of_ble_eq_true rfl) (Nat.le_of_ble_eq_true rfl) ⟨q (bs + ((0 + 33) * 67 + 0 + 33)), rfl, rfl, by have e := vq 2244 (by omega) (by omega) (by omega) (by omega); rw [show lf - 1 = n by omega] at e; exact e⟩
      · skip
        refine z_aload_n hC 0 dX6_anywhere_31 rfl rfl ?_
        refine z_aload_n hC 0 dX6_anywhere_32 rfl rfl ?_
        refine z_get hC (T := TX6) (N := 4) hinX6 1 2 dX6_anywhere_33 rfl rfl (by decide) (List.mem_of_getElem? (i := 1) rfl) rfl rfl ?_
        refine z_iload_n hC 3 dX6_anywhere_36 rfl rfl ?_
        refine z_sipush hC dX6_anywhere_37 (by decide) ?_
        refine z_iload_n hC 3 dX6_anywhere_40 rfl rfl ?_
        refine z_isub hC (4489 - bs) dX6_anywhere_41 rfl ?_
        refine z_aload_n hC 0 dX6_anywhere_42 rfl rfl ?_
        refine z_get hC (T := TX6) (N := 4) hinX6 1 0 dX6_anywhere_43 rfl rfl (by decide) (List.mem_of_getElem? (i := 2) rfl) rfl rfl ?_
        refine z_get hC (T := TX4) (N := 15) hinX4 4 10 dX6_anywhere_46 rfl rfl (by decide) (List.mem_of_getElem? (i := 3) rfl) rfl rfl ?_
        refine z_iload_n hC 2 dX6_anywhere_49 rfl rfl ?_
        refine z_iload_n hC 1 dX6_anywhere_50 rfl rfl ?_
        refine z_iload hC 4 dX6_anywhere_51 rfl ?_
        refine z_isub hC (n - lf) dX6_anywhere_53 rfl ?_
        refine z_imul hC (n - lf) dX6_anywhere_54 (by omega) ?_
        refine z_callV hC [.ref a, .int (zI (bs)), .int (zI (4489 - bs)), .int (zI (0)), .int (zI (n - lf))] 5 0 dX6_anywhere_55 (c_X6_spreadS (zl C) (zD C) (zK C) w a p w_layers a p_dx p_dy p_weights p_leaps p_barred p_passable bs (4489 - bs) 0 (n - lf) w_ready p_top p_round p_barredCount 0 0 0 0 lp pas q (by first | assumption | omega) (by first | assumption | omega) (by exact vr) (by omega) (by first | assumption | omega)) gX6_anywhere_X6_spread rfl rfl rfl ⟨by decide, by decide, by decide +kernel⟩ ⟨(Nat.le_of_ble_eq_true rfl), (Nat.le_of_ble_eq_true rfl)⟩ rfl rfl rfl rfl [1, 4, 0, 2, 3] [5] [wI p_dy (zK C).2.1 8 dy] [] rfl rfl rfl rfl rfl (by decide) (Nat.le_of_ble_eq_true rfl) ⟨(Nat.le_of_ble_eq_true rfl), (Nat.le_of_ble_eq_true rfl)⟩ ?_
        rintro v_ w_ ⟨g2_9, rfl, rfl, hsp⟩
        show ZW C 0 0 [wI p_dy (zK C).2.1 8 dy, wO w 6 [.ref p, .ref w_layers, .ref a, .int (zI (w_ready))], wO p 4 [.ref p_dx, .ref p_dy, .ref p_weights, .ref p_leaps, .int (zI (4)), .int (zI (0)), .int (zI (p_top)), .int (zI (p_round)), .int (zI (p_barredCount)), .int (zI (0)), .int (zI (0)), .int (zI (0)), .int (zI (0)), .ref p_barred, .ref p_passable], wI p_leaps (zK C).2.1 8 lp, wI p_passable (zK C).1 4489 pas, wJ a (zK C).2.2.1 8978 g2_9] [(0, .ref w), (1, .int (zI (n))), (2, .int (zI (1))), (3, .int (zI (bs))), (4, .int (zI (lf)))] 58 []
        refine z_sipush hC dX6_anywhere_58 (by decide) ?_
        refine z_iload_n hC 3 dX6_anywhere_61 rfl rfl ?_
        refine z_isub hC (4489 - bs) dX6_anywhere_62 rfl ?_
        refine z_istore_n hC [(3, .int (zI (4489 - bs))), (0, .ref w), (1, .int (zI (n))), (2, .int (zI (1))), (4, .int (zI (lf)))] dX6_anywhere_63 rfl (by decide) rfl ?_
        refine z_iinc (a := lf) (v := 1) (r := lf + 1) hC 4 [(4, .int (zI (lf + 1))), (3, .int (zI (4489 - bs))), (0, .ref w), (1, .int (zI (n))), (2, .int (zI (1)))] dX6_anywhere_64 rfl rfl (by decide) rfl ?_
        refine z_goto hC 25 dX6_anywhere_67 (by decide) ?_
        refine z_lv (lv' := [(0, .ref w), (1, .int (zI (n))), (2, .int (zI (1))), (3, .int (zI (4489 - bs))), (4, .int (zI (lf + 1)))]) [2, 3, 4, 1, 0] rfl ?_
        refine z_ws (ws' := [wI p_leaps (zK C).2.1 8 lp, wO w 6 [.ref p, .ref w_layers, .ref a, .int (zI (w_ready))], wI p_passable (zK C).1 4489 pas, wJ a (zK C).2.2.1 8978 g2_9, wO p 4 [.ref p_dx, .ref p_dy, .ref p_weights, .ref p_leaps, .int (zI (4)), .int (zI (0)), .int (zI (p_top)), .int (zI (p_round)), .int (zI (p_barredCount)), .int (zI (0)), .int (zI (0)), .int (zI (0)), .int (zI (0)), .ref p_barred, .ref p_passable], wI p_dy (zK C).2.1 8 dy]) [3, 1, 4, 5, 2, 0] rfl rfl ?_
        exact ih25_5 (4489 - bs) (lf + 1) g2_9 (by omega) (by omega) (by intro j h0 h1 r0 r1; rw [hsp.1 j h0 h1]; rw [show lf + 1 - 1 = lf by omega]; exact cA_step (n := n) (by omega) h0 h1 (by omega) (by omega) (fun j2 a b c d => vq j2 a b c d)) (by exact hsp.2.2) (by omega)
  exact lp25_4 _ 0 1 g2_1 (by omega) (by omega) (by intro j h0 h1 _ _; rw [show (0 : Int) + j = j by omega, hbg.1 j h0 h1]; exact cA_0 j h0 h1) (by intro j h0 h1; by_cases e : j < 4489; (rw [hbg.1 j h0 e]; split <;> omega); (rw [hbg.2 j (by omega)]; exact hg j h0 h1)) (Nat.lt_succ_self _)

set_option maxHeartbeats 4000000 in
set_option maxRecDepth 100000 in
theorem c_X8_waysKept (l : Launch) (D : va_G) (K : ClassId × ClassId × ClassId × ClassId) (x x_sheets p x_kin x_heights x_levels x_words x_shown x_powers p_dx p_dy p_weights p_leaps p_barred p_passable : Nat) (x_shownCount x_status p_top p_round p_barredCount : Int) (x_weigher : Value) : zMet l D K yX8_waysKept wsX8_waysKept ({ frames := 2, cells := 3, slots := 282811, locals := 33 }) 3 282811 [.ref x] [wO x 8 [.ref x_sheets, .ref p, .ref x_kin, .ref x_heights, .ref x_levels, .ref x_words, .ref x_shown, .ref x_powers, .int (zI (x_shownCount)), .int (zI (x_status)), .null, x_weigher], wO p 4 [.ref p_dx, .ref p_dy, .ref p_weights, .ref p_leaps, .int (zI (4)), .int (zI (0)), .int (zI (p_top)), .int (zI (p_round)), .int (zI (p_barredCount)), .int (zI (0)), .int (zI (0)), .int (zI (0)), .int (zI (0)), .ref p_barred, .ref p_passable]] (fun vr_ wr_ => ∃ (w : Nat) (wl : Nat) (wsp : Nat), vr_ = some (.ref w) ∧ wr_ = [wO x 8 [.ref x_sheets, .ref p, .ref x_kin, .ref x_heights, .ref x_levels, .ref x_words, .ref x_shown, .ref x_powers, .int (zI (x_shownCount)), .int (zI (x_status)), .ref w, x_weigher], wO p 4 [.ref p_dx, .ref p_dy, .ref p_weights, .ref p_leaps, .int (zI (4)), .int (zI (0)), .int (zI (p_top)), .int (zI (p_round)), .int (zI (p_barredCount)), .int (zI (0)), .int (zI (0)), .int (zI (0)), .int (zI (0)), .ref p_barred, .ref p_passable], wO w 6 [.ref p, .ref wl, .ref wsp, .int (zI (0))], wJ wl K.2.2.1 273829 (fun _ => 0), wJ wsp K.2.2.1 8978 (fun _ => 0)] ∧ (True)) := by
  refine zMet_of (cc := cX8_waysKept) (nL := 1) (ret := (some (.object "WalkBench$Ways"))) (by decide) rfl (Nat.le_of_ble_eq_true rfl) ?_
  rintro C rfl rfl rfl hC hR
  have hinX6 : ∀ w ∈ u_ws RX6 TX6 4, w ∈ wsX8_waysKept := by decide +kernel
  have hinX8 : ∀ w ∈ u_ws RX8 TX8 12, w ∈ wsX8_waysKept := by decide +kernel
  show ZW C 0 0 [wO x 8 [.ref x_sheets, .ref p, .ref x_kin, .ref x_heights, .ref x_levels, .ref x_words, .ref x_shown, .ref x_powers, .int (zI (x_shownCount)), .int (zI (x_status)), .null, x_weigher], wO p 4 [.ref p_dx, .ref p_dy, .ref p_weights, .ref p_leaps, .int (zI (4)), .int (zI (0)), .int (zI (p_top)), .int (zI (p_round)), .int (zI (p_barredCount)), .int (zI (0)), .int (zI (0)), .int (zI (0)), .int (zI (0)), .ref p_barred, .ref p_passable]] [(0, .ref x)] 0 []
  refine z_aload_n hC 0 dX8_waysKept_0 rfl rfl ?_
  refine z_get hC (T := TX8) (N := 12) hinX8 0 10 dX8_waysKept_1 rfl rfl (by decide) (List.mem_of_getElem? (i := 1) rfl) rfl rfl ?_
  refine z_ifnonnullN hC dX8_waysKept_4 ?_
  refine z_aload_n hC 0 dX8_waysKept_7 rfl rfl ?_
  refine z_new (ci := 6) hC (T := TX6) (N := 4) hinX6 tyX6_ok [.null, .null, .null, .int (zI (0))] dX8_waysKept_8 (List.mem_of_getElem? (i := 2) rfl) (List.mem_of_getElem? (i := 3) rfl) (List.mem_of_getElem? (i := 4) rfl) rfl z_dfX6 (Nat.le_of_ble_eq_true rfl) (Nat.le_of_ble_eq_true rfl) (fun q_1 => ?_)
  show ZW C 1 4 [wO x 8 [.ref x_sheets, .ref p, .ref x_kin, .ref x_heights, .ref x_levels, .ref x_words, .ref x_shown, .ref x_powers, .int (zI (x_shownCount)), .int (zI (x_status)), .null, x_weigher], wO p 4 [.ref p_dx, .ref p_dy, .ref p_weights, .ref p_leaps, .int (zI (4)), .int (zI (0)), .int (zI (p_top)), .int (zI (p_round)), .int (zI (p_barredCount)), .int (zI (0)), .int (zI (0)), .int (zI (0)), .int (zI (0)), .ref p_barred, .ref p_passable], wO q_1 6 [.null, .null, .null, .int (zI (0))]] [(0, .ref x)] 11 [.ref q_1, .ref x]
  refine z_dup hC dX8_waysKept_11 rfl ?_
  refine z_aload_n hC 0 dX8_waysKept_12 rfl rfl ?_
  refine z_get hC (T := TX8) (N := 12) hinX8 0 1 dX8_waysKept_13 rfl rfl (by decide) (List.mem_of_getElem? (i := 5) rfl) rfl rfl ?_
  refine z_callI hC [.ref p] 1 dX8_waysKept_16 (c_X6_init (zl C) (zD C) (zK C) q_1 p ) gX8_waysKept_X6_init rfl rfl rfl ⟨by decide, by decide, by decide +kernel⟩ ⟨(Nat.le_of_ble_eq_true rfl), (Nat.le_of_ble_eq_true rfl)⟩ rfl rfl (List.mem_of_getElem? (i := 4) rfl) (List.mem_of_getElem? (i := 6) rfl) (List.mem_of_getElem? (i := 7) rfl) [2] [0, 1] [wO x 8 [.ref x_sheets, .ref p, .ref x_kin, .ref x_heights, .ref x_levels, .ref x_words, .ref x_shown, .ref x_powers, .int (zI (x_shownCount)), .int (zI (x_status)), .null, x_weigher], wO p 4 [.ref p_dx, .ref p_dy, .ref p_weights, .ref p_leaps, .int (zI (4)), .int (zI (0)), .int (zI (p_top)), .int (zI (p_round)), .int (zI (p_barredCount)), .int (zI (0)), .int (zI (0)), .int (zI (0)), .int (zI (0)), .ref p_barred, .ref p_passable]] [.ref q_1, .ref x] rfl rfl rfl rfl rfl (by decide) (Nat.le_of_ble_eq_true rfl) ⟨(Nat.le_of_ble_eq_true rfl), (Nat.le_of_ble_eq_true rfl)⟩ ?_
  rintro v_ w_ ⟨wl_2, wsp_3, rfl, rfl, h_16_4⟩
  show ZW C 3 282811 [wO x 8 [.ref x_sheets, .ref p, .ref x_kin, .ref x_heights, .ref x_levels, .ref x_words, .ref x_shown, .ref x_powers, .int (zI (x_shownCount)), .int (zI (x_status)), .null, x_weigher], wO p 4 [.ref p_dx, .ref p_dy, .ref p_weights, .ref p_leaps, .int (zI (4)), .int (zI (0)), .int (zI (p_top)), .int (zI (p_round)), .int (zI (p_barredCount)), .int (zI (0)), .int (zI (0)), .int (zI (0)), .int (zI (0)), .ref p_barred, .ref p_passable], wO q_1 6 [.ref p, .ref wl_2, .ref wsp_3, .int (zI (0))], wJ wl_2 (zK C).2.2.1 273829 (fun _ => 0), wJ wsp_3 (zK C).2.2.1 8978 (fun _ => 0)] [(0, .ref x)] 19 [.ref q_1, .ref x]
  refine z_put hC (T := TX8) (N := 12) hinX8 tyX8_ok nmX8 0 10 [wO x 8 [.ref x_sheets, .ref p, .ref x_kin, .ref x_heights, .ref x_levels, .ref x_words, .ref x_shown, .ref x_powers, .int (zI (x_shownCount)), .int (zI (x_status)), .ref q_1, x_weigher], wO p 4 [.ref p_dx, .ref p_dy, .ref p_weights, .ref p_leaps, .int (zI (4)), .int (zI (0)), .int (zI (p_top)), .int (zI (p_round)), .int (zI (p_barredCount)), .int (zI (0)), .int (zI (0)), .int (zI (0)), .int (zI (0)), .ref p_barred, .ref p_passable], wO q_1 6 [.ref p, .ref wl_2, .ref wsp_3, .int (zI (0))], wJ wl_2 (zK C).2.2.1 273829 (fun _ => 0), wJ wsp_3 (zK C).2.2.1 8978 (fun _ => 0)] dX8_waysKept_19 rfl rfl (by decide) (List.mem_of_getElem? (i := 1) rfl) rfl rfl rfl rfl (Nat.le_of_ble_eq_true rfl) rfl ?_
  refine z_aload_n hC 0 dX8_waysKept_22 rfl rfl ?_
  refine z_get hC (T := TX8) (N := 12) hinX8 0 10 dX8_waysKept_23 rfl rfl (by decide) (List.mem_of_getElem? (i := 1) rfl) rfl rfl ?_
  exact z_aret hC hR ⟨_, rfl⟩ dX8_waysKept_26 (Nat.le_of_ble_eq_true rfl) (Nat.le_of_ble_eq_true rfl) ⟨q_1, wl_2, wsp_3, rfl, rfl, by trivial⟩

set_option maxHeartbeats 4000000 in
set_option maxRecDepth 100000 in
theorem c_X8_waysKepts (l : Launch) (D : va_G) (K : ClassId × ClassId × ClassId × ClassId) (x x_sheets x_plane x_kin x_heights x_levels x_words x_shown x_powers w : Nat) (x_shownCount x_status : Int) (x_weigher : Value) : zMet l D K yX8_waysKept wsX8_waysKept ({ frames := 0, cells := 0, slots := 0, locals := 0 }) 0 0 [.ref x] [wO x 8 [.ref x_sheets, .ref x_plane, .ref x_kin, .ref x_heights, .ref x_levels, .ref x_words, .ref x_shown, .ref x_powers, .int (zI (x_shownCount)), .int (zI (x_status)), .ref w, x_weigher]] (fun vr_ wr_ => vr_ = some (.ref w) ∧ wr_ = [wO x 8 [.ref x_sheets, .ref x_plane, .ref x_kin, .ref x_heights, .ref x_levels, .ref x_words, .ref x_shown, .ref x_powers, .int (zI (x_shownCount)), .int (zI (x_status)), .ref w, x_weigher]] ∧ (True)) := by
  refine zMet_of (cc := cX8_waysKept) (nL := 1) (ret := (some (.object "WalkBench$Ways"))) (by decide) rfl (Nat.le_of_ble_eq_true rfl) ?_
  rintro C rfl rfl rfl hC hR
  have hinX8 : ∀ w ∈ u_ws RX8 TX8 12, w ∈ wsX8_waysKept := by decide +kernel
  show ZW C 0 0 [wO x 8 [.ref x_sheets, .ref x_plane, .ref x_kin, .ref x_heights, .ref x_levels, .ref x_words, .ref x_shown, .ref x_powers, .int (zI (x_shownCount)), .int (zI (x_status)), .ref w, x_weigher]] [(0, .ref x)] 0 []
  refine z_aload_n hC 0 dX8_waysKept_0 rfl rfl ?_
  refine z_get hC (T := TX8) (N := 12) hinX8 0 10 dX8_waysKept_1 rfl rfl (by decide) (List.mem_of_getElem? (i := 1) rfl) rfl rfl ?_
  refine z_ifnonnull hC 22 dX8_waysKept_4 (by decide) ?_
  refine z_aload_n hC 0 dX8_waysKept_22 rfl rfl ?_
  refine z_get hC (T := TX8) (N := 12) hinX8 0 10 dX8_waysKept_23 rfl rfl (by decide) (List.mem_of_getElem? (i := 1) rfl) rfl rfl ?_
  exact z_aret hC hR ⟨_, rfl⟩ dX8_waysKept_26 (Nat.le_of_ble_eq_true rfl) (Nat.le_of_ble_eq_true rfl) ⟨(by first | rfl | (congr 3; omega)), rfl, by trivial⟩

set_option maxHeartbeats 4000000 in
set_option maxRecDepth 100000 in
theorem c_X8_waysFor (l : Launch) (D : va_G) (K : ClassId × ClassId × ClassId × ClassId) (x x_sheets p x_kin x_heights x_levels x_words x_shown x_powers p_dx p_dy p_weights p_leaps p_barred p_passable : Nat) (n x_shownCount x_status p_top p_round p_barredCount : Int) (lp dy pas : Int → Int) (x_weigher : Value) (hn : 0 ≤ n ∧ n ≤ 60) (hp : ∀ j, 0 ≤ j → j < 4489 → pas j = oP j) (hlp : ∀ k, 0 ≤ k → k < 8 → lp k = slp k) (hdyc : ∀ k, 0 ≤ k → k < 8 → dy k = sdy k) : zMet l D K yX8_waysFor wsX8_waysFor ({ frames := 4, cells := 3, slots := 282811, locals := 91 }) 3 282811 [.ref x, .int (zI (n))] [wO x 8 [.ref x_sheets, .ref p, .ref x_kin, .ref x_heights, .ref x_levels, .ref x_words, .ref x_shown, .ref x_powers, .int (zI (x_shownCount)), .int (zI (x_status)), .null, x_weigher], wO p 4 [.ref p_dx, .ref p_dy, .ref p_weights, .ref p_leaps, .int (zI (4)), .int (zI (0)), .int (zI (p_top)), .int (zI (p_round)), .int (zI (p_barredCount)), .int (zI (0)), .int (zI (0)), .int (zI (0)), .int (zI (0)), .ref p_barred, .ref p_passable], wI p_leaps K.2.1 8 lp, wI p_dy K.2.1 8 dy, wI p_passable K.1 4489 pas] (fun vr_ wr_ => ∃ (w : Nat) (wl : Nat) (wsp : Nat) (rd : Int) (g2 : Int → Int), vr_ = some (.ref w) ∧ wr_ = [wO x 8 [.ref x_sheets, .ref p, .ref x_kin, .ref x_heights, .ref x_levels, .ref x_words, .ref x_shown, .ref x_powers, .int (zI (x_shownCount)), .int (zI (x_status)), .ref w, x_weigher], wO p 4 [.ref p_dx, .ref p_dy, .ref p_weights, .ref p_leaps, .int (zI (4)), .int (zI (0)), .int (zI (p_top)), .int (zI (p_round)), .int (zI (p_barredCount)), .int (zI (0)), .int (zI (0)), .int (zI (0)), .int (zI (0)), .ref p_barred, .ref p_passable], wI p_leaps K.2.1 8 lp, wI p_dy K.2.1 8 dy, wI p_passable K.1 4489 pas, wO w 6 [.ref p, .ref wl, .ref wsp, .int (zI (rd))], wJ wl K.2.2.1 273829 g2, wJ wsp K.2.2.1 8978 (fun _ => 0)] ∧ (rd = n + 1 ∧ (∀ r j, 0 ≤ r → r ≤ n → 0 ≤ j → j < 4489 → g2 (r * 4489 + j) = cntC oP slp 4 iB (r).toNat (j)))) := by
  refine zMet_of (cc := cX8_waysFor) (nL := 3) (ret := (some (.object "WalkBench$Ways"))) (by decide) rfl (Nat.le_of_ble_eq_true rfl) ?_
  rintro C rfl rfl rfl hC hR
  show ZW C 0 0 [wO x 8 [.ref x_sheets, .ref p, .ref x_kin, .ref x_heights, .ref x_levels, .ref x_words, .ref x_shown, .ref x_powers, .int (zI (x_shownCount)), .int (zI (x_status)), .null, x_weigher], wO p 4 [.ref p_dx, .ref p_dy, .ref p_weights, .ref p_leaps, .int (zI (4)), .int (zI (0)), .int (zI (p_top)), .int (zI (p_round)), .int (zI (p_barredCount)), .int (zI (0)), .int (zI (0)), .int (zI (0)), .int (zI (0)), .ref p_barred, .ref p_passable], wI p_leaps (zK C).2.1 8 lp, wI p_dy (zK C).2.1 8 dy, wI p_passable (zK C).1 4489 pas] [(0, .ref x), (1, .int (zI (n)))] 0 []
  refine z_aload_n hC 0 dX8_waysFor_0 rfl rfl ?_
  refine z_callV hC [] 0 0 dX8_waysFor_1 (c_X8_waysKept (zl C) (zD C) (zK C) x x_sheets p x_kin x_heights x_levels x_words x_shown x_powers p_dx p_dy p_weights p_leaps p_barred p_passable x_shownCount x_status p_top p_round p_barredCount x_weigher ) gX8_waysFor_X8_waysKept rfl rfl rfl ⟨by decide, by decide, by decide +kernel⟩ ⟨(Nat.le_of_ble_eq_true rfl), (Nat.le_of_ble_eq_true rfl)⟩ rfl rfl rfl rfl [0, 1] [2, 3, 4] [wI p_leaps (zK C).2.1 8 lp, wI p_dy (zK C).2.1 8 dy, wI p_passable (zK C).1 4489 pas] [] rfl rfl rfl rfl rfl (by decide) (Nat.le_of_ble_eq_true rfl) ⟨(Nat.le_of_ble_eq_true rfl), (Nat.le_of_ble_eq_true rfl)⟩ ?_
  rintro v_ w_ ⟨w_1, wl_2, wsp_3, rfl, rfl, h_1_4⟩
  show ZW C 3 282811 [wI p_leaps (zK C).2.1 8 lp, wI p_dy (zK C).2.1 8 dy, wI p_passable (zK C).1 4489 pas, wO x 8 [.ref x_sheets, .ref p, .ref x_kin, .ref x_heights, .ref x_levels, .ref x_words, .ref x_shown, .ref x_powers, .int (zI (x_shownCount)), .int (zI (x_status)), .ref w_1, x_weigher], wO p 4 [.ref p_dx, .ref p_dy, .ref p_weights, .ref p_leaps, .int (zI (4)), .int (zI (0)), .int (zI (p_top)), .int (zI (p_round)), .int (zI (p_barredCount)), .int (zI (0)), .int (zI (0)), .int (zI (0)), .int (zI (0)), .ref p_barred, .ref p_passable], wO w_1 6 [.ref p, .ref wl_2, .ref wsp_3, .int (zI (0))], wJ wl_2 (zK C).2.2.1 273829 (fun _ => 0), wJ wsp_3 (zK C).2.2.1 8978 (fun _ => 0)] [(0, .ref x), (1, .int (zI (n)))] 4 [.ref w_1]
  refine z_astore_n hC [(2, .ref w_1), (0, .ref x), (1, .int (zI (n)))] dX8_waysFor_4 rfl (by decide) rfl ?_
  refine z_aload_n hC 0 dX8_waysFor_5 rfl rfl ?_
  refine z_iload_n hC 2 dX8_waysFor_6 rfl rfl ?_
  refine z_callV hC [.int (zI (n))] 1 0 dX8_waysFor_7 (c_X6_prepare (zl C) (zD C) (zK C) w_1 p wl_2 wsp_3 p_dx p_dy p_weights p_leaps p_barred p_passable n p_top p_round p_barredCount lp dy pas (fun _ => 0) (by first | assumption | omega) (by first | assumption | omega) (by first | assumption | omega) (by first | assumption | omega) (by intro j _ _; exact ⟨by decide, by decide⟩)) gX8_waysFor_X6_prepare rfl rfl rfl ⟨by decide, by decide, by decide +kernel⟩ ⟨(Nat.le_of_ble_eq_true rfl), (Nat.le_of_ble_eq_true rfl)⟩ rfl rfl rfl rfl [5, 4, 0, 1, 2, 6] [3, 7] [wO x 8 [.ref x_sheets, .ref p, .ref x_kin, .ref x_heights, .ref x_levels, .ref x_words, .ref x_shown, .ref x_powers, .int (zI (x_shownCount)), .int (zI (x_status)), .ref w_1, x_weigher], wJ wsp_3 (zK C).2.2.1 8978 (fun _ => 0)] [] rfl rfl rfl rfl rfl (by decide) (Nat.le_of_ble_eq_true rfl) ⟨(Nat.le_of_ble_eq_true rfl), (Nat.le_of_ble_eq_true rfl)⟩ ?_
  rintro v_ w_ ⟨rd_5, g2_6, rfl, rfl, hpr⟩
  show ZW C 3 282811 [wO x 8 [.ref x_sheets, .ref p, .ref x_kin, .ref x_heights, .ref x_levels, .ref x_words, .ref x_shown, .ref x_powers, .int (zI (x_shownCount)), .int (zI (x_status)), .ref w_1, x_weigher], wJ wsp_3 (zK C).2.2.1 8978 (fun _ => 0), wO w_1 6 [.ref p, .ref wl_2, .ref wsp_3, .int (zI (rd_5))], wO p 4 [.ref p_dx, .ref p_dy, .ref p_weights, .ref p_leaps, .int (zI (4)), .int (zI (0)), .int (zI (p_top)), .int (zI (p_round)), .int (zI (p_barredCount)), .int (zI (0)), .int (zI (0)), .int (zI (0)), .int (zI (0)), .ref p_barred, .ref p_passable], wI p_leaps (zK C).2.1 8 lp, wI p_dy (zK C).2.1 8 dy, wI p_passable (zK C).1 4489 pas, wJ wl_2 (zK C).2.2.1 273829 g2_6] [(2, .ref w_1), (0, .ref x), (1, .int (zI (n)))] 10 []
  refine z_aload_n hC 0 dX8_waysFor_10 rfl rfl ?_
  refine z_ws (ws' := [wO x 8 [.ref x_sheets, .ref p, .ref x_kin, .ref x_heights, .ref x_levels, .ref x_words, .ref x_shown, .ref x_powers, .int (zI (x_shownCount)), .int (zI (x_status)), .ref w_1, x_weigher], wO p 4 [.ref p_dx, .ref p_dy, .ref p_weights, .ref p_leaps, .int (zI (4)), .int (zI (0)), .int (zI (p_top)), .int (zI (p_round)), .int (zI (p_barredCount)), .int (zI (0)), .int (zI (0)), .int (zI (0)), .int (zI (0)), .ref p_barred, .ref p_passable], wI p_leaps (zK C).2.1 8 lp, wI p_dy (zK C).2.1 8 dy, wI p_passable (zK C).1 4489 pas, wO w_1 6 [.ref p, .ref wl_2, .ref wsp_3, .int (zI (rd_5))], wJ wl_2 (zK C).2.2.1 273829 g2_6, wJ wsp_3 (zK C).2.2.1 8978 (fun _ => 0)]) [0, 3, 4, 5, 6, 2, 7, 1] rfl rfl ?_
  exact z_aret hC hR ⟨_, rfl⟩ dX8_waysFor_11 (Nat.le_of_ble_eq_true rfl) (Nat.le_of_ble_eq_true rfl) ⟨w_1, wl_2, wsp_3, rd_5, g2_6, rfl, rfl, by exact hpr⟩

set_option maxHeartbeats 4000000 in
set_option maxRecDepth 100000 in
theorem c_X4_endsOpen_0 (l : Launch) (D : va_G) (K : ClassId × ClassId × ClassId × ClassId) (p p_dx p_dy p_weights p_leaps p_barred p_passable : Nat) (p_top p_round p_barredCount : Int) (pas : Int → Int) (hp : ∀ j, 0 ≤ j → j < 4489 → pas j = oP j) : zMet l D K yX4_endsOpen wsX4_endsOpen ({ frames := 2, cells := 0, slots := 0, locals := 43 }) 0 0 [.ref p] [wO p 4 [.ref p_dx, .ref p_dy, .ref p_weights, .ref p_leaps, .int (zI (4)), .int (zI (0)), .int (zI (p_top)), .int (zI (p_round)), .int (zI (p_barredCount)), .int (zI (0)), .int (zI (0)), .int (zI (0)), .int (zI (0)), .ref p_barred, .ref p_passable], wI p_passable K.1 4489 pas] (fun vr_ wr_ => ∃ (r : Int), vr_ = some (.int (zI (r))) ∧ wr_ = [wO p 4 [.ref p_dx, .ref p_dy, .ref p_weights, .ref p_leaps, .int (zI (4)), .int (zI (0)), .int (zI (p_top)), .int (zI (p_round)), .int (zI (p_barredCount)), .int (zI (0)), .int (zI (0)), .int (zI (0)), .int (zI (0)), .ref p_barred, .ref p_passable], wI p_passable K.1 4489 pas] ∧ (r = 1)) := by
  refine zMet_of (cc := cX4_endsOpen) (nL := 1) (ret := (some .boolean)) (by decide) rfl (Nat.le_of_ble_eq_true rfl) ?_
  rintro C rfl rfl rfl hC hR
  have hinX4 : ∀ w ∈ u_ws RX4 TX4 15, w ∈ wsX4_endsOpen := by decide +kernel
  have hA : pas ((0 + 33) * 67 + 0 + 33) = 1 := by rw [hp _ (by decide) (by decide)]; exact oP_A
  show ZW C 0 0 [wO p 4 [.ref p_dx, .ref p_dy, .ref p_weights, .ref p_leaps, .int (zI (4)), .int (zI (0)), .int (zI (p_top)), .int (zI (p_round)), .int (zI (p_barredCount)), .int (zI (0)), .int (zI (0)), .int (zI (0)), .int (zI (0)), .ref p_barred, .ref p_passable], wI p_passable (zK C).1 4489 pas] [(0, .ref p)] 0 []
  refine z_aload_n hC 0 dX4_endsOpen_0 rfl rfl ?_
  refine z_aload_n hC 0 dX4_endsOpen_1 rfl rfl ?_
  refine z_get hC (T := TX4) (N := 15) hinX4 0 9 dX4_endsOpen_2 rfl rfl (by decide) (List.mem_of_getElem? (i := 1) rfl) rfl rfl ?_
  refine z_aload_n hC 0 dX4_endsOpen_5 rfl rfl ?_
  refine z_get hC (T := TX4) (N := 15) hinX4 0 10 dX4_endsOpen_6 rfl rfl (by decide) (List.mem_of_getElem? (i := 2) rfl) rfl rfl ?_
  refine z_callV hC [.int (zI (0)), .int (zI (0))] 2 0 dX4_endsOpen_9 (c_X4_isOpen (zl C) (zD C) (zK C) p p_dx p_dy p_weights p_leaps p_barred p_passable 0 0 4 0 p_top p_round p_barredCount 0 0 0 0 pas (by first | assumption | omega) (by first | assumption | omega) (by intro j h0 h1; rw [hp j h0 h1]; exact oP_01 j)) gX4_endsOpen_X4_isOpen rfl rfl rfl ⟨by decide, by decide, by decide +kernel⟩ ⟨(Nat.le_of_ble_eq_true rfl), (Nat.le_of_ble_eq_true rfl)⟩ rfl rfl rfl rfl [0, 1] [] [] [] rfl rfl rfl rfl rfl (by decide) (Nat.le_of_ble_eq_true rfl) ⟨(Nat.le_of_ble_eq_true rfl), (Nat.le_of_ble_eq_true rfl)⟩ ?_
  rintro v_ w_ ⟨r_1, rfl, rfl, h_9_2⟩
  show ZW C 0 0 [wO p 4 [.ref p_dx, .ref p_dy, .ref p_weights, .ref p_leaps, .int (zI (4)), .int (zI (0)), .int (zI (p_top)), .int (zI (p_round)), .int (zI (p_barredCount)), .int (zI (0)), .int (zI (0)), .int (zI (0)), .int (zI (0)), .ref p_barred, .ref p_passable], wI p_passable (zK C).1 4489 pas] [(0, .ref p)] 12 [.int (zI (r_1))]
  refine z_ifeq hC 34 dX4_endsOpen_12 (by decide) (by omega) (fun c_3 => by exfalso; omega) (fun c_3 => ?_)
  refine z_aload_n hC 0 dX4_endsOpen_15 rfl rfl ?_
  refine z_aload_n hC 0 dX4_endsOpen_16 rfl rfl ?_
  refine z_get hC (T := TX4) (N := 15) hinX4 0 11 dX4_endsOpen_17 rfl rfl (by decide) (List.mem_of_getElem? (i := 3) rfl) rfl rfl ?_
  refine z_aload_n hC 0 dX4_endsOpen_20 rfl rfl ?_
  refine z_get hC (T := TX4) (N := 15) hinX4 0 12 dX4_endsOpen_21 rfl rfl (by decide) (List.mem_of_getElem? (i := 4) rfl) rfl rfl ?_
  refine z_callV hC [.int (zI (0)), .int (zI (0))] 2 0 dX4_endsOpen_24 (c_X4_isOpen (zl C) (zD C) (zK C) p p_dx p_dy p_weights p_leaps p_barred p_passable 0 0 4 0 p_top p_round p_barredCount 0 0 0 0 pas (by first | assumption | omega) (by first | assumption | omega) (by intro j h0 h1; rw [hp j h0 h1]; exact oP_01 j)) gX4_endsOpen_X4_isOpen rfl rfl rfl ⟨by decide, by decide, by decide +kernel⟩ ⟨(Nat.le_of_ble_eq_true rfl), (Nat.le_of_ble_eq_true rfl)⟩ rfl rfl rfl rfl [0, 1] [] [] [] rfl rfl rfl rfl rfl (by decide) (Nat.le_of_ble_eq_true rfl) ⟨(Nat.le_of_ble_eq_true rfl), (Nat.le_of_ble_eq_true rfl)⟩ ?_
  rintro v_ w_ ⟨r_4, rfl, rfl, h_24_5⟩
  show ZW C 0 0 [wO p 4 [.ref p_dx, .ref p_dy, .ref p_weights, .ref p_leaps, .int (zI (4)), .int (zI (0)), .int (zI (p_top)), .int (zI (p_round)), .int (zI (p_barredCount)), .int (zI (0)), .int (zI (0)), .int (zI (0)), .int (zI (0)), .ref p_barred, .ref p_passable], wI p_passable (zK C).1 4489 pas] [(0, .ref p)] 27 [.int (zI (r_4))]
  refine z_ifeq hC 34 dX4_endsOpen_27 (by decide) (by omega) (fun c_6 => by exfalso; omega) (fun c_6 => ?_)
  refine z_iconst hC dX4_endsOpen_30 ?_
  refine z_goto hC 35 dX4_endsOpen_31 (by decide) ?_
  exact z_zret hC hR dX4_endsOpen_35 (by omega) (Nat.le_of_ble_eq_true rfl) (Nat.le_of_ble_eq_true rfl) ⟨1, rfl, rfl, by omega⟩

set_option maxHeartbeats 4000000 in
set_option maxRecDepth 100000 in
theorem c_X8_walkFault (l : Launch) (D : va_G) (K : ClassId × ClassId × ClassId × ClassId) (x x_sheets p x_kin x_heights x_levels x_words x_shown x_powers p_dx p_dy p_weights p_leaps p_barred p_passable : Nat) (n most x_shownCount x_status p_top p_round p_barredCount : Int) (pas : Int → Int) (x_ways x_weigher : Value) (hn : zR n) (hmost : zR most) (hp : ∀ j, 0 ≤ j → j < 4489 → pas j = oP j) : zMet l D K yX8_walkFault wsX8_walkFault ({ frames := 3, cells := 0, slots := 0, locals := 63 }) 0 0 [.ref x, .int (zI (n)), .int (zI (most))] [wO x 8 [.ref x_sheets, .ref p, .ref x_kin, .ref x_heights, .ref x_levels, .ref x_words, .ref x_shown, .ref x_powers, .int (zI (x_shownCount)), .int (zI (x_status)), x_ways, x_weigher], wO p 4 [.ref p_dx, .ref p_dy, .ref p_weights, .ref p_leaps, .int (zI (4)), .int (zI (0)), .int (zI (p_top)), .int (zI (p_round)), .int (zI (p_barredCount)), .int (zI (0)), .int (zI (0)), .int (zI (0)), .int (zI (0)), .ref p_barred, .ref p_passable], wI p_passable K.1 4489 pas] (fun vr_ wr_ => ∃ (r : Int), vr_ = some (.int (zI (r))) ∧ wr_ = [wO x 8 [.ref x_sheets, .ref p, .ref x_kin, .ref x_heights, .ref x_levels, .ref x_words, .ref x_shown, .ref x_powers, .int (zI (x_shownCount)), .int (zI (x_status)), x_ways, x_weigher], wO p 4 [.ref p_dx, .ref p_dy, .ref p_weights, .ref p_leaps, .int (zI (4)), .int (zI (0)), .int (zI (p_top)), .int (zI (p_round)), .int (zI (p_barredCount)), .int (zI (0)), .int (zI (0)), .int (zI (0)), .int (zI (0)), .ref p_barred, .ref p_passable], wI p_passable K.1 4489 pas] ∧ ((0 ≤ n ∧ n ≤ most ∧ r = 0) ∨ (¬ (0 ≤ n ∧ n ≤ most) ∧ r = 2))) := by
  refine zMet_of (cc := cX8_walkFault) (nL := 3) (ret := (some .int)) (by decide) rfl (Nat.le_of_ble_eq_true rfl) ?_
  rintro C rfl rfl rfl hC hR
  have hinX8 : ∀ w ∈ u_ws RX8 TX8 12, w ∈ wsX8_walkFault := by decide +kernel
  show ZW C 0 0 [wO x 8 [.ref x_sheets, .ref p, .ref x_kin, .ref x_heights, .ref x_levels, .ref x_words, .ref x_shown, .ref x_powers, .int (zI (x_shownCount)), .int (zI (x_status)), x_ways, x_weigher], wO p 4 [.ref p_dx, .ref p_dy, .ref p_weights, .ref p_leaps, .int (zI (4)), .int (zI (0)), .int (zI (p_top)), .int (zI (p_round)), .int (zI (p_barredCount)), .int (zI (0)), .int (zI (0)), .int (zI (0)), .int (zI (0)), .ref p_barred, .ref p_passable], wI p_passable (zK C).1 4489 pas] [(0, .ref x), (1, .int (zI (n))), (2, .int (zI (most)))] 0 []
  refine z_iload_n hC 1 dX8_walkFault_0 rfl rfl ?_
  refine z_iconst hC dX8_walkFault_1 ?_
  refine z_iload_n hC 2 dX8_walkFault_2 rfl rfl ?_
  refine z_callS hC [.int (zI (n)), .int (zI (0)), .int (zI (most))] 3 dX8_walkFault_3 (c_X8_within (zl C) (zD C) (zK C) n 0 most (by first | assumption | omega) (by first | assumption | omega) (by first | assumption | omega)) gX8_walkFault_X8_within rfl rfl rfl ⟨by decide, by decide, by decide +kernel⟩ ⟨(Nat.le_of_ble_eq_true rfl), (Nat.le_of_ble_eq_true rfl)⟩ rfl [] [0, 1, 2] [wO x 8 [.ref x_sheets, .ref p, .ref x_kin, .ref x_heights, .ref x_levels, .ref x_words, .ref x_shown, .ref x_powers, .int (zI (x_shownCount)), .int (zI (x_status)), x_ways, x_weigher], wO p 4 [.ref p_dx, .ref p_dy, .ref p_weights, .ref p_leaps, .int (zI (4)), .int (zI (0)), .int (zI (p_top)), .int (zI (p_round)), .int (zI (p_barredCount)), .int (zI (0)), .int (zI (0)), .int (zI (0)), .int (zI (0)), .ref p_barred, .ref p_passable], wI p_passable (zK C).1 4489 pas] [] rfl rfl rfl rfl rfl (by decide) (Nat.le_of_ble_eq_true rfl) ⟨(Nat.le_of_ble_eq_true rfl), (Nat.le_of_ble_eq_true rfl)⟩ ?_
  rintro v_ w_ ⟨r_1, rfl, rfl, h_3_2⟩
  show ZW C 0 0 [wO x 8 [.ref x_sheets, .ref p, .ref x_kin, .ref x_heights, .ref x_levels, .ref x_words, .ref x_shown, .ref x_powers, .int (zI (x_shownCount)), .int (zI (x_status)), x_ways, x_weigher], wO p 4 [.ref p_dx, .ref p_dy, .ref p_weights, .ref p_leaps, .int (zI (4)), .int (zI (0)), .int (zI (p_top)), .int (zI (p_round)), .int (zI (p_barredCount)), .int (zI (0)), .int (zI (0)), .int (zI (0)), .int (zI (0)), .ref p_barred, .ref p_passable], wI p_passable (zK C).1 4489 pas] [(0, .ref x), (1, .int (zI (n))), (2, .int (zI (most)))] 6 [.int (zI (r_1))]
  refine z_ifne hC 11 dX8_walkFault_6 (by decide) (by omega) (fun c_3 => ?_) (fun c_3 => ?_)
  · skip
    refine z_aload_n hC 0 dX8_walkFault_11 rfl rfl ?_
    refine z_get hC (T := TX8) (N := 12) hinX8 0 1 dX8_walkFault_12 rfl rfl (by decide) (List.mem_of_getElem? (i := 1) rfl) rfl rfl ?_
    refine z_callV hC [] 0 0 dX8_walkFault_15 (c_X4_endsOpen_0 (zl C) (zD C) (zK C) p p_dx p_dy p_weights p_leaps p_barred p_passable p_top p_round p_barredCount pas (by first | assumption | omega)) gX8_walkFault_X4_endsOpen rfl rfl rfl ⟨by decide, by decide, by decide +kernel⟩ ⟨(Nat.le_of_ble_eq_true rfl), (Nat.le_of_ble_eq_true rfl)⟩ rfl rfl rfl rfl [1, 2] [0] [wO x 8 [.ref x_sheets, .ref p, .ref x_kin, .ref x_heights, .ref x_levels, .ref x_words, .ref x_shown, .ref x_powers, .int (zI (x_shownCount)), .int (zI (x_status)), x_ways, x_weigher]] [] rfl rfl rfl rfl rfl (by decide) (Nat.le_of_ble_eq_true rfl) ⟨(Nat.le_of_ble_eq_true rfl), (Nat.le_of_ble_eq_true rfl)⟩ ?_
    rintro v_ w_ ⟨r_4, rfl, rfl, rfl⟩
    show ZW C 0 0 [wO x 8 [.ref x_sheets, .ref p, .ref x_kin, .ref x_heights, .ref x_levels, .ref x_words, .ref x_shown, .ref x_powers, .int (zI (x_shownCount)), .int (zI (x_status)), x_ways, x_weigher], wO p 4 [.ref p_dx, .ref p_dy, .ref p_weights, .ref p_leaps, .int (zI (4)), .int (zI (0)), .int (zI (p_top)), .int (zI (p_round)), .int (zI (p_barredCount)), .int (zI (0)), .int (zI (0)), .int (zI (0)), .int (zI (0)), .ref p_barred, .ref p_passable], wI p_passable (zK C).1 4489 pas] [(0, .ref x), (1, .int (zI (n))), (2, .int (zI (most)))] 18 [.int (zI (1))]
    refine z_ifeq hC 25 dX8_walkFault_18 (by decide) (by omega) (fun c_6 => by exfalso; omega) (fun c_6 => ?_)
    refine z_iconst hC dX8_walkFault_21 ?_
    refine z_goto hC 27 dX8_walkFault_22 (by decide) ?_
    exact z_iret hC hR dX8_walkFault_27 (Nat.le_of_ble_eq_true rfl) (Nat.le_of_ble_eq_true rfl) ⟨0, rfl, rfl, by omega⟩
  · skip
    refine z_iconst hC dX8_walkFault_9 ?_
    exact z_iret hC hR dX8_walkFault_10 (Nat.le_of_ble_eq_true rfl) (Nat.le_of_ble_eq_true rfl) ⟨2, rfl, rfl, by omega⟩
