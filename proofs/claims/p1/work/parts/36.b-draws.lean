def lcg (s : Int) : Int := (1103515245 * s + 12345) % 2147483648
def lcgN : Nat → Int → Int
  | 0, s => s
  | k + 1, s => lcg (lcgN k s)
def drw : Nat → Int → Int
  | 0, _ => 0
  | k + 1, s => zor (zshl (drw k s) 15) (lcgN (k + 1) s / 65536 % 32768)
def dres (t mk : Int) : Nat → Int → Int → Int
  | 0, _, v => v % t
  | n + 1, s, _ => if zand (drw 5 s) mk < t then zand (drw 5 s) mk else dres t mk n (lcgN 5 s) (zand (drw 5 s) mk)
def mskOf (t : Int) : Nat → Int → Int
  | 0, m => m
  | f + 1, m => if m < t - 1 then mskOf t f (2 * m + 1) else m
def drawP (t seed : Int) : Int := dres t (mskOf t 62 0) 64 seed 0
theorem mskOf_ge {t m : Int} (h : t - 1 ≤ m) : ∀ f : Nat, mskOf t f m = m
  | 0 => rfl
  | f + 1 => by
    unfold mskOf
    rw [if_neg (by omega)]
theorem msk_s {t m : Int} {b : Int} (h : m < t - 1) (hb : 0 ≤ b ∧ b < 62) : mskOf t (62 - b).toNat m = mskOf t (62 - (b + 1)).toNat (2 * m + 1) := by
  rw [show (62 - b).toNat = (62 - (b + 1)).toNat + 1 by omega]
  show (if m < t - 1 then _ else _) = _
  rw [if_pos h]
theorem msk_step {t mk : Int} (h : ∃ f : Nat, mskOf t f mk = mskOf t 62 0 ∧ (mk + 1) * 2 ^ f = 4611686018427387904) (c : mk < t - 1) (ht : t < 4611686018427387904) : ∃ f : Nat, mskOf t f (2 * mk + 1) = mskOf t 62 0 ∧ (2 * mk + 1 + 1) * 2 ^ f = 4611686018427387904 := by
  obtain ⟨f, h1, h2⟩ := h
  cases f with
  | zero => rw [Int.pow_zero, Int.mul_one] at h2; omega
  | succ f =>
    refine ⟨f, ?_, ?_⟩
    · rw [← h1]
      show _ = if mk < t - 1 then _ else _
      rw [if_pos c]
    · rw [← h2, Int.pow_succ, show 2 * mk + 1 + 1 = (mk + 1) * 2 by omega, Int.mul_assoc, Int.mul_comm (2 ^ f) 2]
theorem msk_end {t mk : Int} (h : ∃ f : Nat, mskOf t f mk = mskOf t 62 0 ∧ (mk + 1) * 2 ^ f = 4611686018427387904) (c : t - 1 ≤ mk) (h0 : 0 ≤ mk) : mskOf t 62 0 = mk ∧ mk < 4611686018427387904 := by
  obtain ⟨f, h1, h2⟩ := h
  refine ⟨by rw [← h1]; exact mskOf_ge c f, ?_⟩
  have h3 : (1 : Int) ≤ 2 ^ f := by have := Int.pow_pos (n := 2) (m := f) (by decide); omega
  have h4 : (mk + 1) * 1 ≤ (mk + 1) * 2 ^ f := Int.mul_le_mul_of_nonneg_left h3 (by omega)
  omega
theorem zL_bv (a : Int) : (zL a).toBitVec.toNat = (a % 18446744073709551616).toNat := by
  unfold zL
  rw [Int64.toBitVec_ofInt, BitVec.toNat_ofInt]
  rfl
theorem zand_nat {a m : Int} (hm : 0 ≤ m ∧ m < 9223372036854775808) : zand a m = (((a % 18446744073709551616).toNat &&& m.toNat : Nat) : Int) := by
  have h1 : (zL a &&& zL m).toBitVec.toNat = (a % 18446744073709551616).toNat &&& m.toNat := by
    rw [Int64.toBitVec_and, BitVec.toNat_and, zL_bv, zL_bv]
    congr 1
    omega
  have h2 : (a % 18446744073709551616).toNat &&& m.toNat ≤ m.toNat := Nat.and_le_right
  unfold zand
  show (zL a &&& zL m).toBitVec.toInt = _
  rw [BitVec.toInt_eq_toNat_cond, h1, if_pos (by omega)]
theorem zand_rng {a m : Int} (hm : 0 ≤ m ∧ m < 9223372036854775808) : 0 ≤ zand a m ∧ zand a m ≤ m := by
  rw [zand_nat hm]
  have h2 : (a % 18446744073709551616).toNat &&& m.toNat ≤ m.toNat := Nat.and_le_right
  omega
theorem zand_2 {a : Int} (h : 0 ≤ a ∧ a < 9223372036854775808) {m : Int} (k : Nat) (hm : m = 2 ^ k - 1) (hk : m < 9223372036854775808) : zand a m = a % (m + 1) := by
  have hp : (1 : Int) ≤ 2 ^ k := by have := Int.pow_pos (n := 2) (m := k) (by decide); omega
  rw [zand_nat (by omega), show (a % 18446744073709551616).toNat = a.toNat by omega]
  have e : m.toNat = 2 ^ k - 1 := by
    have : ((2 : Int) ^ k) = ((2 ^ k : Nat) : Int) := by simp
    omega
  rw [e, Nat.and_two_pow_sub_one_eq_mod, hm]
  have e2 : ((2 : Int) ^ k - 1 + 1) = ((2 ^ k : Nat) : Int) := by simp
  rw [e2, Int.natCast_emod, Int.toNat_of_nonneg h.1]
theorem zand_lcg {s : Int} (h : 0 ≤ s ∧ s < 2147483648) : zand (1103515245 * s + 12345) 2147483647 = lcg s := by
  rw [zand_2 (by omega) 31 (by decide) (by decide)]
  rfl
theorem lcg_r (s : Int) : 0 ≤ lcg s ∧ lcg s < 2147483648 := by unfold lcg; omega
theorem zshr_16 {a : Int} (h : 0 ≤ a ∧ a < 2147483648) : zshr a 16 = a / 65536 := by
  unfold zshr
  have h1 : ((zI 16).toInt64 &&& 63) = zL 16 := by decide
  rw [h1]
  have h2 : zL a >>> zL 16 = zL (a / 65536) := by
    have e : zL a = lN a.toNat := by unfold zL lN; rw [← Int64.ofInt_eq_ofNat, Int.toNat_of_nonneg h.1]
    have e2 : zL (a / 65536) = lN (a.toNat / 2 ^ 16) := by unfold zL lN; rw [← Int64.ofInt_eq_ofNat]; congr 1; omega
    rw [e, e2]
    apply Int64.toInt_inj.1
    show ((lN a.toNat).toBitVec.sshiftRight ((zL 16).toBitVec.smod 64).toNat).toInt = _
    rw [show ((zL 16).toBitVec.smod 64).toNat = 16 by decide, BitVec.toInt_sshiftRight]
    show ((lN a.toNat).toInt) >>> 16 = _
    rw [lN_toInt (by omega), lN_toInt (by omega), Int.shiftRight_eq_div_pow]
    omega
  rw [h2, zL_t (by unfold zRL; omega)]
theorem zhi {x : Int} (h : 0 ≤ x ∧ x < 2147483648) : zand (zshr x 16) 32767 = x / 65536 % 32768 := by
  rw [zshr_16 h, zand_2 (by omega) 15 (by decide) (by decide)]
  rfl
theorem zand_cm (a b : Int) : zand a b = zand b a := by unfold zand; rw [Int64.and_comm]
theorem zand_top {m : Int} (h : 0 ≤ m ∧ m < 4611686018427387904) : zand 4611686018427387903 m = m := by
  rw [zand_cm, zand_2 (by omega) 62 (by decide) (by decide)]
  omega
theorem zor_r (a b : Int) : zRL (zor a b) := by
  unfold zor zRL
  have h1 := Int64.le_toInt (zL a ||| zL b)
  have h2 := Int64.toInt_lt (zL a ||| zL b)
  omega
theorem lcgN_s {j s : Int} (h : 0 ≤ j) : lcgN (j + 1).toNat s = lcg (lcgN j.toNat s) := by rw [show (j + 1).toNat = j.toNat + 1 by omega]; rfl
theorem drw_s {j s : Int} (h : 0 ≤ j) : drw (j + 1).toNat s = zor (zshl (drw j.toNat s) 15) (lcg (lcgN j.toNat s) / 65536 % 32768) := by rw [show (j + 1).toNat = j.toNat + 1 by omega]; rfl
theorem drw_r (j : Nat) (s : Int) : zRL (drw j s) := by
  cases j with
  | zero => unfold drw zRL; omega
  | succ j => unfold drw; exact zor_r _ _
theorem dres_s {t mk s v i : Int} (h : 0 ≤ i ∧ i < 64) (c : t ≤ zand (drw 5 s) mk) : dres t mk (64 - i).toNat s v = dres t mk (64 - (i + 1)).toNat (lcgN 5 s) (zand (drw 5 s) mk) := by
  rw [show (64 - i).toNat = (64 - (i + 1)).toNat + 1 by omega]
  show (if zand (drw 5 s) mk < t then _ else _) = _
  rw [if_neg (by omega)]
theorem dres_e {t mk s v i : Int} (h : 0 ≤ i ∧ i < 64) (c : zand (drw 5 s) mk < t) : dres t mk (64 - i).toNat s v = zand (drw 5 s) mk := by
  rw [show (64 - i).toNat = (64 - (i + 1)).toNat + 1 by omega]
  show (if zand (drw 5 s) mk < t then _ else _) = _
  rw [if_pos c]
section ZTOP
variable {C : zC} {k n : Nat} {ws : va_W} {lv : List (Nat × Value)} {pc : Nat} {st : List Value}
theorem z_topl {a b : Int} (h : a = b) (kk : ZW C k n ws lv pc (.long (zL b) :: st)) : ZW C k n ws lv pc (.long (zL a) :: st) := by subst h; exact kk
theorem z_topi {a b : Int} (h : a = b) (kk : ZW C k n ws lv pc (.int (zI b) :: st)) : ZW C k n ws lv pc (.int (zI a) :: st) := by subst h; exact kk
end ZTOP
set_option maxHeartbeats 4000000 in
set_option maxRecDepth 100000 in
theorem c_X8_drawn (l : Launch) (D : va_G) (K : ClassId × ClassId × ClassId × ClassId) (t seed : Int) (ht : 0 < t ∧ t < 4611686018427387904) (hsd : 0 ≤ seed ∧ seed < 2147483648) : zMet l D K yX8_drawn wsX8_drawn ({ frames := 0, cells := 0, slots := 0, locals := 0 }) 0 0 [.long (zL (t)), .int (zI (seed))] [] (fun vr_ wr_ => ∃ (r : Int), vr_ = some (.long (zL (r))) ∧ wr_ = [] ∧ (r = drawP t seed)) := by
  refine zMet_of (cc := cX8_drawn) (nL := 11) (ret := (some .long)) (by decide) rfl (Nat.le_of_ble_eq_true rfl) ?_
  rintro C rfl rfl rfl hC hR
  show ZW C 0 0 [] [(0, .long (zL (t))), (2, .int (zI (seed)))] 0 []
  refine z_iload_n hC 1 dX8_drawn_0 rfl rfl ?_
  refine z_i2l hC dX8_drawn_1 (by omega) ?_
  refine z_lstore_n hC [(3, .long (zL (seed))), (0, .long (zL (t))), (2, .int (zI (seed)))] dX8_drawn_2 rfl (by decide) rfl ?_
  refine z_lconst (v := 0) hC dX8_drawn_3 rfl ?_
  refine z_lstore hC [(5, .long (zL (0))), (3, .long (zL (seed))), (0, .long (zL (t))), (2, .int (zI (seed)))] dX8_drawn_4 (by decide) rfl ?_
  refine z_iconst hC dX8_drawn_6 ?_
  refine z_istore hC [(7, .int (zI (0))), (5, .long (zL (0))), (3, .long (zL (seed))), (0, .long (zL (t))), (2, .int (zI (seed)))] dX8_drawn_7 (by decide) rfl ?_
  refine z_lv (lv' := [(0, .long (zL (t))), (2, .int (zI (seed))), (3, .long (zL (seed))), (5, .long (zL (0))), (7, .int (zI (0)))]) [3, 4, 2, 1, 0] rfl ?_
  have lp9_1 : ∀ (f3 : Nat) (mk : Int) (bt : Int), (0 ≤ bt ∧ bt ≤ 62) → (0 ≤ mk ∧ mk < 9223372036854775808) → (mskOf t (62 - bt).toNat mk = mskOf t 62 0) → (62 - bt).toNat < f3 → ZW C 0 0 [] [(0, .long (zL (t))), (2, .int (zI (seed))), (3, .long (zL (seed))), (5, .long (zL (mk))), (7, .int (zI (bt)))] 9 [] := by
    intro f3
    induction f3 with
    | zero => intro _ _ _ _ _ hf; exact absurd hf (Nat.not_lt_zero _)
    | succ f3 ih9_2 =>
      intro mk bt vb vk vm hf_9
      refine z_iload hC 4 dX8_drawn_9 rfl ?_
      refine z_bipush hC dX8_drawn_11 (by decide) ?_
      refine z_icge hC 41 dX8_drawn_13 (by decide) (by omega) (fun c_4 => ?_) (fun c_4 => ?_)
      · skip
        have hmk : mskOf t 62 0 = mk := by rw [← vm]; by_cases q : t - 1 ≤ mk; (exact mskOf_ge q _); (rw [show (62 - bt).toNat = 0 by omega]; rfl)
        refine z_lconst (v := 0) hC dX8_drawn_41 rfl ?_
        refine z_lstore hC [(7, .long (zL (0))), (0, .long (zL (t))), (2, .int (zI (seed))), (3, .long (zL (seed))), (5, .long (zL (mk)))] dX8_drawn_42 (by decide) rfl ?_
        refine z_iconst hC dX8_drawn_44 ?_
        refine z_istore hC [(9, .int (zI (0))), (7, .long (zL (0))), (0, .long (zL (t))), (2, .int (zI (seed))), (3, .long (zL (seed))), (5, .long (zL (mk)))] dX8_drawn_45 (by decide) rfl ?_
        refine z_lv (lv' := [(0, .long (zL (t))), (2, .int (zI (seed))), (3, .long (zL (seed))), (5, .long (zL (mk))), (7, .long (zL (0))), (9, .int (zI (0)))]) [2, 3, 4, 5, 1, 0] rfl ?_
        have lp47_5 : ∀ (f7 : Nat) (s : Int) (d0 : Int) (i : Int), (0 ≤ i ∧ i ≤ 64) → (0 ≤ s ∧ s < 2147483648) → (0 ≤ d0 ∧ d0 < 9223372036854775808) → (dres t mk (64 - i).toNat s d0 = drawP t seed) → (64 - i).toNat < f7 → ZW C 0 0 [] [(0, .long (zL (t))), (2, .int (zI (seed))), (3, .long (zL (s))), (5, .long (zL (mk))), (7, .long (zL (d0))), (9, .int (zI (i)))] 47 [] := by
          intro f7
          induction f7 with
          | zero => intro _ _ _ _ _ _ _ hf; exact absurd hf (Nat.not_lt_zero _)
          | succ f7 ih47_6 =>
            intro s d0 i vi vs vd0 vr hf_47
            refine z_iload hC 5 dX8_drawn_47 rfl ?_
            refine z_bipush hC dX8_drawn_49 (by decide) ?_
            refine z_icge hC 125 dX8_drawn_51 (by decide) (by omega) (fun c_8 => ?_) (fun c_8 => ?_)
            · skip
              refine z_lload_n hC 0 dX8_drawn_125 rfl rfl ?_
              refine z_lconst (v := 0) hC dX8_drawn_126 rfl ?_
              refine z_lcle hC 138 dX8_drawn_127 dX8_drawn_128 (by decide) (by omega) (fun c_9 => by exfalso; omega) (fun c_9 => ?_)
              refine z_lload hC 4 dX8_drawn_131 rfl ?_
              refine z_lload_n hC 0 dX8_drawn_133 rfl rfl ?_
              refine z_lrem hC (d0 % t) dX8_drawn_134 (by omega) rfl ?_
              refine z_goto hC 139 dX8_drawn_135 (by decide) ?_
              exact z_lret hC hR dX8_drawn_139 (Nat.le_of_ble_eq_true rfl) (Nat.le_of_ble_eq_true rfl) ⟨d0 % t, rfl, rfl, by rw [← vr, show (64 - i).toNat = 0 by omega]; rfl⟩
            · skip
              refine z_lconst (v := 0) hC dX8_drawn_54 rfl ?_
              refine z_lstore hC [(7, .long (zL (0))), (0, .long (zL (t))), (2, .int (zI (seed))), (3, .long (zL (s))), (5, .long (zL (mk))), (9, .int (zI (i)))] dX8_drawn_55 (by decide) rfl ?_
              refine z_iconst hC dX8_drawn_57 ?_
              refine z_istore hC [(10, .int (zI (0))), (7, .long (zL (0))), (0, .long (zL (t))), (2, .int (zI (seed))), (3, .long (zL (s))), (5, .long (zL (mk))), (9, .int (zI (i)))] dX8_drawn_58 (by decide) rfl ?_
              refine z_lv (lv' := [(0, .long (zL (t))), (2, .int (zI (seed))), (3, .long (zL (s))), (5, .long (zL (mk))), (7, .long (zL (0))), (9, .int (zI (i))), (10, .int (zI (0)))]) [2, 3, 4, 5, 1, 6, 0] rfl ?_
              have lp60_10 : ∀ (f12 : Nat) (s1 : Int) (d : Int) (j : Int), (0 ≤ j ∧ j ≤ 5) → (s1 = lcgN j.toNat s) → (0 ≤ s1 ∧ s1 < 2147483648) → (d = drw j.toNat s) → (5 - j).toNat < f12 → ZW C 0 0 [] [(0, .long (zL (t))), (2, .int (zI (seed))), (3, .long (zL (s1))), (5, .long (zL (mk))), (7, .long (zL (d))), (9, .int (zI (i))), (10, .int (zI (j)))] 60 [] := by
                intro f12
                induction f12 with
                | zero => intro _ _ _ _ _ _ _ hf; exact absurd hf (Nat.not_lt_zero _)
                | succ f12 ih60_11 =>
                  intro s1 d j vj vs1 vsr vd hf_60
                  refine z_iload hC 6 dX8_drawn_60 rfl ?_
                  refine z_iconst hC dX8_drawn_62 ?_
                  refine z_icge hC 102 dX8_drawn_63 (by decide) (by omega) (fun c_13 => ?_) (fun c_13 => ?_)
                  · skip
                    have e5 : j = 5 := by omega
                    rw [e5] at vs1 vd
                    have vs1 : s1 = lcgN 5 s := vs1
                    have vd : d = drw 5 s := vd
                    have hzr := zand_rng (a := d) (m := mk) (by omega)
                    refine z_lload hC 4 dX8_drawn_102 rfl ?_
                    refine z_lload hC 3 dX8_drawn_104 rfl ?_
                    refine z_land hC dX8_drawn_106 ?_
                    refine z_lstore hC [(7, .long (zL (zand d mk))), (0, .long (zL (t))), (2, .int (zI (seed))), (3, .long (zL (s1))), (5, .long (zL (mk))), (9, .int (zI (i))), (10, .int (zI (j)))] dX8_drawn_107 (by decide) rfl ?_
                    refine z_lload hC 0 dX8_drawn_109 rfl ?_
                    refine z_lload_n hC 1 dX8_drawn_111 rfl rfl ?_
                    refine z_lcge hC 119 dX8_drawn_112 dX8_drawn_113 (by decide) (by omega) (fun c_14 => ?_) (fun c_14 => ?_)
                    · skip
                      refine z_iinc (a := i) (v := 1) (r := i + 1) hC 5 [(9, .int (zI (i + 1))), (7, .long (zL (zand d mk))), (0, .long (zL (t))), (2, .int (zI (seed))), (3, .long (zL (s1))), (5, .long (zL (mk))), (10, .int (zI (j)))] dX8_drawn_119 rfl rfl (by decide) rfl ?_
                      refine z_goto hC 47 dX8_drawn_122 (by decide) ?_
                      refine z_lv (lv' := [(0, .long (zL (t))), (2, .int (zI (seed))), (3, .long (zL (s1))), (5, .long (zL (mk))), (7, .long (zL (zand d mk))), (9, .int (zI (i + 1)))]) [2, 3, 4, 5, 1, 0] rfl ?_
                      exact ih47_6 s1 (zand d mk) (i + 1) (by omega) (by exact vsr) (by omega) (by rw [← vr, dres_s (v := d0) (by omega) (by rw [← vd]; omega), vs1, vd]) (by omega)
                    · skip
                      refine z_lload hC 0 dX8_drawn_116 rfl ?_
                      exact z_lret hC hR dX8_drawn_118 (Nat.le_of_ble_eq_true rfl) (Nat.le_of_ble_eq_true rfl) ⟨zand d mk, rfl, rfl, by rw [← vr, dres_e (v := d0) (by omega) (by rw [← vd]; omega), vd]⟩
                  · skip
                    refine z_ldc2 (v := 1103515245) hC (List.mem_of_getElem? (i := 2) rfl) rfl dX8_drawn_66 ?_
                    refine z_lload_n hC 2 dX8_drawn_69 rfl rfl ?_
                    refine z_lmul hC (1103515245 * s1) dX8_drawn_70 rfl ?_
                    refine z_ldc2 (v := 12345) hC (List.mem_of_getElem? (i := 3) rfl) rfl dX8_drawn_71 ?_
                    refine z_ladd hC ((1103515245 * s1) + 12345) dX8_drawn_74 rfl ?_
                    refine z_ldc2 (v := 2147483647) hC (List.mem_of_getElem? (i := 4) rfl) rfl dX8_drawn_75 ?_
                    refine z_land hC dX8_drawn_78 ?_
                    refine z_topl (b := lcg s1) (by exact zand_lcg (by omega)) ?_
                    refine z_lstore_n hC [(3, .long (zL (lcg s1))), (0, .long (zL (t))), (2, .int (zI (seed))), (5, .long (zL (mk))), (7, .long (zL (d))), (9, .int (zI (i))), (10, .int (zI (j)))] dX8_drawn_79 rfl (by decide) rfl ?_
                    refine z_lload hC 4 dX8_drawn_80 rfl ?_
                    refine z_bipush hC dX8_drawn_82 (by decide) ?_
                    refine z_lshl hC dX8_drawn_84 ?_
                    refine z_lload_n hC 0 dX8_drawn_85 rfl rfl ?_
                    refine z_bipush hC dX8_drawn_86 (by decide) ?_
                    refine z_lshr hC dX8_drawn_88 ?_
                    refine z_ldc2 (v := 32767) hC (List.mem_of_getElem? (i := 5) rfl) rfl dX8_drawn_89 ?_
                    refine z_land hC dX8_drawn_92 ?_
                    refine z_topl (b := lcg s1 / 65536 % 32768) (by exact zhi (lcg_r _)) ?_
                    refine z_lor hC dX8_drawn_93 ?_
                    refine z_lstore hC [(7, .long (zL (zor (zshl d 15) (lcg s1 / 65536 % 32768)))), (3, .long (zL (lcg s1))), (0, .long (zL (t))), (2, .int (zI (seed))), (5, .long (zL (mk))), (9, .int (zI (i))), (10, .int (zI (j)))] dX8_drawn_94 (by decide) rfl ?_
                    refine z_iinc (a := j) (v := 1) (r := j + 1) hC 6 [(10, .int (zI (j + 1))), (7, .long (zL (zor (zshl d 15) (lcg s1 / 65536 % 32768)))), (3, .long (zL (lcg s1))), (0, .long (zL (t))), (2, .int (zI (seed))), (5, .long (zL (mk))), (9, .int (zI (i)))] dX8_drawn_96 rfl rfl (by decide) rfl ?_
                    refine z_goto hC 60 dX8_drawn_99 (by decide) ?_
                    refine z_lv (lv' := [(0, .long (zL (t))), (2, .int (zI (seed))), (3, .long (zL (lcg s1))), (5, .long (zL (mk))), (7, .long (zL (zor (zshl d 15) (lcg s1 / 65536 % 32768)))), (9, .int (zI (i))), (10, .int (zI (j + 1)))]) [3, 4, 2, 5, 1, 6, 0] rfl ?_
                    exact ih60_11 (lcg s1) (zor (zshl d 15) (lcg s1 / 65536 % 32768)) (j + 1) (by omega) (by rw [lcgN_s (by omega), ← vs1]) (by exact lcg_r _) (by rw [drw_s (by omega), ← vs1, ← vd]) (by omega)
              exact lp60_10 _ s 0 0 (by omega) (by rfl) (by omega) (by rfl) (Nat.lt_succ_self _)
        exact lp47_5 _ seed 0 0 (by omega) (by omega) (by omega) (by unfold drawP; rw [hmk]; rfl) (Nat.lt_succ_self _)
      · skip
        refine z_lload hC 3 dX8_drawn_16 rfl ?_
        refine z_lload_n hC 0 dX8_drawn_18 rfl rfl ?_
        refine z_lconst (v := 1) hC dX8_drawn_19 rfl ?_
        refine z_lsub hC (t - 1) dX8_drawn_20 rfl ?_
        refine z_lcge hC 41 dX8_drawn_21 dX8_drawn_22 (by decide) (by omega) (fun c_15 => ?_) (fun c_15 => ?_)
        · skip
          have hmk : mskOf t 62 0 = mk := by rw [← vm]; by_cases q : t - 1 ≤ mk; (exact mskOf_ge q _); (rw [show (62 - bt).toNat = 0 by omega]; rfl)
          refine z_lconst (v := 0) hC dX8_drawn_41 rfl ?_
          refine z_lstore hC [(7, .long (zL (0))), (0, .long (zL (t))), (2, .int (zI (seed))), (3, .long (zL (seed))), (5, .long (zL (mk)))] dX8_drawn_42 (by decide) rfl ?_
          refine z_iconst hC dX8_drawn_44 ?_
          refine z_istore hC [(9, .int (zI (0))), (7, .long (zL (0))), (0, .long (zL (t))), (2, .int (zI (seed))), (3, .long (zL (seed))), (5, .long (zL (mk)))] dX8_drawn_45 (by decide) rfl ?_
          refine z_lv (lv' := [(0, .long (zL (t))), (2, .int (zI (seed))), (3, .long (zL (seed))), (5, .long (zL (mk))), (7, .long (zL (0))), (9, .int (zI (0)))]) [2, 3, 4, 5, 1, 0] rfl ?_
          have lp47_16 : ∀ (f18 : Nat) (s : Int) (d0 : Int) (i : Int), (0 ≤ i ∧ i ≤ 64) → (0 ≤ s ∧ s < 2147483648) → (0 ≤ d0 ∧ d0 < 9223372036854775808) → (dres t mk (64 - i).toNat s d0 = drawP t seed) → (64 - i).toNat < f18 → ZW C 0 0 [] [(0, .long (zL (t))), (2, .int (zI (seed))), (3, .long (zL (s))), (5, .long (zL (mk))), (7, .long (zL (d0))), (9, .int (zI (i)))] 47 [] := by
            intro f18
            induction f18 with
            | zero => intro _ _ _ _ _ _ _ hf; exact absurd hf (Nat.not_lt_zero _)
            | succ f18 ih47_17 =>
              intro s d0 i vi vs vd0 vr hf_47
              refine z_iload hC 5 dX8_drawn_47 rfl ?_
              refine z_bipush hC dX8_drawn_49 (by decide) ?_
              refine z_icge hC 125 dX8_drawn_51 (by decide) (by omega) (fun c_19 => ?_) (fun c_19 => ?_)
              · skip
                refine z_lload_n hC 0 dX8_drawn_125 rfl rfl ?_
                refine z_lconst (v := 0) hC dX8_drawn_126 rfl ?_
                refine z_lcle hC 138 dX8_drawn_127 dX8_drawn_128 (by decide) (by omega) (fun c_20 => by exfalso; omega) (fun c_20 => ?_)
                refine z_lload hC 4 dX8_drawn_131 rfl ?_
                refine z_lload_n hC 0 dX8_drawn_133 rfl rfl ?_
                refine z_lrem hC (d0 % t) dX8_drawn_134 (by omega) rfl ?_
                refine z_goto hC 139 dX8_drawn_135 (by decide) ?_
                exact z_lret hC hR dX8_drawn_139 (Nat.le_of_ble_eq_true rfl) (Nat.le_of_ble_eq_true rfl) ⟨d0 % t, rfl, rfl, by rw [← vr, show (64 - i).toNat = 0 by omega]; rfl⟩
              · skip
                refine z_lconst (v := 0) hC dX8_drawn_54 rfl ?_
                refine z_lstore hC [(7, .long (zL (0))), (0, .long (zL (t))), (2, .int (zI (seed))), (3, .long (zL (s))), (5, .long (zL (mk))), (9, .int (zI (i)))] dX8_drawn_55 (by decide) rfl ?_
                refine z_iconst hC dX8_drawn_57 ?_
                refine z_istore hC [(10, .int (zI (0))), (7, .long (zL (0))), (0, .long (zL (t))), (2, .int (zI (seed))), (3, .long (zL (s))), (5, .long (zL (mk))), (9, .int (zI (i)))] dX8_drawn_58 (by decide) rfl ?_
                refine z_lv (lv' := [(0, .long (zL (t))), (2, .int (zI (seed))), (3, .long (zL (s))), (5, .long (zL (mk))), (7, .long (zL (0))), (9, .int (zI (i))), (10, .int (zI (0)))]) [2, 3, 4, 5, 1, 6, 0] rfl ?_
                have lp60_21 : ∀ (f23 : Nat) (s1 : Int) (d : Int) (j : Int), (0 ≤ j ∧ j ≤ 5) → (s1 = lcgN j.toNat s) → (0 ≤ s1 ∧ s1 < 2147483648) → (d = drw j.toNat s) → (5 - j).toNat < f23 → ZW C 0 0 [] [(0, .long (zL (t))), (2, .int (zI (seed))), (3, .long (zL (s1))), (5, .long (zL (mk))), (7, .long (zL (d))), (9, .int (zI (i))), (10, .int (zI (j)))] 60 [] := by
                  intro f23
                  induction f23 with
                  | zero => intro _ _ _ _ _ _ _ hf; exact absurd hf (Nat.not_lt_zero _)
                  | succ f23 ih60_22 =>
                    intro s1 d j vj vs1 vsr vd hf_60
                    refine z_iload hC 6 dX8_drawn_60 rfl ?_
                    refine z_iconst hC dX8_drawn_62 ?_
                    refine z_icge hC 102 dX8_drawn_63 (by decide) (by omega) (fun c_24 => ?_) (fun c_24 => ?_)
                    · skip
                      have e5 : j = 5 := by omega
                      rw [e5] at vs1 vd
                      have vs1 : s1 = lcgN 5 s := vs1
                      have vd : d = drw 5 s := vd
                      have hzr := zand_rng (a := d) (m := mk) (by omega)
                      refine z_lload hC 4 dX8_drawn_102 rfl ?_
                      refine z_lload hC 3 dX8_drawn_104 rfl ?_
                      refine z_land hC dX8_drawn_106 ?_
                      refine z_lstore hC [(7, .long (zL (zand d mk))), (0, .long (zL (t))), (2, .int (zI (seed))), (3, .long (zL (s1))), (5, .long (zL (mk))), (9, .int (zI (i))), (10, .int (zI (j)))] dX8_drawn_107 (by decide) rfl ?_
                      refine z_lload hC 0 dX8_drawn_109 rfl ?_
                      refine z_lload_n hC 1 dX8_drawn_111 rfl rfl ?_
                      refine z_lcge hC 119 dX8_drawn_112 dX8_drawn_113 (by decide) (by omega) (fun c_25 => ?_) (fun c_25 => ?_)
                      · skip
                        refine z_iinc (a := i) (v := 1) (r := i + 1) hC 5 [(9, .int (zI (i + 1))), (7, .long (zL (zand d mk))), (0, .long (zL (t))), (2, .int (zI (seed))), (3, .long (zL (s1))), (5, .long (zL (mk))), (10, .int (zI (j)))] dX8_drawn_119 rfl rfl (by decide) rfl ?_
                        refine z_goto hC 47 dX8_drawn_122 (by decide) ?_
                        refine z_lv (lv' := [(0, .long (zL (t))), (2, .int (zI (seed))), (3, .long (zL (s1))), (5, .long (zL (mk))), (7, .long (zL (zand d mk))), (9, .int (zI (i + 1)))]) [2, 3, 4, 5, 1, 0] rfl ?_
                        exact ih47_17 s1 (zand d mk) (i + 1) (by omega) (by exact vsr) (by omega) (by rw [← vr, dres_s (v := d0) (by omega) (by rw [← vd]; omega), vs1, vd]) (by omega)
                      · skip
                        refine z_lload hC 0 dX8_drawn_116 rfl ?_
                        exact z_lret hC hR dX8_drawn_118 (Nat.le_of_ble_eq_true rfl) (Nat.le_of_ble_eq_true rfl) ⟨zand d mk, rfl, rfl, by rw [← vr, dres_e (v := d0) (by omega) (by rw [← vd]; omega), vd]⟩
                    · skip
                      refine z_ldc2 (v := 1103515245) hC (List.mem_of_getElem? (i := 2) rfl) rfl dX8_drawn_66 ?_
                      refine z_lload_n hC 2 dX8_drawn_69 rfl rfl ?_
                      refine z_lmul hC (1103515245 * s1) dX8_drawn_70 rfl ?_
                      refine z_ldc2 (v := 12345) hC (List.mem_of_getElem? (i := 3) rfl) rfl dX8_drawn_71 ?_
                      refine z_ladd hC ((1103515245 * s1) + 12345) dX8_drawn_74 rfl ?_
                      refine z_ldc2 (v := 2147483647) hC (List.mem_of_getElem? (i := 4) rfl) rfl dX8_drawn_75 ?_
                      refine z_land hC dX8_drawn_78 ?_
                      refine z_topl (b := lcg s1) (by exact zand_lcg (by omega)) ?_
                      refine z_lstore_n hC [(3, .long (zL (lcg s1))), (0, .long (zL (t))), (2, .int (zI (seed))), (5, .long (zL (mk))), (7, .long (zL (d))), (9, .int (zI (i))), (10, .int (zI (j)))] dX8_drawn_79 rfl (by decide) rfl ?_
                      refine z_lload hC 4 dX8_drawn_80 rfl ?_
                      refine z_bipush hC dX8_drawn_82 (by decide) ?_
                      refine z_lshl hC dX8_drawn_84 ?_
                      refine z_lload_n hC 0 dX8_drawn_85 rfl rfl ?_
                      refine z_bipush hC dX8_drawn_86 (by decide) ?_
                      refine z_lshr hC dX8_drawn_88 ?_
                      refine z_ldc2 (v := 32767) hC (List.mem_of_getElem? (i := 5) rfl) rfl dX8_drawn_89 ?_
                      refine z_land hC dX8_drawn_92 ?_
                      refine z_topl (b := lcg s1 / 65536 % 32768) (by exact zhi (lcg_r _)) ?_
                      refine z_lor hC dX8_drawn_93 ?_
                      refine z_lstore hC [(7, .long (zL (zor (zshl d 15) (lcg s1 / 65536 % 32768)))), (3, .long (zL (lcg s1))), (0, .long (zL (t))), (2, .int (zI (seed))), (5, .long (zL (mk))), (9, .int (zI (i))), (10, .int (zI (j)))] dX8_drawn_94 (by decide) rfl ?_
                      refine z_iinc (a := j) (v := 1) (r := j + 1) hC 6 [(10, .int (zI (j + 1))), (7, .long (zL (zor (zshl d 15) (lcg s1 / 65536 % 32768)))), (3, .long (zL (lcg s1))), (0, .long (zL (t))), (2, .int (zI (seed))), (5, .long (zL (mk))), (9, .int (zI (i)))] dX8_drawn_96 rfl rfl (by decide) rfl ?_
                      refine z_goto hC 60 dX8_drawn_99 (by decide) ?_
                      refine z_lv (lv' := [(0, .long (zL (t))), (2, .int (zI (seed))), (3, .long (zL (lcg s1))), (5, .long (zL (mk))), (7, .long (zL (zor (zshl d 15) (lcg s1 / 65536 % 32768)))), (9, .int (zI (i))), (10, .int (zI (j + 1)))]) [3, 4, 2, 5, 1, 6, 0] rfl ?_
                      exact ih60_22 (lcg s1) (zor (zshl d 15) (lcg s1 / 65536 % 32768)) (j + 1) (by omega) (by rw [lcgN_s (by omega), ← vs1]) (by exact lcg_r _) (by rw [drw_s (by omega), ← vs1, ← vd]) (by omega)
                exact lp60_21 _ s 0 0 (by omega) (by rfl) (by omega) (by rfl) (Nat.lt_succ_self _)
          exact lp47_16 _ seed 0 0 (by omega) (by omega) (by omega) (by unfold drawP; rw [hmk]; rfl) (Nat.lt_succ_self _)
        · skip
          refine z_ldc2 (v := 2) hC (List.mem_of_getElem? (i := 1) rfl) rfl dX8_drawn_25 ?_
          refine z_lload hC 3 dX8_drawn_28 rfl ?_
          refine z_lmul hC (2 * mk) dX8_drawn_30 rfl ?_
          refine z_lconst (v := 1) hC dX8_drawn_31 rfl ?_
          refine z_ladd hC ((2 * mk) + 1) dX8_drawn_32 rfl ?_
          refine z_lstore hC [(5, .long (zL ((2 * mk) + 1))), (0, .long (zL (t))), (2, .int (zI (seed))), (3, .long (zL (seed))), (7, .int (zI (bt)))] dX8_drawn_33 (by decide) rfl ?_
          refine z_iinc (a := bt) (v := 1) (r := bt + 1) hC 4 [(7, .int (zI (bt + 1))), (5, .long (zL ((2 * mk) + 1))), (0, .long (zL (t))), (2, .int (zI (seed))), (3, .long (zL (seed)))] dX8_drawn_35 rfl rfl (by decide) rfl ?_
          refine z_goto hC 9 dX8_drawn_38 (by decide) ?_
          refine z_lv (lv' := [(0, .long (zL (t))), (2, .int (zI (seed))), (3, .long (zL (seed))), (5, .long (zL ((2 * mk) + 1))), (7, .int (zI (bt + 1)))]) [2, 3, 4, 1, 0] rfl ?_
          exact ih9_2 ((2 * mk) + 1) (bt + 1) (by omega) (by omega) (by rw [← vm]; exact (msk_s (by omega) (by omega)).symm) (by omega)
  exact lp9_1 _ 0 0 (by omega) (by omega) (by rfl) (Nat.lt_succ_self _)

set_option maxHeartbeats 4000000 in
set_option maxRecDepth 100000 in
theorem c_X9_drawn (l : Launch) (D : va_G) (K : ClassId × ClassId × ClassId × ClassId) (s : Int) (hs : 0 ≤ s ∧ s < 2147483648) : zMet l D K yX9_drawn wsX9_drawn ({ frames := 0, cells := 0, slots := 0, locals := 0 }) 0 0 [.int (zI (s))] [] (fun vr_ wr_ => ∃ (r : Int), vr_ = some (.int (zI (r))) ∧ wr_ = [] ∧ (r = lcg s)) := by
  refine zMet_of (cc := cX9_drawn) (nL := 1) (ret := (some .int)) (by decide) rfl (Nat.le_of_ble_eq_true rfl) ?_
  rintro C rfl rfl rfl hC hR
  show ZW C 0 0 [] [(0, .int (zI (s)))] 0 []
  refine z_ldc2 (v := 1103515245) hC (List.mem_of_getElem? (i := 1) rfl) rfl dX9_drawn_0 ?_
  refine z_iload_n hC 0 dX9_drawn_3 rfl rfl ?_
  refine z_i2l hC dX9_drawn_4 (by omega) ?_
  refine z_lmul hC (1103515245 * s) dX9_drawn_5 rfl ?_
  refine z_ldc2 (v := 12345) hC (List.mem_of_getElem? (i := 2) rfl) rfl dX9_drawn_6 ?_
  refine z_ladd hC ((1103515245 * s) + 12345) dX9_drawn_9 rfl ?_
  refine z_ldc2 (v := 2147483647) hC (List.mem_of_getElem? (i := 3) rfl) rfl dX9_drawn_10 ?_
  refine z_land hC dX9_drawn_13 ?_
  refine z_topl (b := lcg s) (by exact zand_lcg (by omega)) ?_
  refine z_l2i hC dX9_drawn_14 ?_
  exact z_iret hC hR dX9_drawn_15 (Nat.le_of_ble_eq_true rfl) (Nat.le_of_ble_eq_true rfl) ⟨lcg s, rfl, rfl, by rfl⟩
