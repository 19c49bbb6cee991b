section ZLEV
/-! shifts -/
theorem zL_and63 {b : Int} (h : 0 ≤ b ∧ b < 63) : (zI b).toInt64 &&& 63 = zL b := by
  rw [zI_i2l (by omega)]
  have e : zL b &&& 63 = zL (zand b 63) := by
    unfold zand
    rw [zL_as]
    rfl
  rw [e, zand_2 (by omega) 6 (by decide) (by decide)]
  congr 1
  omega
theorem smod64 {b : Int} (h : 0 ≤ b ∧ b < 63) : ((zL b).toBitVec.smod 64).toNat = b.toNat := by
  have h2 : ∀ k : Fin 63, ((zL ((k : Nat) : Int)).toBitVec.smod 64).toNat = (k : Nat) := by decide
  have h3 := h2 ⟨b.toNat, by omega⟩
  have h4 : ((b.toNat : Nat) : Int) = b := by omega
  simp only [h4] at h3
  exact h3
theorem zshr_p {a b : Int} (h : 0 ≤ a ∧ a < 9223372036854775808) (hb : 0 ≤ b ∧ b < 63) : zshr a b = a / 2 ^ b.toNat := by
  unfold zshr
  rw [zL_and63 hb]
  show ((zL a).toBitVec.sshiftRight ((zL b).toBitVec.smod 64).toNat).toInt = _
  rw [smod64 hb, BitVec.toInt_sshiftRight]
  show ((zL a).toInt) >>> b.toNat = _
  rw [zL_t (by omega), Int.shiftRight_eq_div_pow]
  simp
theorem zshr_1 {a : Int} (h : 0 ≤ a ∧ a < 9223372036854775808) : zshr a 1 = a / 2 := by
  rw [zshr_p h (by omega)]
  rfl
theorem zand_1 {a : Int} (h : 0 ≤ a ∧ a < 9223372036854775808) : zand a 1 = a % 2 := zand_2 h 1 (by decide) (by decide)
theorem zishr_1 {a : Int} (h : 0 ≤ a ∧ a < 2147483648) : zishr a 1 = a / 2 := by
  unfold zishr
  have e : zI 1 &&& 31 = zI 1 := by decide
  rw [e]
  show ((zI a).toBitVec.sshiftRight ((zI 1).toBitVec.smod 32).toNat).toInt = _
  rw [show ((zI 1).toBitVec.smod 32).toNat = 1 by decide, BitVec.toInt_sshiftRight]
  show ((zI a).toInt) >>> 1 = _
  rw [zI_t (by omega), Int.shiftRight_eq_div_pow]
  rfl
section ZISH
variable {C : zC} {cc : ByteArray} {y : MethodName} {Ts : List Cond} {rm : Room} {nL : Nat} {k n : Nat} {ws : va_W} {lv : List (Nat × Value)} {pc : Nat} {st : List Value}
theorem z_ishr (hC : zOK C cc y Ts rm nL) {a b : Int} (hd : decode cc pc = .ok (.ishr, 1)) (kk : ZW C k n ws lv (pc + 1) (.int (zI (zishr a b)) :: st)) : ZW C k n ws lv pc (.int (zI b) :: .int (zI a) :: st) := by
  obtain ⟨p, l, e, R, s, m, args, below, meth, c, Q, A, nL', D, cA⟩ := C
  intro H locs ls hP hD hS hl
  have h := kk H locs ls hP hD hS hl
  unfold zishr at h
  rw [zI_as] at h
  exact lv_ishr hC.1 hC.2.1 hd h
end ZISH
/-! products under the prime -/
theorem mul_r {x y : Int} (hx : 0 ≤ x ∧ x < 998244353) (hy : 0 ≤ y ∧ y < 998244353) : 0 ≤ x * y ∧ x * y ≤ 996491786299899904 := by
  have h1 : x * y ≤ 998244352 * y := Int.mul_le_mul_of_nonneg_right (by omega) hy.1
  have h2 : (998244352 : Int) * y ≤ 998244352 * 998244352 := Int.mul_le_mul_of_nonneg_left (by omega) (by decide)
  exact ⟨Int.mul_nonneg hx.1 hy.1, by omega⟩
theorem mul_r2 {x y : Int} (hx : 0 ≤ x ∧ x ≤ 998244353) (hy : 0 ≤ y ∧ y < 998244353) : 0 ≤ x * y ∧ x * y ≤ 996491787298144256 := by
  have h1 : x * y ≤ 998244353 * y := Int.mul_le_mul_of_nonneg_right (by omega) hy.1
  have h2 : (998244353 : Int) * y ≤ 998244353 * 998244352 := Int.mul_le_mul_of_nonneg_left (by omega) (by decide)
  exact ⟨Int.mul_nonneg hx.1 hy.1, by omega⟩
theorem mod_r (a : Int) : 0 ≤ a % 998244353 ∧ a % 998244353 < 998244353 := by omega
def invI : Nat → Int → Int → Int → Int
  | 0, _, q, _ => q
  | f + 1, p, q, e => if 0 < e then invI f (p * p % 998244353) (if e % 2 = 1 then q * p % 998244353 else q) (e / 2) else q
def inv (v : Int) : Int := invI 31 v 1 998244351
theorem inv_s {p q e q2 : Int} {X : Int} (h : ∃ f : Nat, invI f p q e = X ∧ e < 2 ^ f) (h0 : 0 < e) (hq : (e % 2 = 1 ∧ q2 = q * p % 998244353) ∨ (e % 2 = 0 ∧ q2 = q)) : ∃ f : Nat, invI f (p * p % 998244353) q2 (e / 2) = X ∧ e / 2 < 2 ^ f := by
  obtain ⟨f, h1, h2⟩ := h
  cases f with
  | zero => rw [Int.pow_zero] at h2; omega
  | succ f =>
    refine ⟨f, ?_, ?_⟩
    · rw [← h1]
      show _ = if 0 < e then _ else _
      rw [if_pos h0]
      congr 1
      rcases hq with ⟨a, b⟩ | ⟨a, b⟩
      · rw [if_pos a, b]
      · rw [if_neg (by omega), b]
    · rw [Int.pow_succ] at h2
      omega
theorem inv_e {p q e X : Int} (h : ∃ f : Nat, invI f p q e = X ∧ e < 2 ^ f) (h0 : e ≤ 0) : q = X := by
  obtain ⟨f, h1, _⟩ := h
  cases f with
  | zero => exact h1
  | succ f =>
    rw [← h1]
    show q = if 0 < e then _ else _
    rw [if_neg (by omega)]
/-! levels, exactly -/
def EX : Nat → Int → Int → Int
  | 0, s, h => if s = h then 1 else 0
  | n + 1, s, h => if 0 ≤ h ∧ h ≤ 5 then EX n s (h - 1) + 2 * EX n s h + EX n s (h + 1) else 0
def tE (j : Int) : Int := EX j.toNat 0 0
def lvE (n : Nat) (j : Int) : Int := if j ≤ 5 then EX n 0 j % 998244353 else 0
theorem EX_out {s h : Int} (hs : 0 ≤ s ∧ s ≤ 5) (hh : h < 0 ∨ 5 < h) : ∀ n : Nat, EX n s h = 0
  | 0 => by
    show (if s = h then (1 : Int) else 0) = 0
    rw [if_neg (by omega)]
  | n + 1 => by
    show (if 0 ≤ h ∧ h ≤ 5 then _ else (0 : Int)) = 0
    rw [if_neg (by omega)]
theorem EX_s {n : Nat} {s h : Int} (hh : 0 ≤ h ∧ h ≤ 5) : EX (n + 1) s h = EX n s (h - 1) + 2 * EX n s h + EX n s (h + 1) := by
  show (if 0 ≤ h ∧ h ≤ 5 then _ else (0 : Int)) = _
  rw [if_pos hh]
theorem sumZ_one {f : Int → Int} {i : Int} {n : Nat} (h0 : 0 ≤ i) (h1 : i < n) : sumZ (fun k => if k = i then f k else 0) n = f i := by
  rw [show n = i.toNat + (1 + (n - (i.toNat + 1))) by omega, sumZ_app, sumZ_app, sumZ_pos (n := i.toNat) (fun k a b => if_neg (by omega)), sumZ_pos (n := n - (i.toNat + 1)) (fun k a b => if_neg (by omega))]
  show (0 : Int) + ((0 + if (i.toNat : Int) + ((0 : Nat) : Int) = i then f ((i.toNat : Int) + ((0 : Nat) : Int)) else 0) + 0) = f i
  rw [show (i.toNat : Int) + ((0 : Nat) : Int) = i by omega, if_pos rfl]
  omega
theorem EX_ck {a : Nat} {s : Int} (hs : 0 ≤ s ∧ s ≤ 5) : ∀ (b : Nat) (h : Int), sumZ (fun k => EX a s k * EX b k h) 6 = EX (a + b) s h
  | 0, h => by
    have e : (fun k => EX a s k * EX 0 k h) = (fun k => if k = h then EX a s k else 0) := by
      funext k
      show EX a s k * (if k = h then 1 else 0) = _
      split
      · exact Int.mul_one _
      · exact Int.mul_zero _
    rw [e]
    by_cases q : 0 ≤ h ∧ h ≤ 5
    · exact sumZ_one q.1 (by omega)
    · rw [sumZ_pos (fun k a b => if_neg (by omega))]
      exact (EX_out hs (by omega) a).symm
  | b + 1, h => by
    by_cases q : 0 ≤ h ∧ h ≤ 5
    · show _ = EX ((a + b) + 1) s h
      rw [EX_s q, ← EX_ck hs b (h - 1), ← EX_ck hs b h, ← EX_ck hs b (h + 1)]
      have e : (fun k => EX a s k * EX (b + 1) k h) = (fun k => (EX a s k * EX b k (h - 1) + (EX a s k * EX b k h + EX a s k * EX b k h)) + EX a s k * EX b k (h + 1)) := by
        funext k
        rw [EX_s q, Int.mul_add, Int.mul_add, ← Int.mul_assoc, Int.mul_comm (EX a s k) 2, Int.mul_assoc]
        omega
      rw [e, sumZ_add (f := fun k => EX a s k * EX b k (h - 1) + (EX a s k * EX b k h + EX a s k * EX b k h)), sumZ_add (f := fun k => EX a s k * EX b k (h - 1)), sumZ_add]
      omega
    · rw [sumZ_pos]
      · exact (EX_out hs (by omega) (a + (b + 1))).symm
      · intro k k0 k1
        rw [EX_out (by omega) (by omega) (b + 1)]
        exact Int.mul_zero _
theorem t_rec (n : Nat) : EX (n + 6) 0 0 = 12 * EX (n + 5) 0 0 - 55 * EX (n + 4) 0 0 + 120 * EX (n + 3) 0 0 - 126 * EX (n + 2) 0 0 + 56 * EX (n + 1) 0 0 - 7 * EX n 0 0 := by
  have q : ∀ a b : Nat, b = a + 1 → EX b 0 0 = 2 * EX a 0 0 + EX a 0 1 ∧ EX b 0 1 = EX a 0 0 + 2 * EX a 0 1 + EX a 0 2 ∧ EX b 0 2 = EX a 0 1 + 2 * EX a 0 2 + EX a 0 3 ∧ EX b 0 3 = EX a 0 2 + 2 * EX a 0 3 + EX a 0 4 ∧ EX b 0 4 = EX a 0 3 + 2 * EX a 0 4 + EX a 0 5 ∧ EX b 0 5 = EX a 0 4 + 2 * EX a 0 5 := by
    intro a b hb
    subst hb
    have z1 := EX_out (s := 0) (h := -1) (by omega) (by omega) a
    have z2 := EX_out (s := 0) (h := 6) (by omega) (by omega) a
    rw [EX_s (h := 0) (by omega), EX_s (h := 1) (by omega), EX_s (h := 2) (by omega), EX_s (h := 3) (by omega), EX_s (h := 4) (by omega), EX_s (h := 5) (by omega)]
    refine ⟨?_, rfl, rfl, rfl, rfl, ?_⟩
    · show EX a 0 (-1) + 2 * EX a 0 0 + EX a 0 1 = _
      omega
    · show EX a 0 4 + 2 * EX a 0 5 + EX a 0 6 = _
      omega
  have q0 := q n (n + 1) rfl
  have q1 := q (n + 1) (n + 2) rfl
  have q2 := q (n + 2) (n + 3) rfl
  have q3 := q (n + 3) (n + 4) rfl
  have q4 := q (n + 4) (n + 5) rfl
  have q5 := q (n + 5) (n + 6) rfl
  omega
/-- the same by a list, to be reckoned -/
def stE (L : List Int) : List Int := [2 * arL L 0 + arL L 1, arL L 0 + 2 * arL L 1 + arL L 2, arL L 1 + 2 * arL L 2 + arL L 3, arL L 2 + 2 * arL L 3 + arL L 4, arL L 3 + 2 * arL L 4 + arL L 5, arL L 4 + 2 * arL L 5]
def EL : Nat → List Int
  | 0 => [1, 0, 0, 0, 0, 0]
  | n + 1 => stE (EL n)
theorem EL_EX : ∀ n : Nat, arL (EL n) 0 = EX n 0 0 ∧ arL (EL n) 1 = EX n 0 1 ∧ arL (EL n) 2 = EX n 0 2 ∧ arL (EL n) 3 = EX n 0 3 ∧ arL (EL n) 4 = EX n 0 4 ∧ arL (EL n) 5 = EX n 0 5
  | 0 => ⟨rfl, rfl, rfl, rfl, rfl, rfl⟩
  | n + 1 => by
    obtain ⟨h0, h1, h2, h3, h4, h5⟩ := EL_EX n
    have z1 := EX_out (s := 0) (h := -1) (by omega) (by omega) n
    have z2 := EX_out (s := 0) (h := 6) (by omega) (by omega) n
    rw [EX_s (h := 0) (by omega), EX_s (h := 1) (by omega), EX_s (h := 2) (by omega), EX_s (h := 3) (by omega), EX_s (h := 4) (by omega), EX_s (h := 5) (by omega)]
    refine ⟨?_, ?_, ?_, ?_, ?_, ?_⟩
    · show 2 * arL (EL n) 0 + arL (EL n) 1 = EX n 0 (-1) + 2 * EX n 0 0 + EX n 0 1
      omega
    · show arL (EL n) 0 + 2 * arL (EL n) 1 + arL (EL n) 2 = EX n 0 0 + 2 * EX n 0 1 + EX n 0 2
      omega
    · show arL (EL n) 1 + 2 * arL (EL n) 2 + arL (EL n) 3 = EX n 0 1 + 2 * EX n 0 2 + EX n 0 3
      omega
    · show arL (EL n) 2 + 2 * arL (EL n) 3 + arL (EL n) 4 = EX n 0 2 + 2 * EX n 0 3 + EX n 0 4
      omega
    · show arL (EL n) 3 + 2 * arL (EL n) 4 + arL (EL n) 5 = EX n 0 3 + 2 * EX n 0 4 + EX n 0 5
      omega
    · show arL (EL n) 4 + 2 * arL (EL n) 5 = EX n 0 4 + 2 * EX n 0 5 + EX n 0 6
      omega
def TL : List Int := (List.range 128).map (fun n => arL (EL n) 0 % 998244353)
theorem TL_t {j : Int} (h0 : 0 ≤ j) (h1 : j < 128) : arL TL j = tE j % 998244353 := by
  unfold TL
  have e : (List.range 128).map (fun n => arL (EL n) 0 % 998244353) = (List.range 128).map (fun n : Nat => (fun z : Int => tE z % 998244353) (n : Int)) := by
    refine List.map_congr_left (fun a _ => ?_)
    show arL (EL a) 0 % 998244353 = EX ((a : Int).toNat) 0 0 % 998244353
    rw [(EL_EX a).1, Int.toNat_natCast]
  rw [e]
  exact arL_map (f := fun z : Int => tE z % 998244353) h0 (by omega)
/-! one step of the class's levels: all that is pushed -/
def pkL (nw : Int → Int) (h j : Int) (n : Nat) : Int := sumZ (fun k => if j = h + sdy k then nw h else 0) n
def psL (nw : Int → Int) (n : Nat) (j : Int) : Int := sumZ (fun h => pkL nw h j 4) n
theorem lev_fin {nw : Int → Int} {n : Nat} (hn : ∀ j, 0 ≤ j → j < 31 → nw j = lvE n j) {j : Int} (h0 : 0 ≤ j) (h1 : j ≤ 5) : psL nw 6 j % 998244353 = EX (n + 1) 0 j % 998244353 := by
  have n0 : nw 0 = EX n 0 0 % 998244353 := (hn 0 (by omega) (by omega)).trans (if_pos (by omega))
  have n1 : nw 1 = EX n 0 1 % 998244353 := (hn 1 (by omega) (by omega)).trans (if_pos (by omega))
  have n2 : nw 2 = EX n 0 2 % 998244353 := (hn 2 (by omega) (by omega)).trans (if_pos (by omega))
  have n3 : nw 3 = EX n 0 3 % 998244353 := (hn 3 (by omega) (by omega)).trans (if_pos (by omega))
  have n4 : nw 4 = EX n 0 4 % 998244353 := (hn 4 (by omega) (by omega)).trans (if_pos (by omega))
  have n5 : nw 5 = EX n 0 5 % 998244353 := (hn 5 (by omega) (by omega)).trans (if_pos (by omega))
  have z1 := EX_out (s := 0) (h := -1) (by omega) (by omega) n
  have z2 := EX_out (s := 0) (h := 6) (by omega) (by omega) n
  rw [EX_s ⟨h0, h1⟩]
  rcases (show j = 0 ∨ j = 1 ∨ j = 2 ∨ j = 3 ∨ j = 4 ∨ j = 5 by omega) with rfl | rfl | rfl | rfl | rfl | rfl
  · have e : psL nw 6 0 = nw 0 + nw 0 + nw 1 := by simp [psL, pkL, sumZ, sdy]
    rw [e]
    show _ = (EX n 0 (-1) + 2 * EX n 0 0 + EX n 0 1) % 998244353
    omega
  · have e : psL nw 6 1 = nw 0 + (nw 1 + nw 1) + nw 2 := by simp [psL, pkL, sumZ, sdy]
    rw [e]
    show _ = (EX n 0 0 + 2 * EX n 0 1 + EX n 0 2) % 998244353
    omega
  · have e : psL nw 6 2 = nw 1 + (nw 2 + nw 2) + nw 3 := by simp [psL, pkL, sumZ, sdy]
    rw [e]
    show _ = (EX n 0 1 + 2 * EX n 0 2 + EX n 0 3) % 998244353
    omega
  · have e : psL nw 6 3 = nw 2 + (nw 3 + nw 3) + nw 4 := by simp [psL, pkL, sumZ, sdy]
    rw [e]
    show _ = (EX n 0 2 + 2 * EX n 0 3 + EX n 0 4) % 998244353
    omega
  · have e : psL nw 6 4 = nw 3 + (nw 4 + nw 4) + nw 5 := by simp [psL, pkL, sumZ, sdy]
    rw [e]
    show _ = (EX n 0 3 + 2 * EX n 0 4 + EX n 0 5) % 998244353
    omega
  · have e : psL nw 6 5 = nw 4 + (nw 5 + nw 5) := by simp [psL, pkL, sumZ, sdy]
    rw [e]
    show _ = (EX n 0 4 + 2 * EX n 0 5 + EX n 0 6) % 998244353
    omega
theorem psL_s {nw : Int → Int} {h j : Int} (h0 : 0 ≤ h) : psL nw (h + 1).toNat j = psL nw h.toNat j + pkL nw h j 4 := by
  unfold psL
  rw [sumZ_s h0]
theorem pkL_s {nw : Int → Int} {h j k : Int} (h0 : 0 ≤ k) : pkL nw h j (k + 1).toNat = pkL nw h j k.toNat + (if j = h + sdy k then nw h else 0) := by
  unfold pkL
  rw [sumZ_s h0]
/-! Berlekamp and Massey, by lists -/
def bmMiss (l : Int → Int) (n : Int) : Nat → Int
  | 0 => 0
  | i + 1 => (bmMiss l n i + l (i : Int) * arL TL (n - (i : Int))) % 998244353
def bmMend (share gap : Int) (L O : List Int) : List Int := (List.range 64).map (fun (j : Nat) => if (j : Int) < gap then arL L (j : Int) else (arL L (j : Int) + (998244353 - share) * arL O ((j : Int) - gap)) % 998244353)
abbrev BMs := Int × Int × Int × List Int × List Int
def bmS (s : BMs) (n : Int) : BMs :=
  if bmMiss (arL s.2.2.2.1) n (min s.1 n + 1).toNat = 0 then (s.1, s.2.1 + 1, s.2.2.1, s.2.2.2.1, s.2.2.2.2)
  else if 2 * s.1 ≤ n then (n + 1 - s.1, 1, bmMiss (arL s.2.2.2.1) n (min s.1 n + 1).toNat, bmMend (bmMiss (arL s.2.2.2.1) n (min s.1 n + 1).toNat * inv s.2.2.1 % 998244353) s.2.1 s.2.2.2.1 s.2.2.2.2, s.2.2.2.1)
  else (s.1, s.2.1 + 1, s.2.2.1, bmMend (bmMiss (arL s.2.2.2.1) n (min s.1 n + 1).toNat * inv s.2.2.1 % 998244353) s.2.1 s.2.2.2.1 s.2.2.2.2, s.2.2.2.2)
def bmU : List Int := (List.range 64).map (fun (j : Nat) => if (j : Int) = 0 then 1 else 0)
def bmI : Nat → BMs
  | 0 => (0, 1, 1, bmU, bmU)
  | n + 1 => bmS (bmI n) (n : Int)
def bmOK (s : BMs) : Bool := decide (0 ≤ s.1 ∧ s.1 ≤ 31 ∧ 1 ≤ s.2.1 ∧ s.2.1 ≤ 63 ∧ 1 ≤ s.2.2.1 ∧ s.2.2.1 < 998244353) && s.2.2.2.1.all (fun x => decide (0 ≤ x ∧ x < 998244353)) && s.2.2.2.2.all (fun x => decide (0 ≤ x ∧ x < 998244353))
def bmChk : Nat → BMs → Nat → Bool
  | 0, s, _ => bmOK s && decide (s.1 = 6) && decide (((List.range 6).map fun (k : Nat) => (998244353 - arL s.2.2.2.1 ((k : Int) + 1)) % 998244353) = [12, 998244298, 120, 998244227, 56, 998244346])
  | f + 1, s, n => bmOK s && bmChk f (bmS s (n : Int)) (n + 1)
theorem bmChk_at : ∀ (f n : Nat), bmChk f (bmI n) n = true → ∀ k : Nat, k ≤ f → bmOK (bmI (n + k)) = true
  | 0, n, h, k, hk => by
    rw [show n + k = n by omega]
    unfold bmChk at h
    rw [Bool.and_eq_true, Bool.and_eq_true] at h
    exact h.1.1
  | f + 1, n, h, k, hk => by
    unfold bmChk at h
    rw [Bool.and_eq_true] at h
    by_cases e : k = 0
    · subst e
      exact h.1
    · have h2 := bmChk_at f (n + 1) h.2 (k - 1) (by omega)
      rw [show n + 1 + (k - 1) = n + k by omega] at h2
      exact h2
theorem bmChk_end : ∀ (f n : Nat), bmChk f (bmI n) n = true → (bmI (n + f)).1 = 6 ∧ ((List.range 6).map fun (k : Nat) => (998244353 - arL (bmI (n + f)).2.2.2.1 ((k : Int) + 1)) % 998244353) = [12, 998244298, 120, 998244227, 56, 998244346]
  | 0, n, h => by
    unfold bmChk at h
    rw [Bool.and_eq_true, Bool.and_eq_true, decide_eq_true_iff, decide_eq_true_iff] at h
    exact ⟨h.1.2, h.2⟩
  | f + 1, n, h => by
    unfold bmChk at h
    rw [Bool.and_eq_true] at h
    have h2 := bmChk_end f (n + 1) h.2
    rw [show n + 1 + f = n + (f + 1) by omega] at h2
    exact h2
set_option maxRecDepth 100000 in
theorem bmChk_ok : bmChk 62 (bmI 0) 0 = true := by decide +kernel
theorem bm_r {n : Int} (h : 0 ≤ n ∧ n ≤ 62) : 0 ≤ (bmI n.toNat).1 ∧ (bmI n.toNat).1 ≤ 31 ∧ 1 ≤ (bmI n.toNat).2.1 ∧ (bmI n.toNat).2.1 ≤ 63 ∧ 1 ≤ (bmI n.toNat).2.2.1 ∧ (bmI n.toNat).2.2.1 < 998244353 := by
  have h1 := bmChk_at 62 0 bmChk_ok n.toNat (by omega)
  rw [Nat.zero_add] at h1
  unfold bmOK at h1
  rw [Bool.and_eq_true, Bool.and_eq_true, decide_eq_true_iff] at h1
  exact h1.1.1
theorem all_r {L : List Int} (h : L.all (fun x => decide (0 ≤ x ∧ x < 998244353)) = true) (j : Int) : 0 ≤ arL L j ∧ arL L j < 998244353 := by
  unfold arL
  rw [List.getD_eq_getElem?_getD]
  cases e : L[j.toNat]? with
  | none => exact ⟨by decide, by decide⟩
  | some x => exact of_decide_eq_true (List.all_eq_true.mp h x (List.mem_of_getElem? e))
theorem bm_rL {n : Int} (h : 0 ≤ n ∧ n ≤ 62) (j : Int) : 0 ≤ arL (bmI n.toNat).2.2.2.1 j ∧ arL (bmI n.toNat).2.2.2.1 j < 998244353 := by
  have h1 := bmChk_at 62 0 bmChk_ok n.toNat (by omega)
  rw [Nat.zero_add] at h1
  unfold bmOK at h1
  rw [Bool.and_eq_true, Bool.and_eq_true] at h1
  exact all_r h1.1.2 j
theorem bm_rO {n : Int} (h : 0 ≤ n ∧ n ≤ 62) (j : Int) : 0 ≤ arL (bmI n.toNat).2.2.2.2 j ∧ arL (bmI n.toNat).2.2.2.2 j < 998244353 := by
  have h1 := bmChk_at 62 0 bmChk_ok n.toNat (by omega)
  rw [Nat.zero_add] at h1
  unfold bmOK at h1
  rw [Bool.and_eq_true, Bool.and_eq_true] at h1
  exact all_r h1.2 j
def bmD (n : Int) : Int := (bmI n.toNat).1
def bmG (n : Int) : Int := (bmI n.toNat).2.1
def bmM (n : Int) : Int := (bmI n.toNat).2.2.1
def bmL (n : Int) : List Int := (bmI n.toNat).2.2.2.1
def bmO (n : Int) : List Int := (bmI n.toNat).2.2.2.2
def bmQ (n : Int) : Int := bmMiss (arL (bmL n)) n (min (bmD n) n + 1).toNat
theorem bm_step {n : Int} (h : 0 ≤ n) : bmI (n + 1).toNat = bmS (bmI n.toNat) n := by
  rw [show (n + 1).toNat = n.toNat + 1 by omega]
  show bmS (bmI n.toNat) ((n.toNat : Nat) : Int) = _
  rw [Int.toNat_of_nonneg h]
theorem bm_a {n : Int} (h : 0 ≤ n) (h1 : bmQ n = 0) : bmD (n + 1) = bmD n ∧ bmG (n + 1) = bmG n + 1 ∧ bmM (n + 1) = bmM n ∧ bmL (n + 1) = bmL n ∧ bmO (n + 1) = bmO n := by
  unfold bmD bmG bmM bmL bmO
  rw [bm_step h]
  unfold bmS
  rw [if_pos (show bmMiss (arL (bmI n.toNat).2.2.2.1) n (min (bmI n.toNat).1 n + 1).toNat = 0 from h1)]
  exact ⟨rfl, rfl, rfl, rfl, rfl⟩
theorem bm_b {n : Int} (h : 0 ≤ n) (h1 : bmQ n ≠ 0) (h2 : 2 * bmD n ≤ n) : bmD (n + 1) = n + 1 - bmD n ∧ bmG (n + 1) = 1 ∧ bmM (n + 1) = bmQ n ∧ bmL (n + 1) = bmMend (bmQ n * inv (bmM n) % 998244353) (bmG n) (bmL n) (bmO n) ∧ bmO (n + 1) = bmL n := by
  unfold bmD bmG bmM bmL bmO
  rw [bm_step h]
  unfold bmS
  rw [if_neg (show ¬ bmMiss (arL (bmI n.toNat).2.2.2.1) n (min (bmI n.toNat).1 n + 1).toNat = 0 from h1), if_pos (show 2 * (bmI n.toNat).1 ≤ n from h2)]
  exact ⟨rfl, rfl, rfl, rfl, rfl⟩
theorem bm_c {n : Int} (h : 0 ≤ n) (h1 : bmQ n ≠ 0) (h2 : n < 2 * bmD n) : bmD (n + 1) = bmD n ∧ bmG (n + 1) = bmG n + 1 ∧ bmM (n + 1) = bmM n ∧ bmL (n + 1) = bmMend (bmQ n * inv (bmM n) % 998244353) (bmG n) (bmL n) (bmO n) ∧ bmO (n + 1) = bmO n := by
  unfold bmD bmG bmM bmL bmO
  rw [bm_step h]
  unfold bmS
  rw [if_neg (show ¬ bmMiss (arL (bmI n.toNat).2.2.2.1) n (min (bmI n.toNat).1 n + 1).toNat = 0 from h1), if_neg (show ¬ 2 * (bmI n.toNat).1 ≤ n from by show ¬ 2 * bmD n ≤ n; omega)]
  exact ⟨rfl, rfl, rfl, rfl, rfl⟩
theorem bm_parts {k : Int} (h : 0 ≤ k ∧ k < 6) : (998244353 - arL (bmL 62) (k + 1)) % 998244353 = arL [12, 998244298, 120, 998244227, 56, 998244346] k := by
  have h1 := (bmChk_end 62 0 bmChk_ok).2
  rw [Nat.zero_add] at h1
  have e : (62 : Int).toNat = 62 := rfl
  unfold bmL
  rw [e]
  generalize (bmI 62).2.2.2.1 = L at h1 ⊢
  rw [← h1]
  exact (arL_map (f := fun k => (998244353 - arL L (k + 1)) % 998244353) h.1 (by omega)).symm
theorem bmD_62 : bmD 62 = 6 := by
  have h1 := (bmChk_end 62 0 bmChk_ok).1
  rw [Nat.zero_add] at h1
  exact h1
/-! x to a power under the rule: the sums that it keeps -/
def rl (f : Int → Int) : Prop := ∀ k, 0 ≤ k → k < 6 → f (k + 1) = arL [12, 998244298, 120, 998244227, 56, 998244346] k
def pS (f : Int → Int) (m : Int) (n : Nat) : Int := sumZ (fun i => f i * tE (i + m)) n
theorem sum_mod {f g : Int → Int} : ∀ {n : Nat}, (∀ k : Int, 0 ≤ k → k < n → f k % 998244353 = g k % 998244353) → sumZ f n % 998244353 = sumZ g n % 998244353
  | 0, _ => rfl
  | n + 1, h => by
    have h1 := sum_mod (n := n) (fun k a b => h k a (by omega))
    have h2 := h n (by omega) (by omega)
    show (sumZ f n + f n) % 998244353 = (sumZ g n + g n) % 998244353
    omega
theorem mul_mod1 (x y : Int) : (x % 998244353 * y) % 998244353 = (x * y) % 998244353 := by
  rw [Int.mul_emod, Int.emod_emod, ← Int.mul_emod]
theorem mul_mod2 (x y : Int) : (x * (y % 998244353)) % 998244353 = (x * y) % 998244353 := by
  rw [Int.mul_emod, Int.emod_emod, ← Int.mul_emod]
theorem rl_rec {f : Int → Int} (hf : rl f) {j : Int} (hj : 6 ≤ j) : (f 1 * tE (j - 1) + f 2 * tE (j - 2) + f 3 * tE (j - 3) + f 4 * tE (j - 4) + f 5 * tE (j - 5) + f 6 * tE (j - 6)) % 998244353 = tE j % 998244353 := by
  have e1 : f 1 = 12 := hf 0 (by omega) (by omega)
  have e2 : f 2 = 998244298 := hf 1 (by omega) (by omega)
  have e3 : f 3 = 120 := hf 2 (by omega) (by omega)
  have e4 : f 4 = 998244227 := hf 3 (by omega) (by omega)
  have e5 : f 5 = 56 := hf 4 (by omega) (by omega)
  have e6 : f 6 = 998244346 := hf 5 (by omega) (by omega)
  have h := t_rec (j - 6).toNat
  unfold tE
  rw [show (j - 1).toNat = (j - 6).toNat + 5 by omega, show (j - 2).toNat = (j - 6).toNat + 4 by omega, show (j - 3).toNat = (j - 6).toNat + 3 by omega, show (j - 4).toNat = (j - 6).toNat + 2 by omega, show (j - 5).toNat = (j - 6).toNat + 1 by omega, show j.toNat = (j - 6).toNat + 6 by omega, e1, e2, e3, e4, e5, e6, h]
  omega
theorem rl_r {f : Int → Int} (hf : rl f) {j : Int} (h : 1 ≤ j ∧ j ≤ 6) : 0 ≤ f j ∧ f j < 998244353 := by
  have h1 := hf (j - 1) (by omega) (by omega)
  rw [show j - 1 + 1 = j by omega] at h1
  rw [h1]
  exact all_r (by decide) _
/-- a place's number changed: the sum -/
theorem pS_zu {q : Int → Int} {i v m : Int} : ∀ {n : Nat}, 0 ≤ i → i < n → pS (zu q i v) m n = pS q m n + (v - q i) * tE (i + m)
  | 0, h0, h1 => by omega
  | n + 1, h0, h1 => by
    show pS (zu q i v) m n + zu q i v n * tE (n + m) = pS q m n + q n * tE (n + m) + (v - q i) * tE (i + m)
    by_cases e : i = n
    · subst e
      have h2 : pS (zu q (n : Int) v) m n = pS q m n := sumZ_cong (fun k a b => by
        show zu q (n : Int) v k * _ = _
        unfold zu
        rw [if_neg (by omega)])
      rw [h2]
      unfold zu
      rw [if_pos rfl, Int.sub_mul]
      omega
    · rw [pS_zu (n := n) h0 (by omega)]
      unfold zu
      rw [if_neg (fun h => e h.symm)]
      omega
theorem pS_zu_out {q : Int → Int} {i v m : Int} {n : Nat} (h : (n : Int) ≤ i) : pS (zu q i v) m n = pS q m n := sumZ_cong (fun k a b => by
  show zu q i v k * _ = _
  unfold zu
  rw [if_neg (by omega)])
/-- what is left to take off at place j, i - 1 of six parts done -/
def rmn (f : Int → Int) (jm : Int) (n : Nat) : Int := tE jm - sumZ (fun k => f (k + 1) * tE (jm - 1 - k)) n
theorem rmn_6 {f : Int → Int} (hf : rl f) {jm : Int} (h : 6 ≤ jm) : rmn f jm 6 % 998244353 = 0 := by
  have h1 := rl_rec hf h
  have e : sumZ (fun k => f (k + 1) * tE (jm - 1 - k)) 6 = f 1 * tE (jm - 1) + f 2 * tE (jm - 2) + f 3 * tE (jm - 3) + f 4 * tE (jm - 4) + f 5 * tE (jm - 5) + f 6 * tE (jm - 6) := by
    show 0 + f (0 + 1) * tE (jm - 1 - 0) + f (1 + 1) * tE (jm - 1 - 1) + f (2 + 1) * tE (jm - 1 - 2) + f (3 + 1) * tE (jm - 1 - 3) + f (4 + 1) * tE (jm - 1 - 4) + f (5 + 1) * tE (jm - 1 - 5) = _
    rw [show jm - 1 - 0 = jm - 1 by omega, show jm - 1 - 1 = jm - 2 by omega, show jm - 1 - 2 = jm - 3 by omega, show jm - 1 - 3 = jm - 4 by omega, show jm - 1 - 4 = jm - 5 by omega, show jm - 1 - 5 = jm - 6 by omega]
    show 0 + f 1 * tE (jm - 1) + f 2 * tE (jm - 2) + f 3 * tE (jm - 3) + f 4 * tE (jm - 4) + f 5 * tE (jm - 5) + f 6 * tE (jm - 6) = _
    omega
  unfold rmn
  rw [e]
  omega
theorem red_step {f q : Int → Int} {j i m S : Int} (hi : 1 ≤ i ∧ i ≤ 6) (hj : 6 ≤ j) (h : (pS q m j.toNat + q j * rmn f (j + m) (i - 1).toNat) % 998244353 = S) :
    (pS (zu q (j - i) ((q (j - i) + q j * f i) % 998244353)) m j.toNat + zu q (j - i) ((q (j - i) + q j * f i) % 998244353) j * rmn f (j + m) (i + 1 - 1).toNat) % 998244353 = S := by
  have hz : zu q (j - i) ((q (j - i) + q j * f i) % 998244353) j = q j := by unfold zu; rw [if_neg (by omega)]
  have hr : rmn f (j + m) (i + 1 - 1).toNat = rmn f (j + m) (i - 1).toNat - f i * tE (j - i + m) := by
    unfold rmn
    rw [show i + 1 - 1 = (i - 1) + 1 by omega, sumZ_s (by omega), show i - 1 + 1 = i by omega, show j + m - 1 - (i - 1) = j - i + m by omega]
    omega
  rw [hz, hr, pS_zu (by omega) (by omega), ← h, Int.mul_sub]
  have e1 : ((q (j - i) + q j * f i) % 998244353 - q (j - i)) * tE (j - i + m) % 998244353 = (q j * f i) * tE (j - i + m) % 998244353 := by
    rw [Int.mul_emod, show ((q (j - i) + q j * f i) % 998244353 - q (j - i)) % 998244353 = (q j * f i) % 998244353 by omega, ← Int.mul_emod]
  rw [Int.mul_assoc] at e1
  omega
theorem red_out {f q : Int → Int} {j m S : Int} (hf : rl f) (hj : 6 ≤ j) (hm : 0 ≤ m) (h : (pS q m j.toNat + q j * rmn f (j + m) (7 - 1 : Int).toNat) % 998244353 = S) : pS q m j.toNat % 998244353 = S := by
  have h1 := rmn_6 hf (jm := j + m) (by omega)
  have h2 : (q j * rmn f (j + m) 6) % 998244353 = 0 := by
    rw [Int.mul_emod, h1, Int.mul_zero]
    rfl
  have h3 : (7 - 1 : Int).toNat = 6 := rfl
  rw [h3] at h
  omega
theorem red_in {f q : Int → Int} {j m S : Int} (hj : 0 ≤ j) (h : pS q m (j + 1).toNat % 998244353 = S) : (pS q m j.toNat + q j * rmn f (j + m) (1 - 1 : Int).toNat) % 998244353 = S := by
  rw [← h]
  unfold pS
  rw [sumZ_s hj]
  show (_ + q j * (tE (j + m) - 0)) % 998244353 = _
  rw [Int.sub_zero]
/-- all pairs' products, i rows and j more of the next -/
def sqS (r : Int → Int) (m : Int) (n : Nat) : Int := sumZ (fun i => sumZ (fun j => r i * r j * tE (i + j + m)) 6) n
def sqR (r : Int → Int) (m i : Int) (n : Nat) : Int := sumZ (fun j => r i * r j * tE (i + j + m)) n
theorem sq_step {q r : Int → Int} {i j m S : Int} (hi : 0 ≤ i ∧ i < 6) (hj : 0 ≤ j ∧ j < 6) (h : pS q m 11 % 998244353 = (S + sqR r m i j.toNat) % 998244353) : pS (zu q (i + j) ((q (i + j) + r i * r j) % 998244353)) m 11 % 998244353 = (S + sqR r m i (j + 1).toNat) % 998244353 := by
  have hr : sqR r m i (j + 1).toNat = sqR r m i j.toNat + r i * r j * tE (i + j + m) := by
    unfold sqR
    rw [sumZ_s hj.1]
  rw [hr, pS_zu (n := 11) (by omega) (by omega)]
  have e1 : ((q (i + j) + r i * r j) % 998244353 - q (i + j)) * tE (i + j + m) % 998244353 = (r i * r j) * tE (i + j + m) % 998244353 := by
    rw [Int.mul_emod, show ((q (i + j) + r i * r j) % 998244353 - q (i + j)) % 998244353 = (r i * r j) % 998244353 by omega, ← Int.mul_emod]
  omega
theorem sumZ_mulc {f : Int → Int} {c : Int} : ∀ n : Nat, sumZ (fun k => c * f k) n = c * sumZ f n
  | 0 => (Int.mul_zero c).symm
  | n + 1 => by
    show sumZ (fun k => c * f k) n + c * f n = c * (sumZ f n + f n)
    rw [sumZ_mulc n, Int.mul_add]
theorem sqS_val {r : Int → Int} {e : Int} (he : 0 ≤ e) (h : ∀ m, 0 ≤ m → pS r m 6 % 998244353 = tE (e + m) % 998244353) {m : Int} (hm : 0 ≤ m) : sqS r m 6 % 998244353 = tE (2 * e + m) % 998244353 := by
  have h1 : sqS r m 6 % 998244353 = sumZ (fun i => r i * tE (i + (e + m))) 6 % 998244353 := by
    unfold sqS
    refine sum_mod (fun i i0 i1 => ?_)
    have e1 : sumZ (fun j => r i * r j * tE (i + j + m)) 6 = r i * pS r (i + m) 6 := by
      unfold pS
      rw [← sumZ_mulc]
      refine sumZ_cong (fun j _ _ => ?_)
      rw [Int.mul_assoc, show i + j + m = j + (i + m) by omega]
    rw [e1, Int.mul_emod, h (i + m) (by omega), ← Int.mul_emod, show e + (i + m) = i + (e + m) by omega]
  rw [h1]
  have h2 := h (e + m) (by omega)
  unfold pS at h2
  rw [h2, show e + (e + m) = 2 * e + m by omega]
theorem raise_val {r q : Int → Int} {m : Int} (h0 : q 0 = 0) (h : ∀ i, 0 ≤ i → i < 6 → q (i + 1) = r i) : pS q m 7 = pS r (m + 1) 6 := by
  unfold pS
  rw [show (7 : Nat) = 1 + 6 by rfl, sumZ_app]
  have e : sumZ (fun i => q i * tE (i + m)) 1 = 0 := by
    show (0 : Int) + q ((0 : Nat) : Int) * _ = 0
    rw [show (((0 : Nat) : Int)) = (0 : Int) by rfl, h0, Int.zero_mul]
    rfl
  rw [e, Int.zero_add]
  refine sumZ_cong (fun k a b => ?_)
  show q (((1 : Nat) : Int) + k) * tE (((1 : Nat) : Int) + k + m) = _
  rw [show ((1 : Nat) : Int) + k = k + 1 by omega, h k a (by omega), show k + 1 + m = k + (m + 1) by omega]
theorem pS_0 {q : Int → Int} {m : Int} {n : Nat} (h : ∀ j : Int, 0 ≤ j → j < n → q j = 0) : pS q m n = 0 := sumZ_pos (fun k a b => by
  show q k * _ = 0
  rw [h k a b, Int.zero_mul])
/-- the bits of n from above -/
theorem bit_s {n b : Int} (hb : 0 ≤ b ∧ b ≤ 62) (hn : 0 ≤ n) : n / 2 ^ b.toNat = 2 * (n / 2 ^ (b + 1).toNat) + n / 2 ^ b.toNat % 2 := by
  rw [show (b + 1).toNat = b.toNat + 1 by omega, Int.pow_succ, ← Int.ediv_ediv_of_nonneg (by have := Int.pow_pos (n := 2) (m := b.toNat) (by decide); omega)]
  omega
theorem bit_r {n b : Int} (hn : 0 ≤ n ∧ n < 9223372036854775808) : 0 ≤ n / 2 ^ b.toNat ∧ n / 2 ^ b.toNat < 9223372036854775808 := by
  have h1 : (1 : Int) ≤ 2 ^ b.toNat := by have := Int.pow_pos (n := 2) (m := b.toNat) (by decide); omega
  exact ⟨Int.ediv_nonneg hn.1 (by omega), by have := Int.ediv_le_self (2 ^ b.toNat) hn.1; omega⟩
theorem bit_63 {n : Int} (hn : 0 ≤ n ∧ n < 9223372036854775808) : n / 2 ^ (62 + 1 : Int).toNat = 0 := by
  show n / 2 ^ 63 = 0
  rw [show (2 : Int) ^ 63 = 9223372036854775808 by decide]
  omega
end ZLEV
