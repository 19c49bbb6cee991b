section ZCNT
def sumZ (f : Int → Int) : Nat → Int
  | 0 => 0
  | n + 1 => sumZ f n + f (n : Int)
theorem sumZ_s {f : Int → Int} {k : Int} (h : 0 ≤ k) : sumZ f (k + 1).toNat = sumZ f k.toNat + f k := by
  rw [show (k + 1).toNat = k.toNat + 1 by omega]
  show sumZ f k.toNat + f ((k.toNat : Nat) : Int) = _
  rw [Int.toNat_of_nonneg h]
theorem sumZ_0 {f : Int → Int} : sumZ f (0 : Int).toNat = 0 := rfl
theorem sumZ_nn {f : Int → Int} : ∀ {n : Nat}, (∀ k : Int, 0 ≤ k → k < n → 0 ≤ f k) → 0 ≤ sumZ f n
  | 0, _ => Int.le_refl 0
  | n + 1, h => by
    have h1 := sumZ_nn (f := f) (n := n) (fun k h0 h1 => h k h0 (by omega))
    have h2 := h n (by omega) (by omega)
    show 0 ≤ sumZ f n + f (n : Int)
    omega
theorem sumZ_le {f : Int → Int} {m : Nat} : ∀ {n : Nat}, m ≤ n → (∀ k : Int, 0 ≤ k → k < n → 0 ≤ f k) → sumZ f m ≤ sumZ f n
  | 0, h, _ => by rw [show m = 0 by omega]; exact Int.le_refl _
  | n + 1, h, hn => by
    rcases Nat.lt_or_ge m (n + 1) with q | q
    · have h1 := sumZ_le (f := f) (m := m) (n := n) (by omega) (fun k h0 h1 => hn k h0 (by omega))
      have h2 := hn n (by omega) (by omega)
      show sumZ f m ≤ sumZ f n + f (n : Int)
      omega
    · rw [show m = n + 1 by omega]; exact Int.le_refl _
theorem sumZ_cong {f g : Int → Int} : ∀ {n : Nat}, (∀ k : Int, 0 ≤ k → k < n → f k = g k) → sumZ f n = sumZ g n
  | 0, _ => rfl
  | n + 1, h => by
    show sumZ f n + f (n : Int) = sumZ g n + g (n : Int)
    rw [sumZ_cong (fun k h0 h1 => h k h0 (by omega)), h n (by omega) (by omega)]
theorem sumZ_pos {f : Int → Int} : ∀ {n : Nat}, (∀ k : Int, 0 ≤ k → k < n → f k = 0) → sumZ f n = 0
  | 0, _ => rfl
  | n + 1, h => by
    show sumZ f n + f (n : Int) = 0
    rw [sumZ_pos (fun k h0 h1 => h k h0 (by omega)), h n (by omega) (by omega)]
    rfl
/-- walks counted from cell to cell, kept at 2 to the power 62 -/
def cntC (pas lp : Int → Int) (sc : Nat) (i0 : Int → Int) : Nat → Int → Int
  | 0, j => if pas j = 1 then i0 j else 0
  | r + 1, j => if pas j = 1 then min (sumZ (fun k => cntC pas lp sc i0 r (j + lp k)) sc) 4611686018427387904 else 0
/-- the same by told next squares (-1: none) -/
def cntR (nxt : Int → Int → Int) (sc : Nat) (i0 : Int → Int) : Nat → Int → Int
  | 0, s => i0 s
  | r + 1, s => min (sumZ (fun k => if 0 ≤ nxt s k then cntR nxt sc i0 r (nxt s k) else 0) sc) 4611686018427387904
theorem cntC_rng {pas lp : Int → Int} {sc : Nat} {i0 : Int → Int} (h0 : ∀ j, 0 ≤ i0 j ∧ i0 j ≤ 1) : ∀ (r : Nat) (j : Int), 0 ≤ cntC pas lp sc i0 r j ∧ cntC pas lp sc i0 r j ≤ 4611686018427387904
  | 0, j => by
    unfold cntC
    have := h0 j
    split <;> omega
  | r + 1, j => by
    have h1 : 0 ≤ sumZ (fun k => cntC pas lp sc i0 r (j + lp k)) sc := sumZ_nn (fun k _ _ => (cntC_rng h0 r _).1)
    unfold cntC
    split <;> omega
theorem cntR_rng {nxt : Int → Int → Int} {sc : Nat} {i0 : Int → Int} (h0 : ∀ j, 0 ≤ i0 j ∧ i0 j ≤ 1) : ∀ (r : Nat) (s : Int), 0 ≤ cntR nxt sc i0 r s ∧ cntR nxt sc i0 r s ≤ 4611686018427387904
  | 0, j => by
    unfold cntR
    have := h0 j
    omega
  | r + 1, j => by
    have h1 : 0 ≤ sumZ (fun k => if 0 ≤ nxt j k then cntR nxt sc i0 r (nxt j k) else 0) sc := sumZ_nn (fun k _ _ => by
      split
      · exact (cntR_rng h0 r _).1
      · exact Int.le_refl 0)
    unfold cntR
    omega
/-- the start's plane -/
def oP (j : Int) : Int := rpas 0 5 6 (fun _ => 0) (fun _ => 0) j
theorem oP_iff (j : Int) : oP j = if 3 ≤ j % 67 ∧ j % 67 ≤ 63 ∧ 3 ≤ j / 67 ∧ j / 67 ≤ 63 then 1 else 0 := by
  unfold oP rpas
  split
  · rw [if_pos ⟨by rfl, rfl⟩]
  · rfl
theorem oP_1 {j : Int} (h : oP j = 1) : 3 ≤ j % 67 ∧ j % 67 ≤ 63 ∧ 3 ≤ j / 67 ∧ j / 67 ≤ 63 := by
  rw [oP_iff] at h
  split at h
  · assumption
  · omega
theorem oP_01 (j : Int) : oP j = 0 ∨ oP j = 1 := by
  rw [oP_iff]
  split <;> omega
def nx0 (s k : Int) : Int := if -30 ≤ s / 61 - 30 + sdx k ∧ s / 61 - 30 + sdx k ≤ 30 ∧ -30 ≤ s % 61 - 30 + sdy k ∧ s % 61 - 30 + sdy k ≤ 30 then 61 * (s / 61 - 30 + sdx k + 30) + (s % 61 - 30 + sdy k) + 30 else -1
theorem slp_eq {k : Int} (h0 : 0 ≤ k) (h1 : k < 4) : slp k = sdy k * 67 + sdx k := by
  rcases (show k = 0 ∨ k = 1 ∨ k = 2 ∨ k = 3 by omega) with rfl | rfl | rfl | rfl <;> rfl
theorem sd_rng (k : Int) : -1 ≤ sdx k ∧ sdx k ≤ 1 ∧ -1 ≤ sdy k ∧ sdy k ≤ 1 := by
  unfold sdx sdy
  (repeat' split) <;> omega
/-- the two counts are one -/
theorem cnt_same {iC iR : Int → Int} (hi : ∀ x y, -30 ≤ x → x ≤ 30 → -30 ≤ y → y ≤ 30 → iC ((y + 33) * 67 + x + 33) = iR (61 * (x + 30) + y + 30)) :
    ∀ (r : Nat) (x y : Int), -30 ≤ x → x ≤ 30 → -30 ≤ y → y ≤ 30 → cntC oP slp 4 iC r ((y + 33) * 67 + x + 33) = cntR nx0 4 iR r (61 * (x + 30) + y + 30)
  | 0, x, y, a, b, c, d => by
    have ho : oP ((y + 33) * 67 + x + 33) = 1 := by rw [oP_iff, if_pos (by omega)]
    unfold cntC cntR
    rw [if_pos ho]
    exact hi x y a b c d
  | r + 1, x, y, a, b, c, d => by
    have ho : oP ((y + 33) * 67 + x + 33) = 1 := by rw [oP_iff, if_pos (by omega)]
    unfold cntC cntR
    rw [if_pos ho]
    congr 1
    refine sumZ_cong (fun k h0 h1 => ?_)
    have hs := sd_rng k
    have e1 : (61 * (x + 30) + y + 30) / 61 - 30 = x := by omega
    have e2 : (61 * (x + 30) + y + 30) % 61 - 30 = y := by omega
    have e3 := slp_eq h0 h1
    unfold nx0
    rw [e1, e2]
    by_cases q : -30 ≤ x + sdx k ∧ x + sdx k ≤ 30 ∧ -30 ≤ y + sdy k ∧ y + sdy k ≤ 30
    · rw [if_pos q, if_pos (by omega), e3, show (y + 33) * 67 + x + 33 + (sdy k * 67 + sdx k) = (y + sdy k + 33) * 67 + (x + sdx k) + 33 by omega]
      exact cnt_same hi r (x + sdx k) (y + sdy k) q.1 q.2.1 q.2.2.1 q.2.2.2
    · rw [if_neg q, if_neg (by omega), e3]
      have hz : ¬ oP ((y + 33) * 67 + x + 33 + (sdy k * 67 + sdx k)) = 1 := fun h => by
        have h2 := oP_1 h
        omega
      cases r with
      | zero => unfold cntC; rw [if_neg hz]
      | succ r => unfold cntC; rw [if_neg hz]
end ZCNT
