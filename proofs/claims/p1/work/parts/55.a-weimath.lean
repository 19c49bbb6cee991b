section ZWEI
/-! walks counted by a weight: by steps, square, last step, weight -/
def tgW (t l k : Int) : Int := if 0 < t ∧ l ≠ k then 1 else 0
def gnW (m y : Int) : Int := if m = 3 then 1 else if y = 0 then 1 else 0
def gaW (m t l k y : Int) : Int := if m = 1 then tgW t l k else gnW m y
def CL (m : Int) : Nat → Int → Int → Int → Int → Int
  | 0, x, y, e, w => if x = 0 ∧ y = 0 ∧ e = 0 ∧ w = 0 then 1 else 0
  | t + 1, x, y, e, w => if 0 ≤ e ∧ e < 4 then sumZ (fun l => CL m t (x - sdx e) (y - sdy e) l (w - gaW m (t : Int) l e y)) 4 else 0
def TT (m : Int) (n : Nat) (w : Int) : Int := sumZ (fun e => CL m n 0 0 e w) 4
theorem tgW_r (t l k : Int) : 0 ≤ tgW t l k ∧ tgW t l k ≤ 1 := by unfold tgW; split <;> omega
theorem gnW_r (m y : Int) : 0 ≤ gnW m y ∧ gnW m y ≤ 1 := by
  unfold gnW
  split
  · omega
  · split <;> omega
theorem gaW_r (m t l k y : Int) : 0 ≤ gaW m t l k y ∧ gaW m t l k y ≤ 1 := by
  unfold gaW
  split
  · exact tgW_r t l k
  · exact gnW_r m y
theorem sumZ_ex {f : Int → Int} : ∀ {n : Nat}, 0 < sumZ f n → ∃ k : Int, 0 ≤ k ∧ k < n ∧ 0 < f k
  | 0, h => absurd h (by show ¬ (0 : Int) < 0; omega)
  | n + 1, h => by
    by_cases q : 0 < f n
    · exact ⟨n, by omega, by omega, q⟩
    · have h2 : 0 < sumZ f n := by
        have h3 : 0 < sumZ f n + f n := h
        omega
      obtain ⟨k, a, b, c⟩ := sumZ_ex h2
      exact ⟨k, a, by omega, c⟩
theorem sumZ_ge {f : Int → Int} : ∀ {n : Nat} (k : Int), 0 ≤ k → k < n → (∀ j : Int, 0 ≤ j → j < n → 0 ≤ f j) → f k ≤ sumZ f n
  | 0, k, h0, h1, _ => by omega
  | n + 1, k, h0, h1, hn => by
    show f k ≤ sumZ f n + f n
    have h2 := hn n (by omega) (by omega)
    have h3 : 0 ≤ sumZ f n := sumZ_nn (fun j a b => hn j a (by omega))
    by_cases e : k = n
    · rw [e]; omega
    · have := sumZ_ge (f := f) (n := n) k h0 (by omega) (fun j a b => hn j a (by omega))
      omega
theorem CL_nn (m : Int) : ∀ (t : Nat) (x y e w : Int), 0 ≤ CL m t x y e w
  | 0, x, y, e, w => by
    unfold CL
    split <;> omega
  | t + 1, x, y, e, w => by
    unfold CL
    split
    · exact sumZ_nn (fun k _ _ => CL_nn m t _ _ _ _)
    · omega
theorem CL_sup (m : Int) : ∀ (t : Nat) (x y e w : Int), 0 < CL m t x y e w → (-(t : Int) ≤ x ∧ x ≤ t ∧ -(t : Int) ≤ y ∧ y ≤ t) ∧ 0 ≤ w ∧ w ≤ t ∧ 0 ≤ e ∧ e < 4 ∧ (m = 1 → 0 < (t : Int) → w ≤ (t : Int) - 1)
  | 0, x, y, e, w, h => by
    unfold CL at h
    split at h
    · rename_i q
      omega
    · omega
  | t + 1, x, y, e, w, h => by
    unfold CL at h
    split at h
    · rename_i q
      obtain ⟨l, l0, l1, l2⟩ := sumZ_ex h
      have ih := CL_sup m t _ _ _ _ l2
      have hs := sd_rng e
      have hg := gaW_r m t l e y
      refine ⟨by omega, by omega, by omega, by omega, by omega, fun h1 _ => ?_⟩
      by_cases z : (t : Int) = 0
      · have e1 : gaW m t l e y = 0 := by
          unfold gaW tgW
          rw [if_pos h1, if_neg (by omega)]
        omega
      · have := ih.2.2.2.2.2 h1 (by omega)
        omega
    · omega
theorem CL_neg {m : Int} {t : Nat} {x y e w : Int} (h : w < 0 ∨ (t : Int) < w ∨ e < 0 ∨ 4 ≤ e) : CL m t x y e w = 0 := by
  have h1 := CL_nn m t x y e w
  by_cases q : 0 < CL m t x y e w
  · have := CL_sup m t x y e w q
    omega
  · omega
theorem CL_far {m : Int} {t : Nat} {x y e w : Int} (h : x < -(t : Int) ∨ (t : Int) < x ∨ y < -(t : Int) ∨ (t : Int) < y) : CL m t x y e w = 0 := by
  have h1 := CL_nn m t x y e w
  by_cases q : 0 < CL m t x y e w
  · have := CL_sup m t x y e w q
    omega
  · omega
theorem TT_nn (m : Int) (n : Nat) (w : Int) : 0 ≤ TT m n w := sumZ_nn (fun k _ _ => CL_nn m n _ _ _ _)
/-- 4 to the power t at most -/
theorem CL_le (m : Int) : ∀ (t : Nat) (x y e w : Int), CL m t x y e w ≤ 4 ^ t
  | 0, x, y, e, w => by
    unfold CL
    split
    · exact Int.le_refl 1
    · exact (by decide : (0 : Int) ≤ 1)
  | t + 1, x, y, e, w => by
    have hp : (0 : Int) < 4 ^ t := Int.pow_pos (by decide)
    have h1 := CL_le m t (x - sdx e) (y - sdy e) 0 (w - gaW m (t : Int) 0 e y)
    have h2 := CL_le m t (x - sdx e) (y - sdy e) 1 (w - gaW m (t : Int) 1 e y)
    have h3 := CL_le m t (x - sdx e) (y - sdy e) 2 (w - gaW m (t : Int) 2 e y)
    have h4 := CL_le m t (x - sdx e) (y - sdy e) 3 (w - gaW m (t : Int) 3 e y)
    rw [Int.pow_succ]
    unfold CL
    split
    · show 0 + CL m t (x - sdx e) (y - sdy e) 0 (w - gaW m (t : Int) 0 e y) + CL m t (x - sdx e) (y - sdy e) 1 (w - gaW m (t : Int) 1 e y) + CL m t (x - sdx e) (y - sdy e) 2 (w - gaW m (t : Int) 2 e y) + CL m t (x - sdx e) (y - sdy e) 3 (w - gaW m (t : Int) 3 e y) ≤ _
      omega
    · omega
theorem TT_le {m : Int} {n : Nat} {w : Int} (hn : n ≤ 14) : TT m n w ≤ 4294967296 := by
  have hp : (4 : Int) ^ n ≤ 4 ^ 14 := by
    have e1 : ((4 : Int) ^ n) = ((4 ^ n : Nat) : Int) := by simp
    have e2 : 4 ^ n ≤ 4 ^ 14 := Nat.pow_le_pow_right (by decide) hn
    have e3 : ((4 : Int) ^ 14) = ((4 ^ 14 : Nat) : Int) := by simp
    rw [e1, e3]
    exact Int.ofNat_le.mpr e2
  have hq : (4 : Int) ^ 14 = 268435456 := by decide
  have h1 := CL_le m n 0 0 0 w
  have h2 := CL_le m n 0 0 1 w
  have h3 := CL_le m n 0 0 2 w
  have h4 := CL_le m n 0 0 3 w
  show 0 + CL m n 0 0 0 w + CL m n 0 0 1 w + CL m n 0 0 2 w + CL m n 0 0 3 w ≤ _
  omega
/-! the class's cells -/
def CC (m t c e w : Int) : Int := if m = 1 then CL m t.toNat (c % 67 - 33) (c / 67 - 33) e w else if e = 0 then sumZ (fun l => CL m t.toNat (c % 67 - 33) (c / 67 - 33) l w) 4 else 0
def pushW (m t : Int) (C : Int → Int → Int) (k y e w : Int) : Int := if m = 1 then (if k = e then sumZ (fun l => C l (w - tgW t l k)) 4 else 0) else if e = 0 then C 0 (w - gnW m y) else 0
theorem CC_nn (m t c e w : Int) : 0 ≤ CC m t c e w := by
  unfold CC
  split
  · exact CL_nn _ _ _ _ _ _
  · split
    · exact sumZ_nn (fun k _ _ => CL_nn _ _ _ _ _ _)
    · omega
theorem CC_sup {m t c e w : Int} (ht : 0 ≤ t) (h : 0 < CC m t c e w) : (-t ≤ c % 67 - 33 ∧ c % 67 - 33 ≤ t ∧ -t ≤ c / 67 - 33 ∧ c / 67 - 33 ≤ t) ∧ 0 ≤ w ∧ w ≤ t := by
  unfold CC at h
  split at h
  · have := CL_sup _ _ _ _ _ _ h
    omega
  · split at h
    · obtain ⟨l, l0, l1, l2⟩ := sumZ_ex h
      have := CL_sup _ _ _ _ _ _ l2
      omega
    · omega
theorem CC_neg {m t c e w : Int} (ht : 0 ≤ t) (h : w < 0 ∨ t < w ∨ c % 67 - 33 < -t ∨ t < c % 67 - 33 ∨ c / 67 - 33 < -t ∨ t < c / 67 - 33) : CC m t c e w = 0 := by
  have h1 := CC_nn m t c e w
  by_cases q : 0 < CC m t c e w
  · have := CC_sup ht q
    omega
  · omega
theorem CC_out {m t c e w : Int} (h : e < 0 ∨ 4 ≤ e) : CC m t c e w = 0 := by
  unfold CC
  split
  · exact CL_neg (by omega)
  · rw [if_neg (by omega)]
theorem pred_xy {c k : Int} (hc : oP c = 1) : (c - slp k) % 67 - 33 = c % 67 - 33 - sdx k ∧ (c - slp k) / 67 - 33 = c / 67 - 33 - sdy k ∧ 0 ≤ c - slp k ∧ c - slp k < 4489 := by
  have h1 := oP_1 hc
  have h2 := slp_c k
  have h3 := sdx_c k
  have h4 := sdy_c k
  omega
theorem CC_step {m t c e w : Int} (ht : 0 ≤ t) (hc : oP c = 1) : CC m (t + 1) c e w = sumZ (fun k => pushW m t (CC m t (c - slp k)) k (c / 67 - 33) e w) 4 := by
  have hN : (t + 1).toNat = t.toNat + 1 := by omega
  have hT : ((t.toNat : Nat) : Int) = t := by omega
  by_cases q : m = 1
  · subst q
    unfold CC
    rw [if_pos rfl, hN]
    show (if 0 ≤ e ∧ e < 4 then sumZ (fun l => CL 1 t.toNat (c % 67 - 33 - sdx e) (c / 67 - 33 - sdy e) l (w - gaW 1 ((t.toNat : Nat) : Int) l e (c / 67 - 33))) 4 else 0) = _
    have e1 : (fun k => pushW 1 t (fun e w => if (1 : Int) = 1 then CL 1 t.toNat ((c - slp k) % 67 - 33) ((c - slp k) / 67 - 33) e w else if e = 0 then sumZ (fun l => CL 1 t.toNat ((c - slp k) % 67 - 33) ((c - slp k) / 67 - 33) l w) 4 else 0) k (c / 67 - 33) e w) = (fun k => if k = e then sumZ (fun l => CL 1 t.toNat (c % 67 - 33 - sdx k) (c / 67 - 33 - sdy k) l (w - gaW 1 t l k (c / 67 - 33))) 4 else 0) := by
      funext k
      unfold pushW
      rw [if_pos rfl, (pred_xy (k := k) hc).1, (pred_xy (k := k) hc).2.1]
      rfl
    show _ = sumZ (fun k => pushW 1 t (fun e w => if (1 : Int) = 1 then CL 1 t.toNat ((c - slp k) % 67 - 33) ((c - slp k) / 67 - 33) e w else if e = 0 then sumZ (fun l => CL 1 t.toNat ((c - slp k) % 67 - 33) ((c - slp k) / 67 - 33) l w) 4 else 0) k (c / 67 - 33) e w) 4
    rw [e1, hT]
    by_cases h : 0 ≤ e ∧ e < 4
    · rw [if_pos h, sumZ_one (f := fun k => sumZ (fun l => CL 1 t.toNat (c % 67 - 33 - sdx k) (c / 67 - 33 - sdy k) l (w - gaW 1 t l k (c / 67 - 33))) 4) h.1 (by omega)]
    · rw [if_neg h, sumZ_pos (fun k a b => if_neg (by omega))]
  · by_cases z : e = 0
    · subst z
      have e0 : CC m (t + 1) c 0 w = sumZ (fun l => CL m (t.toNat + 1) (c % 67 - 33) (c / 67 - 33) l w) 4 := by
        unfold CC
        rw [if_neg q, if_pos rfl, hN]
      rw [e0]
      refine sumZ_cong (fun k k0 k1 => ?_)
      show (if 0 ≤ k ∧ k < 4 then sumZ (fun l => CL m t.toNat (c % 67 - 33 - sdx k) (c / 67 - 33 - sdy k) l (w - gaW m ((t.toNat : Nat) : Int) l k (c / 67 - 33))) 4 else 0) = _
      rw [if_pos ⟨k0, by omega⟩]
      unfold pushW CC
      rw [if_neg q, if_pos rfl, if_neg q, if_pos rfl, (pred_xy (k := k) hc).1, (pred_xy (k := k) hc).2.1]
      refine sumZ_cong (fun l _ _ => ?_)
      unfold gaW
      rw [if_neg q]
    · rw [sumZ_pos]
      · unfold CC
        rw [if_neg q, if_neg z]
      · intro k _ _
        unfold pushW
        rw [if_neg q, if_neg z]
theorem pushW_nn {m t k y e w : Int} {C : Int → Int → Int} (h : ∀ e w, 0 ≤ C e w) : 0 ≤ pushW m t C k y e w := by
  unfold pushW
  split
  · split
    · exact sumZ_nn (fun l _ _ => h _ _)
    · omega
  · split
    · exact h _ _
    · omega
theorem pushW_0 {m t k y e w : Int} {C : Int → Int → Int} (h : ∀ e w, C e w = 0) : pushW m t C k y e w = 0 := by
  unfold pushW
  split
  · split
    · exact sumZ_pos (fun l _ _ => h _ _)
    · rfl
  · split
    · exact h _ _
    · rfl
/-! the least or greatest weight, kept as one more -/
def extW (gt v : Int) (S : Int → Int) : Prop := (v = 0 ∧ ∀ w, S w = 0) ∨ (1 ≤ v ∧ 0 < S (v - 1) ∧ ∀ w, 0 < S w → (gt = 1 ∧ w ≤ v - 1) ∨ (gt ≠ 1 ∧ v - 1 ≤ w))
def bet (gt a b : Int) : Int := if a = 0 ∨ b = 0 then a + b else if gt = 1 then (if b < a then a else b) else (if b < a then b else a)
theorem ext_cong {gt v : Int} {S U : Int → Int} (h : ∀ w, S w = U w) (hv : extW gt v S) : extW gt v U := by
  rw [show U = S from (funext h).symm]
  exact hv
theorem ext_nn {gt v : Int} {S : Int → Int} (hv : extW gt v S) : 0 ≤ v := by
  rcases hv with h | h <;> omega
theorem ext_le {gt v : Int} {S : Int → Int} {t : Int} (ht : 0 ≤ t) (hs : ∀ w, 0 < S w → w ≤ t) (hv : extW gt v S) : v ≤ t + 1 := by
  rcases hv with h | h
  · omega
  · have := hs _ h.2.1
    omega
theorem ext_add {gt a b : Int} {S U : Int → Int} (hS : ∀ w, 0 ≤ S w) (hU : ∀ w, 0 ≤ U w) (ha : extW gt a S) (hb : extW gt b U) : extW gt (bet gt a b) (fun w => S w + U w) := by
  rcases ha with ⟨a0, a1⟩ | ⟨a0, a1, a2⟩
  · subst a0
    have e : bet gt 0 b = b := by
      unfold bet
      rw [if_pos (Or.inl rfl)]
      omega
    rw [e]
    exact ext_cong (fun w => by rw [a1 w]; omega) hb
  · rcases hb with ⟨b0, b1⟩ | ⟨b0, b1, b2⟩
    · subst b0
      have e : bet gt a 0 = a := by
        unfold bet
        rw [if_pos (Or.inr rfl)]
        omega
      rw [e]
      exact ext_cong (fun w => by rw [b1 w]; omega) (Or.inr ⟨a0, a1, a2⟩)
    · refine Or.inr ?_
      have key : ∀ w, 0 < S w + U w → 0 < S w ∨ 0 < U w := fun w h => by
        have := hS w
        have := hU w
        omega
      have hSa := hS (b - 1)
      have hUa := hU (a - 1)
      unfold bet
      rw [if_neg (by omega)]
      by_cases g : gt = 1
      · rw [if_pos g]
        by_cases c : b < a
        · rw [if_pos c]
          refine ⟨a0, (by show 0 < S (a - 1) + U (a - 1); omega), fun w hw => ?_⟩
          rcases key w hw with k | k
          · exact a2 w k
          · have := b2 w k
            omega
        · rw [if_neg c]
          refine ⟨b0, (by show 0 < S (b - 1) + U (b - 1); omega), fun w hw => ?_⟩
          rcases key w hw with k | k
          · have := a2 w k
            omega
          · exact b2 w k
      · rw [if_neg g]
        by_cases c : b < a
        · rw [if_pos c]
          refine ⟨b0, (by show 0 < S (b - 1) + U (b - 1); omega), fun w hw => ?_⟩
          rcases key w hw with k | k
          · have := a2 w k
            omega
          · exact b2 w k
        · rw [if_neg c]
          refine ⟨a0, (by show 0 < S (a - 1) + U (a - 1); omega), fun w hw => ?_⟩
          rcases key w hw with k | k
          · exact a2 w k
          · have := b2 w k
            omega
theorem ext_shift {gt a g : Int} {S : Int → Int} (ha : extW gt a S) (h : 0 < a) : extW gt (a + g) (fun w => S (w - g)) ∨ a + g ≤ 0 := by
  by_cases q : a + g ≤ 0
  · exact Or.inr q
  · refine Or.inl ?_
    rcases ha with ⟨a0, a1⟩ | ⟨a0, a1, a2⟩
    · omega
    · refine Or.inr ⟨by omega, (by show 0 < S (a + g - 1 - g); rw [show a + g - 1 - g = a - 1 by omega]; exact a1), fun w hw => ?_⟩
      have := a2 (w - g) hw
      omega
theorem ext_uniq {gt a b : Int} {S : Int → Int} (ha : extW gt a S) (hb : extW gt b S) : a = b := by
  rcases ha with ⟨a0, a1⟩ | ⟨a0, a1, a2⟩
  · rcases hb with ⟨b0, b1⟩ | ⟨b0, b1, b2⟩
    · omega
    · have := a1 (b - 1)
      omega
  · rcases hb with ⟨b0, b1⟩ | ⟨b0, b1, b2⟩
    · have := b1 (a - 1)
      omega
    · have := a2 _ b1
      have := b2 _ a1
      omega
theorem ext_imp {gt a b g : Int} {S U : Int → Int} (hS : ∀ w, 0 ≤ S w) (hU : ∀ w, 0 ≤ U w) (hg : 0 ≤ g) (ha : extW gt a S) (hb : extW gt b U) : extW gt (if 0 < b then bet gt a (b + g) else a) (fun w => S w + U (w - g)) := by
  split
  · rename_i h
    rcases ext_shift (g := g) hb h with k | k
    · exact ext_add hS (fun w => hU _) ha k
    · omega
  · rename_i h
    rcases hb with ⟨b0, b1⟩ | ⟨b0, _⟩
    · exact ext_cong (fun w => by rw [b1]; omega) ha
    · omega
/-! a slot's numbers and what they count -/
def RW (tal m lim gt : Int) (a : Int → Int) (b : Int) (C : Int → Int → Int) : Prop :=
  (tal = 1 → m = 1 → ∀ e w, 0 ≤ e → e < 8 → 0 ≤ w → w < 14 → a (b + 14 * e + w) = C e w) ∧
  (tal = 1 → m ≠ 1 → ∀ w, 0 ≤ w → w ≤ lim → a (b + w) = C 0 w) ∧
  (tal = 0 → ∀ e, 0 ≤ e → e < 8 → extW gt (a (b + e)) (C e))
theorem RW_cong {tal m lim gt b : Int} {a : Int → Int} {C C2 : Int → Int → Int} (h : ∀ e w, C e w = C2 e w) (hr : RW tal m lim gt a b C) : RW tal m lim gt a b C2 := by
  rw [show C2 = C from funext (fun e => funext (fun w => (h e w).symm))]
  exact hr
theorem RW_arr {tal m lim gt b : Int} {a a2 : Int → Int} {C : Int → Int → Int} (hl : 0 ≤ lim ∧ lim ≤ 120) (h : ∀ j, b ≤ j → j < b + 121 → a2 j = a j) (hr : RW tal m lim gt a b C) : RW tal m lim gt a2 b C :=
  ⟨fun h1 h2 e w e0 e1 w0 w1 => by rw [h _ (by omega) (by omega)]; exact hr.1 h1 h2 e w e0 e1 w0 w1,
   fun h1 h2 w w0 w1 => by rw [h _ (by omega) (by omega)]; exact hr.2.1 h1 h2 w w0 w1,
   fun h1 e e0 e1 => by rw [h _ (by omega) (by omega)]; exact hr.2.2 h1 e e0 e1⟩
theorem RW_zero {tal m lim gt b : Int} {a : Int → Int} {C : Int → Int → Int} (hl : 0 ≤ lim ∧ lim ≤ 120) (h : ∀ j, b ≤ j → j < b + 121 → a j = 0) (hC : ∀ e w, C e w = 0) : RW tal m lim gt a b C :=
  ⟨fun _ _ e w e0 e1 w0 w1 => by rw [h _ (by omega) (by omega), hC], fun _ _ w w0 w1 => by rw [h _ (by omega) (by omega), hC], fun _ e e0 e1 => Or.inl ⟨h _ (by omega) (by omega), hC e⟩⟩
def pushP (t : Int) (C : Int → Int → Int) (k e w : Int) (n : Nat) : Int := if k = e then sumZ (fun l => C l (w - tgW t l k)) n else 0
theorem pushP_s {t k e w l : Int} {C : Int → Int → Int} (h : 0 ≤ l) : pushP t C k e w (l + 1).toNat = pushP t C k e w l.toNat + (if k = e then C l (w - tgW t l k) else 0) := by
  unfold pushP
  split
  · rw [sumZ_s h]
  · rfl
theorem pushP_4 {t k e w y : Int} {C : Int → Int → Int} : pushP t C k e w 4 = pushW 1 t C k y e w := by
  unfold pushP pushW
  rw [if_pos rfl]
theorem pushP_nn {t k e w : Int} {n : Nat} {C : Int → Int → Int} (h : ∀ e w, 0 ≤ C e w) : 0 ≤ pushP t C k e w n := by
  unfold pushP
  split
  · exact sumZ_nn (fun l _ _ => h _ _)
  · omega
/-- turns tallied: one row of the last steps -/
theorem RW_t1 {m lim gt b sb k l g : Int} {th th2 nw : Int → Int} {A Cn : Int → Int → Int} (hm : m = 1) (hk : 0 ≤ k ∧ k < 4) (hl : 0 ≤ l ∧ l < 4) (hg : 0 ≤ g ∧ g ≤ 1) (hneg : ∀ e w, w < 0 → Cn e w = 0) (hn : RW 1 m lim gt nw sb Cn) (hr : RW 1 m lim gt th b A)
    (h2 : ∀ j, th2 j = if b + k * 14 + g ≤ j ∧ j ≤ b + k * 14 + g + (13 - g) then th j + nw (j - (b + k * 14) - g + (sb + l * 14)) else th j) : RW 1 m lim gt th2 b (fun e w => A e w + (if k = e then Cn l (w - g) else 0)) := by
  refine ⟨fun _ _ e w e0 e1 w0 w1 => ?_, fun _ h => absurd hm h, fun h => absurd h (by decide)⟩
  have h3 := hr.1 rfl hm e w e0 e1 w0 w1
  show th2 (b + 14 * e + w) = A e w + (if k = e then Cn l (w - g) else 0)
  rw [h2]
  by_cases q : k = e
  · subst q
    rw [if_pos rfl]
    by_cases z : g ≤ w
    · have h4 := hn.1 rfl hm l (w - g) hl.1 (by omega) (by omega) (by omega)
      rw [if_pos (by omega), h3, show b + 14 * k + w - (b + k * 14) - g + (sb + l * 14) = sb + 14 * l + (w - g) by omega, h4]
    · rw [if_neg (by omega), h3, hneg _ _ (by omega)]
      omega
  · rw [if_neg q, if_neg (by omega), h3]
    omega
/-- a best of turns -/
theorem RW_b1 {m lim gt b sb k l g : Int} {th th2 nw : Int → Int} {A Cn : Int → Int → Int} (hk : 0 ≤ k ∧ k < 4) (hl : 0 ≤ l ∧ l < 4) (hg : 0 ≤ g ∧ g ≤ 1) (hA : ∀ e w, 0 ≤ A e w) (hCn : ∀ e w, 0 ≤ Cn e w) (hn : RW 0 m lim gt nw sb Cn) (hr : RW 0 m lim gt th b A)
    (h2 : ∀ j, th2 j = zu th (b + k) (if 0 < nw (sb + l) then bet gt (th (b + k)) (nw (sb + l) + g) else th (b + k)) j) : RW 0 m lim gt th2 b (fun e w => A e w + (if k = e then Cn l (w - g) else 0)) := by
  refine ⟨fun h => absurd h (by decide), fun h => absurd h (by decide), fun _ e e0 e1 => ?_⟩
  have h3 := hr.2.2 rfl e e0 e1
  have h4 := hn.2.2 rfl l hl.1 (by omega)
  rw [h2]
  unfold zu
  by_cases q : k = e
  · subst q
    rw [if_pos rfl]
    exact ext_cong (fun w => by show _ = A k w + (if k = k then Cn l (w - g) else 0); rw [if_pos rfl]) (ext_imp (hA k) (hCn l) hg.1 h3 h4)
  · rw [if_neg (by omega)]
    exact ext_cong (fun w => by show _ = A e w + (if k = e then Cn l (w - g) else 0); rw [if_neg q]; omega) h3
/-- other weights tallied -/
theorem RW_t0 {m lim gt b sb g rch : Int} {th th2 nw : Int → Int} {A Cn : Int → Int → Int} {k t y : Int} (hm : m ≠ 1) (hlim : 0 ≤ lim ∧ lim ≤ 120) (hg : g = gnW m y) (hneg : ∀ e w, w < 0 → Cn e w = 0) (hrch : ∀ w, rch < w → w ≤ lim → Cn 0 w = 0) (hn : RW 1 m lim gt nw sb Cn) (hr : RW 1 m lim gt th b A)
    (h2 : ∀ j, th2 j = if b + g ≤ j ∧ j ≤ b + g + min rch (lim - g) then th j + nw (j - b - g + sb) else th j) : RW 1 m lim gt th2 b (fun e w => A e w + pushW m t Cn k y e w) := by
  have hgr := gnW_r m y
  refine ⟨fun _ h => absurd h hm, fun _ _ w w0 w1 => ?_, fun h => absurd h (by decide)⟩
  have h3 := hr.2.1 rfl hm w w0 w1
  show th2 (b + w) = A 0 w + pushW m t Cn k y 0 w
  unfold pushW
  rw [if_neg hm, if_pos rfl, h2, ← hg]
  by_cases z : g ≤ w ∧ w - g ≤ rch
  · have h4 := hn.2.1 rfl hm (w - g) (by omega) (by omega)
    rw [if_pos (by omega), h3, show b + w - b - g + sb = sb + (w - g) by omega, h4]
  · rw [if_neg (by omega), h3]
    have h5 : Cn 0 (w - g) = 0 := by
      by_cases z2 : w < g
      · exact hneg _ _ (by omega)
      · exact hrch _ (by omega) (by omega)
    rw [h5]
    omega
theorem RW_b0 {m lim gt b sb g : Int} {th th2 nw : Int → Int} {A Cn : Int → Int → Int} {k t y : Int} (hm : m ≠ 1) (hg : g = gnW m y) (hA : ∀ e w, 0 ≤ A e w) (hCn : ∀ e w, 0 ≤ Cn e w) (hn : RW 0 m lim gt nw sb Cn) (hr : RW 0 m lim gt th b A)
    (h2 : ∀ j, th2 j = zu th b (if 0 < nw sb then bet gt (th b) (nw sb + g) else th b) j) : RW 0 m lim gt th2 b (fun e w => A e w + pushW m t Cn k y e w) := by
  have hgr := gnW_r m y
  refine ⟨fun h => absurd h (by decide), fun h => absurd h (by decide), fun _ e e0 e1 => ?_⟩
  have h3 := hr.2.2 rfl e e0 e1
  have h4 := hn.2.2 rfl 0 (by omega) (by omega)
  rw [Int.add_zero] at h4
  rw [h2]
  unfold zu
  by_cases q : e = 0
  · subst q
    rw [Int.add_zero] at h3
    rw [if_pos (by omega)]
    exact ext_cong (fun w => by show _ = A 0 w + pushW m t Cn k y 0 w; unfold pushW; rw [if_neg hm, if_pos rfl, ← hg]) (ext_imp (hA 0) (hCn 0) (by omega) h3 h4)
  · rw [if_neg (by omega)]
    exact ext_cong (fun w => by show _ = A e w + pushW m t Cn k y e w; unfold pushW; rw [if_neg hm, if_neg q]; omega) h3
/-! the cells that can come to B -/
def cW (r c : Int) : Int := cntC oP slp 4 iB r.toNat c
theorem cW_oP {r c : Int} (h : 0 < cW r c) : oP c = 1 := by
  unfold cW at h
  rcases oP_01 c with q | q
  · exfalso
    cases e : r.toNat with
    | zero => rw [e] at h; unfold cntC at h; rw [if_neg (by omega)] at h; omega
    | succ n => rw [e] at h; unfold cntC at h; rw [if_neg (by omega)] at h; omega
  · exact q
theorem cW_succ {r c k : Int} (hr : 0 ≤ r) (hc : oP c = 1) (hk : 0 ≤ k ∧ k < 4) (h : 0 < cW r (c + slp k)) : 0 < cW (r + 1) c := by
  unfold cW
  rw [show (r + 1).toNat = r.toNat + 1 by omega]
  unfold cntC
  rw [if_pos hc]
  have h1 := sumZ_ge (f := fun k => cntC oP slp 4 iB r.toNat (c + slp k)) (n := 4) k hk.1 (by omega) (fun j _ _ => (cntC_rng iB_r r.toNat _).1)
  have h2 : 0 < cntC oP slp 4 iB r.toNat (c + slp k) := h
  omega
theorem cW_ex {r c : Int} (hr : 0 ≤ r) (h : 0 < cW (r + 1) c) : ∃ k, 0 ≤ k ∧ k < 4 ∧ 0 < cW r (c + slp k) := by
  have hc := cW_oP h
  unfold cW at h
  rw [show (r + 1).toNat = r.toNat + 1 by omega] at h
  unfold cntC at h
  rw [if_pos hc] at h
  obtain ⟨k, a, b, d⟩ := sumZ_ex (f := fun k => cntC oP slp 4 iB r.toNat (c + slp k)) (n := 4) (by omega)
  exact ⟨k, a, by omega, d⟩
theorem cW_at0 {c : Int} (h : 0 < cW 0 c) : c = 2244 := by
  have hc := cW_oP h
  unfold cW at h
  have h2 : 0 < (if oP c = 1 then iB c else 0) := h
  rw [if_pos hc] at h2
  unfold iB at h2
  split at h2 <;> omega
theorem ah_iff {c k d : Int} (hk : 0 ≤ k ∧ k < 4) (hd : 0 ≤ d ∧ d < 4489) (ho : oP d = 1) : ah c k = d ↔ c = d - slp k := by
  unfold ah
  constructor
  · intro h
    split at h <;> omega
  · intro h
    have e : c + slp k = d := by omega
    rw [if_pos ⟨hk.1, hk.2, by omega, by omega, by rw [e]; exact ho⟩, e]
theorem ah_at {c k : Int} (h : 0 ≤ ah c k) : 0 ≤ k ∧ k < 4 ∧ 0 ≤ c + slp k ∧ c + slp k < 4489 ∧ oP (c + slp k) = 1 ∧ ah c k = c + slp k := by
  unfold ah at h ⊢
  split
  · rename_i q
    exact ⟨q.1, q.2.1, q.2.2.1, q.2.2.2.1, q.2.2.2.2, rfl⟩
  · rename_i q
    rw [if_neg q] at h
    omega
def bxW (t c : Int) : Prop := -t ≤ c % 67 - 33 ∧ c % 67 - 33 ≤ t ∧ -t ≤ c / 67 - 33 ∧ c / 67 - 33 ≤ t
theorem bxW_s {t c k : Int} (ht : 0 ≤ t ∧ t ≤ 13) (hc : 0 ≤ c) (hb : bxW t c) (h : 0 ≤ ah c k) : bxW (t + 1) (ah c k) := by
  obtain ⟨k0, k1, a, b, o, e⟩ := ah_at h
  rw [e]
  have h2 := slp_c k
  unfold bxW at *
  omega
/-! pairs pushed so far -/
def tgC (he : Int → Int) (q : Int) : Int := ah (he (q / 4)) (q % 4)
def PCW (m t : Int) (he : Int → Int) (c : Int) (p : Int) (e w : Int) : Int := sumZ (fun q => if tgC he q = c then pushW m t (CC m t (he (q / 4))) (q % 4) (c / 67 - 33) e w else 0) p.toNat
theorem PCW_nn {m t c p e w : Int} {he : Int → Int} : 0 ≤ PCW m t he c p e w := sumZ_nn (fun q _ _ => by
  split
  · exact pushW_nn (fun e w => CC_nn _ _ _ _ _)
  · omega)
theorem PCW_s {m t c p e w i k : Int} {he : Int → Int} (hp : p = 4 * i + k) (hi : 0 ≤ i) (hk : 0 ≤ k ∧ k < 4) : PCW m t he c (p + 1) e w = PCW m t he c p e w + (if ah (he i) k = c then pushW m t (CC m t (he i)) k (c / 67 - 33) e w else 0) := by
  unfold PCW
  rw [sumZ_s (by omega)]
  unfold tgC
  rw [show p / 4 = i by omega, show p % 4 = k by omega]
theorem tgC_p {p i k : Int} {he : Int → Int} (hp : p = 4 * i + k) (hk : 0 ≤ k ∧ k < 4) : tgC he p = ah (he i) k := by
  unfold tgC
  rw [show p / 4 = i by omega, show p % 4 = k by omega]
def MIDW (tal m lim gt left t : Int) (he so te th : Int → Int) (tc p : Int) : Prop :=
  0 ≤ tc ∧
  (∀ s, 0 ≤ s → s < tc → 0 ≤ te s ∧ te s < 4489 ∧ so (te s) = s + 1 ∧ 0 < cW left (te s) ∧ bxW (t + 1) (te s)) ∧
  (∀ c, 0 ≤ c → c < 4489 → so c = 0 ∨ (1 ≤ so c ∧ so c ≤ tc ∧ te (so c - 1) = c)) ∧
  (∀ s, 0 ≤ s → s < tc → RW tal m lim gt th (s * 121) (PCW m t he (te s) p)) ∧
  (∀ q, 0 ≤ q → q < p → 0 ≤ tgC he q → 0 < cW left (tgC he q) → so (tgC he q) ≠ 0)
theorem MID_0 {tal m lim gt left t : Int} {he so te th : Int → Int} (h : ∀ c, 0 ≤ c → c < 4489 → so c = 0) : MIDW tal m lim gt left t he so te th 0 0 :=
  ⟨Int.le_refl 0, fun s _ _ => by omega, fun c a b => Or.inl (h c a b), fun s _ _ => by omega, fun q _ _ => by omega⟩
theorem inj_one {f : Int → Int} {b : Int} : ∀ n : Nat, (∀ i j : Int, 0 ≤ i → i < j → j < n → f i ≠ f j) → sumZ (fun s => if b = f s then 1 else 0) n ≤ 1 ∧ (∀ s : Int, 0 ≤ s → s < n → b = f s → True)
  | 0, _ => ⟨by show (0 : Int) ≤ 1; decide, fun _ _ _ _ => trivial⟩
  | n + 1, h => by
    refine ⟨?_, fun _ _ _ _ => trivial⟩
    show sumZ (fun s => if b = f s then 1 else 0) n + (if b = f n then 1 else 0) ≤ 1
    have ih := (inj_one (f := f) (b := b) n (fun i j a c d => h i j a c (by omega))).1
    by_cases q : b = f n
    · rw [if_pos q, sumZ_pos]
      · omega
      · intro s s0 s1
        rw [if_neg]
        intro z
        exact h s n s0 s1 (by omega) (by rw [← z, ← q])
    · rw [if_neg q]
      omega
theorem php {f : Int → Int} {n N : Nat} (hf : ∀ i : Int, 0 ≤ i → i < n → 0 ≤ f i ∧ f i < N) (hi : ∀ i j : Int, 0 ≤ i → i < j → j < n → f i ≠ f j) : n ≤ N := by
  have h1 : ∀ k : Nat, sumZ (fun _ => 1) k = (k : Int) := by
    intro k
    induction k with
    | zero => rfl
    | succ k ih => show sumZ (fun _ => 1) k + 1 = _; rw [ih]; omega
  have h2 : sumZ (fun s => sumZ (fun b => if b = f s then 1 else 0) N) n = (n : Int) := by
    rw [← h1 n]
    refine sumZ_cong (fun s s0 s1 => ?_)
    exact sumZ_one (f := fun _ => 1) (hf s s0 s1).1 (hf s s0 s1).2
  rw [sumZ_swap] at h2
  have h3 : ∀ k : Nat, sumZ (fun b => sumZ (fun s => if b = f s then 1 else 0) n) k ≤ (k : Int) := by
    intro k
    induction k with
    | zero => exact Int.le_refl 0
    | succ k ih =>
      have := (inj_one (f := f) (b := (k : Int)) n hi).1
      show sumZ (fun b => sumZ (fun s => if b = f s then 1 else 0) n) k + sumZ (fun s => if (k : Int) = f s then 1 else 0) n ≤ _
      omega
  have h4 := h3 N
  omega
theorem box_few {te : Int → Int} {t tc : Int} (ht : 0 ≤ t ∧ t ≤ 14) (h0 : 0 ≤ tc) (hb : ∀ s, 0 ≤ s → s < tc → 0 ≤ te s ∧ bxW t (te s)) (hi : ∀ i j, 0 ≤ i → i < j → j < tc → te i ≠ te j) : tc ≤ 841 := by
  have h := php (f := fun s => (te s % 67 - 33 + 14) * 29 + (te s / 67 - 33 + 14)) (n := tc.toNat) (N := 841) (fun i a b => by
    have := hb i a (by omega)
    unfold bxW at this
    show 0 ≤ (te i % 67 - 33 + 14) * 29 + (te i / 67 - 33 + 14) ∧ (te i % 67 - 33 + 14) * 29 + (te i / 67 - 33 + 14) < ((841 : Nat) : Int)
    omega) (fun i j a b c z => by
    have h1 := hb i a (by omega)
    have h2 := hb j (by omega) (by omega)
    have h3 := hi i j a b (by omega)
    unfold bxW at h1 h2
    have z2 : (te i % 67 - 33 + 14) * 29 + (te i / 67 - 33 + 14) = (te j % 67 - 33 + 14) * 29 + (te j / 67 - 33 + 14) := z
    omega)
  omega
theorem MID_tc {tal m lim gt left t tc p : Int} {he so te th : Int → Int} (ht : 0 ≤ t ∧ t ≤ 13) (h : MIDW tal m lim gt left t he so te th tc p) : 0 ≤ tc ∧ tc ≤ 841 := by
  refine ⟨h.1, box_few (t := t + 1) (by omega) h.1 (fun s a b => ⟨(h.2.1 s a b).1, (h.2.1 s a b).2.2.2.2⟩) (fun i j a b c z => ?_)⟩
  have h1 := (h.2.1 i a (by omega)).2.2.1
  have h2 := (h.2.1 j (by omega) c).2.2.1
  rw [z] at h1
  omega
theorem MID_skip {tal m lim gt left t tc p i k : Int} {he so te th : Int → Int} (hp : p = 4 * i + k) (hi : 0 ≤ i) (hk : 0 ≤ k ∧ k < 4) (hz : ah (he i) k < 0 ∨ cW left (ah (he i) k) ≤ 0) (h : MIDW tal m lim gt left t he so te th tc p) : MIDW tal m lim gt left t he so te th tc (p + 1) := by
  refine ⟨h.1, h.2.1, h.2.2.1, fun s a b => ?_, fun q a b c d => ?_⟩
  · have h1 := h.2.1 s a b
    refine RW_cong (fun e w => ?_) (h.2.2.2.1 s a b)
    rw [PCW_s hp hi hk, if_neg]
    · omega
    · intro z
      rw [z] at hz
      omega
  · by_cases e : q = p
    · rw [e, tgC_p hp hk] at c d
      omega
    · exact h.2.2.2.2 q a (by omega) c d
def slotP (so te th so2 te2 th2 : Int → Int) (tc tc2 c r : Int) : Prop :=
  (so c ≠ 0 ∧ tc2 = tc ∧ r = so c - 1 ∧ so2 = so ∧ te2 = te ∧ th2 = th) ∨
  (so c = 0 ∧ tc2 = tc + 1 ∧ r = tc ∧ so2 = zu so c (tc + 1) ∧ te2 = zu te tc c ∧ ∀ j, th2 j = if tc * 121 ≤ j ∧ j < tc * 121 + 121 then 0 else th j)
theorem PCW_none {tal m lim gt left t tc p c e w : Int} {he so te th : Int → Int} (h : MIDW tal m lim gt left t he so te th tc p) (hc : 0 ≤ c) (hw : 0 < cW left c) (hs : so c = 0) : PCW m t he c p e w = 0 := sumZ_pos (fun q a b => by
  show (if tgC he q = c then _ else (0 : Int)) = 0
  rw [if_neg]
  intro z
  exact h.2.2.2.2 q a (by omega) (by omega) (by rw [z]; exact hw) (by rw [z]; exact hs))
theorem MID_slot {tal m lim gt left t tc tc2 p c r : Int} {he so te th so2 te2 th2 : Int → Int} (hl : 0 ≤ lim ∧ lim ≤ 120) (h : MIDW tal m lim gt left t he so te th tc p) (hc : 0 ≤ c ∧ c < 4489) (hw : 0 < cW left c) (hs : slotP so te th so2 te2 th2 tc tc2 c r) : 0 ≤ r ∧ r < tc2 ∧ RW tal m lim gt th2 (r * 121) (PCW m t he c p) := by
  rcases hs with ⟨a1, a2, a3, a4, a5, a6⟩ | ⟨a1, a2, a3, a4, a5, a6⟩
  · subst a4 a5 a6
    have h1 := h.2.2.1 c hc.1 hc.2
    have h2 : 1 ≤ so2 c ∧ so2 c ≤ tc ∧ te2 (so2 c - 1) = c := by
      rcases h1 with q | q
      · exact absurd q a1
      · exact q
    refine ⟨by omega, by omega, ?_⟩
    have h3 := h.2.2.2.1 r (by omega) (by omega)
    rw [a3, h2.2.2] at h3
    rw [a3]
    exact h3
  · have h0 := h.1
    refine ⟨by omega, by omega, ?_⟩
    refine RW_zero hl (fun j a b => ?_) (fun e w => PCW_none h hc.1 hw a1)
    rw [a6, if_pos (by omega)]
theorem MID_push {tal m lim gt left t tc tc2 p c r i k : Int} {he so te th so2 te2 th2 th3 : Int → Int} (hl : 0 ≤ lim ∧ lim ≤ 120) (ht : 0 ≤ t ∧ t ≤ 13) (hp : p = 4 * i + k) (hi : 0 ≤ i) (hk : 0 ≤ k ∧ k < 4) (h : MIDW tal m lim gt left t he so te th tc p) (hc : 0 ≤ c ∧ c < 4489) (he0 : c = ah (he i) k) (hei : 0 ≤ he i ∧ bxW t (he i)) (hw : 0 < cW left c) (hs : slotP so te th so2 te2 th2 tc tc2 c r)
    (h3 : RW tal m lim gt th3 (r * 121) (fun e w => PCW m t he c p e w + pushW m t (CC m t (he i)) k (c / 67 - 33) e w)) (h4 : ∀ j, j < r * 121 ∨ r * 121 + 121 ≤ j → th3 j = th2 j) : MIDW tal m lim gt left t he so2 te2 th3 tc2 (p + 1) := by
  have h0 := h.1
  have hbx : bxW (t + 1) c := by rw [he0]; exact bxW_s ht hei.1 hei.2 (by rw [← he0]; exact hc.1)
  have hnew : RW tal m lim gt th3 (r * 121) (PCW m t he c (p + 1)) := RW_cong (fun e w => by rw [PCW_s hp hi hk, ← he0, if_pos rfl]) h3
  have hold : ∀ d, d ≠ c → ∀ e w, PCW m t he d p e w = PCW m t he d (p + 1) e w := fun d hd e w => by
    rw [PCW_s hp hi hk, ← he0, if_neg (fun z => hd z.symm)]
    omega
  rcases hs with ⟨a1, a2, a3, a4, a5, a6⟩ | ⟨a1, a2, a3, a4, a5, a6⟩
  · subst a4 a5 a6
    have h2 : 1 ≤ so2 c ∧ so2 c ≤ tc ∧ te2 (so2 c - 1) = c := by
      rcases h.2.2.1 c hc.1 hc.2 with q | q
      · exact absurd q a1
      · exact q
    have hrc : te2 r = c := by rw [a3]; exact h2.2.2
    refine ⟨by omega, fun s a b => h.2.1 s a (by omega), fun d a b => by rw [a2]; exact h.2.2.1 d a b, fun s a b => ?_, fun q a b d e => ?_⟩
    · by_cases z : s = r
      · rw [z, hrc]
        exact hnew
      · have hne : te2 s ≠ c := fun y => by
          have := (h.2.1 s a (by omega)).2.2.1
          rw [y] at this
          omega
        refine RW_cong (hold _ hne) (RW_arr hl (fun j j0 j1 => ?_) (h.2.2.2.1 s a (by omega)))
        exact h4 j (by omega)
    · by_cases z : q = p
      · rw [z, tgC_p hp hk, ← he0]
        exact a1
      · exact h.2.2.2.2 q a (by omega) d e
  · have htl : te2 tc = c := by rw [a5]; unfold zu; rw [if_pos rfl]
    have hte : ∀ s, 0 ≤ s → s < tc → te2 s = te s := fun s a b => by rw [a5]; unfold zu; rw [if_neg (by omega)]
    have hso : ∀ d, d ≠ c → so2 d = so d := fun d hd => by rw [a4]; unfold zu; rw [if_neg hd]
    have hsc : so2 c = tc + 1 := by rw [a4]; unfold zu; rw [if_pos rfl]
    have hne : ∀ s, 0 ≤ s → s < tc → te s ≠ c := fun s a b y => by
      have := (h.2.1 s a b).2.2.1
      rw [y] at this
      omega
    refine ⟨by omega, fun s a b => ?_, fun d a b => ?_, fun s a b => ?_, fun q a b d e => ?_⟩
    · by_cases z : s = tc
      · rw [z, htl]
        exact ⟨hc.1, hc.2, hsc, hw, hbx⟩
      · rw [hte s a (by omega), hso _ (hne s a (by omega))]
        exact h.2.1 s a (by omega)
    · by_cases z : d = c
      · rw [z, hsc]
        exact Or.inr ⟨by omega, by omega, by rw [show tc + 1 - 1 = tc by omega]; exact htl⟩
      · rw [hso d z]
        rcases h.2.2.1 d a b with y | y
        · exact Or.inl y
        · exact Or.inr ⟨y.1, by omega, by rw [hte _ (by omega) (by omega)]; exact y.2.2⟩
    · by_cases z : s = tc
      · rw [z, htl, ← a3]
        exact hnew
      · rw [hte s a (by omega)]
        refine RW_cong (hold _ (hne s a (by omega))) (RW_arr hl (fun j j0 j1 => ?_) (h.2.2.2.1 s a (by omega)))
        rw [h4 j (by omega), a6, if_neg (by omega)]
    · by_cases z : q = p
      · rw [z, tgC_p hp hk, ← he0, hsc]
        omega
      · by_cases y : tgC he q = c
        · rw [y, hsc]
          omega
        · rw [hso _ y]
          exact h.2.2.2.2 q a (by omega) d e
/-! a level -/
def LVLW (tal m lim gt left t : Int) (he nw : Int → Int) (hc : Int) : Prop :=
  (1 ≤ hc ∧ hc ≤ 841) ∧
  (∀ i, 0 ≤ i → i < hc → 0 ≤ he i ∧ he i < 4489 ∧ 0 < cW left (he i) ∧ bxW t (he i)) ∧
  (∀ i j, 0 ≤ i → i < j → j < hc → he i ≠ he j) ∧
  (∀ c, 0 ≤ c → c < 4489 → 0 < cW left c → (∃ i, 0 ≤ i ∧ i < hc ∧ he i = c) ∨ (∀ e w, CC m t c e w = 0)) ∧
  (∀ i, 0 ≤ i → i < hc → RW tal m lim gt nw (i * 121) (CC m t (he i)))
theorem sum_pairs {f : Int → Int → Int} : ∀ n : Nat, sumZ (fun q => f (q / 4) (q % 4)) (4 * n) = sumZ (fun i => sumZ (fun k => f i k) 4) n
  | 0 => rfl
  | n + 1 => by
    rw [Nat.mul_succ, sumZ_app, sum_pairs n]
    show _ = sumZ (fun i => sumZ (fun k => f i k) 4) n + sumZ (fun k => f n k) 4
    congr 1
    refine sumZ_cong (fun k k0 k1 => ?_)
    show f ((((4 * n : Nat) : Int) + k) / 4) ((((4 * n : Nat) : Int) + k) % 4) = f n k
    rw [show (((4 * n : Nat) : Int) + k) / 4 = n by omega, show (((4 * n : Nat) : Int) + k) % 4 = k by omega]
theorem PCW_all {tal m lim gt left t hc c e w : Int} {he nw : Int → Int} (ht : 0 ≤ t ∧ t ≤ 13) (hl0 : 0 ≤ left) (h : LVLW tal m lim gt (left + 1) t he nw hc) (hc0 : 0 ≤ c ∧ c < 4489) (hw : 0 < cW left c) : PCW m t he c (4 * hc) e w = CC m (t + 1) c e w := by
  have ho := cW_oP hw
  have h1 := h.1
  rw [CC_step ht.1 ho]
  unfold PCW tgC
  rw [show (4 * hc).toNat = 4 * hc.toNat by omega, sum_pairs (f := fun i k => if ah (he i) k = c then pushW m t (CC m t (he i)) k (c / 67 - 33) e w else 0), sumZ_swap]
  refine sumZ_cong (fun k k0 k1 => ?_)
  have hk : 0 ≤ k ∧ k < 4 := ⟨k0, by omega⟩
  have hpr := pred_xy (k := k) ho
  have key : sumZ (fun i => if ah (he i) k = c then pushW m t (CC m t (he i)) k (c / 67 - 33) e w else 0) hc.toNat = sumZ (fun i => if he i = c - slp k then pushW m t (CC m t (c - slp k)) k (c / 67 - 33) e w else 0) hc.toNat := sumZ_cong (fun i i0 i1 => by
    have hiff := ah_iff (c := he i) (k := k) (d := c) hk hc0 ho
    by_cases z : he i = c - slp k
    · rw [if_pos (hiff.mpr z), if_pos z, z]
    · rw [if_neg (fun y => z (hiff.mp y)), if_neg z])
  rw [key]
  by_cases z : ∃ i, 0 ≤ i ∧ i < hc ∧ he i = c - slp k
  · obtain ⟨i0, a, b, d⟩ := z
    have e2 : sumZ (fun i => if he i = c - slp k then pushW m t (CC m t (c - slp k)) k (c / 67 - 33) e w else 0) hc.toNat = sumZ (fun i => if i = i0 then pushW m t (CC m t (c - slp k)) k (c / 67 - 33) e w else 0) hc.toNat := sumZ_cong (fun i i1 i2 => by
      by_cases y : i = i0
      · rw [if_pos y, if_pos (by rw [y]; exact d)]
      · rw [if_neg y, if_neg]
        intro x
        rcases Int.lt_or_gt_of_ne y with q | q
        · exact h.2.2.1 i i0 i1 q b (by rw [x, d])
        · exact h.2.2.1 i0 i a q (by omega) (by rw [x, d]))
    rw [e2]
    exact sumZ_one (f := fun _ => pushW m t (CC m t (c - slp k)) k (c / 67 - 33) e w) a (by omega)
  · rw [sumZ_pos (fun i i0 i1 => if_neg (fun y => z ⟨i, i0, by omega, y⟩))]
    refine (pushW_0 (fun e w => ?_)).symm
    by_cases y : oP (c - slp k) = 1
    · have h5 : 0 < cW (left + 1) (c - slp k) := cW_succ hl0 y hk (by rw [show c - slp k + slp k = c by omega]; exact hw)
      rcases h.2.2.2.1 (c - slp k) hpr.2.2.1 hpr.2.2.2 h5 with x | x
      · exact absurd x z
      · exact x e w
    · refine CC_neg ht.1 ?_
      have h6 := oP_iff (c - slp k)
      have h7 : ¬ (3 ≤ (c - slp k) % 67 ∧ (c - slp k) % 67 ≤ 63 ∧ 3 ≤ (c - slp k) / 67 ∧ (c - slp k) / 67 ≤ 63) := fun x => y (by rw [h6, if_pos x])
      omega
theorem MID_end {tal m lim gt left t hc tc : Int} {he nw so te th : Int → Int} (ht : 0 ≤ t ∧ t ≤ 13) (hl0 : 0 ≤ left) (h : LVLW tal m lim gt (left + 1) t he nw hc) (hm : MIDW tal m lim gt left t he so te th tc (4 * hc)) : LVLW tal m lim gt left (t + 1) te th tc := by
  have h1 := h.1
  have htc := MID_tc ht hm
  refine ⟨⟨?_, htc.2⟩, fun i a b => ?_, fun i j a b c z => ?_, fun c a b w => ?_, fun i a b => ?_⟩
  · have h2 := h.2.1 0 (by omega) (by omega)
    obtain ⟨k, k0, k1, k2⟩ := cW_ex hl0 h2.2.2.1
    have ho := cW_oP k2
    have hr := oP_1 ho
    have e : ah (he 0) k = he 0 + slp k := (ah_iff ⟨k0, k1⟩ (by omega) ho).mpr (by omega)
    have h3 := hm.2.2.2.2 k k0 (by omega) (by rw [tgC_p (i := 0) (k := k) (by omega) ⟨k0, k1⟩, e]; omega) (by rw [tgC_p (i := 0) (k := k) (by omega) ⟨k0, k1⟩, e]; exact k2)
    rw [tgC_p (i := 0) (k := k) (by omega) ⟨k0, k1⟩, e] at h3
    rcases hm.2.2.1 (he 0 + slp k) (by omega) (by omega) with q | q
    · exact absurd q h3
    · omega
  · have := hm.2.1 i a b
    exact ⟨this.1, this.2.1, this.2.2.2.1, this.2.2.2.2⟩
  · have h4 := (hm.2.1 i a (by omega)).2.2.1
    have h5 := (hm.2.1 j (by omega) c).2.2.1
    rw [z] at h4
    omega
  · rcases hm.2.2.1 c a b with q | q
    · refine Or.inr (fun e w2 => ?_)
      rw [← PCW_all ht hl0 h ⟨a, b⟩ w]
      exact PCW_none hm a w q
    · exact Or.inl ⟨so c - 1, by omega, by omega, q.2.2⟩
  · have h6 := hm.2.1 i a b
    exact RW_cong (fun e w => PCW_all ht hl0 h ⟨h6.1, h6.2.1⟩ h6.2.2.2.1) (hm.2.2.2.1 i a b)
theorem LVL_last {tal m lim gt t hc : Int} {he nw : Int → Int} (h : LVLW tal m lim gt 0 t he nw hc) : RW tal m lim gt nw 0 (CC m t 2244) := by
  have h1 := h.1
  have h2 := h.2.2.2.2 0 (by omega) (by omega)
  rw [cW_at0 (h.2.1 0 (by omega) (by omega)).2.2.1, Int.zero_mul] at h2
  exact h2
theorem CC_0 (m e w : Int) : CC m 0 2244 e w = if e = 0 ∧ w = 0 then 1 else 0 := by
  have e1 : ∀ e w : Int, CL m (0 : Int).toNat (2244 % 67 - 33) (2244 / 67 - 33) e w = if e = 0 ∧ w = 0 then 1 else 0 := fun e w => by
    show (if (2244 % 67 - 33 : Int) = 0 ∧ (2244 / 67 - 33 : Int) = 0 ∧ e = 0 ∧ w = 0 then (1 : Int) else 0) = _
    by_cases q : e = 0 ∧ w = 0
    · rw [if_pos q, if_pos ⟨by decide, by decide, q.1, q.2⟩]
    · rw [if_neg q, if_neg (fun z => q z.2.2)]
  unfold CC
  split
  · exact e1 e w
  · by_cases q : e = 0
    · rw [if_pos q, sumZ_cong (g := fun l => if l = 0 then (if w = 0 then 1 else 0) else 0) (fun l _ _ => by
        rw [e1]
        by_cases z : l = 0
        · rw [if_pos z]
          by_cases y : w = 0
          · rw [if_pos y, if_pos ⟨z, y⟩]
          · rw [if_neg y, if_neg (fun x => y x.2)]
        · rw [if_neg z, if_neg (fun x => z x.1)]), sumZ_one (f := fun _ => if w = 0 then 1 else 0) (by omega) (by omega)]
      by_cases y : w = 0
      · rw [if_pos y, if_pos ⟨q, y⟩]
      · rw [if_neg y, if_neg (fun x => y x.2)]
    · rw [if_neg q, if_neg (fun x => q x.1)]
theorem LVL_0 {tal m lim gt n : Int} {he nw : Int → Int} (hl : 0 ≤ lim ∧ lim ≤ 120) (hn : 0 < cW n 2244) (h0 : he 0 = 2244) (hw : ∀ j, 0 ≤ j → j < 121 → nw j = if j = 0 then 1 else 0) : LVLW tal m lim gt n 0 he nw 1 := by
  refine ⟨⟨by omega, by omega⟩, fun i a b => ?_, fun i j a b c => by omega, fun c a b w => ?_, fun i a b => ?_⟩
  · rw [show i = 0 by omega, h0]
    exact ⟨by omega, by omega, hn, by unfold bxW; omega⟩
  · by_cases z : c = 2244
    · exact Or.inl ⟨0, by omega, by omega, by rw [h0, z]⟩
    · exact Or.inr (fun e w => CC_neg (by omega) (by omega))
  · rw [show i = 0 by omega, h0]
    refine ⟨fun _ _ e w e0 e1 w0 w1 => ?_, fun _ _ w w0 w1 => ?_, fun _ e e0 e1 => ?_⟩
    · rw [hw _ (by omega) (by omega), CC_0]
      by_cases y : e = 0 ∧ w = 0
      · rw [if_pos y, if_pos (by omega)]
      · rw [if_neg y, if_neg (by omega)]
    · rw [hw _ (by omega) (by omega), CC_0]
      by_cases y : w = 0
      · rw [if_pos (by omega), if_pos ⟨rfl, y⟩]
      · rw [if_neg (by omega), if_neg (fun x => y x.2)]
    · rw [hw _ (by omega) (by omega)]
      by_cases y : e = 0
      · rw [if_pos (by omega)]
        refine Or.inr ⟨by omega, by rw [CC_0, if_pos ⟨y, by omega⟩]; omega, fun w hw2 => ?_⟩
        rw [CC_0] at hw2
        split at hw2
        · by_cases g : gt = 1
          · exact Or.inl ⟨g, by omega⟩
          · exact Or.inr ⟨g, by omega⟩
        · omega
      · rw [if_neg (by omega)]
        exact Or.inl ⟨rfl, fun w => by rw [CC_0, if_neg (fun x => y x.1)]⟩
/-! what it comes to -/
theorem CC_TT {m n w : Int} (hm : m ≠ 1) : CC m n 2244 0 w = TT m n.toNat w := by
  unfold CC TT
  rw [if_neg hm, if_pos rfl]
  rfl
theorem CC_TT1 {n w : Int} : sumZ (fun e => CC 1 n 2244 e w) 8 = TT 1 n.toNat w := by
  have h4 : sumZ (fun k => CC 1 n 2244 (((4 : Nat) : Int) + k) w) 4 = 0 := sumZ_pos (fun k a b => by
    show CC 1 n 2244 (((4 : Nat) : Int) + k) w = 0
    unfold CC
    rw [if_pos rfl]
    exact CL_neg (by omega))
  rw [show (8 : Nat) = 4 + 4 by rfl, sumZ_app, h4, Int.add_zero]
  unfold TT
  refine sumZ_cong (fun k a b => ?_)
  show CC 1 n 2244 k w = _
  unfold CC
  rw [if_pos rfl]
  rfl
theorem CC_TT8 {m n w : Int} : sumZ (fun e => CC m n 2244 e w) 8 = TT m n.toNat w := by
  by_cases hm : m = 1
  · subst hm
    exact CC_TT1
  · rw [← CC_TT hm, sumZ_cong (g := fun e => if e = 0 then CC m n 2244 0 w else 0) (fun e _ _ => by
      by_cases q : e = 0
      · rw [if_pos q, q]
      · rw [if_neg q]
        unfold CC
        rw [if_neg hm, if_neg q])]
    exact sumZ_one (f := fun _ => CC m n 2244 0 w) (by omega) (by omega)
theorem TT_14 {n w : Int} (hn : 0 ≤ n ∧ n ≤ 14) (hw : 14 ≤ w) : TT 1 n.toNat w = 0 := sumZ_pos (fun e _ _ => by
  have h1 := CL_nn 1 n.toNat 0 0 e w
  by_cases q : 0 < CL 1 n.toNat 0 0 e w
  · have := CL_sup 1 n.toNat 0 0 e w q
    omega
  · omega)
theorem CL_walk (m : Int) : ∀ (t : Nat) (x y e w r : Int), (t : Int) ≤ 14 → 0 ≤ r → 0 < CL m t x y e w → 0 < cW r ((y + 33) * 67 + x + 33) → 0 < cW (r + t) 2244
  | 0, x, y, e, w, r, _, hr, h, hc => by
    unfold CL at h
    split at h
    · rename_i q
      rw [q.1, q.2.1] at hc
      rw [show r + ((0 : Nat) : Int) = r by omega]
      exact hc
    · omega
  | t + 1, x, y, e, w, r, ht, hr, h, hc => by
    have hs := CL_sup m (t + 1) x y e w h
    unfold CL at h
    rw [if_pos ⟨hs.2.2.2.1, hs.2.2.2.2.1⟩] at h
    obtain ⟨l, l0, l1, l2⟩ := sumZ_ex h
    have hs2 := CL_sup m t _ _ _ _ l2
    have hx := sdx_c e
    have hy := sdy_c e
    have hp := slp_c e
    have ho : oP ((y - sdy e + 33) * 67 + (x - sdx e) + 33) = 1 := by rw [oP_iff, if_pos (by omega)]
    have h3 : 0 < cW (r + 1) ((y - sdy e + 33) * 67 + (x - sdx e) + 33) := cW_succ hr ho ⟨hs.2.2.2.1, hs.2.2.2.2.1⟩ (by rw [show (y - sdy e + 33) * 67 + (x - sdx e) + 33 + slp e = (y + 33) * 67 + x + 33 by omega]; exact hc)
    have h4 := CL_walk m t _ _ _ _ (r + 1) (by omega) (by omega) l2 h3
    rw [show r + ((t + 1 : Nat) : Int) = r + 1 + t by omega]
    exact h4
theorem TT_none {m n w : Int} (hn : 0 ≤ n ∧ n ≤ 14) (h : cW n 2244 ≤ 0) : TT m n.toNat w = 0 := sumZ_pos (fun e _ _ => by
  have h1 := CL_nn m n.toNat 0 0 e w
  by_cases q : 0 < CL m n.toNat 0 0 e w
  · have h2 := CL_walk m n.toNat 0 0 e w 0 (by omega) (by omega) q (by decide)
    rw [show 0 + ((n.toNat : Nat) : Int) = n by omega] at h2
    omega
  · omega)
theorem ext_sum {gt : Int} {a : Int → Int} {C : Int → Int → Int} (hC : ∀ e w, 0 ≤ C e w) {f : Int} {n : Int} (hn : 0 ≤ n) (hf : extW gt f (fun w => sumZ (fun e => C e w) n.toNat)) (ha : extW gt (a n) (C n)) : extW gt (bet gt f (a n)) (fun w => sumZ (fun e => C e w) (n + 1).toNat) :=
  ext_cong (fun w => (sumZ_s hn).symm) (ext_add (fun w => sumZ_nn (fun k _ _ => hC k w)) (hC n) hf ha)
end ZWEI
section ZWEJ
theorem pushP_end {m t k e w y l : Int} {C : Int → Int → Int} (hm : m = 1) (hl : l = 4) : pushP t C k e w l.toNat = pushW m t C k y e w := by
  subst hm hl
  exact pushP_4
theorem pushP_b {t k e w : Int} {n : Nat} {C : Int → Int → Int} {B : Int} (hb : ∀ e w, 0 < C e w → w ≤ B) (h : 0 < pushP t C k e w n) : w ≤ B + 1 := by
  unfold pushP at h
  split at h
  · obtain ⟨l, _, _, l2⟩ := sumZ_ex h
    have h1 := hb _ _ l2
    have h2 := tgW_r t l k
    omega
  · omega
theorem pushW_b {m t k y e w : Int} {C : Int → Int → Int} {B : Int} (hb : ∀ e w, 0 < C e w → w ≤ B) (h : 0 < pushW m t C k y e w) : w ≤ B + 1 := by
  unfold pushW at h
  split at h
  · split at h
    · obtain ⟨l, _, _, l2⟩ := sumZ_ex h
      have h1 := hb _ _ l2
      have h2 := tgW_r t l k
      omega
    · omega
  · split at h
    · have h1 := hb _ _ h
      have h2 := gnW_r m y
      omega
    · omega
theorem PCW_b {m t c p e w : Int} {he : Int → Int} (ht : 0 ≤ t ∧ t ≤ 13) (h : 0 < PCW m t he c p e w) : w ≤ 14 := by
  unfold PCW at h
  obtain ⟨q, _, _, q2⟩ := sumZ_ex h
  split at q2
  · have := pushW_b (B := 13) (fun e w h => by have := CC_sup ht.1 h; omega) q2
    omega
  · omega
/-- the bounds of what a best keeps -/
theorem RW_bd {tal m lim gt b e B : Int} {a : Int → Int} {C : Int → Int → Int} (htal : tal = 0) (he : 0 ≤ e ∧ e < 8) (hB : 0 ≤ B) (hb : ∀ e w, 0 < C e w → w ≤ B) (h : RW tal m lim gt a b C) : 0 ≤ a (b + e) ∧ a (b + e) ≤ B + 1 := by
  have h1 := h.2.2 htal e he.1 he.2
  exact ⟨ext_nn h1, ext_le hB (hb e) h1⟩
theorem RW_pt {tal m lim gt b sb k l g t : Int} {th th2 nw : Int → Int} {Co Cn : Int → Int → Int} (htal : tal = 1) (hm : m = 1) (hk : 0 ≤ k ∧ k < 4) (hl : 0 ≤ l ∧ l < 4) (hg : g = tgW t l k) (hneg : ∀ e w, w < 0 → Cn e w = 0) (hn : RW tal m lim gt nw sb Cn) (hr : RW tal m lim gt th b (fun e w => Co e w + pushP t Cn k e w l.toNat))
    (h2 : ∀ j, th2 j = if b + k * 14 + g ≤ j ∧ j ≤ b + k * 14 + g + (13 - g) then th j + nw (j - (b + k * 14) - g + (sb + l * 14)) else th j) : RW tal m lim gt th2 b (fun e w => Co e w + pushP t Cn k e w (l + 1).toNat) := by
  subst htal
  have hgr := tgW_r t l k
  refine RW_cong (fun e w => ?_) (RW_t1 hm hk hl (by omega) hneg hn hr h2)
  rw [pushP_s hl.1, ← hg]
  omega
theorem RW_pb {tal m lim gt b sb k l g t : Int} {th th2 nw : Int → Int} {Co Cn : Int → Int → Int} (htal : tal = 0) (hk : 0 ≤ k ∧ k < 4) (hl : 0 ≤ l ∧ l < 4) (hg : g = tgW t l k) (hCo : ∀ e w, 0 ≤ Co e w) (hCn : ∀ e w, 0 ≤ Cn e w) (hn : RW tal m lim gt nw sb Cn) (hr : RW tal m lim gt th b (fun e w => Co e w + pushP t Cn k e w l.toNat))
    (h2 : ∀ j, th2 j = zu th (b + k) (if 0 < nw (sb + l) then bet gt (th (b + k)) (nw (sb + l) + g) else th (b + k)) j) : RW tal m lim gt th2 b (fun e w => Co e w + pushP t Cn k e w (l + 1).toNat) := by
  subst htal
  have hgr := tgW_r t l k
  refine RW_cong (fun e w => ?_) (RW_b1 hk hl (by omega) (fun e w => by have h3 := hCo e w; have h4 := pushP_nn (t := t) (k := k) (e := e) (w := w) (n := l.toNat) hCn; omega) hCn hn hr h2)
  rw [pushP_s hl.1, ← hg]
  omega
theorem clr_step {so te cq : Int → Int} {tc i : Int} (h3 : ∀ c, 0 ≤ c → c < 4489 → so c = 0 ∨ (1 ≤ so c ∧ so c ≤ tc ∧ te (so c - 1) = c)) (h : ∀ c, 0 ≤ c → c < 4489 → cq c = 0 ∨ (cq c = so c ∧ i ≤ so c - 1)) : ∀ c, 0 ≤ c → c < 4489 → zu cq (te i) 0 c = 0 ∨ (zu cq (te i) 0 c = so c ∧ i + 1 ≤ so c - 1) := by
  intro c a b
  unfold zu
  by_cases e : c = te i
  · rw [if_pos e]
    exact Or.inl rfl
  · rw [if_neg e]
    rcases h c a b with q | q
    · exact Or.inl q
    · rcases h3 c a b with y | y
      · exact Or.inl (q.1.trans y)
      · refine Or.inr ⟨q.1, ?_⟩
        by_cases z : so c - 1 = i
        · rw [z] at y
          exact absurd y.2.2.symm e
        · omega
theorem onW_r {g : Int → Int} {lf rd c r : Int} (hg : ∀ j, 0 ≤ j → j < 4489 → g (lf * 4489 + j) = cW lf j) (h : (0 ≤ lf ∧ lf < rd ∧ 0 ≤ c ∧ c < 4489 ∧ r = g (lf * 4489 + c)) ∨ (¬ (0 ≤ lf ∧ lf < rd ∧ 0 ≤ c ∧ c < 4489) ∧ r = 0)) (hl : 0 ≤ lf ∧ lf < rd) : (0 < r → 0 ≤ c ∧ c < 4489 ∧ 0 < cW lf c) ∧ (r ≤ 0 → c < 0 ∨ 4489 ≤ c ∨ cW lf c ≤ 0) ∧ 0 ≤ r ∧ r ≤ 4611686018427387904 := by
  rcases h with ⟨a, b, d, e, f⟩ | ⟨a, b⟩
  · rw [hg c d e] at f
    have h1 : 0 ≤ cW lf c ∧ cW lf c ≤ 4611686018427387904 := cntC_rng iB_r _ _
    refine ⟨fun _ => ⟨d, e, by omega⟩, fun _ => Or.inr (Or.inr (by omega)), by omega, by omega⟩
  · refine ⟨fun _ => by omega, fun _ => by omega, by omega, by omega⟩
theorem ext_fin7 {gt v m n k : Int} (hk : k = 8) (h : extW gt v (fun w => sumZ (fun e => CC m n 2244 e w) k.toNat)) : extW gt v (TT m n.toNat) := by
  subst hk
  exact ext_cong (S := fun w => sumZ (fun e => CC m n 2244 e w) 8) (U := TT m n.toNat) (fun w => CC_TT8) h
end ZWEJ
