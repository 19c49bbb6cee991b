section ZBOX
/-! lists as functions of their places; sums -/
def arL (L : List Int) : Int → Int := fun j => L.getD j.toNat 0
theorem arL_map {f : Int → Int} {n : Nat} {j : Int} (h0 : 0 ≤ j) (h1 : j < n) : arL ((List.range n).map (fun (m : Nat) => f (m : Int))) j = f j := by
  unfold arL
  have h2 : j.toNat < n := by omega
  rw [List.getD_eq_getElem?_getD, List.getElem?_map, List.getElem?_range h2]
  show f ((j.toNat : Nat) : Int) = f j
  rw [Int.toNat_of_nonneg h0]
theorem arL_set {L : List Int} {k v j : Int} (hk : 0 ≤ k) (hk2 : k < L.length) (hj : 0 ≤ j) : arL (L.set k.toNat v) j = zu (arL L) k v j := by
  show (L.set k.toNat v).getD j.toNat 0 = if j = k then v else L.getD j.toNat 0
  rw [List.getD_eq_getElem?_getD, List.getD_eq_getElem?_getD, List.getElem?_set]
  by_cases e : j = k
  · rw [if_pos (by rw [e]), if_pos e, if_pos (by omega)]
    rfl
  · rw [if_neg (by omega), if_neg e]
theorem sumZ_add {f g : Int → Int} : ∀ n : Nat, sumZ (fun k => f k + g k) n = sumZ f n + sumZ g n
  | 0 => rfl
  | n + 1 => by
    show sumZ (fun k => f k + g k) n + (f n + g n) = sumZ f n + f n + (sumZ g n + g n)
    rw [sumZ_add n]
    omega
theorem sumZ_swap {f : Int → Int → Int} {m : Nat} : ∀ n : Nat, sumZ (fun i => sumZ (fun j => f i j) m) n = sumZ (fun j => sumZ (fun i => f i j) n) m
  | 0 => by
    show (0 : Int) = _
    rw [sumZ_pos]
    intro k _ _
    rfl
  | n + 1 => by
    show sumZ (fun i => sumZ (fun j => f i j) m) n + sumZ (fun j => f n j) m = _
    rw [sumZ_swap n, ← sumZ_add]
    rfl
theorem sumZ_app {f : Int → Int} (m : Nat) : ∀ n : Nat, sumZ f (m + n) = sumZ f m + sumZ (fun k => f (m + k)) n
  | 0 => by
    show sumZ f m = sumZ f m + 0
    omega
  | n + 1 => by
    show sumZ f (m + n) + f ((m + n : Nat) : Int) = sumZ f m + (sumZ (fun k => f (m + k)) n + f (m + n))
    rw [sumZ_app m n, show ((m + n : Nat) : Int) = (m : Int) + n by omega]
    omega
theorem if_cg {P Q : Prop} {iP : Decidable P} {iQ : Decidable Q} {a b : Int} (h : P ↔ Q) : @ite Int P iP a b = @ite Int Q iQ a b := by
  by_cases q : P
  · rw [if_pos q, if_pos (h.mp q)]
  · rw [if_neg q, if_neg (fun z => q (h.mpr z))]
/-! heaped: the class's product -/
def bxe (c i j m : Int) : Int := (if m = i + j + c - 1 then 1 else 0) - (if m = i + j - 1 then 1 else 0)
def bxr (b c i m : Int) : Int := sumZ (fun j => bxe c i (j + 1) m) b.toNat
def bxp (a b c m : Int) : Int := sumZ (fun i => bxr b c (i + 1) m) a.toNat
def lD (m : Int) : Int := if m % 2 = 0 then 2 else if m = 9 ∨ m = 15 then 3 else m
def redL (m : Int) (L : List Int) : List Int :=
  if lD m < m then
    (((L.set (lD m).toNat (arL L (lD m) + arL L m)).set (m / lD m).toNat (arL (L.set (lD m).toNat (arL L (lD m) + arL L m)) (m / lD m) + arL (L.set (lD m).toNat (arL L (lD m) + arL L m)) m)).set m.toNat 0)
  else L
def redI (L : List Int) : Nat → List Int
  | 0 => L
  | t + 1 => redL (17 - (t : Int)) (redI L t)
theorem redL_len (m : Int) (L : List Int) : (redL m L).length = L.length := by
  unfold redL
  split
  · rw [List.length_set, List.length_set, List.length_set]
  · rfl
theorem redI_len (L : List Int) : ∀ t : Nat, (redI L t).length = L.length
  | 0 => rfl
  | t + 1 => by
    show (redL _ (redI L t)).length = _
    rw [redL_len, redI_len L t]
theorem lD_r {m : Int} (h : 2 ≤ m ∧ m ≤ 17) : 2 ≤ lD m ∧ lD m ≤ m ∧ 0 ≤ m / lD m ∧ m / lD m ≤ 17 := by
  have h2 : ∀ k : Fin 16, 2 ≤ lD ((k : Nat) + 2) ∧ lD ((k : Nat) + 2) ≤ (k : Nat) + 2 ∧ 0 ≤ (((k : Nat) : Int) + 2) / lD ((k : Nat) + 2) ∧ (((k : Nat) : Int) + 2) / lD ((k : Nat) + 2) ≤ 17 := by decide
  have h3 := h2 ⟨(m - 2).toNat, by omega⟩
  have h4 : (((m - 2).toNat : Nat) : Int) + 2 = m := by omega
  simp only [h4] at h3
  exact h3
/-- the lists' start and what each step of the reduction does with the array -/
def bxL (a b c : Int) : List Int := (List.range 18).map (fun (m : Nat) => bxp a b c (m : Int))
def bxI (a b c m : Int) : Int → Int := arL (redI (bxL a b c) (17 - m).toNat)
theorem bxI_17 {a b c j : Int} (h0 : 0 ≤ j) (h1 : j < 18) : bxI a b c 17 j = bxp a b c j := by
  show arL (bxL a b c) j = _
  unfold bxL
  exact arL_map h0 (by omega)
theorem bxI_no {a b c m j : Int} (hm : 2 ≤ m ∧ m ≤ 17) (h : m ≤ lD m) : bxI a b c (m - 1) j = bxI a b c m j := by
  unfold bxI
  rw [show (17 - (m - 1)).toNat = (17 - m).toNat + 1 by omega]
  show arL (redL (17 - (((17 - m).toNat : Nat) : Int)) _) j = _
  rw [show 17 - (((17 - m).toNat : Nat) : Int) = m by omega]
  unfold redL
  rw [if_neg (by omega)]
theorem bxI_yes {a b c m : Int} {q : Int → Int} (hm : 2 ≤ m ∧ m ≤ 17) (h : lD m < m) (hq : ∀ j, 0 ≤ j → j < 18 → q j = bxI a b c m j) :
    ∀ j, 0 ≤ j → j < 18 → zu (zu (zu q (lD m) (q (lD m) + q m)) (m / lD m) (zu q (lD m) (q (lD m) + q m) (m / lD m) + zu q (lD m) (q (lD m) + q m) m)) m 0 j = bxI a b c (m - 1) j := by
  intro j h0 h1
  have hr := lD_r hm
  unfold bxI
  rw [show (17 - (m - 1)).toNat = (17 - m).toNat + 1 by omega]
  show _ = arL (redL (17 - (((17 - m).toNat : Nat) : Int)) (redI (bxL a b c) (17 - m).toNat)) j
  rw [show 17 - (((17 - m).toNat : Nat) : Int) = m by omega]
  unfold redL
  rw [if_pos h]
  have hl : (redI (bxL a b c) (17 - m).toNat).length = 18 := by rw [redI_len]; rfl
  have hq2 : ∀ j, 0 ≤ j → j < 18 → q j = arL (redI (bxL a b c) (17 - m).toNat) j := hq
  generalize redI (bxL a b c) (17 - m).toNat = L at hl hq2
  have e1 : ∀ j, 0 ≤ j → j < 18 → zu q (lD m) (q (lD m) + q m) j = arL (L.set (lD m).toNat (arL L (lD m) + arL L m)) j := by
    intro j g0 g1
    rw [arL_set (by omega) (by omega) g0, hq2 (lD m) (by omega) (by omega), hq2 m (by omega) (by omega)]
    unfold zu
    split
    · rfl
    · exact hq2 j g0 g1
  rw [arL_set (by omega) (by rw [List.length_set, List.length_set]; omega) h0]
  unfold zu
  by_cases e : j = m
  · rw [if_pos e, if_pos e]
  · rw [if_neg e, if_neg e, arL_set (by omega) (by rw [List.length_set]; omega) h0, ← e1 m (by omega) (by omega), ← e1 (m / lD m) (by omega) (by omega)]
    unfold zu
    by_cases e2 : j = m / lD m
    · rw [if_pos e2, if_pos e2]
    · rw [if_neg e2, if_neg e2, ← e1 j h0 h1]
      rfl
def prI (L : Int → Int) : Nat → Int
  | 0 => 1
  | t + 1 => prI L t * ((t : Int) + 2) ^ (L ((t : Int) + 2)).toNat
def boxP (a b c : Int) : Int := prI (bxI a b c 1) 16
theorem prI_s {L : Int → Int} {m : Int} (h : 2 ≤ m) : prI L (m + 1 - 2).toNat = prI L (m - 2).toNat * m ^ (L m).toNat := by
  rw [show (m + 1 - 2).toNat = (m - 2).toNat + 1 by omega]
  show prI L (m - 2).toNat * ((((m - 2).toNat : Nat) : Int) + 2) ^ (L ((((m - 2).toNat : Nat) : Int) + 2)).toNat = _
  rw [show (((m - 2).toNat : Nat) : Int) + 2 = m by omega]
theorem pow_s {p m : Int} {i : Int} (h : 0 ≤ i) : p * m ^ i.toNat * m = p * m ^ (i + 1).toNat := by
  rw [show (i + 1).toNat = i.toNat + 1 by omega, Int.pow_succ, Int.mul_assoc]
def bxT : Bool := (List.range 7).all fun a => (List.range 7).all fun b => (List.range 7).all fun c => (redI (bxL a b c) 16).all fun x => decide (-1000 ≤ x ∧ x ≤ 1000)
theorem bxT_ok : bxT = true := by decide +kernel
theorem bxI_r {a b c : Int} (h : 0 ≤ a ∧ a ≤ 6 ∧ 0 ≤ b ∧ b ≤ 6 ∧ 0 ≤ c ∧ c ≤ 6) (j : Int) : -1000 ≤ bxI a b c 1 j ∧ bxI a b c 1 j ≤ 1000 := by
  have h1 := List.all_eq_true.mp bxT_ok a.toNat (List.mem_range.mpr (by omega))
  have h2 := List.all_eq_true.mp h1 b.toNat (List.mem_range.mpr (by omega))
  have h3 := List.all_eq_true.mp h2 c.toNat (List.mem_range.mpr (by omega))
  rw [Int.toNat_of_nonneg h.1, Int.toNat_of_nonneg h.2.2.1, Int.toNat_of_nonneg h.2.2.2.2.1] at h3
  unfold bxI arL
  show -1000 ≤ (redI (bxL a b c) 16).getD j.toNat 0 ∧ (redI (bxL a b c) 16).getD j.toNat 0 ≤ 1000
  rw [List.getD_eq_getElem?_getD]
  cases e : (redI (bxL a b c) 16)[j.toNat]? with
  | none => exact ⟨by decide, by decide⟩
  | some x => exact of_decide_eq_true (List.all_eq_true.mp h3 x (List.mem_of_getElem? e))
theorem bq_step {q : Int → Int} {A B m : Int} : zu (zu q A (q A + 1)) B (zu q A (q A + 1) B - 1) m = q m + ((if m = A then 1 else 0) - (if m = B then 1 else 0)) := by
  unfold zu
  by_cases e1 : m = B
  · subst e1
    by_cases e2 : m = A
    · subst e2
      rw [if_pos rfl, if_pos rfl, if_pos rfl]
      omega
    · rw [if_pos rfl, if_neg e2, if_neg e2, if_pos rfl]
      omega
  · rw [if_neg e1, if_neg e1]
    by_cases e2 : m = A
    · subst e2
      rw [if_pos rfl, if_pos rfl]
      omega
    · rw [if_neg e2, if_neg e2]
      omega
theorem bq_cols {S c i j m : Int} (hj : 1 ≤ j) : S + sumZ (fun j => bxe c i (j + 1) m) (j - 1).toNat + ((if m = i + j + c - 1 then 1 else 0) - (if m = i + j - 1 then 1 else 0)) = S + sumZ (fun j => bxe c i (j + 1) m) (j + 1 - 1).toNat := by
  rw [show j + 1 - 1 = (j - 1) + 1 by omega, sumZ_s (by omega)]
  unfold bxe
  rw [show j - 1 + 1 = j by omega]
  omega
theorem bq_rows {b c i j m S : Int} (hi : 1 ≤ i) (hj : j = b + 1) (h : S = sumZ (fun i => bxr b c (i + 1) m) (i - 1).toNat + sumZ (fun j => bxe c i (j + 1) m) (j - 1).toNat) : S = sumZ (fun i => bxr b c (i + 1) m) (i + 1 - 1).toNat := by
  rw [show i + 1 - 1 = (i - 1) + 1 by omega, sumZ_s (by omega), h, show j - 1 = b by omega]
  unfold bxr
  rw [show i - 1 + 1 = i by omega]
/-! the reference's rows: codes by their digits -/
def lfB (B : Int) : Nat → Int → Int
  | 0, v => v
  | k + 1, v => lfB B k v / B
def dgB (B v k : Int) : Int := lfB B k.toNat v % B
def gtB (B : Int) : Nat → Int → Int → Bool
  | 0, _, _ => true
  | b + 1, top, v => decide (v % B ≤ top) && gtB B b (v % B) (v / B)
def leB (B : Int) : Nat → Int → Int → Bool
  | 0, _, _ => true
  | b + 1, v, u => decide (v % B ≤ u % B) && leB B b (v / B) (u / B)
def undB (H : Int → Int) (r q : Int) : Nat → Bool
  | 0 => true
  | k + 1 => undB H r q k && decide (H (6 * r + (k : Int)) ≤ H (6 * q + (k : Int)))
def cntG (B : Int) (b : Nat) (top : Int) (n : Nat) : Int := sumZ (fun u => if gtB B b top u = true then 1 else 0) n
def fR (H : Int → Int) (b n : Nat) : Nat → Int → Int
  | 0, _ => 1
  | k + 1, r => sumZ (fun q => if undB H r q b = true then fR H b n k q else 0) n
theorem lfB_in {B : Int} : ∀ (k : Nat) (v : Int), lfB B (k + 1) v = lfB B k (v / B)
  | 0, _ => rfl
  | k + 1, v => by
    show lfB B (k + 1) v / B = lfB B k (v / B) / B
    rw [lfB_in k v]
theorem dgB_0 {B v : Int} : dgB B v 0 = v % B := rfl
theorem dgB_s {B v k : Int} (h : 1 ≤ k) : dgB B v k = dgB B (v / B) (k - 1) := by
  unfold dgB
  rw [show k.toNat = (k - 1).toNat + 1 by omega, lfB_in]
theorem dgB_r {B v k : Int} (h : 0 < B) : 0 ≤ dgB B v k ∧ dgB B v k < B := by
  unfold dgB
  exact ⟨Int.emod_nonneg _ (by omega), Int.emod_lt_of_pos _ h⟩
theorem dvB {l B : Int} (h0 : 0 ≤ l) (h1 : 0 < B) : 0 ≤ l / B ∧ l / B ≤ l := ⟨Int.ediv_nonneg h0 (by omega), Int.ediv_le_self B h0⟩
theorem gtB_iff {B : Int} : ∀ (b : Nat) (top v : Int), gtB B b top v = true ↔ ((0 < b → dgB B v 0 ≤ top) ∧ ∀ i : Int, 1 ≤ i → i < b → dgB B v i ≤ dgB B v (i - 1))
  | 0, top, v => ⟨fun _ => ⟨fun h => absurd h (Nat.lt_irrefl 0), fun i h1 h2 => by omega⟩, fun _ => rfl⟩
  | b + 1, top, v => by
    show (decide (v % B ≤ top) && gtB B b (v % B) (v / B)) = true ↔ _
    rw [Bool.and_eq_true, decide_eq_true_iff, gtB_iff b (v % B) (v / B)]
    refine ⟨fun ⟨h1, h2, h3⟩ => ⟨fun _ => h1, fun i i1 i2 => ?_⟩, fun ⟨h1, h2⟩ => ⟨h1 (by omega), fun hb => ?_, fun i i1 i2 => ?_⟩⟩
    · rw [dgB_s i1]
      by_cases e : i = 1
      · subst e
        exact h2 (by omega)
      · rw [dgB_s (v := v) (k := i - 1) (by omega)]
        exact h3 (i - 1) (by omega) (by omega)
    · have h3 := h2 1 (by omega) (by omega)
      rw [dgB_s (by omega)] at h3
      exact h3
    · have h3 := h2 (i + 1) (by omega) (by omega)
      rw [show i + 1 - 1 = i by omega, dgB_s (v := v) (k := i + 1) (by omega), dgB_s (v := v) (k := i) (by omega), show i + 1 - 1 = i by omega] at h3
      exact h3
theorem leB_iff {B : Int} : ∀ (b : Nat) (v u : Int), leB B b v u = true ↔ ∀ i : Int, 0 ≤ i → i < b → dgB B v i ≤ dgB B u i
  | 0, v, u => ⟨fun _ i h1 h2 => by omega, fun _ => rfl⟩
  | b + 1, v, u => by
    show (decide (v % B ≤ u % B) && leB B b (v / B) (u / B)) = true ↔ _
    rw [Bool.and_eq_true, decide_eq_true_iff, leB_iff b (v / B) (u / B)]
    refine ⟨fun ⟨h1, h2⟩ i i1 i2 => ?_, fun h => ⟨h 0 (by omega) (by omega), fun i i1 i2 => ?_⟩⟩
    · by_cases e : i = 0
      · subst e
        exact h1
      · rw [dgB_s (v := v) (by omega), dgB_s (v := u) (by omega)]
        exact h2 (i - 1) (by omega) (by omega)
    · have h3 := h (i + 1) (by omega) (by omega)
      rw [dgB_s (v := v) (by omega), dgB_s (v := u) (by omega), show i + 1 - 1 = i by omega] at h3
      exact h3
theorem undB_iff {H : Int → Int} {r q : Int} : ∀ b : Nat, undB H r q b = true ↔ ∀ i : Int, 0 ≤ i → i < b → H (6 * r + i) ≤ H (6 * q + i)
  | 0 => ⟨fun _ i h1 h2 => by omega, fun _ => rfl⟩
  | b + 1 => by
    show (undB H r q b && decide (H (6 * r + (b : Int)) ≤ H (6 * q + (b : Int)))) = true ↔ _
    rw [Bool.and_eq_true, decide_eq_true_iff, undB_iff b]
    refine ⟨fun ⟨h1, h2⟩ i i1 i2 => ?_, fun h => ⟨fun i i1 i2 => h i i1 (by omega), h b (by omega) (by omega)⟩⟩
    by_cases e : i = b
    · subst e
      exact h2
    · exact h1 i i1 (by omega)
theorem undB_f {H : Int → Int} {r q k : Int} {b : Nat} (h0 : 0 ≤ k) (h1 : k < b) (h : H (6 * q + k) < H (6 * r + k)) : undB H r q b = false := by
  cases e : undB H r q b with
  | false => rfl
  | true =>
    have := (undB_iff b).mp e k h0 h1
    omega
theorem cntG_yes {B : Int} {b : Nat} {top v : Int} (h : 0 ≤ v) (hg : gtB B b top v = true) : cntG B b top (v + 1).toNat = cntG B b top v.toNat + 1 := by
  unfold cntG
  rw [sumZ_s h, if_pos hg]
theorem cntG_no {B : Int} {b : Nat} {top v : Int} (h : 0 ≤ v) (hg : gtB B b top v = false) : cntG B b top (v + 1).toNat = cntG B b top v.toNat := by
  unfold cntG
  rw [sumZ_s h, if_neg (by rw [hg]; exact Bool.false_ne_true)]
  omega
theorem cntG_mono {B : Int} {b : Nat} {top : Int} {m n : Nat} (h : m ≤ n) : cntG B b top m ≤ cntG B b top n := sumZ_le h (fun k _ _ => by split <;> omega)
theorem cntG_nn {B : Int} {b : Nat} {top : Int} {n : Nat} : 0 ≤ cntG B b top n := sumZ_nn (fun k _ _ => by split <;> omega)
theorem cntG_lt {B : Int} {b : Nat} {top u v : Int} (h : 0 ≤ u) (h1 : u < v) (hg : gtB B b top u = true) : cntG B b top u.toNat + 1 ≤ cntG B b top v.toNat := by
  rw [← cntG_yes h hg]
  exact cntG_mono (by omega)
theorem cnt_sum {B : Int} {b : Nat} {top : Int} {g : Int → Int} : ∀ n : Nat, sumZ g (cntG B b top n).toNat = sumZ (fun u => if gtB B b top u = true then g (cntG B b top u.toNat) else 0) n
  | 0 => rfl
  | n + 1 => by
    have h0 : 0 ≤ cntG B b top n := cntG_nn
    show _ = sumZ (fun u => if gtB B b top u = true then g (cntG B b top u.toNat) else 0) n + (if gtB B b top n = true then g (cntG B b top n) else 0)
    rw [← cnt_sum n]
    by_cases e : gtB B b top n = true
    · rw [if_pos e, show cntG B b top (n + 1) = cntG B b top n + 1 from cntG_yes (v := n) (by omega) e, sumZ_s h0]
    · rw [if_neg e, show cntG B b top (n + 1) = cntG B b top n from cntG_no (v := n) (by omega) (by cases h : gtB B b top n <;> simp_all)]
      omega
theorem sum_split {h : Int → Int → Int} {m : Nat} (hm : 0 < m) : ∀ n : Nat, sumZ (fun v => h (v % (m : Int)) (v / (m : Int))) (m * n) = sumZ (fun x => sumZ (fun w => h x w) n) m
  | 0 => by
    show (0 : Int) = _
    rw [sumZ_pos]
    intro k _ _
    rfl
  | n + 1 => by
    rw [Nat.mul_succ, sumZ_app, sum_split hm n]
    show _ = sumZ (fun x => sumZ (fun w => h x w) n + h x n) m
    rw [sumZ_add]
    congr 1
    refine sumZ_cong (fun k h0 h1 => ?_)
    have e1 : (((m * n : Nat) : Int) + k) % (m : Int) = k := by
      rw [Int.natCast_mul, Int.add_comm, Int.add_mul_emod_self_left]
      exact Int.emod_eq_of_lt h0 h1
    have e2 : (((m * n : Nat) : Int) + k) / (m : Int) = n := by
      rw [Int.natCast_mul, Int.add_comm, Int.add_mul_ediv_left _ _ (by omega), Int.ediv_eq_zero_of_lt h0 h1]
      omega
    show h ((((m * n : Nat) : Int) + k) % (m : Int)) ((((m * n : Nat) : Int) + k) / (m : Int)) = _
    rw [e1, e2]
def dsB (B : Int) : Nat → Int → Int → (Int → Int) → Int
  | 0, _, _, F => F 0
  | b + 1, top, v, F => sumZ (fun x => if v % B ≤ x ∧ x ≤ top then dsB B b x (v / B) (fun w => F (x + B * w)) else 0) B.toNat
theorem sum_ds {m : Nat} (hm : 0 < m) : ∀ (b : Nat) (top v : Int) (F : Int → Int), sumZ (fun u => if gtB m b top u = true ∧ leB m b v u = true then F u else 0) (m ^ b) = dsB m b top v F
  | 0, top, v, F => by
    show (0 : Int) + (if true = true ∧ true = true then F 0 else 0) = F 0
    rw [if_pos ⟨rfl, rfl⟩]
    omega
  | b + 1, top, v, F => by
    rw [Nat.pow_succ']
    have e : (fun u => if gtB m (b + 1) top u = true ∧ leB m (b + 1) v u = true then F u else 0) = (fun u => (fun x w => if (x ≤ top ∧ v % (m : Int) ≤ x) ∧ (gtB m b x w = true ∧ leB m b (v / (m : Int)) w = true) then F (x + (m : Int) * w) else 0) (u % (m : Int)) (u / (m : Int))) := by
      funext u
      show (if (decide (u % (m : Int) ≤ top) && gtB m b (u % (m : Int)) (u / (m : Int))) = true ∧ (decide (v % (m : Int) ≤ u % (m : Int)) && leB m b (v / (m : Int)) (u / (m : Int))) = true then F u else 0) = if (u % (m : Int) ≤ top ∧ v % (m : Int) ≤ u % (m : Int)) ∧ (gtB m b (u % (m : Int)) (u / (m : Int)) = true ∧ leB m b (v / (m : Int)) (u / (m : Int)) = true) then F (u % (m : Int) + (m : Int) * (u / (m : Int))) else 0
      rw [Int.emod_add_mul_ediv]
      refine if_cg ?_
      rw [Bool.and_eq_true, Bool.and_eq_true, decide_eq_true_iff, decide_eq_true_iff]
      exact ⟨fun ⟨⟨a, b⟩, c, d⟩ => ⟨⟨a, c⟩, b, d⟩, fun ⟨⟨a, c⟩, b, d⟩ => ⟨⟨a, b⟩, c, d⟩⟩
    rw [e, sum_split (h := fun x w => if (x ≤ top ∧ v % (m : Int) ≤ x) ∧ (gtB m b x w = true ∧ leB m b (v / (m : Int)) w = true) then F (x + (m : Int) * w) else 0) hm]
    show _ = sumZ (fun x => if v % (m : Int) ≤ x ∧ x ≤ top then dsB m b x (v / (m : Int)) (fun w => F (x + (m : Int) * w)) else 0) (m : Int).toNat
    rw [Int.toNat_natCast]
    refine sumZ_cong (fun x _ _ => ?_)
    by_cases c : v % (m : Int) ≤ x ∧ x ≤ top
    · rw [if_pos c, ← sum_ds hm b x (v / (m : Int))]
      refine sumZ_cong (fun w _ _ => ?_)
      exact if_cg ⟨fun h => h.2, fun h => ⟨⟨c.2, c.1⟩, h⟩⟩
    · rw [if_neg c]
      exact sumZ_pos (fun w _ _ => if_neg (fun h => c ⟨h.1.2, h.1.1⟩))
/-! the same sums over nested lists -/
def TrB : Nat → Type
  | 0 => Int
  | b + 1 => List (TrB b)
def bldB (m : Nat) : (b : Nat) → Nat → (Int → Int) → TrB b
  | 0, _, F => (show Int from F 0)
  | b + 1, top, F => (show List (TrB b) from (List.range (top + 1)).map (fun x => bldB m b x (fun w => F ((x : Int) + (m : Int) * w))))
def addT : (b : Nat) → TrB b → TrB b → TrB b
  | 0, s, t => (show Int from (show Int from s) + (show Int from t))
  | b + 1, s, t => (show List (TrB b) from List.zipWith (addT b) (show List (TrB b) from s) (show List (TrB b) from t))
def sufT (b : Nat) : List (TrB b) → List (TrB b)
  | [] => []
  | t :: ts => match sufT b ts with
    | [] => [t]
    | s :: ss => addT b t s :: s :: ss
def satT : (b : Nat) → TrB b → TrB b
  | 0, t => t
  | b + 1, ts => (show List (TrB b) from sufT b ((show List (TrB b) from ts).map (satT b)))
def hdT : (b : Nat) → TrB b → Int
  | 0, t => (show Int from t)
  | b + 1, ts => match (show List (TrB b) from ts) with
    | [] => 0
    | t :: _ => hdT b t
def satI (b : Nat) (t : TrB b) : Nat → TrB b
  | 0 => t
  | k + 1 => satT b (satI b t k)
theorem addT_bld {m : Nat} : ∀ (b x y : Nat) (F G : Int → Int), x ≤ y → addT b (bldB m b x F) (bldB m b y G) = bldB m b x (fun w => F w + G w)
  | 0, x, y, F, G, _ => rfl
  | b + 1, x, y, F, G, h => by
    show List.zipWith (addT b) ((List.range (x + 1)).map (fun z => bldB m b z (fun w => F ((z : Int) + (m : Int) * w)))) ((List.range (y + 1)).map (fun z => bldB m b z (fun w => G ((z : Int) + (m : Int) * w)))) = (List.range (x + 1)).map (fun z => bldB m b z (fun w => F ((z : Int) + (m : Int) * w) + G ((z : Int) + (m : Int) * w)))
    refine List.ext_getElem? (fun i => ?_)
    rw [List.getElem?_zipWith, List.getElem?_map, List.getElem?_map, List.getElem?_map]
    by_cases e : i < x + 1
    · rw [List.getElem?_range e, List.getElem?_range (by omega)]
      show some (addT b (bldB m b i _) (bldB m b i _)) = some _
      rw [addT_bld b i i _ _ (Nat.le_refl i)]
    · rw [List.getElem?_eq_none (l := List.range (x + 1)) (by rw [List.length_range]; omega)]
      rfl
def tlB (P : Int → Int → Int) (n : Nat) (y w : Int) : Int := sumZ (fun k => P (y + k) w) n
theorem tlB_s {P : Int → Int → Int} {n : Nat} {y w : Int} : tlB P (n + 1) y w = P y w + tlB P n (y + 1) w := by
  unfold tlB
  rw [Nat.add_comm, sumZ_app]
  congr 1
  · show (0 : Int) + P (y + ((0 : Nat) : Int)) w = P y w
    rw [show y + ((0 : Nat) : Int) = y by omega]
    omega
  · refine sumZ_cong (fun k _ _ => ?_)
    show P (y + (((1 : Nat) : Int) + k)) w = P (y + 1 + k) w
    rw [show y + (((1 : Nat) : Int) + k) = y + 1 + k by omega]
theorem suf_bld {m b : Nat} {P : Int → Int → Int} : ∀ (n x : Nat), sufT b ((List.range' x n).map (fun z => bldB m b z (P z))) = (List.range' x n).map (fun (z : Nat) => bldB m b z (fun w => tlB P (x + n - z) z w))
  | 0, x => rfl
  | n + 1, x => by
    rw [List.range'_succ, List.map_cons, List.map_cons]
    have ih := suf_bld (m := m) (b := b) (P := P) n (x + 1)
    show (match sufT b ((List.range' (x + 1) n).map (fun z => bldB m b z (P z))) with | [] => [bldB m b x (P x)] | s :: ss => addT b (bldB m b x (P x)) s :: s :: ss) = _
    rw [ih]
    have e2 : (List.range' (x + 1) n).map (fun (z : Nat) => bldB m b z (fun w => tlB P (x + 1 + n - z) z w)) = (List.range' (x + 1) n).map (fun (z : Nat) => bldB m b z (fun w => tlB P (x + (n + 1) - z) z w)) := by
      rw [show x + 1 + n = x + (n + 1) by omega]
    rw [e2]
    cases n with
    | zero =>
      show [bldB m b x (P x)] = [bldB m b x (fun w => tlB P (x + (0 + 1) - x) x w)]
      congr 2
      funext w
      rw [show x + (0 + 1) - x = 0 + 1 by omega, tlB_s]
      show P x w = P x w + 0
      omega
    | succ n =>
      rw [List.range'_succ, List.map_cons]
      show addT b (bldB m b x (P x)) (bldB m b (x + 1) _) :: _ = _
      rw [addT_bld b x (x + 1) _ _ (by omega)]
      congr 2
      funext w
      rw [show x + (n + 1 + 1) - x = n + 1 + 1 by omega, tlB_s, show x + (n + 1 + 1) - (x + 1) = n + 1 by omega]
      rfl
theorem sum_mid {f : Int → Int} {y t : Int} {m : Nat} (h0 : 0 ≤ y) (h1 : y ≤ t) (h2 : t < m) : sumZ (fun x => if y ≤ x ∧ x ≤ t then f x else 0) m = sumZ (fun k => f (y + k)) (t + 1 - y).toNat := by
  rw [show m = y.toNat + ((t + 1 - y).toNat + (m - (t + 1).toNat)) by omega, sumZ_app, sumZ_app, sumZ_pos (f := fun x => if y ≤ x ∧ x ≤ t then f x else 0) (n := y.toNat) (fun k a b => if_neg (by omega)), sumZ_pos (n := m - (t + 1).toNat) (fun k a b => if_neg (by omega))]
  rw [show ∀ a : Int, 0 + (a + 0) = a by intro a; omega]
  refine sumZ_cong (fun k a b => ?_)
  show (if y ≤ ((y.toNat : Nat) : Int) + k ∧ ((y.toNat : Nat) : Int) + k ≤ t then f (((y.toNat : Nat) : Int) + k) else 0) = _
  rw [if_pos (by omega), show ((y.toNat : Nat) : Int) + k = y + k by omega]
theorem satT_bld {m : Nat} : ∀ (b top : Nat) (F : Int → Int), top < m → satT b (bldB m b top F) = bldB m b top (fun v => dsB m b top v F)
  | 0, top, F, _ => rfl
  | b + 1, top, F, h => by
    show sufT b (((List.range (top + 1)).map (fun x => bldB m b x (fun w => F ((x : Int) + (m : Int) * w)))).map (satT b)) = (List.range (top + 1)).map (fun x => bldB m b x (fun w => dsB m (b + 1) top ((x : Int) + (m : Int) * w) F))
    rw [List.map_map]
    have e1 : (List.range (top + 1)).map (satT b ∘ fun x => bldB m b x (fun w => F ((x : Int) + (m : Int) * w))) = (List.range (top + 1)).map (fun (x : Nat) => bldB m b x ((fun (x : Int) (v : Int) => dsB m b x v (fun w => F (x + (m : Int) * w))) (x : Int))) := by
      refine List.map_congr_left (fun x hx => ?_)
      have hx2 := List.mem_range.mp hx
      exact satT_bld b x _ (by omega)
    rw [e1, List.range_eq_range', suf_bld (P := fun (x : Int) (v : Int) => dsB m b x v (fun w => F (x + (m : Int) * w)))]
    refine List.map_congr_left (fun y hy => ?_)
    have hy2 := List.mem_range'_1.mp hy
    congr 1
    funext w
    show tlB (fun (x : Int) (v : Int) => dsB m b x v (fun w => F (x + (m : Int) * w))) (0 + (top + 1) - y) y w = sumZ (fun x => if ((y : Int) + (m : Int) * w) % (m : Int) ≤ x ∧ x ≤ top then dsB m b x (((y : Int) + (m : Int) * w) / (m : Int)) (fun w => F (x + (m : Int) * w)) else 0) (m : Int).toNat
    rw [Int.toNat_natCast, Int.add_mul_emod_self_left, Int.emod_eq_of_lt (by omega) (by omega), Int.add_mul_ediv_left _ _ (by omega), Int.ediv_eq_zero_of_lt (by omega) (by omega), show (0 : Int) + w = w by omega, sum_mid (f := fun x => dsB m b x w (fun w => F (x + (m : Int) * w))) (by omega) (by omega) (by omega)]
    unfold tlB
    rw [show ((top : Int) + 1 - (y : Int)).toNat = 0 + (top + 1) - y by omega]
theorem hdT_bld {m : Nat} : ∀ (b top : Nat) (F : Int → Int), hdT b (bldB m b top F) = F 0
  | 0, _, _ => rfl
  | b + 1, top, F => by
    show (match (List.range (top + 1)).map (fun x => bldB m b x (fun w => F ((x : Int) + (m : Int) * w))) with | [] => 0 | t :: _ => hdT b t) = F 0
    rw [List.range_succ_eq_map, List.map_cons]
    show hdT b (bldB m b 0 (fun w => F (((0 : Nat) : Int) + (m : Int) * w))) = F 0
    rw [hdT_bld b 0]
    congr 1
def fCB (m b top : Nat) : Nat → Int → Int
  | 0, _ => 1
  | k + 1, v => dsB m b top v (fCB m b top k)
theorem satI_bld {m b top : Nat} (h : top < m) : ∀ k : Nat, satI b (bldB m b top (fun _ => 1)) k = bldB m b top (fCB m b top k)
  | 0 => rfl
  | k + 1 => by
    show satT b (satI b (bldB m b top (fun _ => 1)) k) = _
    rw [satI_bld h k, satT_bld b top _ h]
    rfl
def bxV (a b c : Nat) : Int := hdT b (satI b (bldB (c + 1) b c (fun _ => 1)) a)
theorem bxV_f {a b c : Nat} : bxV a b c = fCB (c + 1) b c a 0 := by
  unfold bxV
  rw [satI_bld (by omega), hdT_bld]
def bxQ : Bool := (List.range 7).all fun a => (List.range 7).all fun b => (List.range 7).all fun c => decide (bxV a b c = boxP a b c) && decide (bxV 1 b c ≤ 924)
set_option maxRecDepth 100000 in
theorem bxQ_ok : bxQ = true := by decide +kernel
theorem bxQ_at {a b c : Nat} (ha : a ≤ 6) (hb : b ≤ 6) (hc : c ≤ 6) : fCB (c + 1) b c a 0 = boxP a b c ∧ fCB (c + 1) b c 1 0 ≤ 924 := by
  have h1 := List.all_eq_true.mp bxQ_ok a (List.mem_range.mpr (by omega))
  have h2 := List.all_eq_true.mp h1 b (List.mem_range.mpr (by omega))
  have h3 := List.all_eq_true.mp h2 c (List.mem_range.mpr (by omega))
  rw [Bool.and_eq_true, decide_eq_true_iff, decide_eq_true_iff, bxV_f, bxV_f] at h3
  exact h3
/-! what the reference's loops say, in the words of codes -/
theorem leB_0 {m : Nat} (hm : 0 < m) (b : Nat) (u : Int) : leB m b 0 u = true := by
  rw [leB_iff]
  intro i h0 h1
  have h2 : ∀ k : Nat, lfB (m : Int) k 0 = 0 := by
    intro k
    induction k with
    | zero => rfl
    | succ k ih => show lfB (m : Int) k 0 / (m : Int) = 0; rw [ih]; exact Int.zero_ediv _
  have h3 : dgB (m : Int) 0 i = 0 := by
    unfold dgB
    rw [h2]
    exact Int.zero_emod _
  rw [h3]
  exact (dgB_r (by omega)).1
def hpOK (H : Int → Int) (B : Int) (b : Nat) (top n : Int) : Prop := ∀ u k : Int, 0 ≤ u → u < n → gtB B b top u = true → 0 ≤ k → k < b → H (6 * cntG B b top u.toNat + k) = dgB B u k
theorem und_le {H : Int → Int} {B : Int} {b : Nat} {top n v u : Int} (hH : hpOK H B b top n) (hv : 0 ≤ v ∧ v < n) (hu : 0 ≤ u ∧ u < n) (gv : gtB B b top v = true) (gu : gtB B b top u = true) : undB H (cntG B b top v.toNat) (cntG B b top u.toNat) b = leB B b v u := by
  rw [Bool.eq_iff_iff, undB_iff, leB_iff]
  refine ⟨fun h i i0 i1 => ?_, fun h i i0 i1 => ?_⟩
  · have := h i i0 i1
    rw [hH v i hv.1 hv.2 gv i0 i1, hH u i hu.1 hu.2 gu i0 i1] at this
    exact this
  · rw [hH v i hv.1 hv.2 gv i0 i1, hH u i hu.1 hu.2 gu i0 i1]
    exact h i i0 i1
theorem fR_fC {H : Int → Int} {b c : Nat} (hH : hpOK H ((c + 1 : Nat) : Int) b c (((c + 1) ^ b : Nat) : Int)) : ∀ (k : Nat) (v : Int), 0 ≤ v → v < (((c + 1) ^ b : Nat) : Int) → gtB ((c + 1 : Nat) : Int) b c v = true → fR H b (cntG ((c + 1 : Nat) : Int) b c ((c + 1) ^ b)).toNat k (cntG ((c + 1 : Nat) : Int) b c v.toNat) = fCB (c + 1) b c k v
  | 0, _, _, _, _ => rfl
  | k + 1, v, h0, h1, hg => by
    show sumZ (fun q => if undB H (cntG ((c + 1 : Nat) : Int) b c v.toNat) q b = true then fR H b (cntG ((c + 1 : Nat) : Int) b c ((c + 1) ^ b)).toNat k q else 0) (cntG ((c + 1 : Nat) : Int) b c ((c + 1) ^ b)).toNat = dsB ((c + 1 : Nat) : Int) b c v (fCB (c + 1) b c k)
    rw [cnt_sum, ← sum_ds (m := c + 1) (by omega)]
    refine sumZ_cong (fun u u0 u1 => ?_)
    by_cases e : gtB ((c + 1 : Nat) : Int) b c u = true
    · rw [if_pos e, und_le hH ⟨h0, h1⟩ ⟨u0, u1⟩ hg e, fR_fC hH k u u0 u1 e]
      by_cases e2 : leB ((c + 1 : Nat) : Int) b v u = true
      · rw [if_pos e2, if_pos ⟨e, e2⟩]
      · rw [if_neg e2, if_neg (fun h => e2 h.2)]
    · rw [if_neg e, if_neg (fun h => e h.1)]
theorem cntG_top {b c : Nat} : cntG ((c + 1 : Nat) : Int) b c ((c + 1) ^ b) = fCB (c + 1) b c 1 0 := by
  show _ = dsB ((c + 1 : Nat) : Int) b c 0 (fCB (c + 1) b c 0)
  rw [← sum_ds (m := c + 1) (by omega)]
  refine sumZ_cong (fun u _ _ => ?_)
  exact if_cg ⟨fun h => ⟨h, leB_0 (by omega) b u⟩, fun h => h.1⟩
theorem box_pow {bb c : Int} (h : 0 ≤ bb ∧ bb ≤ 6 ∧ 0 ≤ c ∧ c ≤ 6) : (c + 1) ^ bb.toNat = (((c.toNat + 1) ^ bb.toNat : Nat) : Int) ∧ 1 ≤ (c + 1) ^ bb.toNat ∧ (c + 1) ^ bb.toNat ≤ 117649 := by
  have e : (c + 1) ^ bb.toNat = (((c.toNat + 1) ^ bb.toNat : Nat) : Int) := by
    rw [Int.natCast_pow]
    congr 1
    omega
  have h1 : (c.toNat + 1) ^ bb.toNat ≤ 7 ^ bb.toNat := Nat.pow_le_pow_left (by omega) _
  have h2 : 7 ^ bb.toNat ≤ 7 ^ 6 := Nat.pow_le_pow_right (by omega) (by omega)
  have h3 : (7 : Nat) ^ 6 = 117649 := by decide
  have h4 : 0 < (c.toNat + 1) ^ bb.toNat := Nat.pow_pos (by omega)
  refine ⟨e, ?_, ?_⟩ <;> omega
theorem box_rows {bb c n : Int} (h : 0 ≤ bb ∧ bb ≤ 6 ∧ 0 ≤ c ∧ c ≤ 6) (hn : n ≤ (c + 1) ^ bb.toNat) : cntG (c + 1) bb.toNat c n.toNat ≤ 924 := by
  obtain ⟨e, e1, e2⟩ := box_pow h
  have h1 : cntG (c + 1) bb.toNat c n.toNat ≤ cntG (c + 1) bb.toNat c ((c.toNat + 1) ^ bb.toNat) := cntG_mono (by omega)
  have h2 := (bxQ_at (a := 0) (b := bb.toNat) (c := c.toNat) (by omega) (by omega) (by omega)).2
  have h3 := cntG_top (b := bb.toNat) (c := c.toNat)
  rw [show ((c.toNat + 1 : Nat) : Int) = c + 1 by omega, show ((c.toNat : Nat) : Int) = c by omega] at h3
  omega
theorem box_end {H o : Int → Int} {a bb c n rows al : Int} (h : 0 ≤ a ∧ a ≤ 6 ∧ 0 ≤ bb ∧ bb ≤ 6 ∧ 0 ≤ c ∧ c ≤ 6) (hn : n = (c + 1) ^ bb.toNat) (hr : rows = cntG (c + 1) bb.toNat c n.toNat) (hH : hpOK H (c + 1) bb.toNat c n)
    (ho : ∀ j, 0 ≤ j → j < rows → o j = fR H bb.toNat rows.toNat (a - 1).toNat j) (hal : al = sumZ o rows.toNat) (ha : 1 ≤ a) : al = boxP a bb c := by
  obtain ⟨e, e1, e2⟩ := box_pow h.2.2
  have h2 := (bxQ_at (a := a.toNat) (b := bb.toNat) (c := c.toNat) (by omega) (by omega) (by omega)).1
  rw [show ((a.toNat : Nat) : Int) = a by omega, show ((bb.toNat : Nat) : Int) = bb by omega, show ((c.toNat : Nat) : Int) = c by omega] at h2
  have hn2 : n = (((c.toNat + 1) ^ bb.toNat : Nat) : Int) := by rw [hn, e]
  have hc : c + 1 = ((c.toNat + 1 : Nat) : Int) := by omega
  have hc2 : c = ((c.toNat : Nat) : Int) := by omega
  have hr0 : 0 ≤ rows := by rw [hr]; exact cntG_nn
  have hr2 : rows = cntG ((c.toNat + 1 : Nat) : Int) bb.toNat c.toNat ((c.toNat + 1) ^ bb.toNat) := by
    rw [hr, hn2, Int.toNat_natCast, ← hc, ← hc2]
  rw [← h2, hal, sumZ_cong (g := fR H bb.toNat rows.toNat (a - 1).toNat) (fun k k0 k1 => ho k k0 (by omega))]
  have hH2 : hpOK H ((c.toNat + 1 : Nat) : Int) bb.toNat ((c.toNat : Nat) : Int) (((c.toNat + 1) ^ bb.toNat : Nat) : Int) := by rw [← hn2, ← hc, ← hc2]; exact hH
  rw [hr2, cnt_sum]
  have h3 : fCB (c.toNat + 1) bb.toNat c.toNat a.toNat 0 = dsB ((c.toNat + 1 : Nat) : Int) bb.toNat c.toNat 0 (fCB (c.toNat + 1) bb.toNat c.toNat (a - 1).toNat) := by
    rw [show a.toNat = (a - 1).toNat + 1 by omega]
    rfl
  rw [h3, ← sum_ds (m := c.toNat + 1) (by omega)]
  refine sumZ_cong (fun u u0 u1 => ?_)
  by_cases g : gtB ((c.toNat + 1 : Nat) : Int) bb.toNat c.toNat u = true
  · rw [if_pos g, if_pos ⟨g, leB_0 (by omega) _ u⟩, fR_fC hH2 _ u u0 u1 g]
  · rw [if_neg g, if_neg (fun h => g h.1)]
theorem box_a0 {bb c : Int} (h : 0 ≤ bb ∧ bb ≤ 6 ∧ 0 ≤ c ∧ c ≤ 6) : 1 = boxP 0 bb c := by
  have h2 := (bxQ_at (a := 0) (b := bb.toNat) (c := c.toNat) (by omega) (by omega) (by omega)).1
  rw [show ((0 : Nat) : Int) = 0 by rfl, show ((bb.toNat : Nat) : Int) = bb by omega, show ((c.toNat : Nat) : Int) = c by omega] at h2
  exact h2
theorem gt_yes {B v c : Int} {b : Int} (hB : B = c + 1) (hc : 0 ≤ c) (h : ∀ i, 1 ≤ i → i < b → dgB B v i ≤ dgB B v (i - 1)) : gtB B b.toNat c v = true := by
  rw [gtB_iff]
  refine ⟨fun _ => ?_, fun i i0 i1 => h i i0 (by omega)⟩
  have := dgB_r (B := B) (v := v) (k := 0) (by omega)
  omega
theorem gt_no {B v c : Int} {b : Int} (h : ∃ i, 1 ≤ i ∧ i < b ∧ dgB B v (i - 1) < dgB B v i) : gtB B b.toNat c v = false := by
  cases e : gtB B b.toNat c v with
  | false => rfl
  | true =>
    obtain ⟨i, i0, i1, i2⟩ := h
    have := ((gtB_iff _ _ _).mp e).2 i i0 (by omega)
    omega
end ZBOX
