section ZREF
/-! walks counted by a weight, the reference's way -/
def adW (m k t l : Int) : Int := if m = 1 then (if 0 ≤ l ∧ l ≠ k then 1 else 0) else gnW m (t % 61 - 30)
def bR (gt a b : Int) : Int := if a < 0 ∨ b < 0 then max a b else if gt = 1 then max a b else min a b
def pvR (t e : Int) : Int := t - 61 * sdx e - sdy e
def dnI (s k t e : Int) : Int := if -30 ≤ t / 61 - 30 - sdx e ∧ t / 61 - 30 - sdx e ≤ 30 ∧ -30 ≤ t % 61 - 30 - sdy e ∧ t % 61 - 30 - sdy e ≤ 30 ∧ (pvR t e < s ∨ (pvR t e = s ∧ e < k)) then 1 else 0
theorem nx_iff {s t e : Int} (hs : 0 ≤ s ∧ s < 3721) (ht : 0 ≤ t ∧ t < 3721) : nx0 s e = t ↔ (-30 ≤ t / 61 - 30 - sdx e ∧ t / 61 - 30 - sdx e ≤ 30 ∧ -30 ≤ t % 61 - 30 - sdy e ∧ t % 61 - 30 - sdy e ≤ 30) ∧ pvR t e = s := by
  have h := sd_rng e
  unfold nx0 pvR
  constructor
  · intro q
    split at q
    · omega
    · omega
  · intro q
    rw [if_pos (by omega)]
    omega
theorem dn_c (s k t e : Int) : ((-30 ≤ t / 61 - 30 - sdx e ∧ t / 61 - 30 - sdx e ≤ 30 ∧ -30 ≤ t % 61 - 30 - sdy e ∧ t % 61 - 30 - sdy e ≤ 30 ∧ (pvR t e < s ∨ (pvR t e = s ∧ e < k))) ∧ dnI s k t e = 1) ∨ (¬ (-30 ≤ t / 61 - 30 - sdx e ∧ t / 61 - 30 - sdx e ≤ 30 ∧ -30 ≤ t % 61 - 30 - sdy e ∧ t % 61 - 30 - sdy e ≤ 30 ∧ (pvR t e < s ∨ (pvR t e = s ∧ e < k))) ∧ dnI s k t e = 0) := by
  unfold dnI
  split
  · rename_i h
    exact Or.inl ⟨h, rfl⟩
  · rename_i h
    exact Or.inr ⟨h, rfl⟩
theorem dn_step {s k t e : Int} (hs : 0 ≤ s ∧ s < 3721) (hk : 0 ≤ k ∧ k < 4) (ht : 0 ≤ t ∧ t < 3721) (he : 0 ≤ e ∧ e < 4) : (nx0 s k = t ∧ k = e ∧ dnI s k t e = 0 ∧ dnI s (k + 1) t e = 1) ∨ (¬ (nx0 s k = t ∧ k = e) ∧ dnI s (k + 1) t e = dnI s k t e) := by
  have h1 := dn_c s k t e
  have h2 := dn_c s (k + 1) t e
  have h3 := nx_iff (e := e) hs ht
  by_cases z : nx0 s e = t
  · have h4 := h3.mp z
    by_cases q : k = e
    · refine Or.inl ⟨by rw [q]; exact z, q, by omega, by omega⟩
    · refine Or.inr ⟨fun w => q w.2, by omega⟩
  · have h5 := fun w => z (h3.mpr w)
    refine Or.inr ⟨fun w => z (by rw [← w.2]; exact w.1), by omega⟩
theorem dn_row {s t e : Int} (he : 0 ≤ e ∧ e < 4) : dnI s 4 t e = dnI (s + 1) 0 t e := by
  have h1 := dn_c s 4 t e
  have h2 := dn_c (s + 1) 0 t e
  omega
theorem dn_00 {t e : Int} (ht : 0 ≤ t ∧ t < 3721) (he : 0 ≤ e ∧ e < 4) : dnI 0 0 t e = 0 := by
  have h1 := dn_c 0 0 t e
  have h2 := sd_rng e
  unfold pvR at h1
  omega
theorem dn_end {t e : Int} (ht : 0 ≤ t ∧ t < 3721) : (dnI 3721 0 t e = 1 ∧ (0 ≤ pvR t e ∧ pvR t e < 3721) ∧ pvR t e / 61 - 30 = t / 61 - 30 - sdx e ∧ pvR t e % 61 - 30 = t % 61 - 30 - sdy e) ∨ (dnI 3721 0 t e = 0 ∧ (t / 61 - 30 - sdx e < -30 ∨ 30 < t / 61 - 30 - sdx e ∨ t % 61 - 30 - sdy e < -30 ∨ 30 < t % 61 - 30 - sdy e)) := by
  have h1 := dn_c 3721 0 t e
  have h2 := sd_rng e
  unfold pvR at h1 ⊢
  omega
def PWR (A : Int → Int) (s k t : Int) : Int := sumZ (fun e => if dnI s k t e = 1 then A e else 0) 4
theorem PWR_step {A : Int → Int} {s k t : Int} (hs : 0 ≤ s ∧ s < 3721) (hk : 0 ≤ k ∧ k < 4) (ht : 0 ≤ t ∧ t < 3721) : PWR A s (k + 1) t = PWR A s k t + (if nx0 s k = t then A k else 0) := by
  unfold PWR
  by_cases q : nx0 s k = t
  · rw [if_pos q, ← sumZ_one (f := A) (i := k) (n := 4) hk.1 (by omega), ← sumZ_add]
    refine sumZ_cong (fun e e0 e1 => ?_)
    rcases dn_step hs hk ht ⟨e0, by omega⟩ with ⟨_, b, c, d⟩ | ⟨a, b⟩
    · rw [if_pos d, c, if_neg (by decide), if_pos b.symm]
      omega
    · rw [b, if_neg (show ¬ e = k from fun z => a ⟨q, z.symm⟩)]
      omega
  · rw [if_neg q, Int.add_zero]
    refine sumZ_cong (fun e e0 e1 => ?_)
    rcases dn_step hs hk ht ⟨e0, by omega⟩ with ⟨a, _⟩ | ⟨_, b⟩
    · exact absurd a q
    · rw [b]
theorem PWR_row {A : Int → Int} {s t : Int} : PWR A s 4 t = PWR A (s + 1) 0 t := sumZ_cong (fun e e0 e1 => by
  show (if dnI s 4 t e = 1 then A e else 0) = if dnI (s + 1) 0 t e = 1 then A e else 0
  rw [dn_row ⟨e0, by omega⟩])
theorem PWR_0 {A : Int → Int} {t : Int} (ht : 0 ≤ t ∧ t < 3721) : PWR A 0 0 t = 0 := sumZ_pos (fun e e0 e1 => by
  show (if dnI 0 0 t e = 1 then A e else 0) = 0
  rw [dn_00 ht ⟨e0, by omega⟩]
  rfl)
theorem gaW_g {m t l k y : Int} (hm : m ≠ 1) : gaW m t l k y = gnW m y := by
  unfold gaW
  rw [if_neg hm]
theorem CL_mid {m : Int} {n : Nat} {e w : Int} : CL m n (1860 / 61 - 30) (1860 % 61 - 30) e w = CL m n 0 0 e w := by
  rw [show (1860 : Int) / 61 - 30 = 0 by decide, show (1860 : Int) % 61 - 30 = 0 by decide]
theorem CL_inv {m : Int} {r : Nat} {t e w : Int} (hr : (r : Int) ≤ 13) (h : t / 61 - 30 - sdx e < -30 ∨ 30 < t / 61 - 30 - sdx e ∨ t % 61 - 30 - sdy e < -30 ∨ 30 < t % 61 - 30 - sdy e) : CL m (r + 1) (t / 61 - 30) (t % 61 - 30) e w = 0 := by
  show (if 0 ≤ e ∧ e < 4 then sumZ (fun l => CL m r (t / 61 - 30 - sdx e) (t % 61 - 30 - sdy e) l (w - gaW m (r : Int) l e (t % 61 - 30))) 4 else 0) = 0
  split
  · exact sumZ_pos (fun l _ _ => CL_far (by omega))
  · rfl
/-- all walks of r steps to a square, by their weight -/
def DW (m : Int) (r : Nat) (s w : Int) : Int := sumZ (fun l => CL m r (s / 61 - 30) (s % 61 - 30) l w) 4
theorem DW_neg {m : Int} {r : Nat} {s w : Int} (h : w < 0) : DW m r s w = 0 := sumZ_pos (fun l _ _ => CL_neg (Or.inl h))
theorem DW_TT {m : Int} {n : Nat} {w : Int} : DW m n 1860 w = TT m n w := sumZ_cong (fun l _ _ => CL_mid)
theorem DW_0 {m s w : Int} (hs : 0 ≤ s ∧ s < 3721) : DW m 0 s w = if s = 1860 ∧ w = 0 then 1 else 0 := by
  unfold DW
  by_cases q : s = 1860 ∧ w = 0
  · rw [if_pos q, sumZ_cong (g := fun l => if l = 0 then (fun _ => 1) l else 0) (fun l _ _ => by
      show (if s / 61 - 30 = 0 ∧ s % 61 - 30 = 0 ∧ l = 0 ∧ w = 0 then (1 : Int) else 0) = if l = 0 then 1 else 0
      by_cases z : l = 0
      · rw [if_pos z, if_pos ⟨by omega, by omega, z, q.2⟩]
      · rw [if_neg z, if_neg (fun y => z y.2.2.1)])]
    exact sumZ_one (f := fun _ => 1) (by omega) (by omega)
  · rw [if_neg q]
    refine sumZ_pos (fun l _ _ => ?_)
    show (if s / 61 - 30 = 0 ∧ s % 61 - 30 = 0 ∧ l = 0 ∧ w = 0 then (1 : Int) else 0) = 0
    rw [if_neg (by omega)]
theorem DW_step {m : Int} {r : Nat} {t w : Int} (hm : m ≠ 1) (hr : (r : Int) ≤ 13) (ht : 0 ≤ t ∧ t < 3721) : PWR (fun e => DW m r (pvR t e) (w - gnW m (t % 61 - 30))) 3721 0 t = DW m (r + 1) t w := by
  unfold PWR
  show _ = sumZ (fun e => CL m (r + 1) (t / 61 - 30) (t % 61 - 30) e w) 4
  refine sumZ_cong (fun e e0 e1 => ?_)
  rcases dn_end (e := e) ht with ⟨a, _, c, d⟩ | ⟨a, b⟩
  · rw [if_pos a]
    show DW m r (pvR t e) (w - gnW m (t % 61 - 30)) = if 0 ≤ e ∧ e < 4 then sumZ (fun l => CL m r (t / 61 - 30 - sdx e) (t % 61 - 30 - sdy e) l (w - gaW m (r : Int) l e (t % 61 - 30))) 4 else 0
    rw [if_pos ⟨e0, by omega⟩]
    unfold DW
    rw [c, d]
    refine sumZ_cong (fun l _ _ => ?_)
    rw [gaW_g hm]
  · rw [if_neg (by omega), CL_inv hr b]
theorem sh_step {q q2 on : Int → Int} {B A g w : Int} (h : ∀ j, q2 j = if B + g ≤ j ∧ j < B + g + w then q j + on (j - B - g + A) else q j) (hw : 0 ≤ w) {i v : Int} (hi : i = B + g + w) (hv : v = q2 i + on (A + w)) : ∀ j, zu q2 i v j = if B + g ≤ j ∧ j < B + g + (w + 1) then q j + on (j - B - g + A) else q j := by
  intro j
  unfold zu
  by_cases e : j = i
  · rw [if_pos e, if_pos (by omega), hv, h i, if_neg (by omega), e, show i - B - g + A = A + w by omega]
  · rw [if_neg e, h j]
    by_cases e2 : B + g ≤ j ∧ j < B + g + w
    · rw [if_pos e2, if_pos (by omega)]
    · rw [if_neg e2, if_neg (by omega)]
theorem wR_push {q q2 on : Int → Int} {m r want s k x : Int} (hm : m ≠ 1) (hw : 0 ≤ want ∧ want ≤ 120) (hs : 0 ≤ s ∧ s < 3721) (hk : 0 ≤ k ∧ k < 4) (hT : 0 ≤ nx0 s k) (hx : x + gnW m (nx0 s k % 61 - 30) = want + 1) (ho : ∀ s w, 0 ≤ s → s < 3721 → 0 ≤ w → w ≤ want → on (121 * s + w) = DW m r.toNat s w)
    (hq : ∀ t w, 0 ≤ t → t < 3721 → 0 ≤ w → w ≤ want → q (121 * t + w) = PWR (fun e => DW m r.toNat (pvR t e) (w - gnW m (t % 61 - 30))) s k t)
    (h2 : ∀ j, q2 j = if 121 * nx0 s k + gnW m (nx0 s k % 61 - 30) ≤ j ∧ j < 121 * nx0 s k + gnW m (nx0 s k % 61 - 30) + x then q j + on (j - 121 * nx0 s k - gnW m (nx0 s k % 61 - 30) + 121 * s) else q j) :
    ∀ t w, 0 ≤ t → t < 3721 → 0 ≤ w → w ≤ want → q2 (121 * t + w) = PWR (fun e => DW m r.toNat (pvR t e) (w - gnW m (t % 61 - 30))) s (k + 1) t := by
  intro t w t0 t1 w0 w1
  have hg := gnW_r m (nx0 s k % 61 - 30)
  rw [h2, PWR_step hs hk ⟨t0, t1⟩, hq t w t0 t1 w0 w1]
  by_cases z : nx0 s k = t
  · have hp := ((nx_iff hs ⟨t0, t1⟩).mp z).2
    rw [if_pos z, hp, z]
    rw [z] at hx hg
    by_cases y : gnW m (t % 61 - 30) ≤ w
    · rw [if_pos (by omega), show 121 * t + w - 121 * t - gnW m (t % 61 - 30) + 121 * s = 121 * s + (w - gnW m (t % 61 - 30)) by omega, ho s _ hs.1 hs.2 (by omega) (by omega)]
    · rw [if_neg (by omega), DW_neg (by omega), Int.add_zero]
  · rw [if_neg z, if_neg (by omega), Int.add_zero]
theorem wR_skip {q : Int → Int} {m r want s k : Int} (hs : 0 ≤ s ∧ s < 3721) (hk : 0 ≤ k ∧ k < 4) (hT : nx0 s k < 0)
    (hq : ∀ t w, 0 ≤ t → t < 3721 → 0 ≤ w → w ≤ want → q (121 * t + w) = PWR (fun e => DW m r.toNat (pvR t e) (w - gnW m (t % 61 - 30))) s k t) :
    ∀ t w, 0 ≤ t → t < 3721 → 0 ≤ w → w ≤ want → q (121 * t + w) = PWR (fun e => DW m r.toNat (pvR t e) (w - gnW m (t % 61 - 30))) s (k + 1) t := by
  intro t w t0 t1 w0 w1
  rw [PWR_step hs hk ⟨t0, t1⟩, if_neg (by omega), Int.add_zero, hq t w t0 t1 w0 w1]
theorem wR_init {z : Int → Int} {m want i v : Int} (hz : ∀ j, 0 ≤ j → j < 450241 → z j = 0) (hw : 0 ≤ want ∧ want ≤ 120) (hi : i = 225060) (hv : v = 1) : ∀ s w, 0 ≤ s → s < 3721 → 0 ≤ w → w ≤ want → zu z i v (121 * s + w) = DW m (0 : Int).toNat s w := by
  intro s w s0 s1 w0 w1
  have e : DW m (0 : Int).toNat s w = if s = 1860 ∧ w = 0 then 1 else 0 := DW_0 ⟨s0, s1⟩
  rw [e]
  unfold zu
  by_cases q : s = 1860 ∧ w = 0
  · rw [if_pos q, if_pos (by omega), hv]
  · rw [if_neg q, if_neg (by omega), hz _ (by omega) (by omega)]
/-! turns -/
def tnR (l k : Int) : Int := if l = k then 0 else 1
theorem tnR_c (l k : Int) : (l = k ∧ tnR l k = 0) ∨ (l ≠ k ∧ tnR l k = 1) := by
  unfold tnR
  split
  · rename_i h
    exact Or.inl ⟨h, rfl⟩
  · rename_i h
    exact Or.inr ⟨h, rfl⟩
def shO (on : Int → Int) (s l v : Int) : Int := if 0 ≤ v then on (120 * s + 15 * l + v) else 0
def gsR (on : Int → Int) (s k t e w : Int) (n : Nat) : Int := if nx0 s k = t ∧ k = e then sumZ (fun l => shO on s l (w - tnR l k)) n else 0
theorem gsR_s {on : Int → Int} {s k t e w la : Int} (h : 0 ≤ la) : gsR on s k t e w (la + 1).toNat = gsR on s k t e w la.toNat + (if nx0 s k = t ∧ k = e then shO on s la (w - tnR la k) else 0) := by
  unfold gsR
  split
  · rw [sumZ_s h]
  · rfl
theorem gs_step {on q q2 two : Int → Int} {s k la x : Int} (hk : 0 ≤ k ∧ k < 4) (hla : 0 ≤ la ∧ la < 4) (hx : x + tnR la k = 15)
    (vq : ∀ t e w, 0 ≤ t → t < 3721 → 0 ≤ e → e < 4 → 0 ≤ w → w < 15 → q (120 * t + 15 * e + w) = two (120 * t + 15 * e + w) + gsR on s k t e w la.toNat)
    (h2 : ∀ j, q2 j = if 120 * nx0 s k + 15 * k + tnR la k ≤ j ∧ j < 120 * nx0 s k + 15 * k + tnR la k + x then q j + on (j - (120 * nx0 s k + 15 * k) - tnR la k + (120 * s + 15 * la)) else q j) :
    ∀ t e w, 0 ≤ t → t < 3721 → 0 ≤ e → e < 4 → 0 ≤ w → w < 15 → q2 (120 * t + 15 * e + w) = two (120 * t + 15 * e + w) + gsR on s k t e w (la + 1).toNat := by
  intro t e w t0 t1 e0 e1 w0 w1
  have hc := tnR_c la k
  rw [h2, gsR_s hla.1, vq t e w t0 t1 e0 e1 w0 w1]
  by_cases z : nx0 s k = t ∧ k = e
  · rw [if_pos z]
    unfold shO
    by_cases y : 0 ≤ w - tnR la k
    · rw [if_pos (by omega), if_pos y, show 120 * t + 15 * e + w - (120 * nx0 s k + 15 * k) - tnR la k + (120 * s + 15 * la) = 120 * s + 15 * la + (w - tnR la k) by omega]
      omega
    · rw [if_neg (by omega), if_neg y]
      omega
  · rw [if_neg z, if_neg (by omega)]
    omega
theorem tu_step {q tw on : Int → Int} {r s k : Int} (hr : 1 ≤ r ∧ r ≤ 13) (hs : 0 ≤ s ∧ s < 3721) (hk : 0 ≤ k ∧ k < 4)
    (ho : ∀ t e w, 0 ≤ t → t < 3721 → 0 ≤ e → e < 4 → 0 ≤ w → w < 15 → on (120 * t + 15 * e + w) = CL 1 r.toNat (t / 61 - 30) (t % 61 - 30) e w)
    (vq : ∀ t e w, 0 ≤ t → t < 3721 → 0 ≤ e → e < 4 → 0 ≤ w → w < 15 → q (120 * t + 15 * e + w) = if dnI s k t e = 1 then CL 1 (r.toNat + 1) (t / 61 - 30) (t % 61 - 30) e w else 0)
    (h2 : ∀ t e w, 0 ≤ t → t < 3721 → 0 ≤ e → e < 4 → 0 ≤ w → w < 15 → tw (120 * t + 15 * e + w) = q (120 * t + 15 * e + w) + gsR on s k t e w 4) :
    ∀ t e w, 0 ≤ t → t < 3721 → 0 ≤ e → e < 4 → 0 ≤ w → w < 15 → tw (120 * t + 15 * e + w) = if dnI s (k + 1) t e = 1 then CL 1 (r.toNat + 1) (t / 61 - 30) (t % 61 - 30) e w else 0 := by
  intro t e w t0 t1 e0 e1 w0 w1
  rw [h2 t e w t0 t1 e0 e1 w0 w1, vq t e w t0 t1 e0 e1 w0 w1]
  rcases dn_step hs hk ⟨t0, t1⟩ ⟨e0, e1⟩ with ⟨a, b, c, d⟩ | ⟨a, b⟩
  · rw [c, d, if_neg (by decide), if_pos rfl]
    unfold gsR
    rw [if_pos ⟨a, b⟩, Int.zero_add]
    have h3 := (nx_iff hs ⟨t0, t1⟩).mp a
    rw [b] at h3 ⊢
    have hsd := sd_rng e
    unfold pvR at h3
    show sumZ (fun l => shO on s l (w - tnR l e)) 4 = if 0 ≤ e ∧ e < 4 then sumZ (fun l => CL 1 r.toNat (t / 61 - 30 - sdx e) (t % 61 - 30 - sdy e) l (w - gaW 1 ((r.toNat : Nat) : Int) l e (t % 61 - 30))) 4 else 0
    rw [if_pos ⟨e0, e1⟩]
    refine sumZ_cong (fun l l0 l1 => ?_)
    have e2 : gaW 1 ((r.toNat : Nat) : Int) l e (t % 61 - 30) = tnR l e := by
      unfold gaW tgW tnR
      rw [if_pos rfl]
      by_cases z : l = e
      · rw [if_pos z, if_neg (fun y => y.2 z)]
      · rw [if_neg z, if_pos ⟨by omega, z⟩]
    rw [e2]
    unfold shO
    have hc := tnR_c l e
    by_cases y : 0 ≤ w - tnR l e
    · rw [if_pos y, ho s l (w - tnR l e) hs.1 hs.2 l0 (by omega) y (by omega), show s / 61 - 30 = t / 61 - 30 - sdx e by omega, show s % 61 - 30 = t % 61 - 30 - sdy e by omega]
    · rw [if_neg y, CL_neg (by omega)]
  · rw [b]
    unfold gsR
    rw [if_neg a, Int.add_zero]
theorem tu_row {q : Int → Int} {r : Nat} {s k : Int} (hk : k = 4) (vq : ∀ t e w, 0 ≤ t → t < 3721 → 0 ≤ e → e < 4 → 0 ≤ w → w < 15 → q (120 * t + 15 * e + w) = if dnI s k t e = 1 then CL 1 (r + 1) (t / 61 - 30) (t % 61 - 30) e w else 0) :
    ∀ t e w, 0 ≤ t → t < 3721 → 0 ≤ e → e < 4 → 0 ≤ w → w < 15 → q (120 * t + 15 * e + w) = if dnI (s + 1) 0 t e = 1 then CL 1 (r + 1) (t / 61 - 30) (t % 61 - 30) e w else 0 := by
  intro t e w t0 t1 e0 e1 w0 w1
  rw [vq t e w t0 t1 e0 e1 w0 w1, hk, dn_row ⟨e0, e1⟩]
theorem tu_0 {q : Int → Int} {X : Int → Int → Int → Int} (hz : ∀ j, 0 ≤ j → j < 450241 → q j = 0) : ∀ t e w, 0 ≤ t → t < 3721 → 0 ≤ e → e < 4 → 0 ≤ w → w < 15 → q (120 * t + 15 * e + w) = if dnI 0 0 t e = 1 then X t e w else 0 := by
  intro t e w t0 t1 e0 e1 w0 w1
  rw [hz _ (by omega) (by omega), dn_00 ⟨t0, t1⟩ ⟨e0, e1⟩]
  rfl
theorem tu_end {r : Nat} {t e w s : Int} (hr : (r : Int) ≤ 13) (ht : 0 ≤ t ∧ t < 3721) (hs : s = 3721) : (if dnI s 0 t e = 1 then CL 1 (r + 1) (t / 61 - 30) (t % 61 - 30) e w else 0) = CL 1 (r + 1) (t / 61 - 30) (t % 61 - 30) e w := by
  rw [hs]
  rcases dn_end (e := e) ht with ⟨a, _⟩ | ⟨a, b⟩
  · rw [if_pos a]
  · rw [if_neg (by omega), CL_inv hr b]
theorem nx_mid {k : Int} : nx0 1860 k = 1860 + 61 * sdx k + sdy k ∧ 1798 ≤ nx0 1860 k ∧ nx0 1860 k ≤ 1922 := by
  have h := sd_rng k
  unfold nx0
  rw [if_pos (by omega)]
  omega
theorem tu_first {q : Int → Int} {k J v : Int} (hk : 0 ≤ k ∧ k < 4) (vq : ∀ t e w, 0 ≤ t → t < 3721 → 0 ≤ e → e < 4 → 0 ≤ w → w < 15 → q (120 * t + 15 * e + w) = if nx0 1860 e = t ∧ e < k ∧ w = 0 then 1 else 0) (hJ : J = 120 * nx0 1860 k + 15 * k) (hv : v = q J + 1) :
    ∀ t e w, 0 ≤ t → t < 3721 → 0 ≤ e → e < 4 → 0 ≤ w → w < 15 → zu q J v (120 * t + 15 * e + w) = if nx0 1860 e = t ∧ e < k + 1 ∧ w = 0 then 1 else 0 := by
  intro t e w t0 t1 e0 e1 w0 w1
  have hm := nx_mid (k := k)
  unfold zu
  by_cases z : 120 * t + 15 * e + w = J
  · have h3 : t = nx0 1860 k ∧ e = k ∧ w = 0 := by omega
    rw [if_pos z, hv, ← z, vq t e w t0 t1 e0 e1 w0 w1, if_neg (by omega), if_pos ⟨by rw [h3.2.1]; exact h3.1.symm, by omega, h3.2.2⟩]
    rfl
  · rw [if_neg z, vq t e w t0 t1 e0 e1 w0 w1]
    by_cases y : nx0 1860 e = t ∧ e < k ∧ w = 0
    · rw [if_pos y, if_pos ⟨y.1, by omega, y.2.2⟩]
    · rw [if_neg y, if_neg]
      rintro ⟨a, b, c⟩
      by_cases x : e = k
      · rw [x] at a
        omega
      · exact y ⟨a, by omega, c⟩
theorem tu_one {q : Int → Int} {k : Int} (hk : k = 4) (vq : ∀ t e w, 0 ≤ t → t < 3721 → 0 ≤ e → e < 4 → 0 ≤ w → w < 15 → q (120 * t + 15 * e + w) = if nx0 1860 e = t ∧ e < k ∧ w = 0 then 1 else 0) :
    ∀ t e w, 0 ≤ t → t < 3721 → 0 ≤ e → e < 4 → 0 ≤ w → w < 15 → q (120 * t + 15 * e + w) = CL 1 (1 : Int).toNat (t / 61 - 30) (t % 61 - 30) e w := by
  intro t e w t0 t1 e0 e1 w0 w1
  have hm := nx_mid (k := e)
  have hsd := sd_rng e
  rw [vq t e w t0 t1 e0 e1 w0 w1]
  show _ = if 0 ≤ e ∧ e < 4 then sumZ (fun l => if t / 61 - 30 - sdx e = 0 ∧ t % 61 - 30 - sdy e = 0 ∧ l = 0 ∧ w - gaW 1 ((0 : Nat) : Int) l e (t % 61 - 30) = 0 then (1 : Int) else 0) 4 else 0
  have hg : ∀ l, gaW 1 ((0 : Nat) : Int) l e (t % 61 - 30) = 0 := fun l => by
    unfold gaW tgW
    rw [if_pos rfl, if_neg (fun y => absurd y.1 (by decide))]
  rw [if_pos (show 0 ≤ e ∧ e < 4 from ⟨e0, e1⟩)]
  by_cases y : nx0 1860 e = t ∧ e < k ∧ w = 0
  · rw [if_pos y, sumZ_cong (g := fun l => if l = 0 then (fun _ => 1) l else 0) (fun l _ _ => by
      show (if t / 61 - 30 - sdx e = 0 ∧ t % 61 - 30 - sdy e = 0 ∧ l = 0 ∧ w - gaW 1 ((0 : Nat) : Int) l e (t % 61 - 30) = 0 then (1 : Int) else 0) = if l = 0 then 1 else 0
      rw [hg]
      by_cases z : l = 0
      · rw [if_pos z, if_pos ⟨by omega, by omega, z, by omega⟩]
      · rw [if_neg z, if_neg (fun x => z x.2.2.1)])]
    exact (sumZ_one (f := fun _ => 1) (by omega) (by omega)).symm
  · rw [if_neg y]
    refine (sumZ_pos (fun l _ _ => ?_)).symm
    show (if t / 61 - 30 - sdx e = 0 ∧ t % 61 - 30 - sdy e = 0 ∧ l = 0 ∧ w - gaW 1 ((0 : Nat) : Int) l e (t % 61 - 30) = 0 then (1 : Int) else 0) = 0
    rw [hg, if_neg]
    rintro ⟨a, b, _, d⟩
    exact y ⟨by omega, by omega, by omega⟩
theorem TT_0 {want : Int} : TT 1 (0 : Int).toNat want = if want = 0 then 1 else 0 := by
  rw [← DW_TT]
  have e : DW 1 (0 : Int).toNat 1860 want = if (1860 : Int) = 1860 ∧ want = 0 then 1 else 0 := DW_0 (by omega)
  rw [e]
  by_cases q : want = 0
  · rw [if_pos q, if_pos ⟨rfl, q⟩]
  · rw [if_neg q, if_neg (fun y => q y.2)]
/-! the least or greatest -/
theorem bR_bet {gt a b : Int} (hg : gt = 0 ∨ gt = 1) (ha : -1 ≤ a) (hb : -1 ≤ b) : bR gt a b + 1 = bet gt (a + 1) (b + 1) := by
  unfold bR bet
  (repeat' split) <;> omega
theorem bR_r {gt a b : Int} (ha : -1 ≤ a ∧ a ≤ 200) (hb : -1 ≤ b ∧ b ≤ 200) : -1 ≤ bR gt a b ∧ bR gt a b ≤ 200 := by
  unfold bR
  (repeat' split) <;> omega
theorem ad_ga {w k t l r la : Int} (h : (r = 0 ∧ l = -1) ∨ (0 < r ∧ l = la)) (hla : 0 ≤ la) : adW w k t l = gaW w r la k (t % 61 - 30) := by
  unfold adW gaW tgW
  by_cases q : w = 1
  · rw [if_pos q, if_pos q]
    rcases h with ⟨a, b⟩ | ⟨a, b⟩
    · rw [if_neg (by omega), if_neg (by omega)]
    · rw [b]
      by_cases z : la = k
      · rw [if_neg (fun y => y.2 z), if_neg (fun y => y.2 z)]
      · rw [if_pos ⟨hla, z⟩, if_pos ⟨a, z⟩]
  · rw [if_neg q, if_neg q]
def nB (s la p : Int) : Nat := if p < s then 8 else if p = s then la.toNat else 0
def BTW (m : Int) (r : Nat) (s la t e w : Int) : Int := if 0 ≤ e ∧ e < 4 ∧ -30 ≤ t / 61 - 30 - sdx e ∧ t / 61 - 30 - sdx e ≤ 30 ∧ -30 ≤ t % 61 - 30 - sdy e ∧ t % 61 - 30 - sdy e ≤ 30 then sumZ (fun l => CL m r (t / 61 - 30 - sdx e) (t % 61 - 30 - sdy e) l (w - gaW m (r : Int) l e (t % 61 - 30))) (nB s la (pvR t e)) else 0
theorem BTW_nn {m : Int} {r : Nat} {s la t e w : Int} : 0 ≤ BTW m r s la t e w := by
  unfold BTW
  split
  · exact sumZ_nn (fun l _ _ => CL_nn _ _ _ _ _ _)
  · omega
theorem BTW_b {m : Int} {r : Nat} {s la t e w : Int} (h : 0 < BTW m r s la t e w) : w ≤ (r : Int) + 1 := by
  unfold BTW at h
  split at h
  · obtain ⟨l, _, _, l2⟩ := sumZ_ex h
    have h1 := CL_sup _ _ _ _ _ _ l2
    have h2 := gaW_r m (r : Int) l e (t % 61 - 30)
    omega
  · omega
theorem BTW_step {m : Int} {r : Nat} {s la t e w : Int} (hs : 0 ≤ s ∧ s < 3721) (hla : 0 ≤ la) (ht : 0 ≤ t ∧ t < 3721) : BTW m r s (la + 1) t e w = BTW m r s la t e w + (if 0 ≤ e ∧ e < 4 ∧ nx0 s e = t then CL m r (s / 61 - 30) (s % 61 - 30) la (w - gaW m (r : Int) la e (t % 61 - 30)) else 0) := by
  have h3 := nx_iff (e := e) hs ht
  have hsd := sd_rng e
  unfold BTW
  by_cases q : 0 ≤ e ∧ e < 4 ∧ -30 ≤ t / 61 - 30 - sdx e ∧ t / 61 - 30 - sdx e ≤ 30 ∧ -30 ≤ t % 61 - 30 - sdy e ∧ t % 61 - 30 - sdy e ≤ 30
  · rw [if_pos q, if_pos q]
    by_cases z : pvR t e = s
    · have h4 := h3.mpr ⟨q.2.2, z⟩
      rw [if_pos ⟨q.1, q.2.1, h4⟩]
      unfold nB
      rw [if_neg (by omega), if_pos z, if_neg (by omega), if_pos z, sumZ_s hla]
      unfold pvR at z
      rw [show s / 61 - 30 = t / 61 - 30 - sdx e by omega, show s % 61 - 30 = t % 61 - 30 - sdy e by omega]
    · rw [if_neg (fun y => z (h3.mp y.2.2).2), Int.add_zero]
      unfold nB
      rw [if_neg z, if_neg z]
  · rw [if_neg q, if_neg q, if_neg (fun y => q ⟨y.1, y.2.1, (h3.mp y.2.2).1⟩)]
    rfl
theorem BTW_row {m : Int} {r : Nat} {s la t e w : Int} (hla : la = 8) : BTW m r s la t e w = BTW m r (s + 1) 0 t e w := by
  have h : nB s la (pvR t e) = nB (s + 1) 0 (pvR t e) := by
    unfold nB
    rw [hla]
    by_cases a : pvR t e < s
    · rw [if_pos a, if_pos (by omega)]
    · rw [if_neg a]
      by_cases b : pvR t e = s
      · rw [if_pos b, if_pos (by omega)]
        rfl
      · rw [if_neg b, if_neg (by omega)]
        split <;> rfl
  unfold BTW
  rw [h]
theorem BTW_0 {m : Int} {r : Nat} {t e w : Int} (ht : 0 ≤ t ∧ t < 3721) : BTW m r 0 0 t e w = 0 := by
  unfold BTW
  split
  · rename_i q
    have h : nB 0 0 (pvR t e) = 0 := by
      unfold nB
      have h2 : ¬ pvR t e < 0 := by
        unfold pvR
        omega
      rw [if_neg h2]
      split <;> rfl
    rw [h]
    rfl
  · rfl
theorem BTW_end {m : Int} {r : Nat} {s t e w : Int} (hr : (r : Int) ≤ 13) (hs : s = 3721) (ht : 0 ≤ t ∧ t < 3721) : BTW m r s 0 t e w = CL m (r + 1) (t / 61 - 30) (t % 61 - 30) e w := by
  have hsd := sd_rng e
  unfold BTW
  by_cases q : 0 ≤ e ∧ e < 4 ∧ -30 ≤ t / 61 - 30 - sdx e ∧ t / 61 - 30 - sdx e ≤ 30 ∧ -30 ≤ t % 61 - 30 - sdy e ∧ t % 61 - 30 - sdy e ≤ 30
  · rw [if_pos q]
    have h : nB s 0 (pvR t e) = 4 + 4 := by
      unfold nB
      rw [if_pos (by unfold pvR; omega)]
    have h4 : sumZ (fun k => CL m r (t / 61 - 30 - sdx e) (t % 61 - 30 - sdy e) (((4 : Nat) : Int) + k) (w - gaW m (r : Int) (((4 : Nat) : Int) + k) e (t % 61 - 30))) 4 = 0 := sumZ_pos (fun k a b => CL_neg (by omega))
    rw [h, sumZ_app, h4, Int.add_zero]
    show _ = if 0 ≤ e ∧ e < 4 then sumZ (fun l => CL m r (t / 61 - 30 - sdx e) (t % 61 - 30 - sdy e) l (w - gaW m (r : Int) l e (t % 61 - 30))) 4 else 0
    rw [if_pos ⟨q.1, q.2.1⟩]
  · rw [if_neg q]
    by_cases z : 0 ≤ e ∧ e < 4
    · exact (CL_inv hr (by omega)).symm
    · exact (CL_neg (by omega)).symm
theorem bt_step {q q2 li : Int → Int} {m gt s la : Int} {r : Nat} (hg : gt = 0 ∨ gt = 1) (hs : 0 ≤ s ∧ s < 3721) (hla : 0 ≤ la ∧ la < 8)
    (hl : ∀ s e, 0 ≤ s → s < 3721 → 0 ≤ e → e < 8 → extW gt (li (8 * s + e) + 1) (CL m r (s / 61 - 30) (s % 61 - 30) e))
    (vq : ∀ t e, 0 ≤ t → t < 3721 → 0 ≤ e → e < 8 → extW gt (q (8 * t + e) + 1) (BTW m r s la t e))
    (h2 : (0 ≤ li (8 * s + la) ∧ ∀ t e, 0 ≤ t → t < 3721 → 0 ≤ e → e < 8 → q2 (8 * t + e) = if 0 ≤ e ∧ e < 4 ∧ nx0 s e = t then bR gt (q (8 * t + e)) (li (8 * s + la) + gaW m (r : Int) la e (t % 61 - 30)) else q (8 * t + e)) ∨ (li (8 * s + la) < 0 ∧ q2 = q)) :
    ∀ t e, 0 ≤ t → t < 3721 → 0 ≤ e → e < 8 → extW gt (q2 (8 * t + e) + 1) (BTW m r s (la + 1) t e) := by
  intro t e t0 t1 e0 e1
  have h3 := vq t e t0 t1 e0 e1
  have h4 := hl s la hs.1 hs.2 hla.1 hla.2
  have hgr := gaW_r m (r : Int) la e (t % 61 - 30)
  by_cases z : 0 ≤ e ∧ e < 4 ∧ nx0 s e = t
  · have h5 := ext_imp (S := BTW m r s la t e) (U := CL m r (s / 61 - 30) (s % 61 - 30) la) (fun w => BTW_nn) (fun w => CL_nn _ _ _ _ _ _) hgr.1 h3 h4
    refine ext_cong (fun w => (show BTW m r s la t e w + CL m r (s / 61 - 30) (s % 61 - 30) la (w - gaW m (r : Int) la e (t % 61 - 30)) = BTW m r s (la + 1) t e w by rw [BTW_step hs hla.1 ⟨t0, t1⟩, if_pos z])) ?_
    rcases h2 with ⟨a, b⟩ | ⟨a, b⟩
    · rw [if_pos (by omega)] at h5
      rw [b t e t0 t1 e0 e1, if_pos z, bR_bet hg (by have := ext_nn h3; omega) (by omega), show li (8 * s + la) + gaW m (r : Int) la e (t % 61 - 30) + 1 = li (8 * s + la) + 1 + gaW m (r : Int) la e (t % 61 - 30) by omega]
      exact h5
    · rw [if_neg (by omega)] at h5
      rw [b]
      exact h5
  · refine ext_cong (fun w => (show BTW m r s la t e w = BTW m r s (la + 1) t e w by rw [BTW_step hs hla.1 ⟨t0, t1⟩, if_neg z, Int.add_zero])) ?_
    rcases h2 with ⟨_, b⟩ | ⟨_, b⟩
    · rw [b t e t0 t1 e0 e1, if_neg z]
      exact h3
    · rw [b]
      exact h3
theorem bt_rng {q : Int → Int} {m gt s la : Int} {r : Nat} (hr : (r : Int) ≤ 13) (vq : ∀ t e, 0 ≤ t → t < 3721 → 0 ≤ e → e < 8 → extW gt (q (8 * t + e) + 1) (BTW m r s la t e)) : ∀ j, 0 ≤ j → j < 29768 → -1 ≤ q j ∧ q j ≤ 100 := by
  intro j j0 j1
  have h := vq (j / 8) (j % 8) (by omega) (by omega) (by omega) (by omega)
  rw [show 8 * (j / 8) + j % 8 = j by omega] at h
  have h1 := ext_nn h
  have h2 := ext_le (t := 14) (by omega) (fun w hw => by have := BTW_b hw; omega) h
  omega
theorem li_rng {q : Int → Int} {m gt : Int} {r : Nat} (hr : (r : Int) ≤ 14) (vq : ∀ t e, 0 ≤ t → t < 3721 → 0 ≤ e → e < 8 → extW gt (q (8 * t + e) + 1) (CL m r (t / 61 - 30) (t % 61 - 30) e)) : ∀ j, 0 ≤ j → j < 29768 → -1 ≤ q j ∧ q j ≤ 100 := by
  intro j j0 j1
  have h := vq (j / 8) (j % 8) (by omega) (by omega) (by omega) (by omega)
  rw [show 8 * (j / 8) + j % 8 = j by omega] at h
  have h1 := ext_nn h
  have h2 := ext_le (t := 14) (by omega) (fun w hw => by have := CL_sup _ _ _ _ _ _ hw; omega) h
  omega
theorem bt_0 {q : Int → Int} {m gt : Int} {r : Nat} (hz : ∀ j, 0 ≤ j → j < 29768 → q j = -1) : ∀ t e, 0 ≤ t → t < 3721 → 0 ≤ e → e < 8 → extW gt (q (8 * t + e) + 1) (BTW m r 0 0 t e) := by
  intro t e t0 t1 e0 e1
  rw [hz _ (by omega) (by omega)]
  exact Or.inl ⟨rfl, fun w => BTW_0 ⟨t0, t1⟩⟩
theorem CL_mid2 {m : Int} {n : Nat} {e : Int} : CL m n (1860 / 61 - 30) (1860 % 61 - 30) e = CL m n 0 0 e := by
  rw [show (1860 : Int) / 61 - 30 = 0 by decide, show (1860 : Int) % 61 - 30 = 0 by decide]
theorem bt_row {q : Int → Int} {m gt s la : Int} {r : Nat} (hla : la = 8) (vq : ∀ t e, 0 ≤ t → t < 3721 → 0 ≤ e → e < 8 → extW gt (q (8 * t + e) + 1) (BTW m r s la t e)) : ∀ t e, 0 ≤ t → t < 3721 → 0 ≤ e → e < 8 → extW gt (q (8 * t + e) + 1) (BTW m r (s + 1) 0 t e) :=
  fun t e t0 t1 e0 e1 => ext_cong (S := BTW m r s la t e) (U := BTW m r (s + 1) 0 t e) (fun w => BTW_row (w := w) hla) (vq t e t0 t1 e0 e1)
theorem bt_end {q : Int → Int} {m gt s : Int} {r : Nat} (hr : (r : Int) ≤ 13) (hs : s = 3721) (vq : ∀ t e, 0 ≤ t → t < 3721 → 0 ≤ e → e < 8 → extW gt (q (8 * t + e) + 1) (BTW m r s 0 t e)) : ∀ t e, 0 ≤ t → t < 3721 → 0 ≤ e → e < 8 → extW gt (q (8 * t + e) + 1) (CL m (r + 1) (t / 61 - 30) (t % 61 - 30) e) :=
  fun t e t0 t1 e0 e1 => ext_cong (S := BTW m r s 0 t e) (U := CL m (r + 1) (t / 61 - 30) (t % 61 - 30) e) (fun w => BTW_end (w := w) hr hs ⟨t0, t1⟩) (vq t e t0 t1 e0 e1)
theorem li_0 {z : Int → Int} {m gt i v : Int} (hz : ∀ j, 0 ≤ j → j < 29768 → z j = -1) (hi : i = 14880) (hv : v = 0) : ∀ t e, 0 ≤ t → t < 3721 → 0 ≤ e → e < 8 → extW gt (zu z i v (8 * t + e) + 1) (CL m (0 : Int).toNat (t / 61 - 30) (t % 61 - 30) e) := by
  intro t e t0 t1 e0 e1
  have h : ∀ w, CL m (0 : Int).toNat (t / 61 - 30) (t % 61 - 30) e w = if t / 61 - 30 = 0 ∧ t % 61 - 30 = 0 ∧ e = 0 ∧ w = 0 then 1 else 0 := fun w => rfl
  unfold zu
  by_cases q : 8 * t + e = i
  · rw [if_pos q, hv]
    refine Or.inr ⟨by omega, ?_, fun w hw => ?_⟩
    · rw [h, if_pos (by omega)]
      decide
    · rw [h] at hw
      split at hw
      · rename_i y
        by_cases g : gt = 1
        · exact Or.inl ⟨g, by omega⟩
        · exact Or.inr ⟨g, by omega⟩
      · omega
  · rw [if_neg q, hz _ (by omega) (by omega)]
    exact Or.inl ⟨rfl, fun w => by rw [h, if_neg (by omega)]⟩
theorem lt_step {q lt : Int → Int} {w gt s la r k v0 J V : Int} (hs : 0 ≤ s ∧ s < 3721) (hk : 0 ≤ k ∧ k < 4) (hT : 0 ≤ nx0 s k ∧ nx0 s k < 3721) (vq : ∀ t e, 0 ≤ t → t < 3721 → 0 ≤ e → e < 8 → q (8 * t + e) = if 0 ≤ e ∧ e < k ∧ nx0 s e = t then bR gt (lt (8 * t + e)) (v0 + gaW w r la e (t % 61 - 30)) else lt (8 * t + e))
    (hJ : J = 8 * nx0 s k + k) (hV : V = bR gt (q J) (v0 + gaW w r la k (nx0 s k % 61 - 30))) : ∀ t e, 0 ≤ t → t < 3721 → 0 ≤ e → e < 8 → zu q J V (8 * t + e) = if 0 ≤ e ∧ e < k + 1 ∧ nx0 s e = t then bR gt (lt (8 * t + e)) (v0 + gaW w r la e (t % 61 - 30)) else lt (8 * t + e) := by
  intro t e t0 t1 e0 e1
  unfold zu
  by_cases z : 8 * t + e = J
  · have h3 : t = nx0 s k ∧ e = k := by omega
    rw [if_pos z, hV, ← z, vq t e t0 t1 e0 e1, if_neg (by omega), if_pos ⟨e0, by omega, by rw [h3.2]; exact h3.1.symm⟩, ← h3.1, h3.2]
  · rw [if_neg z, vq t e t0 t1 e0 e1]
    by_cases y : 0 ≤ e ∧ e < k ∧ nx0 s e = t
    · rw [if_pos y, if_pos ⟨y.1, by omega, y.2.2⟩]
    · rw [if_neg y, if_neg]
      rintro ⟨a, b, c⟩
      by_cases x : e = k
      · rw [x] at c
        omega
      · exact y ⟨a, by omega, c⟩
theorem lt_skip {q lt : Int → Int} {w gt s la r k v0 : Int} (hT : nx0 s k < 0) (vq : ∀ t e, 0 ≤ t → t < 3721 → 0 ≤ e → e < 8 → q (8 * t + e) = if 0 ≤ e ∧ e < k ∧ nx0 s e = t then bR gt (lt (8 * t + e)) (v0 + gaW w r la e (t % 61 - 30)) else lt (8 * t + e)) : ∀ t e, 0 ≤ t → t < 3721 → 0 ≤ e → e < 8 → q (8 * t + e) = if 0 ≤ e ∧ e < k + 1 ∧ nx0 s e = t then bR gt (lt (8 * t + e)) (v0 + gaW w r la e (t % 61 - 30)) else lt (8 * t + e) := by
  intro t e t0 t1 e0 e1
  rw [vq t e t0 t1 e0 e1]
  by_cases y : 0 ≤ e ∧ e < k ∧ nx0 s e = t
  · rw [if_pos y, if_pos ⟨y.1, by omega, y.2.2⟩]
  · rw [if_neg y, if_neg]
    rintro ⟨a, b, c⟩
    by_cases x : e = k
    · rw [x] at c
      omega
    · exact y ⟨a, by omega, c⟩
theorem fin_8 {m : Int} {n : Nat} {w : Int} : sumZ (fun e => CL m n 0 0 e w) 8 = TT m n w := by
  have h4 : sumZ (fun k => CL m n 0 0 (((4 : Nat) : Int) + k) w) 4 = 0 := sumZ_pos (fun k a b => CL_neg (by omega))
  rw [show (8 : Nat) = 4 + 4 by rfl, sumZ_app, h4, Int.add_zero]
  rfl
theorem ext_fin8 {gt v m k : Int} {n : Nat} (hk : k = 8) (h : extW gt v (fun x => sumZ (fun e => CL m n 0 0 e x) k.toNat)) : extW gt v (TT m n) := by
  subst hk
  exact ext_cong (S := fun x => sumZ (fun e => CL m n 0 0 e x) 8) (U := TT m n) (fun x => fin_8) h
end ZREF
