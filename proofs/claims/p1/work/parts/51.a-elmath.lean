def eqI (d W : Int) : List Int := (List.range (6 * W).toNat).map (fun (j : Nat) => if (j : Int) % W < d then arL TL (d + (j : Int) / W - 1 - (j : Int) % W) else arL TL (d + (j : Int) / W))
def clF (W p : Int) (g : Int → Int) (j : Int) : Int :=
  if j / W = p then g j * inv (g (W * p + p)) % 998244353
  else if g (W * (j / W) + p) = 0 then g j else (g j + (998244353 - g (W * (j / W) + p)) * (g (W * p + j % W) * inv (g (W * p + p)) % 998244353)) % 998244353
def clL (W p : Int) (L : List Int) : List Int := (List.range (6 * W).toNat).map (fun (j : Nat) => clF W p (arL L) (j : Int))
theorem clL_at {W p j : Int} {L : List Int} (h0 : 0 ≤ j) (h1 : j < 6 * W) : arL (clL W p L) j = clF W p (arL L) j := by
  unfold clL
  exact arL_map h0 (by omega)
theorem eqI_at {d W j : Int} (h0 : 0 ≤ j) (h1 : j < 6 * W) : arL (eqI d W) j = if j % W < d then arL TL (d + j / W - 1 - j % W) else arL TL (d + j / W) := by
  unfold eqI
  exact arL_map (f := fun j => if j % W < d then arL TL (d + j / W - 1 - j % W) else arL TL (d + j / W)) h0 (by omega)
def el1_0 : List Int := eqI 1 2
theorem elr1_0 : ∀ j, 0 ≤ arL el1_0 j ∧ arL el1_0 j < 998244353 := all_r (by decide +kernel)
theorem elv1_0 : arL el1_0 0 = 1 := by decide +kernel
def el1_1 : List Int := clL 2 0 el1_0
theorem elr1_1 : ∀ j, 0 ≤ arL el1_1 j ∧ arL el1_1 j < 998244353 := all_r (by decide +kernel)
theorem elz1 : arL el1_1 3 = 1 := by decide +kernel
def el2_0 : List Int := eqI 2 3
theorem elr2_0 : ∀ j, 0 ≤ arL el2_0 j ∧ arL el2_0 j < 998244353 := all_r (by decide +kernel)
theorem elv2_0 : arL el2_0 0 = 2 := by decide +kernel
def el2_1 : List Int := clL 3 0 el2_0
theorem elr2_1 : ∀ j, 0 ≤ arL el2_1 j ∧ arL el2_1 j < 998244353 := all_r (by decide +kernel)
theorem elv2_1 : arL el2_1 4 = 499122176 := by decide +kernel
def el2_2 : List Int := clL 3 1 el2_1
theorem elr2_2 : ∀ j, 0 ≤ arL el2_2 j ∧ arL el2_2 j < 998244353 := all_r (by decide +kernel)
theorem elz2 : arL el2_2 8 = 1 := by decide +kernel
def el3_0 : List Int := eqI 3 4
theorem elr3_0 : ∀ j, 0 ≤ arL el3_0 j ∧ arL el3_0 j < 998244353 := all_r (by decide +kernel)
theorem elv3_0 : arL el3_0 0 = 5 := by decide +kernel
def el3_1 : List Int := clL 4 0 el3_0
theorem elr3_1 : ∀ j, 0 ≤ arL el3_1 j ∧ arL el3_1 j < 998244353 := all_r (by decide +kernel)
theorem elv3_1 : arL el3_1 5 = 199648870 := by decide +kernel
def el3_2 : List Int := clL 4 1 el3_1
theorem elr3_2 : ∀ j, 0 ≤ arL el3_2 j ∧ arL el3_2 j < 998244353 := all_r (by decide +kernel)
theorem elv3_2 : arL el3_2 10 = 332748118 := by decide +kernel
def el3_3 : List Int := clL 4 2 el3_2
theorem elr3_3 : ∀ j, 0 ≤ arL el3_3 j ∧ arL el3_3 j < 998244353 := all_r (by decide +kernel)
theorem elz3 : arL el3_3 15 = 1 := by decide +kernel
def el4_0 : List Int := eqI 4 5
theorem elr4_0 : ∀ j, 0 ≤ arL el4_0 j ∧ arL el4_0 j < 998244353 := all_r (by decide +kernel)
theorem elv4_0 : arL el4_0 0 = 14 := by decide +kernel
def el4_1 : List Int := clL 5 0 el4_0
theorem elr4_1 : ∀ j, 0 ≤ arL el4_1 j ∧ arL el4_1 j < 998244353 := all_r (by decide +kernel)
theorem elv4_1 : arL el4_1 6 = 998244352 := by decide +kernel
def el4_2 : List Int := clL 5 1 el4_1
theorem elr4_2 : ∀ j, 0 ≤ arL el4_2 j ∧ arL el4_2 j < 998244353 := all_r (by decide +kernel)
theorem elv4_2 : arL el4_2 12 = 713031681 := by decide +kernel
def el4_3 : List Int := clL 5 2 el4_2
theorem elr4_3 : ∀ j, 0 ≤ arL el4_3 j ∧ arL el4_3 j < 998244353 := all_r (by decide +kernel)
theorem elv4_3 : arL el4_3 18 = 249561088 := by decide +kernel
def el4_4 : List Int := clL 5 3 el4_3
theorem elr4_4 : ∀ j, 0 ≤ arL el4_4 j ∧ arL el4_4 j < 998244353 := all_r (by decide +kernel)
theorem elz4 : arL el4_4 24 = 1 := by decide +kernel
def el5_0 : List Int := eqI 5 6
theorem elr5_0 : ∀ j, 0 ≤ arL el5_0 j ∧ arL el5_0 j < 998244353 := all_r (by decide +kernel)
theorem elv5_0 : arL el5_0 0 = 42 := by decide +kernel
def el5_1 : List Int := clL 6 0 el5_0
theorem elr5_1 : ∀ j, 0 ≤ arL el5_1 j ∧ arL el5_1 j < 998244353 := all_r (by decide +kernel)
theorem elv5_1 : arL el5_1 7 = 998244351 := by decide +kernel
def el5_2 : List Int := clL 6 1 el5_1
theorem elr5_2 : ∀ j, 0 ≤ arL el5_2 j ∧ arL el5_2 j < 998244353 := all_r (by decide +kernel)
theorem elv5_2 : arL el5_2 14 = 641728513 := by decide +kernel
def el5_3 : List Int := clL 6 2 el5_2
theorem elr5_3 : ∀ j, 0 ≤ arL el5_3 j ∧ arL el5_3 j < 998244353 := all_r (by decide +kernel)
theorem elv5_3 : arL el5_3 21 = 831870294 := by decide +kernel
def el5_4 : List Int := clL 6 3 el5_3
theorem elr5_4 : ∀ j, 0 ≤ arL el5_4 j ∧ arL el5_4 j < 998244353 := all_r (by decide +kernel)
theorem elv5_4 : arL el5_4 28 = 598946612 := by decide +kernel
def el5_5 : List Int := clL 6 4 el5_4
theorem elr5_5 : ∀ j, 0 ≤ arL el5_5 j ∧ arL el5_5 j < 998244353 := all_r (by decide +kernel)
theorem elz5 : arL el5_5 35 = 1 := by decide +kernel
def el6_0 : List Int := eqI 6 7
theorem elr6_0 : ∀ j, 0 ≤ arL el6_0 j ∧ arL el6_0 j < 998244353 := all_r (by decide +kernel)
theorem elv6_0 : arL el6_0 0 = 132 := by decide +kernel
def el6_1 : List Int := clL 7 0 el6_0
theorem elr6_1 : ∀ j, 0 ≤ arL el6_1 j ∧ arL el6_1 j < 998244353 := all_r (by decide +kernel)
theorem elv6_1 : arL el6_1 8 = 499122172 := by decide +kernel
def el6_2 : List Int := clL 7 1 el6_1
theorem elr6_2 : ∀ j, 0 ≤ arL el6_2 j ∧ arL el6_2 j < 998244353 := all_r (by decide +kernel)
theorem elv6_2 : arL el6_2 16 = 221832079 := by decide +kernel
def el6_3 : List Int := clL 7 2 el6_2
theorem elr6_3 : ∀ j, 0 ≤ arL el6_3 j ∧ arL el6_3 j < 998244353 := all_r (by decide +kernel)
theorem elv6_3 : arL el6_3 24 = 831870294 := by decide +kernel
def el6_4 : List Int := clL 7 3 el6_3
theorem elr6_4 : ∀ j, 0 ≤ arL el6_4 j ∧ arL el6_4 j < 998244353 := all_r (by decide +kernel)
theorem elv6_4 : arL el6_4 32 = 326698152 := by decide +kernel
def el6_5 : List Int := clL 7 4 el6_4
theorem elr6_5 : ∀ j, 0 ≤ arL el6_5 j ∧ arL el6_5 j < 998244353 := all_r (by decide +kernel)
theorem elv6_5 : arL el6_5 40 = 831870294 := by decide +kernel
def el6_6 : List Int := clL 7 5 el6_5
theorem elr6_6 : ∀ j, 0 ≤ arL el6_6 j ∧ arL el6_6 j < 998244353 := all_r (by decide +kernel)
theorem TL_0 : arL TL 0 = 1 := by decide +kernel
