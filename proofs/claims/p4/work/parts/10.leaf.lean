theorem z_dfX0 : ∀ j, j < 2 → defaultValue (tyX0 j) = vp_V [.null, .int 0] j := by decide
theorem z_dfX1 : ∀ j, j < 5 → defaultValue (tyX1 j) = vp_V [.null, .null, .null, .null, .int 0] j := by decide
theorem z_dfX2 : ∀ j, j < 2 → defaultValue (tyX2 j) = vp_V [.null, .null] j := by decide
theorem z_dfX3 : ∀ j, j < 12 → defaultValue (tyX3 j) = vp_V [.null, .null, .null, .null, .null, .null, .null, .null, .null, .null, .int 0, .int 0] j := by decide
theorem z_dfX4 : ∀ j, j < 15 → defaultValue (tyX4 j) = vp_V [.null, .null, .null, .null, .int 0, .int 0, .int 0, .int 0, .int 0, .int 0, .int 0, .int 0, .int 0, .null, .null] j := by decide
theorem z_dfX5 : ∀ j, j < 3 → defaultValue (tyX5 j) = vp_V [.null, .null, .null] j := by decide
theorem z_dfX6 : ∀ j, j < 4 → defaultValue (tyX6 j) = vp_V [.null, .null, .null, .int 0] j := by decide
theorem z_dfX7 : ∀ j, j < 14 → defaultValue (tyX7 j) = vp_V [.null, .null, .null, .null, .null, .int 0, .int 0, .null, .null, .int 0, .int 0, .int 0, .int 0, .int 0] j := by decide
theorem z_dfX8 : ∀ j, j < 12 → defaultValue (tyX8 j) = vp_V [.null, .null, .null, .null, .null, .null, .null, .null, .int 0, .int 0, .null, .null] j := by decide
theorem z_dfX9 : ∀ j, j < 41 → defaultValue (tyX9 j) = vp_V [.int 0, .int 0, .null, .null, .null, .int 0, .int 0, .int 0, .int 0, .int 0, .int 0, .int 0, .int 0, .null, .null, .null, .null, .null, .null, .null, .null, .null, .int 0, .null, .null, .null, .null, .int 0, .null, .null, .int 0, .null, .null, .null, .null, .null, .null, .null, .null, .null, .null] j := by decide
set_option maxHeartbeats 4000000 in
set_option maxRecDepth 100000 in
theorem c_X8_within (l : Launch) (D : va_G) (K : ClassId × ClassId × ClassId × ClassId) (v lo hi : Int) (hv : zR v) (hlo : zR lo) (hhi : zR hi) : zMet l D K yX8_within wsX8_within ({ frames := 0, cells := 0, slots := 0, locals := 0 }) 0 0 [.int (zI (v)), .int (zI (lo)), .int (zI (hi))] [] (fun vr_ wr_ => ∃ (r : Int), vr_ = some (.int (zI (r))) ∧ wr_ = [] ∧ ((lo ≤ v ∧ v ≤ hi ∧ r = 1) ∨ ((v < lo ∨ hi < v) ∧ r = 0))) := by
  refine zMet_of (cc := cX8_within) (nL := 3) (ret := (some .boolean)) (by decide) rfl (Nat.le_of_ble_eq_true rfl) ?_
  rintro C rfl rfl rfl hC hR
  show ZW C 0 0 [] [(0, .int (zI (v))), (1, .int (zI (lo))), (2, .int (zI (hi)))] 0 []
  refine z_iload_n hC 0 dX8_within_0 rfl rfl ?_
  refine z_iload_n hC 1 dX8_within_1 rfl rfl ?_
  refine z_iclt hC 14 dX8_within_2 (by decide) (by omega) (fun c_1 => ?_) (fun c_1 => ?_)
  · skip
    refine z_iconst hC dX8_within_14 ?_
    exact z_zret hC hR dX8_within_15 (by omega) (Nat.le_of_ble_eq_true rfl) (Nat.le_of_ble_eq_true rfl) ⟨0, rfl, rfl, by omega⟩
  · skip
    refine z_iload_n hC 0 dX8_within_5 rfl rfl ?_
    refine z_iload_n hC 2 dX8_within_6 rfl rfl ?_
    refine z_icgt hC 14 dX8_within_7 (by decide) (by omega) (fun c_2 => ?_) (fun c_2 => ?_)
    · skip
      refine z_iconst hC dX8_within_14 ?_
      exact z_zret hC hR dX8_within_15 (by omega) (Nat.le_of_ble_eq_true rfl) (Nat.le_of_ble_eq_true rfl) ⟨0, rfl, rfl, by omega⟩
    · skip
      refine z_iconst hC dX8_within_10 ?_
      refine z_goto hC 15 dX8_within_11 (by decide) ?_
      exact z_zret hC hR dX8_within_15 (by omega) (Nat.le_of_ble_eq_true rfl) (Nat.le_of_ble_eq_true rfl) ⟨1, rfl, rfl, by omega⟩

set_option maxHeartbeats 4000000 in
set_option maxRecDepth 100000 in
theorem c_X5_known (l : Launch) (D : va_G) (K : ClassId × ClassId × ClassId × ClassId) (v : Int) (hv : zR v) : zMet l D K yX5_known wsX5_known ({ frames := 0, cells := 0, slots := 0, locals := 0 }) 0 0 [.int (zI (v))] [] (fun vr_ wr_ => ∃ (r : Int), vr_ = some (.int (zI (r))) ∧ wr_ = [] ∧ ((0 ≤ v ∧ v < 4 ∧ r = 1) ∨ ((v < 0 ∨ 4 ≤ v) ∧ r = 0))) := by
  refine zMet_of (cc := cX5_known) (nL := 1) (ret := (some .boolean)) (by decide) rfl (Nat.le_of_ble_eq_true rfl) ?_
  rintro C rfl rfl rfl hC hR
  show ZW C 0 0 [] [(0, .int (zI (v)))] 0 []
  refine z_iload_n hC 0 dX5_known_0 rfl rfl ?_
  refine z_iflt hC 13 dX5_known_1 (by decide) (by omega) (fun c_1 => ?_) (fun c_1 => ?_)
  · skip
    refine z_iconst hC dX5_known_13 ?_
    exact z_zret hC hR dX5_known_14 (by omega) (Nat.le_of_ble_eq_true rfl) (Nat.le_of_ble_eq_true rfl) ⟨0, rfl, rfl, by omega⟩
  · skip
    refine z_iload_n hC 0 dX5_known_4 rfl rfl ?_
    refine z_iconst hC dX5_known_5 ?_
    refine z_icge hC 13 dX5_known_6 (by decide) (by omega) (fun c_2 => ?_) (fun c_2 => ?_)
    · skip
      refine z_iconst hC dX5_known_13 ?_
      exact z_zret hC hR dX5_known_14 (by omega) (Nat.le_of_ble_eq_true rfl) (Nat.le_of_ble_eq_true rfl) ⟨0, rfl, rfl, by omega⟩
    · skip
      refine z_iconst hC dX5_known_9 ?_
      refine z_goto hC 14 dX5_known_10 (by decide) ?_
      exact z_zret hC hR dX5_known_14 (by omega) (Nat.le_of_ble_eq_true rfl) (Nat.le_of_ble_eq_true rfl) ⟨1, rfl, rfl, by omega⟩

set_option maxHeartbeats 4000000 in
set_option maxRecDepth 100000 in
theorem c_X4_isSquare (l : Launch) (D : va_G) (K : ClassId × ClassId × ClassId × ClassId) (x y : Int) (hx : zR x) (hy : zR y) : zMet l D K yX4_isSquare wsX4_isSquare ({ frames := 0, cells := 0, slots := 0, locals := 0 }) 0 0 [.int (zI (x)), .int (zI (y))] [] (fun vr_ wr_ => ∃ (r : Int), vr_ = some (.int (zI (r))) ∧ wr_ = [] ∧ ((-30 ≤ x ∧ x ≤ 30 ∧ -30 ≤ y ∧ y ≤ 30 ∧ r = 1) ∨ (¬ (-30 ≤ x ∧ x ≤ 30 ∧ -30 ≤ y ∧ y ≤ 30) ∧ r = 0))) := by
  refine zMet_of (cc := cX4_isSquare) (nL := 2) (ret := (some .boolean)) (by decide) rfl (Nat.le_of_ble_eq_true rfl) ?_
  rintro C rfl rfl rfl hC hR
  show ZW C 0 0 [] [(0, .int (zI (x))), (1, .int (zI (y)))] 0 []
  refine z_iload_n hC 0 dX4_isSquare_0 rfl rfl ?_
  refine z_bipush hC dX4_isSquare_1 (by decide) ?_
  refine z_iclt hC 28 dX4_isSquare_3 (by decide) (by omega) (fun c_1 => ?_) (fun c_1 => ?_)
  · skip
    refine z_iconst hC dX4_isSquare_28 ?_
    exact z_zret hC hR dX4_isSquare_29 (by omega) (Nat.le_of_ble_eq_true rfl) (Nat.le_of_ble_eq_true rfl) ⟨0, rfl, rfl, by omega⟩
  · skip
    refine z_iload_n hC 0 dX4_isSquare_6 rfl rfl ?_
    refine z_bipush hC dX4_isSquare_7 (by decide) ?_
    refine z_icgt hC 28 dX4_isSquare_9 (by decide) (by omega) (fun c_2 => ?_) (fun c_2 => ?_)
    · skip
      refine z_iconst hC dX4_isSquare_28 ?_
      exact z_zret hC hR dX4_isSquare_29 (by omega) (Nat.le_of_ble_eq_true rfl) (Nat.le_of_ble_eq_true rfl) ⟨0, rfl, rfl, by omega⟩
    · skip
      refine z_iload_n hC 1 dX4_isSquare_12 rfl rfl ?_
      refine z_bipush hC dX4_isSquare_13 (by decide) ?_
      refine z_iclt hC 28 dX4_isSquare_15 (by decide) (by omega) (fun c_3 => ?_) (fun c_3 => ?_)
      · skip
        refine z_iconst hC dX4_isSquare_28 ?_
        exact z_zret hC hR dX4_isSquare_29 (by omega) (Nat.le_of_ble_eq_true rfl) (Nat.le_of_ble_eq_true rfl) ⟨0, rfl, rfl, by omega⟩
      · skip
        refine z_iload_n hC 1 dX4_isSquare_18 rfl rfl ?_
        refine z_bipush hC dX4_isSquare_19 (by decide) ?_
        refine z_icgt hC 28 dX4_isSquare_21 (by decide) (by omega) (fun c_4 => ?_) (fun c_4 => ?_)
        · skip
          refine z_iconst hC dX4_isSquare_28 ?_
          exact z_zret hC hR dX4_isSquare_29 (by omega) (Nat.le_of_ble_eq_true rfl) (Nat.le_of_ble_eq_true rfl) ⟨0, rfl, rfl, by omega⟩
        · skip
          refine z_iconst hC dX4_isSquare_24 ?_
          refine z_goto hC 29 dX4_isSquare_25 (by decide) ?_
          exact z_zret hC hR dX4_isSquare_29 (by omega) (Nat.le_of_ble_eq_true rfl) (Nat.le_of_ble_eq_true rfl) ⟨1, rfl, rfl, by omega⟩

set_option maxHeartbeats 4000000 in
set_option maxRecDepth 100000 in
theorem c_X4_cellOf (l : Launch) (D : va_G) (K : ClassId × ClassId × ClassId × ClassId) (x y : Int) : zMet l D K yX4_cellOf wsX4_cellOf ({ frames := 0, cells := 0, slots := 0, locals := 0 }) 0 0 [.int (zI (x)), .int (zI (y))] [] (fun vr_ wr_ => vr_ = some (.int (zI ((y + 33) * 67 + x + 33))) ∧ wr_ = [] ∧ (True)) := by
  refine zMet_of (cc := cX4_cellOf) (nL := 2) (ret := (some .int)) (by decide) rfl (Nat.le_of_ble_eq_true rfl) ?_
  rintro C rfl rfl rfl hC hR
  show ZW C 0 0 [] [(0, .int (zI (x))), (1, .int (zI (y)))] 0 []
  refine z_iload_n hC 1 dX4_cellOf_0 rfl rfl ?_
  refine z_bipush hC dX4_cellOf_1 (by decide) ?_
  refine z_iadd hC (y + 33) dX4_cellOf_3 rfl ?_
  refine z_bipush hC dX4_cellOf_4 (by decide) ?_
  refine z_imul hC ((y + 33) * 67) dX4_cellOf_6 rfl ?_
  refine z_iload_n hC 0 dX4_cellOf_7 rfl rfl ?_
  refine z_iadd hC (((y + 33) * 67) + x) dX4_cellOf_8 rfl ?_
  refine z_bipush hC dX4_cellOf_9 (by decide) ?_
  refine z_iadd hC ((((y + 33) * 67) + x) + 33) dX4_cellOf_11 rfl ?_
  exact z_iret hC hR dX4_cellOf_12 (Nat.le_of_ble_eq_true rfl) (Nat.le_of_ble_eq_true rfl) ⟨(by first | rfl | (congr 3; omega)), rfl, by trivial⟩

set_option maxHeartbeats 4000000 in
set_option maxRecDepth 100000 in
theorem c_X9_isSquare (l : Launch) (D : va_G) (K : ClassId × ClassId × ClassId × ClassId) (x y : Int) (hx : zR x) (hy : zR y) : zMet l D K yX9_isSquare wsX9_isSquare ({ frames := 0, cells := 0, slots := 0, locals := 0 }) 0 0 [.int (zI (x)), .int (zI (y))] [] (fun vr_ wr_ => ∃ (r : Int), vr_ = some (.int (zI (r))) ∧ wr_ = [] ∧ ((-30 ≤ x ∧ x ≤ 30 ∧ -30 ≤ y ∧ y ≤ 30 ∧ r = 1) ∨ (¬ (-30 ≤ x ∧ x ≤ 30 ∧ -30 ≤ y ∧ y ≤ 30) ∧ r = 0))) := by
  refine zMet_of (cc := cX9_isSquare) (nL := 2) (ret := (some .boolean)) (by decide) rfl (Nat.le_of_ble_eq_true rfl) ?_
  rintro C rfl rfl rfl hC hR
  show ZW C 0 0 [] [(0, .int (zI (x))), (1, .int (zI (y)))] 0 []
  refine z_iload_n hC 0 dX9_isSquare_0 rfl rfl ?_
  refine z_bipush hC dX9_isSquare_1 (by decide) ?_
  refine z_iclt hC 28 dX9_isSquare_3 (by decide) (by omega) (fun c_1 => ?_) (fun c_1 => ?_)
  · skip
    refine z_iconst hC dX9_isSquare_28 ?_
    exact z_zret hC hR dX9_isSquare_29 (by omega) (Nat.le_of_ble_eq_true rfl) (Nat.le_of_ble_eq_true rfl) ⟨0, rfl, rfl, by omega⟩
  · skip
    refine z_iload_n hC 0 dX9_isSquare_6 rfl rfl ?_
    refine z_bipush hC dX9_isSquare_7 (by decide) ?_
    refine z_icgt hC 28 dX9_isSquare_9 (by decide) (by omega) (fun c_2 => ?_) (fun c_2 => ?_)
    · skip
      refine z_iconst hC dX9_isSquare_28 ?_
      exact z_zret hC hR dX9_isSquare_29 (by omega) (Nat.le_of_ble_eq_true rfl) (Nat.le_of_ble_eq_true rfl) ⟨0, rfl, rfl, by omega⟩
    · skip
      refine z_iload_n hC 1 dX9_isSquare_12 rfl rfl ?_
      refine z_bipush hC dX9_isSquare_13 (by decide) ?_
      refine z_iclt hC 28 dX9_isSquare_15 (by decide) (by omega) (fun c_3 => ?_) (fun c_3 => ?_)
      · skip
        refine z_iconst hC dX9_isSquare_28 ?_
        exact z_zret hC hR dX9_isSquare_29 (by omega) (Nat.le_of_ble_eq_true rfl) (Nat.le_of_ble_eq_true rfl) ⟨0, rfl, rfl, by omega⟩
      · skip
        refine z_iload_n hC 1 dX9_isSquare_18 rfl rfl ?_
        refine z_bipush hC dX9_isSquare_19 (by decide) ?_
        refine z_icgt hC 28 dX9_isSquare_21 (by decide) (by omega) (fun c_4 => ?_) (fun c_4 => ?_)
        · skip
          refine z_iconst hC dX9_isSquare_28 ?_
          exact z_zret hC hR dX9_isSquare_29 (by omega) (Nat.le_of_ble_eq_true rfl) (Nat.le_of_ble_eq_true rfl) ⟨0, rfl, rfl, by omega⟩
        · skip
          refine z_iconst hC dX9_isSquare_24 ?_
          refine z_goto hC 29 dX9_isSquare_25 (by decide) ?_
          exact z_zret hC hR dX9_isSquare_29 (by omega) (Nat.le_of_ble_eq_true rfl) (Nat.le_of_ble_eq_true rfl) ⟨1, rfl, rfl, by omega⟩

set_option maxHeartbeats 4000000 in
set_option maxRecDepth 100000 in
theorem c_X9_squareOf (l : Launch) (D : va_G) (K : ClassId × ClassId × ClassId × ClassId) (x y : Int) : zMet l D K yX9_squareOf wsX9_squareOf ({ frames := 0, cells := 0, slots := 0, locals := 0 }) 0 0 [.int (zI (x)), .int (zI (y))] [] (fun vr_ wr_ => vr_ = some (.int (zI (61 * (x + 30) + y + 30))) ∧ wr_ = [] ∧ (True)) := by
  refine zMet_of (cc := cX9_squareOf) (nL := 2) (ret := (some .int)) (by decide) rfl (Nat.le_of_ble_eq_true rfl) ?_
  rintro C rfl rfl rfl hC hR
  show ZW C 0 0 [] [(0, .int (zI (x))), (1, .int (zI (y)))] 0 []
  refine z_bipush hC dX9_squareOf_0 (by decide) ?_
  refine z_iload_n hC 0 dX9_squareOf_2 rfl rfl ?_
  refine z_bipush hC dX9_squareOf_3 (by decide) ?_
  refine z_iadd hC (x + 30) dX9_squareOf_5 rfl ?_
  refine z_imul hC (61 * (x + 30)) dX9_squareOf_6 rfl ?_
  refine z_iload_n hC 1 dX9_squareOf_7 rfl rfl ?_
  refine z_iadd hC ((61 * (x + 30)) + y) dX9_squareOf_8 rfl ?_
  refine z_bipush hC dX9_squareOf_9 (by decide) ?_
  refine z_iadd hC (((61 * (x + 30)) + y) + 30) dX9_squareOf_11 rfl ?_
  exact z_iret hC hR dX9_squareOf_12 (Nat.le_of_ble_eq_true rfl) (Nat.le_of_ble_eq_true rfl) ⟨(by first | rfl | (congr 3; omega)), rfl, by trivial⟩

set_option maxHeartbeats 4000000 in
set_option maxRecDepth 100000 in
theorem c_X9_xOf (l : Launch) (D : va_G) (K : ClassId × ClassId × ClassId × ClassId) (s : Int) (hs : 0 ≤ s ∧ s < 3721) : zMet l D K yX9_xOf wsX9_xOf ({ frames := 0, cells := 0, slots := 0, locals := 0 }) 0 0 [.int (zI (s))] [] (fun vr_ wr_ => vr_ = some (.int (zI (s / 61 - 30))) ∧ wr_ = [] ∧ (True)) := by
  refine zMet_of (cc := cX9_xOf) (nL := 1) (ret := (some .int)) (by decide) rfl (Nat.le_of_ble_eq_true rfl) ?_
  rintro C rfl rfl rfl hC hR
  show ZW C 0 0 [] [(0, .int (zI (s)))] 0 []
  refine z_iload_n hC 0 dX9_xOf_0 rfl rfl ?_
  refine z_bipush hC dX9_xOf_1 (by decide) ?_
  refine z_idiv hC (s / 61) dX9_xOf_3 (by omega) rfl ?_
  refine z_bipush hC dX9_xOf_4 (by decide) ?_
  refine z_isub hC ((s / 61) - 30) dX9_xOf_6 rfl ?_
  exact z_iret hC hR dX9_xOf_7 (Nat.le_of_ble_eq_true rfl) (Nat.le_of_ble_eq_true rfl) ⟨(by first | rfl | (congr 3; omega)), rfl, by trivial⟩

set_option maxHeartbeats 4000000 in
set_option maxRecDepth 100000 in
theorem c_X9_yOf (l : Launch) (D : va_G) (K : ClassId × ClassId × ClassId × ClassId) (s : Int) (hs : 0 ≤ s ∧ s < 3721) : zMet l D K yX9_yOf wsX9_yOf ({ frames := 0, cells := 0, slots := 0, locals := 0 }) 0 0 [.int (zI (s))] [] (fun vr_ wr_ => vr_ = some (.int (zI (s % 61 - 30))) ∧ wr_ = [] ∧ (True)) := by
  refine zMet_of (cc := cX9_yOf) (nL := 1) (ret := (some .int)) (by decide) rfl (Nat.le_of_ble_eq_true rfl) ?_
  rintro C rfl rfl rfl hC hR
  show ZW C 0 0 [] [(0, .int (zI (s)))] 0 []
  refine z_iload_n hC 0 dX9_yOf_0 rfl rfl ?_
  refine z_bipush hC dX9_yOf_1 (by decide) ?_
  refine z_irem hC (s % 61) dX9_yOf_3 (by omega) rfl ?_
  refine z_bipush hC dX9_yOf_4 (by decide) ?_
  refine z_isub hC ((s % 61) - 30) dX9_yOf_6 rfl ?_
  exact z_iret hC hR dX9_yOf_7 (Nat.le_of_ble_eq_true rfl) (Nat.le_of_ble_eq_true rfl) ⟨(by first | rfl | (congr 3; omega)), rfl, by trivial⟩

set_option maxHeartbeats 4000000 in
set_option maxRecDepth 100000 in
theorem c_J9_floorMod_7cf53 (l : Launch) (D : va_G) (K : ClassId × ClassId × ClassId × ClassId) (a b : Int) (ha : zR a) (hb : 0 < b ∧ b < 2147483648) : zMet l D K yJ9_floorMod_7cf53 wsJ9_floorMod_7cf53 ({ frames := 0, cells := 0, slots := 0, locals := 0 }) 0 0 [.int (zI (a)), .int (zI (b))] [] (fun vr_ wr_ => ∃ (r : Int), vr_ = some (.int (zI (r))) ∧ wr_ = [] ∧ (r = a % b)) := by
  refine zMetF_of (cc := cJ9_floorMod_7cf53) (nL := 3) (ret := (some .int)) (by decide +kernel) rfl (Nat.le_of_ble_eq_true rfl) ?_
  rintro C rfl rfl rfl hC hR
  show ZW C 0 0 [] [(0, .int (zI (a))), (1, .int (zI (b)))] 0 []
  refine z_iload_n hC 0 dJ9_floorMod_7cf53_0 rfl rfl ?_
  refine z_iload_n hC 1 dJ9_floorMod_7cf53_1 rfl rfl ?_
  refine z_iremT hC dJ9_floorMod_7cf53_2 (by unfold zR; omega) ?_
  refine z_istore_n hC [(2, .int (zI (trem a b))), (0, .int (zI (a))), (1, .int (zI (b)))] dJ9_floorMod_7cf53_3 rfl (by decide) rfl ?_
  have htr := trem_r (a := a) (b := b) (by omega)
  have htm := trem_mod (a := a) (b := b) (by omega)
  refine z_iload_n hC 1 dJ9_floorMod_7cf53_4 rfl rfl ?_
  refine z_iload_n hC 2 dJ9_floorMod_7cf53_5 rfl rfl ?_
  refine z_ixor hC dJ9_floorMod_7cf53_6 ?_
  have hx := zxor_neg (a := a) (b := b) (by omega) (by omega)
  have hxr := zxor_r a b
  refine z_ifge hC 18 dJ9_floorMod_7cf53_7 (by decide) (by have := hxr; unfold zR at *; omega) (fun c_1 => ?_) (fun c_1 => ?_)
  · skip
    refine z_iload_n hC 0 dJ9_floorMod_7cf53_18 rfl rfl ?_
    exact z_iret hC hR dJ9_floorMod_7cf53_19 (Nat.le_of_ble_eq_true rfl) (Nat.le_of_ble_eq_true rfl) ⟨trem a b, rfl, rfl, by have := htm.2; have := htr.2.2.1; omega⟩
  · skip
    refine z_iload_n hC 0 dJ9_floorMod_7cf53_10 rfl rfl ?_
    refine z_ifeq hC 18 dJ9_floorMod_7cf53_11 (by decide) (by unfold zR; omega) (fun c_2 => ?_) (fun c_2 => ?_)
    · skip
      refine z_iload_n hC 0 dJ9_floorMod_7cf53_18 rfl rfl ?_
      exact z_iret hC hR dJ9_floorMod_7cf53_19 (Nat.le_of_ble_eq_true rfl) (Nat.le_of_ble_eq_true rfl) ⟨trem a b, rfl, rfl, by have := htm.2; have := htr.2.2.1; omega⟩
    · skip
      refine z_iload_n hC 0 dJ9_floorMod_7cf53_14 rfl rfl ?_
      refine z_iload_n hC 2 dJ9_floorMod_7cf53_15 rfl rfl ?_
      refine z_iadd hC ((trem a b) + b) dJ9_floorMod_7cf53_16 rfl ?_
      have hz : trem a b < 0 := by have := htr.2.2.2; omega
      exact z_iret hC hR dJ9_floorMod_7cf53_17 (Nat.le_of_ble_eq_true rfl) (Nat.le_of_ble_eq_true rfl) ⟨(trem a b) + b, rfl, rfl, by have := htm.1; omega⟩

set_option maxHeartbeats 4000000 in
set_option maxRecDepth 100000 in
theorem c_X8_denied (l : Launch) (D : va_G) (K : ClassId × ClassId × ClassId × ClassId) (x x_sheets x_plane x_kin x_heights x_levels x_words x_shown x_powers : Nat) (fault x_shownCount x_status : Int) (x_ways x_weigher : Value) : zMet l D K yX8_denied wsX8_denied ({ frames := 0, cells := 0, slots := 0, locals := 0 }) 0 0 [.ref x, .int (zI (fault))] [wO x 8 [.ref x_sheets, .ref x_plane, .ref x_kin, .ref x_heights, .ref x_levels, .ref x_words, .ref x_shown, .ref x_powers, .int (zI (x_shownCount)), .int (zI (x_status)), x_ways, x_weigher]] (fun vr_ wr_ => vr_ = some (.int (zI (0))) ∧ wr_ = [wO x 8 [.ref x_sheets, .ref x_plane, .ref x_kin, .ref x_heights, .ref x_levels, .ref x_words, .ref x_shown, .ref x_powers, .int (zI (x_shownCount)), .int (zI (fault)), x_ways, x_weigher]] ∧ (True)) := by
  refine zMet_of (cc := cX8_denied) (nL := 2) (ret := (some .boolean)) (by decide) rfl (Nat.le_of_ble_eq_true rfl) ?_
  rintro C rfl rfl rfl hC hR
  have hinX8 : ∀ w ∈ u_ws RX8 TX8 12, w ∈ wsX8_denied := by decide +kernel
  show ZW C 0 0 [wO x 8 [.ref x_sheets, .ref x_plane, .ref x_kin, .ref x_heights, .ref x_levels, .ref x_words, .ref x_shown, .ref x_powers, .int (zI (x_shownCount)), .int (zI (x_status)), x_ways, x_weigher]] [(0, .ref x), (1, .int (zI (fault)))] 0 []
  refine z_aload_n hC 0 dX8_denied_0 rfl rfl ?_
  refine z_iload_n hC 1 dX8_denied_1 rfl rfl ?_
  refine z_put hC (T := TX8) (N := 12) hinX8 tyX8_ok nmX8 0 9 [wO x 8 [.ref x_sheets, .ref x_plane, .ref x_kin, .ref x_heights, .ref x_levels, .ref x_words, .ref x_shown, .ref x_powers, .int (zI (x_shownCount)), .int (zI (fault)), x_ways, x_weigher]] dX8_denied_2 rfl rfl (by decide) (List.mem_of_getElem? (i := 1) rfl) rfl rfl rfl rfl (Nat.le_of_ble_eq_true rfl) rfl ?_
  refine z_iconst hC dX8_denied_5 ?_
  exact z_zret hC hR dX8_denied_6 (by omega) (Nat.le_of_ble_eq_true rfl) (Nat.le_of_ble_eq_true rfl) ⟨(by first | rfl | (congr 3; omega)), rfl, by trivial⟩

set_option maxHeartbeats 4000000 in
set_option maxRecDepth 100000 in
theorem c_X8_refused (l : Launch) (D : va_G) (K : ClassId × ClassId × ClassId × ClassId) (x x_sheets x_plane x_kin x_heights x_levels x_words x_shown x_powers : Nat) (fault x_shownCount x_status : Int) (x_ways x_weigher : Value) : zMet l D K yX8_refused wsX8_refused ({ frames := 0, cells := 0, slots := 0, locals := 0 }) 0 0 [.ref x, .int (zI (fault))] [wO x 8 [.ref x_sheets, .ref x_plane, .ref x_kin, .ref x_heights, .ref x_levels, .ref x_words, .ref x_shown, .ref x_powers, .int (zI (x_shownCount)), .int (zI (x_status)), x_ways, x_weigher]] (fun vr_ wr_ => vr_ = some (.int (zI (-1))) ∧ wr_ = [wO x 8 [.ref x_sheets, .ref x_plane, .ref x_kin, .ref x_heights, .ref x_levels, .ref x_words, .ref x_shown, .ref x_powers, .int (zI (x_shownCount)), .int (zI (fault)), x_ways, x_weigher]] ∧ (True)) := by
  refine zMet_of (cc := cX8_refused) (nL := 2) (ret := (some .int)) (by decide) rfl (Nat.le_of_ble_eq_true rfl) ?_
  rintro C rfl rfl rfl hC hR
  have hinX8 : ∀ w ∈ u_ws RX8 TX8 12, w ∈ wsX8_refused := by decide +kernel
  show ZW C 0 0 [wO x 8 [.ref x_sheets, .ref x_plane, .ref x_kin, .ref x_heights, .ref x_levels, .ref x_words, .ref x_shown, .ref x_powers, .int (zI (x_shownCount)), .int (zI (x_status)), x_ways, x_weigher]] [(0, .ref x), (1, .int (zI (fault)))] 0 []
  refine z_aload_n hC 0 dX8_refused_0 rfl rfl ?_
  refine z_iload_n hC 1 dX8_refused_1 rfl rfl ?_
  refine z_put hC (T := TX8) (N := 12) hinX8 tyX8_ok nmX8 0 9 [wO x 8 [.ref x_sheets, .ref x_plane, .ref x_kin, .ref x_heights, .ref x_levels, .ref x_words, .ref x_shown, .ref x_powers, .int (zI (x_shownCount)), .int (zI (fault)), x_ways, x_weigher]] dX8_refused_2 rfl rfl (by decide) (List.mem_of_getElem? (i := 1) rfl) rfl rfl rfl rfl (Nat.le_of_ble_eq_true rfl) rfl ?_
  refine z_iconst hC dX8_refused_5 ?_
  exact z_iret hC hR dX8_refused_6 (Nat.le_of_ble_eq_true rfl) (Nat.le_of_ble_eq_true rfl) ⟨(by first | rfl | (congr 3; omega)), rfl, by trivial⟩

set_option maxHeartbeats 4000000 in
set_option maxRecDepth 100000 in
theorem c_X8_granted (l : Launch) (D : va_G) (K : ClassId × ClassId × ClassId × ClassId) (x x_sheets x_plane x_kin x_heights x_levels x_words x_shown x_powers : Nat) (x_shownCount x_status : Int) (x_ways x_weigher : Value) : zMet l D K yX8_granted wsX8_granted ({ frames := 0, cells := 0, slots := 0, locals := 0 }) 0 0 [.ref x] [wO x 8 [.ref x_sheets, .ref x_plane, .ref x_kin, .ref x_heights, .ref x_levels, .ref x_words, .ref x_shown, .ref x_powers, .int (zI (x_shownCount)), .int (zI (x_status)), x_ways, x_weigher]] (fun vr_ wr_ => vr_ = some (.int (zI (1))) ∧ wr_ = [wO x 8 [.ref x_sheets, .ref x_plane, .ref x_kin, .ref x_heights, .ref x_levels, .ref x_words, .ref x_shown, .ref x_powers, .int (zI (x_shownCount)), .int (zI (0)), x_ways, x_weigher]] ∧ (True)) := by
  refine zMet_of (cc := cX8_granted) (nL := 1) (ret := (some .boolean)) (by decide) rfl (Nat.le_of_ble_eq_true rfl) ?_
  rintro C rfl rfl rfl hC hR
  have hinX8 : ∀ w ∈ u_ws RX8 TX8 12, w ∈ wsX8_granted := by decide +kernel
  show ZW C 0 0 [wO x 8 [.ref x_sheets, .ref x_plane, .ref x_kin, .ref x_heights, .ref x_levels, .ref x_words, .ref x_shown, .ref x_powers, .int (zI (x_shownCount)), .int (zI (x_status)), x_ways, x_weigher]] [(0, .ref x)] 0 []
  refine z_aload_n hC 0 dX8_granted_0 rfl rfl ?_
  refine z_iconst hC dX8_granted_1 ?_
  refine z_put hC (T := TX8) (N := 12) hinX8 tyX8_ok nmX8 0 9 [wO x 8 [.ref x_sheets, .ref x_plane, .ref x_kin, .ref x_heights, .ref x_levels, .ref x_words, .ref x_shown, .ref x_powers, .int (zI (x_shownCount)), .int (zI (0)), x_ways, x_weigher]] dX8_granted_2 rfl rfl (by decide) (List.mem_of_getElem? (i := 1) rfl) rfl rfl rfl rfl (Nat.le_of_ble_eq_true rfl) rfl ?_
  refine z_iconst hC dX8_granted_5 ?_
  exact z_zret hC hR dX8_granted_6 (by omega) (Nat.le_of_ble_eq_true rfl) (Nat.le_of_ble_eq_true rfl) ⟨(by first | rfl | (congr 3; omega)), rfl, by trivial⟩

set_option maxHeartbeats 4000000 in
set_option maxRecDepth 100000 in
theorem c_X8_given (l : Launch) (D : va_G) (K : ClassId × ClassId × ClassId × ClassId) (x x_sheets x_plane x_kin x_heights x_levels x_words x_shown x_powers : Nat) (v x_shownCount x_status : Int) (x_ways x_weigher : Value) : zMet l D K yX8_given wsX8_given ({ frames := 0, cells := 0, slots := 0, locals := 0 }) 0 0 [.ref x, .int (zI (v))] [wO x 8 [.ref x_sheets, .ref x_plane, .ref x_kin, .ref x_heights, .ref x_levels, .ref x_words, .ref x_shown, .ref x_powers, .int (zI (x_shownCount)), .int (zI (x_status)), x_ways, x_weigher]] (fun vr_ wr_ => vr_ = some (.int (zI (v))) ∧ wr_ = [wO x 8 [.ref x_sheets, .ref x_plane, .ref x_kin, .ref x_heights, .ref x_levels, .ref x_words, .ref x_shown, .ref x_powers, .int (zI (x_shownCount)), .int (zI (0)), x_ways, x_weigher]] ∧ (True)) := by
  refine zMet_of (cc := cX8_given) (nL := 2) (ret := (some .int)) (by decide) rfl (Nat.le_of_ble_eq_true rfl) ?_
  rintro C rfl rfl rfl hC hR
  have hinX8 : ∀ w ∈ u_ws RX8 TX8 12, w ∈ wsX8_given := by decide +kernel
  show ZW C 0 0 [wO x 8 [.ref x_sheets, .ref x_plane, .ref x_kin, .ref x_heights, .ref x_levels, .ref x_words, .ref x_shown, .ref x_powers, .int (zI (x_shownCount)), .int (zI (x_status)), x_ways, x_weigher]] [(0, .ref x), (1, .int (zI (v)))] 0 []
  refine z_aload_n hC 0 dX8_given_0 rfl rfl ?_
  refine z_iconst hC dX8_given_1 ?_
  refine z_put hC (T := TX8) (N := 12) hinX8 tyX8_ok nmX8 0 9 [wO x 8 [.ref x_sheets, .ref x_plane, .ref x_kin, .ref x_heights, .ref x_levels, .ref x_words, .ref x_shown, .ref x_powers, .int (zI (x_shownCount)), .int (zI (0)), x_ways, x_weigher]] dX8_given_2 rfl rfl (by decide) (List.mem_of_getElem? (i := 1) rfl) rfl rfl rfl rfl (Nat.le_of_ble_eq_true rfl) rfl ?_
  refine z_iload_n hC 1 dX8_given_5 rfl rfl ?_
  exact z_iret hC hR dX8_given_6 (Nat.le_of_ble_eq_true rfl) (Nat.le_of_ble_eq_true rfl) ⟨(by first | rfl | (congr 3; omega)), rfl, by trivial⟩

set_option maxHeartbeats 4000000 in
set_option maxRecDepth 100000 in
theorem c_X8_givenLong (l : Launch) (D : va_G) (K : ClassId × ClassId × ClassId × ClassId) (x x_sheets x_plane x_kin x_heights x_levels x_words x_shown x_powers : Nat) (v x_shownCount x_status : Int) (x_ways x_weigher : Value) : zMet l D K yX8_givenLong wsX8_givenLong ({ frames := 0, cells := 0, slots := 0, locals := 0 }) 0 0 [.ref x, .long (zL (v))] [wO x 8 [.ref x_sheets, .ref x_plane, .ref x_kin, .ref x_heights, .ref x_levels, .ref x_words, .ref x_shown, .ref x_powers, .int (zI (x_shownCount)), .int (zI (x_status)), x_ways, x_weigher]] (fun vr_ wr_ => vr_ = some (.long (zL (v))) ∧ wr_ = [wO x 8 [.ref x_sheets, .ref x_plane, .ref x_kin, .ref x_heights, .ref x_levels, .ref x_words, .ref x_shown, .ref x_powers, .int (zI (x_shownCount)), .int (zI (0)), x_ways, x_weigher]] ∧ (True)) := by
  refine zMet_of (cc := cX8_givenLong) (nL := 3) (ret := (some .long)) (by decide) rfl (Nat.le_of_ble_eq_true rfl) ?_
  rintro C rfl rfl rfl hC hR
  have hinX8 : ∀ w ∈ u_ws RX8 TX8 12, w ∈ wsX8_givenLong := by decide +kernel
  show ZW C 0 0 [wO x 8 [.ref x_sheets, .ref x_plane, .ref x_kin, .ref x_heights, .ref x_levels, .ref x_words, .ref x_shown, .ref x_powers, .int (zI (x_shownCount)), .int (zI (x_status)), x_ways, x_weigher]] [(0, .ref x), (1, .long (zL (v)))] 0 []
  refine z_aload_n hC 0 dX8_givenLong_0 rfl rfl ?_
  refine z_iconst hC dX8_givenLong_1 ?_
  refine z_put hC (T := TX8) (N := 12) hinX8 tyX8_ok nmX8 0 9 [wO x 8 [.ref x_sheets, .ref x_plane, .ref x_kin, .ref x_heights, .ref x_levels, .ref x_words, .ref x_shown, .ref x_powers, .int (zI (x_shownCount)), .int (zI (0)), x_ways, x_weigher]] dX8_givenLong_2 rfl rfl (by decide) (List.mem_of_getElem? (i := 1) rfl) rfl rfl rfl rfl (Nat.le_of_ble_eq_true rfl) rfl ?_
  refine z_lload_n hC 1 dX8_givenLong_5 rfl rfl ?_
  exact z_lret hC hR dX8_givenLong_6 (Nat.le_of_ble_eq_true rfl) (Nat.le_of_ble_eq_true rfl) ⟨(by first | rfl | (congr 3; omega)), rfl, by trivial⟩

set_option maxHeartbeats 4000000 in
set_option maxRecDepth 100000 in
theorem c_X8_givenUnlessGreat (l : Launch) (D : va_G) (K : ClassId × ClassId × ClassId × ClassId) (x x_sheets x_plane x_kin x_heights x_levels x_words x_shown x_powers : Nat) (v x_shownCount x_status : Int) (x_ways x_weigher : Value) (hv : zRL v) : zMet l D K yX8_givenUnlessGreat wsX8_givenUnlessGreat ({ frames := 1, cells := 0, slots := 0, locals := 22 }) 0 0 [.ref x, .long (zL (v))] [wO x 8 [.ref x_sheets, .ref x_plane, .ref x_kin, .ref x_heights, .ref x_levels, .ref x_words, .ref x_shown, .ref x_powers, .int (zI (x_shownCount)), .int (zI (x_status)), x_ways, x_weigher]] (fun vr_ wr_ => ∃ (r : Int) (s2 : Int), vr_ = some (.long (zL (r))) ∧ wr_ = [wO x 8 [.ref x_sheets, .ref x_plane, .ref x_kin, .ref x_heights, .ref x_levels, .ref x_words, .ref x_shown, .ref x_powers, .int (zI (x_shownCount)), .int (zI (s2)), x_ways, x_weigher]] ∧ ((4611686018427387904 ≤ v ∧ r = -1 ∧ s2 = 9) ∨ (v < 4611686018427387904 ∧ r = v ∧ s2 = 0))) := by
  refine zMet_of (cc := cX8_givenUnlessGreat) (nL := 3) (ret := (some .long)) (by decide) rfl (Nat.le_of_ble_eq_true rfl) ?_
  rintro C rfl rfl rfl hC hR
  show ZW C 0 0 [wO x 8 [.ref x_sheets, .ref x_plane, .ref x_kin, .ref x_heights, .ref x_levels, .ref x_words, .ref x_shown, .ref x_powers, .int (zI (x_shownCount)), .int (zI (x_status)), x_ways, x_weigher]] [(0, .ref x), (1, .long (zL (v)))] 0 []
  refine z_lload_n hC 1 dX8_givenUnlessGreat_0 rfl rfl ?_
  refine z_ldc2 (v := 4611686018427387904) hC (List.mem_of_getElem? (i := 1) rfl) rfl dX8_givenUnlessGreat_1 ?_
  refine z_lclt hC 18 dX8_givenUnlessGreat_4 dX8_givenUnlessGreat_5 (by decide) (by omega) (fun c_1 => ?_) (fun c_1 => ?_)
  · skip
    refine z_aload_n hC 0 dX8_givenUnlessGreat_18 rfl rfl ?_
    refine z_lload_n hC 1 dX8_givenUnlessGreat_19 rfl rfl ?_
    refine z_callV hC [.long (zL (v))] 1 0 dX8_givenUnlessGreat_20 (c_X8_givenLong (zl C) (zD C) (zK C) x x_sheets x_plane x_kin x_heights x_levels x_words x_shown x_powers v x_shownCount x_status x_ways x_weigher ) gX8_givenUnlessGreat_X8_givenLong rfl rfl rfl ⟨by decide, by decide, by decide +kernel⟩ ⟨(Nat.le_of_ble_eq_true rfl), (Nat.le_of_ble_eq_true rfl)⟩ rfl rfl rfl rfl [0] [] [] [] rfl rfl rfl rfl rfl (by decide) (Nat.le_of_ble_eq_true rfl) ⟨(Nat.le_of_ble_eq_true rfl), (Nat.le_of_ble_eq_true rfl)⟩ ?_
    rintro v_ w_ ⟨rfl, rfl, h_20_2⟩
    show ZW C 0 0 [wO x 8 [.ref x_sheets, .ref x_plane, .ref x_kin, .ref x_heights, .ref x_levels, .ref x_words, .ref x_shown, .ref x_powers, .int (zI (x_shownCount)), .int (zI (0)), x_ways, x_weigher]] [(0, .ref x), (1, .long (zL (v)))] 23 [.long (zL (v))]
    exact z_lret hC hR dX8_givenUnlessGreat_23 (Nat.le_of_ble_eq_true rfl) (Nat.le_of_ble_eq_true rfl) ⟨v, 0, rfl, rfl, by omega⟩
  · skip
    refine z_aload_n hC 0 dX8_givenUnlessGreat_8 rfl rfl ?_
    refine z_bipush hC dX8_givenUnlessGreat_9 (by decide) ?_
    refine z_callV hC [.int (zI (9))] 1 0 dX8_givenUnlessGreat_11 (c_X8_refused (zl C) (zD C) (zK C) x x_sheets x_plane x_kin x_heights x_levels x_words x_shown x_powers 9 x_shownCount x_status x_ways x_weigher ) gX8_givenUnlessGreat_X8_refused rfl rfl rfl ⟨by decide, by decide, by decide +kernel⟩ ⟨(Nat.le_of_ble_eq_true rfl), (Nat.le_of_ble_eq_true rfl)⟩ rfl rfl rfl rfl [0] [] [] [] rfl rfl rfl rfl rfl (by decide) (Nat.le_of_ble_eq_true rfl) ⟨(Nat.le_of_ble_eq_true rfl), (Nat.le_of_ble_eq_true rfl)⟩ ?_
    rintro v_ w_ ⟨rfl, rfl, h_11_3⟩
    show ZW C 0 0 [wO x 8 [.ref x_sheets, .ref x_plane, .ref x_kin, .ref x_heights, .ref x_levels, .ref x_words, .ref x_shown, .ref x_powers, .int (zI (x_shownCount)), .int (zI (9)), x_ways, x_weigher]] [(0, .ref x), (1, .long (zL (v)))] 14 [.int (zI (-1))]
    refine z_i2l hC dX8_givenUnlessGreat_14 (by omega) ?_
    refine z_goto hC 23 dX8_givenUnlessGreat_15 (by decide) ?_
    exact z_lret hC hR dX8_givenUnlessGreat_23 (Nat.le_of_ble_eq_true rfl) (Nat.le_of_ble_eq_true rfl) ⟨-1, 9, rfl, rfl, by omega⟩
