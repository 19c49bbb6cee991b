section ZG
/-! the walk of a method over a world of cells: one judgement, its fixed part one tuple -/
abbrev zC : Type := Program × Launch × Env × Room × State × MethodId × Array Value × List Frame × Method × Code × (State → Prop) × (Nat → Prop) × Nat × va_G × (ClassId × ClassId × ClassId × ClassId)
def zT (q : ClassId × ClassId × ClassId × ClassId) : List (ClassId × FieldType) := [(q.1, .byte), (q.2.1, .int), (q.2.2.1, .long), (q.2.2.2, .boolean)]
def ZW (C : zC) (k n : Nat) (ws : va_W) (lv : List (Nat × Value)) (pc : Nat) (st : List Value) : Prop :=
  match C with
  | (p, l, e, R, s, m, args, below, meth, c, Q, A, nL, D, _) => ∀ (H : Heap) (locs : List Loc) (ls : Array Slot), va_P D vwCl ws H → va_D A ws → va_S A s.heap H locs → lv_has ls nL lv → W p l e R s m args below meth c H locs k n Q (F0 m pc ls st)
def zOK (C : zC) (cc : ByteArray) (y : MethodName) (Ts : List Cond) (rm : Room) (nL : Nat) : Prop :=
  match C with
  | (p, _, _, R, s, m, args, _, meth, c, _, A, nL', D, cA) => p.tables.exec = Jvm.exec ∧ c.code = cc ∧ c.maxLocals = nL ∧ nL' = nL ∧ s.vm.findClass y.cls = some m.cls ∧ (∀ w ∈ Ts, w.before args s = true) ∧ va_K D vwCl (zT cA) s ∧ (∀ q, s.heap.size ≤ q → A q) ∧ R = rm ∧ meth.name = y.name
def zl (C : zC) : Launch := C.2.1
def zD (C : zC) : va_G := C.2.2.2.2.2.2.2.2.2.2.2.2.2.1
def zK (C : zC) : ClassId × ClassId × ClassId × ClassId := C.2.2.2.2.2.2.2.2.2.2.2.2.2.2
/-- a method's end: the world w1 is what 'Fin' says -/
def zQ (Fin : Option Value → va_W → Prop) (D : va_G) (ws : va_W) (sz : Nat) : Array Value → State → Outcome → State → Prop := fun _ st oc t =>
  (∃ (v : Option Value) (w1 : va_W), oc = .returned v ∧ Fin v w1 ∧ va_P D vwCl w1 t.heap ∧ va_D (va_A ws sz) w1) ∧ va_F (va_A ws sz) st t
def zMet (l : Launch) (D : va_G) (cA : ClassId × ClassId × ClassId × ClassId) (y : MethodName) (wds : List Cond) (rm : Room) (mc ms : Nat) (av : List Value) (ws : va_W) (Fin : Option Value → va_W → Prop) : Prop :=
  ∀ sz : Nat, Met l y wds rm (va_Pc av (fun U => U.heap.size = sz ∧ va_P D vwCl ws U.heap ∧ va_K D vwCl (zT cA) U ∧ va_D (fun _ => True) ws)) (zQ Fin D ws sz) mc ms (va_A ws sz)
def zRet (C : zC) (ret : Option FieldType) (ws0 : va_W) (mc ms : Nat) (Fin : Option Value → va_W → Prop) : Prop :=
  match C with
  | (_, _, _, _, s, _, args, below, meth, _, Q, A, _, D, _) => meth.sig.returnType = ret ∧ meth.locks = false ∧ A = va_A ws0 s.heap.size ∧ Q = MQ below (zQ Fin D ws0 s.heap.size) args s mc ms A
theorem zMet_of {l : Launch} {D : va_G} {cA : ClassId × ClassId × ClassId × ClassId} {y : MethodName} {wds wds' : List Cond} {rm : Room} {mc ms : Nat} {av : List Value} {ws : va_W} {Fin : Option Value → va_W → Prop} {cc : ByteArray} {nL : Nat} {ret : Option FieldType}
    (hy : plainName y.cls = true) (hw : wds = Cond.code y cc nL ret :: wds') (hlen : (lg_sl av).length ≤ nL)
    (body : ∀ C : zC, zl C = l → zD C = D → zK C = cA → zOK C cc y wds rm nL → zRet C ret ws mc ms Fin → ZW C 0 0 ws (lv_args 0 av) 0 []) : zMet l D cA y wds rm mc ms av ws Fin := by
  intro sz
  refine Met.ofW (cc := cc) (maxL := nL) (ret := ret) hy hw ?_
  intro p e s m args below meth c s₁ B hml hv
  obtain ⟨rfl, hsz, hP, hK, hD0⟩ := hv
  subst hsz
  have h := body (p, l, e, (headSpec wds rm).room, s, m, av.toArray, below, meth, c, MQ below (zQ Fin D ws s.heap.size) av.toArray s mc ms (va_A ws s.heap.size), va_A ws s.heap.size, nL, D, cA) rfl rfl rfl
    ⟨B.exec, B.bytes, hml, rfl, findClass_of_methodNamed B.named, atoms_spec (ws := wds) B.pre, hK, fun q h => Or.inr h, rfl, (name_of_methodNamed B.named B.method).1⟩ ⟨B.returns, B.notSynchronized, rfl, rfl⟩
  rw [lg_entry_eq]
  exact h s.heap [] _ hP hD0.self va_S.rf (lv_entry av hlen)
variable {C : zC} {cc : ByteArray} {y : MethodName} {Ts : List Cond} {rm : Room} {nL : Nat} {k n : Nat} {ws : va_W} {lv : List (Nat × Value)} {pc : Nat} {st : List Value}
theorem z_wid {k2 n2 : Nat} (h1 : k ≤ k2) (h2 : n ≤ n2) (kk : ZW C k2 n2 ws lv pc st) : ZW C k n ws lv pc st := by
  obtain ⟨p, l, e, R, s, m, args, below, meth, c, Q, A, nL', D, cA⟩ := C
  intro H locs ls hP hD hS hl
  exact W.widen h1 h2 (kk H locs ls hP hD hS hl)
theorem z_lv {lv' : List (Nat × Value)} (ks : List Nat) (hl' : lv_pick lv ks = lv') (kk : ZW C k n ws lv' pc st) : ZW C k n ws lv pc st := by
  obtain ⟨p, l, e, R, s, m, args, below, meth, c, Q, A, nL', D, cA⟩ := C
  intro H locs ls hP hD hS hl
  exact kk H locs ls hP hD hS (lv_sub hl ks hl')
theorem z_ws {ws' : va_W} (is : List Nat) (h1 : is.map (fun i => ws[i]?) = ws'.map some) (h2 : va_nd is = true) (kk : ZW C k n ws' lv pc st) : ZW C k n ws lv pc st := by
  obtain ⟨p, l, e, R, s, m, args, below, meth, c, Q, A, nL', D, cA⟩ := C
  have h3 : is.filterMap (fun i => ws[i]?) = ws' := by
    have e1 : (is.map (fun i => ws[i]?)).filterMap id = (ws'.map some).filterMap id := by rw [h1]
    simpa [List.filterMap_map] using e1
  intro H locs ls hP hD hS hl
  exact kk H locs ls (hP.sub is h3) (hD.sub is h2 h1) hS hl
-- constants
theorem z_iconst (hC : zOK C cc y Ts rm nL) {v : Int} (hd : decode cc pc = .ok (.iconst v, 1)) (kk : ZW C k n ws lv (pc + 1) (.int (zI v) :: st)) : ZW C k n ws lv pc st := by
  obtain ⟨p, l, e, R, s, m, args, below, meth, c, Q, A, nL', D, cA⟩ := C
  intro H locs ls hP hD hS hl
  exact lv_iconst (v := zI v) hC.1 hC.2.1 hd rfl (kk H locs ls hP hD hS hl)
theorem z_bipush (hC : zOK C cc y Ts rm nL) {v : Int} (hd : decode cc pc = .ok (.bipush v, 2)) (hv : (Int8.ofInt v).toInt32 = zI v) (kk : ZW C k n ws lv (pc + 2) (.int (zI v) :: st)) : ZW C k n ws lv pc st := by
  obtain ⟨p, l, e, R, s, m, args, below, meth, c, Q, A, nL', D, cA⟩ := C
  intro H locs ls hP hD hS hl
  exact lv_bipush (v := zI v) hC.1 hC.2.1 hd hv (kk H locs ls hP hD hS hl)
theorem z_sipush (hC : zOK C cc y Ts rm nL) {v : Int} (hd : decode cc pc = .ok (.sipush v, 3)) (hv : (Int16.ofInt v).toInt32 = zI v) (kk : ZW C k n ws lv (pc + 3) (.int (zI v) :: st)) : ZW C k n ws lv pc st := by
  obtain ⟨p, l, e, R, s, m, args, below, meth, c, Q, A, nL', D, cA⟩ := C
  intro H locs ls hP hD hS hl
  exact lv_sipush (v := zI v) hC.1 hC.2.1 hd hv (kk H locs ls hP hD hS hl)
theorem z_lconst (hC : zOK C cc y Ts rm nL) {q : Fin 2} {v : Int} (hd : decode cc pc = .ok (.lconst q, 1)) (hv : ((q : Nat) : Int) = v) (kk : ZW C k n ws lv (pc + 1) (.long (zL v) :: st)) : ZW C k n ws lv pc st := by
  obtain ⟨p, l, e, R, s, m, args, below, meth, c, Q, A, nL', D, cA⟩ := C
  intro H locs ls hP hD hS hl
  exact lv_lconst (v := zL v) hC.1 hC.2.1 hd (by subst hv; rfl) (kk H locs ls hP hD hS hl)
theorem z_ldc (hC : zOK C cc y Ts rm nL) {ix : Nat} {w : Int32} {v : Int} (hk : Cond.constant y.cls ix w ∈ Ts) (hw : w = zI v) (hd : decode cc pc = .ok (.ldc ix, 2)) (kk : ZW C k n ws lv (pc + 2) (.int (zI v) :: st)) : ZW C k n ws lv pc st := by
  obtain ⟨p, l, e, R, s, m, args, below, meth, c, Q, A, nL', D, cA⟩ := C
  intro H locs ls hP hD hS hl
  subst hw
  exact lv_ldc hC.1 hC.2.1 hC.2.2.2.2.1 (hC.2.2.2.2.2.1 _ hk) hd (kk H locs ls hP hD hS hl)
theorem z_ldc2 (hC : zOK C cc y Ts rm nL) {ix : Nat} {w : Int64} {v : Int} (hk : Cond.constantLong y.cls ix w ∈ Ts) (hw : w = zL v) (hd : decode cc pc = .ok (.ldc2_w ix, 3)) (kk : ZW C k n ws lv (pc + 3) (.long (zL v) :: st)) : ZW C k n ws lv pc st := by
  obtain ⟨p, l, e, R, s, m, args, below, meth, c, Q, A, nL', D, cA⟩ := C
  intro H locs ls hP hD hS hl
  subst hw
  exact lv_ldc2 hC.1 hC.2.1 hC.2.2.2.2.1 (hC.2.2.2.2.2.1 _ hk) hd (kk H locs ls hP hD hS hl)
-- locals
theorem z_iload_n (hC : zOK C cc y Ts rm nL) {q : Fin 4} {i : Nat} {x : Int32} (j : Nat) (hd : decode cc pc = .ok (.iload_n q, 1)) (hj : lv[j]? = some (i, .int x)) (hi : (q : Nat) = i) (kk : ZW C k n ws lv (pc + 1) (.int x :: st)) : ZW C k n ws lv pc st := by
  obtain ⟨p, l, e, R, s, m, args, below, meth, c, Q, A, nL', D, cA⟩ := C
  intro H locs ls hP hD hS hl
  exact lv_iload_n hC.1 hC.2.1 hd hi (lv_at hl j hj) (kk H locs ls hP hD hS hl)
theorem z_iload (hC : zOK C cc y Ts rm nL) {i : Nat} {x : Int32} (j : Nat) (hd : decode cc pc = .ok (.iload i, 2)) (hj : lv[j]? = some (i, .int x)) (kk : ZW C k n ws lv (pc + 2) (.int x :: st)) : ZW C k n ws lv pc st := by
  obtain ⟨p, l, e, R, s, m, args, below, meth, c, Q, A, nL', D, cA⟩ := C
  intro H locs ls hP hD hS hl
  exact lv_iload hC.1 hC.2.1 hd (lv_at hl j hj) (kk H locs ls hP hD hS hl)
theorem z_lload_n (hC : zOK C cc y Ts rm nL) {q : Fin 4} {i : Nat} {x : Int64} (j : Nat) (hd : decode cc pc = .ok (.lload_n q, 1)) (hj : lv[j]? = some (i, .long x)) (hi : (q : Nat) = i) (kk : ZW C k n ws lv (pc + 1) (.long x :: st)) : ZW C k n ws lv pc st := by
  obtain ⟨p, l, e, R, s, m, args, below, meth, c, Q, A, nL', D, cA⟩ := C
  intro H locs ls hP hD hS hl
  exact lv_lload_n hC.1 hC.2.1 hd hi (lv_at hl j hj) (kk H locs ls hP hD hS hl)
theorem z_lload (hC : zOK C cc y Ts rm nL) {i : Nat} {x : Int64} (j : Nat) (hd : decode cc pc = .ok (.lload i, 2)) (hj : lv[j]? = some (i, .long x)) (kk : ZW C k n ws lv (pc + 2) (.long x :: st)) : ZW C k n ws lv pc st := by
  obtain ⟨p, l, e, R, s, m, args, below, meth, c, Q, A, nL', D, cA⟩ := C
  intro H locs ls hP hD hS hl
  exact lv_lload hC.1 hC.2.1 hd (lv_at hl j hj) (kk H locs ls hP hD hS hl)
theorem z_aload_n (hC : zOK C cc y Ts rm nL) {q : Fin 4} {i : Nat} {x : Nat} (j : Nat) (hd : decode cc pc = .ok (.aload_n q, 1)) (hj : lv[j]? = some (i, .ref x)) (hi : (q : Nat) = i) (kk : ZW C k n ws lv (pc + 1) (.ref x :: st)) : ZW C k n ws lv pc st := by
  obtain ⟨p, l, e, R, s, m, args, below, meth, c, Q, A, nL', D, cA⟩ := C
  intro H locs ls hP hD hS hl
  exact lv_aload_n hC.1 hC.2.1 hd hi (lv_at hl j hj) (kk H locs ls hP hD hS hl)
theorem z_aload (hC : zOK C cc y Ts rm nL) {i : Nat} {x : Nat} (j : Nat) (hd : decode cc pc = .ok (.aload i, 2)) (hj : lv[j]? = some (i, .ref x)) (kk : ZW C k n ws lv (pc + 2) (.ref x :: st)) : ZW C k n ws lv pc st := by
  obtain ⟨p, l, e, R, s, m, args, below, meth, c, Q, A, nL', D, cA⟩ := C
  intro H locs ls hP hD hS hl
  exact lv_aload hC.1 hC.2.1 hd (lv_at hl j hj) (kk H locs ls hP hD hS hl)
theorem z_istore_n (hC : zOK C cc y Ts rm nL) {q : Fin 4} {i : Nat} {x : Int32} (lv' : List (Nat × Value)) (hd : decode cc pc = .ok (.istore_n q, 1)) (hi : (q : Nat) = i) (hn : i < nL) (hl' : (i, Value.int x) :: lv.filter (fun q => !(q.1 == i) && !(q.1 + 1 == i && q.2.category == 2)) = lv') (kk : ZW C k n ws lv' (pc + 1) st) : ZW C k n ws lv pc (.int x :: st) := by
  obtain ⟨p, l, e, R, s, m, args, below, meth, c, Q, A, nL', D, cA⟩ := C
  obtain rfl : nL' = nL := hC.2.2.2.1
  intro H locs ls hP hD hS hl
  exact lv_istore_n hC.1 hC.2.1 hd hi hl hn hl' (fun ls2 hl2 => kk H locs ls2 hP hD hS hl2)
theorem z_istore (hC : zOK C cc y Ts rm nL) {i : Nat} {x : Int32} (lv' : List (Nat × Value)) (hd : decode cc pc = .ok (.istore i, 2)) (hn : i < nL) (hl' : (i, Value.int x) :: lv.filter (fun q => !(q.1 == i) && !(q.1 + 1 == i && q.2.category == 2)) = lv') (kk : ZW C k n ws lv' (pc + 2) st) : ZW C k n ws lv pc (.int x :: st) := by
  obtain ⟨p, l, e, R, s, m, args, below, meth, c, Q, A, nL', D, cA⟩ := C
  obtain rfl : nL' = nL := hC.2.2.2.1
  intro H locs ls hP hD hS hl
  exact lv_istore hC.1 hC.2.1 hd hl hn hl' (fun ls2 hl2 => kk H locs ls2 hP hD hS hl2)
theorem z_lstore_n (hC : zOK C cc y Ts rm nL) {q : Fin 4} {i : Nat} {x : Int64} (lv' : List (Nat × Value)) (hd : decode cc pc = .ok (.lstore_n q, 1)) (hi : (q : Nat) = i) (hn : i + 1 < nL) (hl' : (i, Value.long x) :: lv.filter (fun q => !(q.1 == i) && (!(q.1 == i + 1) && !(q.1 + 1 == i && q.2.category == 2))) = lv') (kk : ZW C k n ws lv' (pc + 1) st) : ZW C k n ws lv pc (.long x :: st) := by
  obtain ⟨p, l, e, R, s, m, args, below, meth, c, Q, A, nL', D, cA⟩ := C
  obtain rfl : nL' = nL := hC.2.2.2.1
  intro H locs ls hP hD hS hl
  exact lv_lstore_n hC.1 hC.2.1 hd hi hl hn hl' (fun ls2 hl2 => kk H locs ls2 hP hD hS hl2)
theorem z_lstore (hC : zOK C cc y Ts rm nL) {i : Nat} {x : Int64} (lv' : List (Nat × Value)) (hd : decode cc pc = .ok (.lstore i, 2)) (hn : i + 1 < nL) (hl' : (i, Value.long x) :: lv.filter (fun q => !(q.1 == i) && (!(q.1 == i + 1) && !(q.1 + 1 == i && q.2.category == 2))) = lv') (kk : ZW C k n ws lv' (pc + 2) st) : ZW C k n ws lv pc (.long x :: st) := by
  obtain ⟨p, l, e, R, s, m, args, below, meth, c, Q, A, nL', D, cA⟩ := C
  obtain rfl : nL' = nL := hC.2.2.2.1
  intro H locs ls hP hD hS hl
  exact lv_lstore hC.1 hC.2.1 hd hl hn hl' (fun ls2 hl2 => kk H locs ls2 hP hD hS hl2)
theorem z_astore_n (hC : zOK C cc y Ts rm nL) {q : Fin 4} {i : Nat} {x : Nat} (lv' : List (Nat × Value)) (hd : decode cc pc = .ok (.astore_n q, 1)) (hi : (q : Nat) = i) (hn : i < nL) (hl' : (i, Value.ref x) :: lv.filter (fun q => !(q.1 == i) && !(q.1 + 1 == i && q.2.category == 2)) = lv') (kk : ZW C k n ws lv' (pc + 1) st) : ZW C k n ws lv pc (.ref x :: st) := by
  obtain ⟨p, l, e, R, s, m, args, below, meth, c, Q, A, nL', D, cA⟩ := C
  obtain rfl : nL' = nL := hC.2.2.2.1
  intro H locs ls hP hD hS hl
  exact lv_astore_n hC.1 hC.2.1 hd hi hl hn hl' (fun ls2 hl2 => kk H locs ls2 hP hD hS hl2)
theorem z_astore (hC : zOK C cc y Ts rm nL) {i : Nat} {x : Nat} (lv' : List (Nat × Value)) (hd : decode cc pc = .ok (.astore i, 2)) (hn : i < nL) (hl' : (i, Value.ref x) :: lv.filter (fun q => !(q.1 == i) && !(q.1 + 1 == i && q.2.category == 2)) = lv') (kk : ZW C k n ws lv' (pc + 2) st) : ZW C k n ws lv pc (.ref x :: st) := by
  obtain ⟨p, l, e, R, s, m, args, below, meth, c, Q, A, nL', D, cA⟩ := C
  obtain rfl : nL' = nL := hC.2.2.2.1
  intro H locs ls hP hD hS hl
  exact lv_astore hC.1 hC.2.1 hd hl hn hl' (fun ls2 hl2 => kk H locs ls2 hP hD hS hl2)
theorem z_iinc (hC : zOK C cc y Ts rm nL) {i : Nat} {a v r : Int} (j : Nat) (lv' : List (Nat × Value)) (hd : decode cc pc = .ok (.iinc i v, 3)) (hj : lv[j]? = some (i, .int (zI a))) (hr : a + v = r) (hn : i < nL) (hl' : (i, Value.int (zI r)) :: lv.filter (fun q => !(q.1 == i) && !(q.1 + 1 == i && q.2.category == 2)) = lv') (kk : ZW C k n ws lv' (pc + 3) st) : ZW C k n ws lv pc st := by
  obtain ⟨p, l, e, R, s, m, args, below, meth, c, Q, A, nL', D, cA⟩ := C
  obtain rfl : nL' = nL := hC.2.2.2.1
  intro H locs ls hP hD hS hl
  exact lv_iinc (v := zI r) hC.1 hC.2.1 hd hl hj (by rw [← hr]; exact zI_add a v) hn hl' (fun ls2 hl2 => kk H locs ls2 hP hD hS hl2)
-- arithmetic
theorem z_iadd (hC : zOK C cc y Ts rm nL) {a b : Int} (r : Int) (hd : decode cc pc = .ok (.iadd, 1)) (hr : a + b = r) (kk : ZW C k n ws lv (pc + 1) (.int (zI r) :: st)) : ZW C k n ws lv pc (.int (zI b) :: .int (zI a) :: st) := by
  obtain ⟨p, l, e, R, s, m, args, below, meth, c, Q, A, nL', D, cA⟩ := C
  intro H locs ls hP hD hS hl
  exact lv_iadd hC.1 hC.2.1 hd (by rw [zI_add, hr]; exact kk H locs ls hP hD hS hl)
theorem z_isub (hC : zOK C cc y Ts rm nL) {a b : Int} (r : Int) (hd : decode cc pc = .ok (.isub, 1)) (hr : a - b = r) (kk : ZW C k n ws lv (pc + 1) (.int (zI r) :: st)) : ZW C k n ws lv pc (.int (zI b) :: .int (zI a) :: st) := by
  obtain ⟨p, l, e, R, s, m, args, below, meth, c, Q, A, nL', D, cA⟩ := C
  intro H locs ls hP hD hS hl
  exact lv_isub hC.1 hC.2.1 hd (by rw [zI_sub, hr]; exact kk H locs ls hP hD hS hl)
theorem z_imul (hC : zOK C cc y Ts rm nL) {a b : Int} (r : Int) (hd : decode cc pc = .ok (.imul, 1)) (hr : a * b = r) (kk : ZW C k n ws lv (pc + 1) (.int (zI r) :: st)) : ZW C k n ws lv pc (.int (zI b) :: .int (zI a) :: st) := by
  obtain ⟨p, l, e, R, s, m, args, below, meth, c, Q, A, nL', D, cA⟩ := C
  intro H locs ls hP hD hS hl
  exact lv_imul hC.1 hC.2.1 hd (by rw [zI_mul, hr]; exact kk H locs ls hP hD hS hl)
theorem z_ineg (hC : zOK C cc y Ts rm nL) {a : Int} (r : Int) (hd : decode cc pc = .ok (.ineg, 1)) (hr : -a = r) (kk : ZW C k n ws lv (pc + 1) (.int (zI r) :: st)) : ZW C k n ws lv pc (.int (zI a) :: st) := by
  obtain ⟨p, l, e, R, s, m, args, below, meth, c, Q, A, nL', D, cA⟩ := C
  intro H locs ls hP hD hS hl
  exact lv_ineg hC.1 hC.2.1 hd (by rw [zI_neg, hr]; exact kk H locs ls hP hD hS hl)
theorem zI_ne0 {b : Int} (h1 : 0 < b) (h : zR b) : ¬ zI b = 0 := fun q => by
  have := (zI_eq (a := b) (b := 0) ⟨h, by omega⟩).mp (by rw [zI_0]; exact q)
  omega
theorem zL_ne0 {b : Int} (h1 : 0 < b) (h : zRL b) : ¬ zL b = 0 := fun q => by
  have := (zL_eq (a := b) (b := 0) ⟨h, by omega⟩).mp (by rw [zL_0]; exact q)
  omega
theorem z_idiv (hC : zOK C cc y Ts rm nL) {a b : Int} (r : Int) (hd : decode cc pc = .ok (.idiv, 1)) (hg : 0 ≤ a ∧ 0 < b ∧ a < 2147483648 ∧ b < 2147483648) (hr : a / b = r) (kk : ZW C k n ws lv (pc + 1) (.int (zI r) :: st)) : ZW C k n ws lv pc (.int (zI b) :: .int (zI a) :: st) := by
  obtain ⟨p, l, e, R, s, m, args, below, meth, c, Q, A, nL', D, cA⟩ := C
  intro H locs ls hP hD hS hl
  exact lv_idiv hC.1 hC.2.1 hd (zI_ne0 hg.2.1 (by omega)) (by rw [zI_div hg.1 hg.2.1 (by omega), hr]; exact kk H locs ls hP hD hS hl)
theorem z_irem (hC : zOK C cc y Ts rm nL) {a b : Int} (r : Int) (hd : decode cc pc = .ok (.irem, 1)) (hg : 0 ≤ a ∧ 0 < b ∧ a < 2147483648 ∧ b < 2147483648) (hr : a % b = r) (kk : ZW C k n ws lv (pc + 1) (.int (zI r) :: st)) : ZW C k n ws lv pc (.int (zI b) :: .int (zI a) :: st) := by
  obtain ⟨p, l, e, R, s, m, args, below, meth, c, Q, A, nL', D, cA⟩ := C
  intro H locs ls hP hD hS hl
  exact lv_irem hC.1 hC.2.1 hd (zI_ne0 hg.2.1 (by omega)) (by rw [zI_rem hg.1 hg.2.1 (by omega), hr]; exact kk H locs ls hP hD hS hl)
theorem z_ldiv (hC : zOK C cc y Ts rm nL) {a b : Int} (r : Int) (hd : decode cc pc = .ok (.ldiv, 1)) (hg : 0 ≤ a ∧ 0 < b ∧ a < 9223372036854775808 ∧ b < 9223372036854775808) (hr : a / b = r) (kk : ZW C k n ws lv (pc + 1) (.long (zL r) :: st)) : ZW C k n ws lv pc (.long (zL b) :: .long (zL a) :: st) := by
  obtain ⟨p, l, e, R, s, m, args, below, meth, c, Q, A, nL', D, cA⟩ := C
  intro H locs ls hP hD hS hl
  exact lv_ldiv hC.1 hC.2.1 hd (zL_ne0 hg.2.1 (by omega)) (by rw [zL_div hg.1 hg.2.1 (by omega), hr]; exact kk H locs ls hP hD hS hl)
theorem z_lrem (hC : zOK C cc y Ts rm nL) {a b : Int} (r : Int) (hd : decode cc pc = .ok (.lrem, 1)) (hg : 0 ≤ a ∧ 0 < b ∧ a < 9223372036854775808 ∧ b < 9223372036854775808) (hr : a % b = r) (kk : ZW C k n ws lv (pc + 1) (.long (zL r) :: st)) : ZW C k n ws lv pc (.long (zL b) :: .long (zL a) :: st) := by
  obtain ⟨p, l, e, R, s, m, args, below, meth, c, Q, A, nL', D, cA⟩ := C
  intro H locs ls hP hD hS hl
  exact lv_lrem hC.1 hC.2.1 hd (zL_ne0 hg.2.1 (by omega)) (by rw [zL_rem hg.1 hg.2.1 (by omega), hr]; exact kk H locs ls hP hD hS hl)
theorem z_ladd (hC : zOK C cc y Ts rm nL) {a b : Int} (r : Int) (hd : decode cc pc = .ok (.ladd, 1)) (hr : a + b = r) (kk : ZW C k n ws lv (pc + 1) (.long (zL r) :: st)) : ZW C k n ws lv pc (.long (zL b) :: .long (zL a) :: st) := by
  obtain ⟨p, l, e, R, s, m, args, below, meth, c, Q, A, nL', D, cA⟩ := C
  intro H locs ls hP hD hS hl
  exact lv_ladd hC.1 hC.2.1 hd (by rw [zL_add, hr]; exact kk H locs ls hP hD hS hl)
theorem z_lsub (hC : zOK C cc y Ts rm nL) {a b : Int} (r : Int) (hd : decode cc pc = .ok (.lsub, 1)) (hr : a - b = r) (kk : ZW C k n ws lv (pc + 1) (.long (zL r) :: st)) : ZW C k n ws lv pc (.long (zL b) :: .long (zL a) :: st) := by
  obtain ⟨p, l, e, R, s, m, args, below, meth, c, Q, A, nL', D, cA⟩ := C
  intro H locs ls hP hD hS hl
  exact lv_lsub hC.1 hC.2.1 hd (by rw [zL_sub, hr]; exact kk H locs ls hP hD hS hl)
theorem z_lmul (hC : zOK C cc y Ts rm nL) {a b : Int} (r : Int) (hd : decode cc pc = .ok (.lmul, 1)) (hr : a * b = r) (kk : ZW C k n ws lv (pc + 1) (.long (zL r) :: st)) : ZW C k n ws lv pc (.long (zL b) :: .long (zL a) :: st) := by
  obtain ⟨p, l, e, R, s, m, args, below, meth, c, Q, A, nL', D, cA⟩ := C
  intro H locs ls hP hD hS hl
  exact lv_lmul hC.1 hC.2.1 hd (by rw [zL_mul, hr]; exact kk H locs ls hP hD hS hl)
theorem z_i2l (hC : zOK C cc y Ts rm nL) {a : Int} (hd : decode cc pc = .ok (.i2l, 1)) (ha : zR a) (kk : ZW C k n ws lv (pc + 1) (.long (zL a) :: st)) : ZW C k n ws lv pc (.int (zI a) :: st) := by
  obtain ⟨p, l, e, R, s, m, args, below, meth, c, Q, A, nL', D, cA⟩ := C
  intro H locs ls hP hD hS hl
  exact lv_i2l hC.1 hC.2.1 hd (zI_i2l ha) (kk H locs ls hP hD hS hl)
theorem z_l2i (hC : zOK C cc y Ts rm nL) {a : Int} (hd : decode cc pc = .ok (.l2i, 1)) (kk : ZW C k n ws lv (pc + 1) (.int (zI a) :: st)) : ZW C k n ws lv pc (.long (zL a) :: st) := by
  obtain ⟨p, l, e, R, s, m, args, below, meth, c, Q, A, nL', D, cA⟩ := C
  intro H locs ls hP hD hS hl
  exact lv_l2i hC.1 hC.2.1 hd (zL_l2i a) (kk H locs ls hP hD hS hl)
theorem z_i2b (hC : zOK C cc y Ts rm nL) {a : Int} (hd : decode cc pc = .ok (.i2b, 1)) (ha : -128 ≤ a ∧ a < 128) (kk : ZW C k n ws lv (pc + 1) (.int (zI a) :: st)) : ZW C k n ws lv pc (.int (zI a) :: st) := by
  obtain ⟨p, l, e, R, s, m, args, below, meth, c, Q, A, nL', D, cA⟩ := C
  intro H locs ls hP hD hS hl
  exact lv_i2b hC.1 hC.2.1 hd (zI_i2b ha) (kk H locs ls hP hD hS hl)
theorem z_dup (hC : zOK C cc y Ts rm nL) {v : Value} (hd : decode cc pc = .ok (.dup, 1)) (hv : v.category = 1) (kk : ZW C k n ws lv (pc + 1) (v :: v :: st)) : ZW C k n ws lv pc (v :: st) := by
  obtain ⟨p, l, e, R, s, m, args, below, meth, c, Q, A, nL', D, cA⟩ := C
  intro H locs ls hP hD hS hl
  exact lv_dup hC.1 hC.2.1 hd hv (kk H locs ls hP hD hS hl)
theorem z_dup2 (hC : zOK C cc y Ts rm nL) {v w : Value} (hd : decode cc pc = .ok (.dup2, 1)) (hv : v.category = 1) (hw : w.category = 1) (kk : ZW C k n ws lv (pc + 1) (v :: w :: v :: w :: st)) : ZW C k n ws lv pc (v :: w :: st) := by
  obtain ⟨p, l, e, R, s, m, args, below, meth, c, Q, A, nL', D, cA⟩ := C
  intro H locs ls hP hD hS hl
  exact lv_dup2_11 hC.1 hC.2.1 hd hv hw (kk H locs ls hP hD hS hl)
theorem z_pop (hC : zOK C cc y Ts rm nL) {v : Value} (hd : decode cc pc = .ok (.pop, 1)) (hv : v.category = 1) (kk : ZW C k n ws lv (pc + 1) st) : ZW C k n ws lv pc (v :: st) := by
  obtain ⟨p, l, e, R, s, m, args, below, meth, c, Q, A, nL', D, cA⟩ := C
  intro H locs ls hP hD hS hl
  exact lv_pop hC.1 hC.2.1 hd hv (kk H locs ls hP hD hS hl)
theorem z_goto (hC : zOK C cc y Ts rm nL) {off : Int} (tgt : Nat) (hd : decode cc pc = .ok (.goto off, 3)) (ht : (pc : Int) + off = (tgt : Int)) (kk : ZW C k n ws lv tgt st) : ZW C k n ws lv pc st := by
  obtain ⟨p, l, e, R, s, m, args, below, meth, c, Q, A, nL', D, cA⟩ := C
  intro H locs ls hP hD hS hl
  exact lv_goto hC.1 hC.2.1 hd ht (kk H locs ls hP hD hS hl)
theorem z_ifnullN (hC : zOK C cc y Ts rm nL) {off : Int} (tgt : Nat) (hd : decode cc pc = .ok (.ifnull off, 3)) (ht : (pc : Int) + off = (tgt : Int)) (kk : ZW C k n ws lv tgt st) : ZW C k n ws lv pc (.null :: st) := by
  obtain ⟨p, l, e, R, s, m, args, below, meth, c, Q, A, nL', D, cA⟩ := C
  intro H locs ls hP hD hS hl
  exact lv_ifnullN hC.1 hC.2.1 hd ht (kk H locs ls hP hD hS hl)
theorem z_ifnull (hC : zOK C cc y Ts rm nL) {off : Int} {x : Nat} (hd : decode cc pc = .ok (.ifnull off, 3)) (kk : ZW C k n ws lv (pc + 3) st) : ZW C k n ws lv pc (.ref x :: st) := by
  obtain ⟨p, l, e, R, s, m, args, below, meth, c, Q, A, nL', D, cA⟩ := C
  intro H locs ls hP hD hS hl
  exact lv_ifnull hC.1 hC.2.1 hd (kk H locs ls hP hD hS hl)
theorem z_ifnonnullN (hC : zOK C cc y Ts rm nL) {off : Int} (hd : decode cc pc = .ok (.ifnonnull off, 3)) (kk : ZW C k n ws lv (pc + 3) st) : ZW C k n ws lv pc (.null :: st) := by
  obtain ⟨p, l, e, R, s, m, args, below, meth, c, Q, A, nL', D, cA⟩ := C
  intro H locs ls hP hD hS hl
  exact lv_ifnonnullN hC.1 hC.2.1 hd (kk H locs ls hP hD hS hl)
theorem z_ifnonnull (hC : zOK C cc y Ts rm nL) {off : Int} (tgt : Nat) {x : Nat} (hd : decode cc pc = .ok (.ifnonnull off, 3)) (ht : (pc : Int) + off = (tgt : Int)) (kk : ZW C k n ws lv tgt st) : ZW C k n ws lv pc (.ref x :: st) := by
  obtain ⟨p, l, e, R, s, m, args, below, meth, c, Q, A, nL', D, cA⟩ := C
  intro H locs ls hP hD hS hl
  exact lv_ifnonnull hC.1 hC.2.1 hd ht (kk H locs ls hP hD hS hl)
end ZG
