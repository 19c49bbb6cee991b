section ZM
def zNw (C : zC) (w : Cond) : Prop := va_Nw w C.2.2.2.2.1
def zNl : List Cond := [.methodLinkNest "WalkBench" 25 yX1_init "WalkBench", .methodLinkNest "WalkBench" 32 yX2_init "WalkBench", .methodLinkNest "WalkBench" 39 yX3_init "WalkBench", .methodLinkNest "WalkBench" 46 yX0_init "WalkBench"]
theorem zNl_t : ∀ w ∈ zNl, w.onTables = true := by decide
theorem zNl_w {s U : State} (hW : s.WarmedH U.vm) (h : ∀ w ∈ zNl, va_Nw w s) : ∀ w ∈ zNl, va_Nw w U := by
  intro w hw
  have hs := h w hw
  simp only [zNl, List.mem_cons, List.not_mem_nil, or_false] at hw
  rcases hw with rfl | rfl | rfl | rfl <;> exact va_Nw.warmM hW hs
def zMetN (l : Launch) (D : va_G) (cA : ClassId × ClassId × ClassId × ClassId) (y : MethodName) (wds : List Cond) (rm : Room) (mc ms : Nat) (av : List Value) (ws : va_W) (Fin : Option Value → va_W → Prop) : Prop :=
  ∀ sz : Nat, Met l y wds rm (va_Pc av (fun U => (U.heap.size = sz ∧ va_P D vwCl ws U.heap ∧ va_K D vwCl (zT cA) U ∧ va_D (fun _ => True) ws) ∧ ∀ w ∈ zNl, va_Nw w U)) (zQ Fin D ws sz) mc ms (va_A ws sz)
theorem zMetN_of {l : Launch} {D : va_G} {cA : ClassId × ClassId × ClassId × ClassId} {y : MethodName} {wds wds' : List Cond} {rm : Room} {mc ms : Nat} {av : List Value} {ws : va_W} {Fin : Option Value → va_W → Prop} {cc : ByteArray} {nL : Nat} {ret : Option FieldType}
    (hy : plainName y.cls = true) (hw : wds = Cond.code y cc nL ret :: wds') (hlen : (lg_sl av).length ≤ nL)
    (body : ∀ C : zC, zl C = l → zD C = D → zK C = cA → zOK C cc y wds rm nL → zRet C ret ws mc ms Fin → (∀ w ∈ zNl, zNw C w) → ZW C 0 0 ws (lv_args 0 av) 0 []) : zMetN l D cA y wds rm mc ms av ws Fin := by
  intro sz
  refine Met.ofW (cc := cc) (maxL := nL) (ret := ret) hy hw ?_
  intro p e s m args below meth c s₁ B hml hv
  obtain ⟨rfl, ⟨hsz, hP, hK, hD0⟩, hN⟩ := hv
  subst hsz
  have h := body (p, l, e, (headSpec wds rm).room, s, m, av.toArray, below, meth, c, MQ below (zQ Fin D ws s.heap.size) av.toArray s mc ms (va_A ws s.heap.size), va_A ws s.heap.size, nL, D, cA) rfl rfl rfl
    ⟨B.exec, B.bytes, hml, rfl, findClass_of_methodNamed B.named, atoms_spec (ws := wds) B.pre, hK, fun q h => Or.inr h, rfl, (name_of_methodNamed B.named B.method).1⟩ ⟨B.returns, B.notSynchronized, rfl, rfl⟩ hN
  rw [lg_entry_eq]
  exact h s.heap [] _ hP hD0.self va_S.rf (lv_entry av hlen)
theorem z_blindN {av : List Value} {sz : Nat} {D : va_G} {wc : va_W} {cA : ClassId × ClassId × ClassId × ClassId} : FrameBlind (va_Pc av (fun U => (U.heap.size = sz ∧ va_P D vwCl wc U.heap ∧ va_K D vwCl (zT cA) U ∧ va_D (fun _ => True) wc) ∧ ∀ w ∈ zNl, va_Nw w U)) := by
  intro a U g mk q
  obtain ⟨q0, ⟨q1, qP, qK, qD⟩, qN⟩ := q
  exact ⟨q0, ⟨q1, qP, va_K.moved (u := U) (U := U.calling g mk a) (Vm.Alike.refl U.vm) qK, qD⟩, fun w hw => va_tabs (A := #[]) (A' := #[]) (u := U) (U := U.calling g mk a) (zNl_t w hw) rfl (qN w hw)⟩
variable {C : zC} {cc : ByteArray} {y : MethodName} {Ts : List Cond} {rm : Room} {nL : Nat} {k n : Nat} {ws : va_W} {lv : List (Nat × Value)} {pc : Nat} {st : List Value}
variable {y2 : MethodName} {bytes : ByteArray} {maxL mc ms ix : Nat} {ret : Option FieldType} {w2 w2' : List Cond} {rm2 : Room} {wc : va_W} {Fin : Option Value → va_W → Prop}
theorem z_callIM (hC : zOK C cc y Ts rm nL) {b : Nat} {host : String} (As : List Value) (na : Nat) (hd : decode cc pc = .ok (.invokespecial ix, 3)) (hM : zMet (zl C) (zD C) (zK C) y2 w2 rm2 mc ms (.ref b :: As) wc Fin) (hT : GoodIn Ts w2) (hw : w2 = Cond.code y2 bytes maxL none :: w2') (hrc : rm2.cells = mc) (hrs : rm2.slots = ms) (hdm : y2.cls ≠ "java/lang/invoke/MethodHandle" ∧ y2.cls ≠ "java/lang/invoke/VarHandle" ∧ (parseMethodDescriptor y2.desc).map (fun d => d.parameters.length) = some na) (hRm : rm2.frames + 1 ≤ rm.frames ∧ 8 + (maxL + 11) + rm2.locals ≤ rm.locals) (hna : As.length = na) (hy1 : y2.name = "<init>") (hini : Cond.initialized y2.cls ∈ Ts) (hlk : zNw C (.methodLinkNest y.cls ix y2 host)) (him : Cond.instanceMethod y2 ∈ Ts)
    (isC isR : List Nat) (wr : va_W) (rest : List Value) (hst : st = As.reverse ++ .ref b :: rest) (h1 : isC.map (fun i => ws[i]?) = wc.map some) (h1n : va_nd isC = true) (h2 : isR.map (fun i => ws[i]?) = wr.map some) (h2n : va_nd isR = true) (hdis : ∀ i ∈ isR, i ∉ isC) (hsum : (rest.map fun v => v.category).sum ≤ 8) (hcs : k + mc ≤ rm.cells ∧ n + ms ≤ rm.slots)
    (kk : ∀ (v : Option Value) (w1 : va_W), Fin v w1 → ZW C (k + mc) (n + ms) (wr ++ w1) lv (pc + 3) (v.toList ++ rest)) : ZW C k n ws lv pc st := by
  obtain ⟨p, l, e, R, s, m, args, below, meth, c, Q, A, nL', D, cA⟩ := C
  obtain rfl : nL' = nL := hC.2.2.2.1
  intro H locs ls hP hD hS hl
  have hR : R = rm := hC.2.2.2.2.2.2.2.2.1
  have hK := hC.2.2.2.2.2.2.1
  have hPc := hP.sub (ws' := wc) isC (z_fm h1)
  have hDc := hD.sub (ws' := wc) isC h1n h1
  exact z_run (va_runIN (As := As) (rest := rest) ⟨hC.1, hC.2.1, hC.2.2.1, hC.2.2.2.2.1, hC.2.2.2.2.2.1⟩ (hM H.size) ⟨va_cnB na hC.2.2.2.2.2.1 hT hw hrc hrs hlk (hC.2.2.2.2.2.1 _ hini) hdm (by rw [hR]; exact hRm), hy1, hC.2.2.2.2.2.1 _ him⟩ ⟨z_blind, fun U hU hW => ⟨rfl, by rw [hU], by rw [hU]; exact hPc, va_K.moved hW.alike hK, hDc.weaken (fun _ _ _ _ => trivial)⟩⟩ rfl hna hl.1 hst (lv_room hsum) hd (by rw [hR]; exact hcs)) hP hD hS hC.2.2.2.2.2.2.2.1 isC isR h1 h2 h2n hdis (fun v w1 hf H1 locs1 hP1 hD1 hS1 => kk v w1 hf H1 locs1 ls hP1 hD1 hS1 hl)
theorem z_callIZ (hC : zOK C cc y Ts rm nL) {b : Nat} (As : List Value) (na : Nat) (hd : decode cc pc = .ok (.invokespecial ix, 3)) (hM : zMetN (zl C) (zD C) (zK C) y2 w2 rm2 mc ms (.ref b :: As) wc Fin) (hT : GoodIn Ts w2) (hw : w2 = Cond.code y2 bytes maxL none :: w2') (hrc : rm2.cells = mc) (hrs : rm2.slots = ms) (hdm : y2.cls ≠ "java/lang/invoke/MethodHandle" ∧ y2.cls ≠ "java/lang/invoke/VarHandle" ∧ (parseMethodDescriptor y2.desc).map (fun d => d.parameters.length) = some na) (hRm : rm2.frames + 1 ≤ rm.frames ∧ 8 + (maxL + 11) + rm2.locals ≤ rm.locals) (hna : As.length = na) (hNs : ∀ w ∈ zNl, zNw C w) (hy1 : y2.name = "<init>") (hini : Cond.initialized y2.cls ∈ Ts) (hlk : Cond.methodLink y.cls ix y2 ∈ Ts) (him : Cond.instanceMethod y2 ∈ Ts)
    (isC isR : List Nat) (wr : va_W) (rest : List Value) (hst : st = As.reverse ++ .ref b :: rest) (h1 : isC.map (fun i => ws[i]?) = wc.map some) (h1n : va_nd isC = true) (h2 : isR.map (fun i => ws[i]?) = wr.map some) (h2n : va_nd isR = true) (hdis : ∀ i ∈ isR, i ∉ isC) (hsum : (rest.map fun v => v.category).sum ≤ 8) (hcs : k + mc ≤ rm.cells ∧ n + ms ≤ rm.slots)
    (kk : ∀ (v : Option Value) (w1 : va_W), Fin v w1 → ZW C (k + mc) (n + ms) (wr ++ w1) lv (pc + 3) (v.toList ++ rest)) : ZW C k n ws lv pc st := by
  obtain ⟨p, l, e, R, s, m, args, below, meth, c, Q, A, nL', D, cA⟩ := C
  obtain rfl : nL' = nL := hC.2.2.2.1
  intro H locs ls hP hD hS hl
  have hR : R = rm := hC.2.2.2.2.2.2.2.2.1
  have hK := hC.2.2.2.2.2.2.1
  have hPc := hP.sub (ws' := wc) isC (z_fm h1)
  have hDc := hD.sub (ws' := wc) isC h1n h1
  exact z_run (va_runI (As := As) (rest := rest) ⟨hC.1, hC.2.1, hC.2.2.1, hC.2.2.2.2.1, hC.2.2.2.2.2.1⟩ (hM H.size) (cwI na hC.2.2.2.2.2.1 hT hw hrc hrs (hC.2.2.2.2.2.1 _ hini) (hC.2.2.2.2.2.1 _ hlk) (hC.2.2.2.2.2.1 _ him) hy1 hdm (by rw [hR]; exact hRm)) ⟨z_blindN, fun U hU hW => ⟨rfl, ⟨by rw [hU], by rw [hU]; exact hPc, va_K.moved hW.alike hK, hDc.weaken (fun _ _ _ _ => trivial)⟩, zNl_w hW hNs⟩⟩ rfl hna hl.1 hst (lv_room hsum) hd (by rw [hR]; exact hcs)) hP hD hS hC.2.2.2.2.2.2.2.1 isC isR h1 h2 h2n hdis (fun v w1 hf H1 locs1 hP1 hD1 hS1 => kk v w1 hf H1 locs1 ls hP1 hD1 hS1 hl)
end ZM
