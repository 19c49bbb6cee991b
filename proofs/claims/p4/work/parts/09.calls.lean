section ZJ
theorem z_fm {ws ws' : va_W} {is : List Nat} (h1 : is.map (fun i => ws[i]?) = ws'.map some) : is.filterMap (fun i => ws[i]?) = ws' := by
  have e1 : (is.map (fun i => ws[i]?)).filterMap id = (ws'.map some).filterMap id := by rw [h1]
  simpa [List.filterMap_map] using e1
theorem z_run {p : Program} {l : Launch} {e : Env} {R : Room} {s : State} {m : MethodId} {args : Array Value} {below : List Frame} {meth : Method} {c : Code} {H : Heap} {locs : List Loc} {k n mc ms pc : Nat} {Q : State → Prop} {ls : Array Slot} {st0 rest : List Value} {a : Array Value} {A : Nat → Prop} {D : va_G} {ws wc wr : va_W} {Fin : Option Value → va_W → Prop}
    (hr : va_Run p l e R s m args below meth c H locs k n mc ms (F0 m pc ls st0) rest (zQ Fin D wc H.size a) (va_A wc H.size)) (hP : va_P D vwCl ws H) (hD : va_D A ws) (hS : va_S A s.heap H locs) (hA : ∀ q, s.heap.size ≤ q → A q)
    (isC isR : List Nat) (h1 : isC.map (fun i => ws[i]?) = wc.map some) (h2 : isR.map (fun i => ws[i]?) = wr.map some) (hn : va_nd isR = true) (hdis : ∀ i ∈ isR, i ∉ isC)
    (kk : ∀ (v : Option Value) (w1 : va_W), Fin v w1 → ∀ (H1 : Heap) (locs1 : List Loc), va_P D vwCl (wr ++ w1) H1 → va_D A (wr ++ w1) → va_S A s.heap H1 locs1 → W p l e R s m args below meth c H1 locs1 (k + mc) (n + ms) Q (F0 m (pc + 3) ls (v.toList ++ rest))) : W p l e R s m args below meth c H locs k n Q (F0 m pc ls st0) := by
  have hF := va_free (wc := wc) hD hS hA isC h1
  intro T hT X
  obtain ⟨v, st₀, t, T', L, h0, X', hL, e1, e2, ⟨⟨v', w1, hv, hf, hP1, hD1⟩, hz, hk⟩, st⟩ := hr T hT X
  cases hv
  rw [h0] at hz hk
  have j := va_join (wr := wr) (w1 := w1) (H1 := t.heap) hP hD isC isR h1 h2 hn hdis hk hF hP1 hD1
  obtain ⟨t2, a1, b1⟩ := kk v w1 hf T'.heap (locs ++ L) (by rw [e1]; exact j.1) j.2
    ⟨Nat.le_trans hS.1 (by rw [e1]; exact hz), fun q h1 h2 => by rw [e1, hk q (Nat.lt_of_lt_of_le h1 hS.1) (fun z => h2 (hF q z))]; exact hS.2.1 q h1 h2, fun q hq => by
      rcases List.mem_append.mp hq with h | h
      · exact hS.2.2 q h
      · exact hF _ (hL q h)⟩ T' rfl X'
  exact ⟨t2, st t2 a1, b1⟩
theorem z_blind {av : List Value} {sz : Nat} {D : va_G} {wc : va_W} {cA : ClassId × ClassId × ClassId × ClassId} : FrameBlind (va_Pc av (fun U => U.heap.size = sz ∧ va_P D vwCl wc U.heap ∧ va_K D vwCl (zT cA) U ∧ va_D (fun _ => True) wc)) := by
  intro a U g mk q
  obtain ⟨q0, q1, qP, qK, qD⟩ := q
  exact ⟨q0, q1, qP, va_K.moved (u := U) (U := U.calling g mk a) (Vm.Alike.refl U.vm) qK, qD⟩
variable {C : zC} {cc : ByteArray} {y : MethodName} {Ts : List Cond} {rm : Room} {nL : Nat} {k n : Nat} {ws : va_W} {lv : List (Nat × Value)} {pc : Nat} {st : List Value}
variable {y2 : MethodName} {bytes : ByteArray} {maxL mc ms ix : Nat} {ret : Option FieldType} {w2 w2' : List Cond} {rm2 : Room} {wc : va_W} {Fin : Option Value → va_W → Prop}
theorem z_callV (hC : zOK C cc y Ts rm nL) {b ci : Nat} {fs0 : List Value} {cq : vw_C} (As : List Value) (na : Nat) (q0 : Nat) (hd : decode cc pc = .ok (.invokevirtual ix, 3)) (hM : zMet (zl C) (zD C) (zK C) y2 w2 rm2 mc ms (.ref b :: As) wc Fin) (hT : GoodIn Ts (wsV y.cls ix y2.cls y2 w2)) (hw : w2 = Cond.code y2 bytes maxL ret :: w2') (hrc : rm2.cells = mc) (hrs : rm2.slots = ms) (hdm : y2.cls ≠ "java/lang/invoke/MethodHandle" ∧ y2.cls ≠ "java/lang/invoke/VarHandle" ∧ (parseMethodDescriptor y2.desc).map (fun d => d.parameters.length) = some na) (hRm : rm2.frames + 1 ≤ rm.frames ∧ 8 + (maxL + 11) + rm2.locals ≤ rm.locals) (hna : As.length = na) (hrecv : wc[q0]? = some (b, .inr (ci, fs0))) (hcl : vwCl[ci]? = some cq) (hcn : cq.1 = y2.cls) (isC isR : List Nat) (wr : va_W) (rest : List Value) (hst : st = As.reverse ++ .ref b :: rest) (h1 : isC.map (fun i => ws[i]?) = wc.map some) (h1n : va_nd isC = true) (h2 : isR.map (fun i => ws[i]?) = wr.map some) (h2n : va_nd isR = true) (hdis : ∀ i ∈ isR, i ∉ isC) (hsum : (rest.map fun v => v.category).sum ≤ 8) (hcs : k + mc ≤ rm.cells ∧ n + ms ≤ rm.slots)
    (kk : ∀ (v : Option Value) (w1 : va_W), Fin v w1 → ZW C (k + mc) (n + ms) (wr ++ w1) lv (pc + 3) (v.toList ++ rest)) : ZW C k n ws lv pc st := by
  obtain ⟨p, l, e, R, s, m, args, below, meth, c, Q, A, nL', D, cA⟩ := C
  obtain rfl : nL' = nL := hC.2.2.2.1
  intro H locs ls hP hD hS hl
  have hR : R = rm := hC.2.2.2.2.2.2.2.2.1
  have hK := hC.2.2.2.2.2.2.1
  have hPc := hP.sub (ws' := wc) isC (z_fm h1)
  have hDc := hD.sub (ws' := wc) isC h1n h1
  exact z_run (va_runV (As := As) (rest := rest) ⟨hC.1, hC.2.1, hC.2.2.1, hC.2.2.2.2.1, hC.2.2.2.2.2.1⟩ (hM H.size) (cwV na hC.2.2.2.2.2.1 hT hw hrc hrs ⟨rfl, hdm⟩ (by rw [hR]; exact hRm)) ⟨z_blind, by rw [← hcn]; exact va_recv hK hPc hcl hrecv, fun U hU hW => ⟨rfl, by rw [hU], by rw [hU]; exact hPc, va_K.moved hW.alike hK, hDc.weaken (fun _ _ _ _ => trivial)⟩⟩ rfl hna hl.1 hst (lv_room hsum) hd (by rw [hR]; exact hcs)) hP hD hS hC.2.2.2.2.2.2.2.1 isC isR h1 h2 h2n hdis (fun v w1 hf H1 locs1 hP1 hD1 hS1 => kk v w1 hf H1 locs1 ls hP1 hD1 hS1 hl)
theorem z_callS (hC : zOK C cc y Ts rm nL) (As : List Value) (na : Nat) (hd : decode cc pc = .ok (.invokestatic ix, 3)) (hM : zMet (zl C) (zD C) (zK C) y2 w2 rm2 mc ms As wc Fin) (hT : GoodIn Ts (va_wsS y.cls ix y2 w2)) (hw : w2 = Cond.code y2 bytes maxL ret :: w2') (hrc : rm2.cells = mc) (hrs : rm2.slots = ms) (hdm : y2.cls ≠ "java/lang/invoke/MethodHandle" ∧ y2.cls ≠ "java/lang/invoke/VarHandle" ∧ (parseMethodDescriptor y2.desc).map (fun d => d.parameters.length) = some na) (hRm : rm2.frames + 1 ≤ rm.frames ∧ 8 + (maxL + 11) + rm2.locals ≤ rm.locals) (hna : As.length = na)
    (isC isR : List Nat) (wr : va_W) (rest : List Value) (hst : st = As.reverse ++ rest) (h1 : isC.map (fun i => ws[i]?) = wc.map some) (h1n : va_nd isC = true) (h2 : isR.map (fun i => ws[i]?) = wr.map some) (h2n : va_nd isR = true) (hdis : ∀ i ∈ isR, i ∉ isC) (hsum : (rest.map fun v => v.category).sum ≤ 8) (hcs : k + mc ≤ rm.cells ∧ n + ms ≤ rm.slots)
    (kk : ∀ (v : Option Value) (w1 : va_W), Fin v w1 → ZW C (k + mc) (n + ms) (wr ++ w1) lv (pc + 3) (v.toList ++ rest)) : ZW C k n ws lv pc st := by
  obtain ⟨p, l, e, R, s, m, args, below, meth, c, Q, A, nL', D, cA⟩ := C
  obtain rfl : nL' = nL := hC.2.2.2.1
  intro H locs ls hP hD hS hl
  have hR : R = rm := hC.2.2.2.2.2.2.2.2.1
  have hK := hC.2.2.2.2.2.2.1
  have hPc := hP.sub (ws' := wc) isC (z_fm h1)
  have hDc := hD.sub (ws' := wc) isC h1n h1
  exact z_run (va_runS (As := As) (rest := rest) ⟨hC.1, hC.2.1, hC.2.2.1, hC.2.2.2.2.1, hC.2.2.2.2.2.1⟩ (hM H.size) (va_cwS na hC.2.2.2.2.2.1 hT hw hrc hrs hdm (by rw [hR]; exact hRm)) ⟨z_blind, fun U hU hW => ⟨rfl, by rw [hU], by rw [hU]; exact hPc, va_K.moved hW.alike hK, hDc.weaken (fun _ _ _ _ => trivial)⟩⟩ rfl hna hl.1 hst (lv_room hsum) hd (by rw [hR]; exact hcs)) hP hD hS hC.2.2.2.2.2.2.2.1 isC isR h1 h2 h2n hdis (fun v w1 hf H1 locs1 hP1 hD1 hS1 => kk v w1 hf H1 locs1 ls hP1 hD1 hS1 hl)
theorem z_callI (hC : zOK C cc y Ts rm nL) {b : Nat} (As : List Value) (na : Nat) (hd : decode cc pc = .ok (.invokespecial ix, 3)) (hM : zMet (zl C) (zD C) (zK C) y2 w2 rm2 mc ms (.ref b :: As) wc Fin) (hT : GoodIn Ts w2) (hw : w2 = Cond.code y2 bytes maxL none :: w2') (hrc : rm2.cells = mc) (hrs : rm2.slots = ms) (hdm : y2.cls ≠ "java/lang/invoke/MethodHandle" ∧ y2.cls ≠ "java/lang/invoke/VarHandle" ∧ (parseMethodDescriptor y2.desc).map (fun d => d.parameters.length) = some na) (hRm : rm2.frames + 1 ≤ rm.frames ∧ 8 + (maxL + 11) + rm2.locals ≤ rm.locals) (hna : As.length = na) (hy1 : y2.name = "<init>") (hini : Cond.initialized y2.cls ∈ Ts) (hlk : Cond.methodLink y.cls ix y2 ∈ Ts) (him : Cond.instanceMethod y2 ∈ Ts)
    (isC isR : List Nat) (wr : va_W) (rest : List Value) (hst : st = As.reverse ++ .ref b :: rest) (h1 : isC.map (fun i => ws[i]?) = wc.map some) (h1n : va_nd isC = true) (h2 : isR.map (fun i => ws[i]?) = wr.map some) (h2n : va_nd isR = true) (hdis : ∀ i ∈ isR, i ∉ isC) (hsum : (rest.map fun v => v.category).sum ≤ 8) (hcs : k + mc ≤ rm.cells ∧ n + ms ≤ rm.slots)
    (kk : ∀ (v : Option Value) (w1 : va_W), Fin v w1 → ZW C (k + mc) (n + ms) (wr ++ w1) lv (pc + 3) (v.toList ++ rest)) : ZW C k n ws lv pc st := by
  obtain ⟨p, l, e, R, s, m, args, below, meth, c, Q, A, nL', D, cA⟩ := C
  obtain rfl : nL' = nL := hC.2.2.2.1
  intro H locs ls hP hD hS hl
  have hR : R = rm := hC.2.2.2.2.2.2.2.2.1
  have hK := hC.2.2.2.2.2.2.1
  have hPc := hP.sub (ws' := wc) isC (z_fm h1)
  have hDc := hD.sub (ws' := wc) isC h1n h1
  exact z_run (va_runI (As := As) (rest := rest) ⟨hC.1, hC.2.1, hC.2.2.1, hC.2.2.2.2.1, hC.2.2.2.2.2.1⟩ (hM H.size) (cwI na hC.2.2.2.2.2.1 hT hw hrc hrs (hC.2.2.2.2.2.1 _ hini) (hC.2.2.2.2.2.1 _ hlk) (hC.2.2.2.2.2.1 _ him) hy1 hdm (by rw [hR]; exact hRm)) ⟨z_blind, fun U hU hW => ⟨rfl, by rw [hU], by rw [hU]; exact hPc, va_K.moved hW.alike hK, hDc.weaken (fun _ _ _ _ => trivial)⟩⟩ rfl hna hl.1 hst (lv_room hsum) hd (by rw [hR]; exact hcs)) hP hD hS hC.2.2.2.2.2.2.2.1 isC isR h1 h2 h2n hdis (fun v w1 hf H1 locs1 hP1 hD1 hS1 => kk v w1 hf H1 locs1 ls hP1 hD1 hS1 hl)
theorem z_callIN (hC : zOK C cc y Ts rm nL) {b : Nat} {host : String} (As : List Value) (na : Nat) (hd : decode cc pc = .ok (.invokespecial ix, 3)) (hM : zMet (zl C) (zD C) (zK C) y2 w2 rm2 mc ms (.ref b :: As) wc Fin) (hT : GoodIn Ts w2) (hw : w2 = Cond.code y2 bytes maxL none :: w2') (hrc : rm2.cells = mc) (hrs : rm2.slots = ms) (hdm : y2.cls ≠ "java/lang/invoke/MethodHandle" ∧ y2.cls ≠ "java/lang/invoke/VarHandle" ∧ (parseMethodDescriptor y2.desc).map (fun d => d.parameters.length) = some na) (hRm : rm2.frames + 1 ≤ rm.frames ∧ 8 + (maxL + 11) + rm2.locals ≤ rm.locals) (hna : As.length = na) (hy1 : y2.name = "<init>") (hini : Cond.initialized y2.cls ∈ Ts) (hlk : Cond.methodLinkNest y.cls ix y2 host ∈ Ts) (him : Cond.instanceMethod y2 ∈ Ts)
    (isC isR : List Nat) (wr : va_W) (rest : List Value) (hst : st = As.reverse ++ .ref b :: rest) (h1 : isC.map (fun i => ws[i]?) = wc.map some) (h1n : va_nd isC = true) (h2 : isR.map (fun i => ws[i]?) = wr.map some) (h2n : va_nd isR = true) (hdis : ∀ i ∈ isR, i ∉ isC) (hsum : (rest.map fun v => v.category).sum ≤ 8) (hcs : k + mc ≤ rm.cells ∧ n + ms ≤ rm.slots)
    (kk : ∀ (v : Option Value) (w1 : va_W), Fin v w1 → ZW C (k + mc) (n + ms) (wr ++ w1) lv (pc + 3) (v.toList ++ rest)) : ZW C k n ws lv pc st := by
  obtain ⟨p, l, e, R, s, m, args, below, meth, c, Q, A, nL', D, cA⟩ := C
  obtain rfl : nL' = nL := hC.2.2.2.1
  intro H locs ls hP hD hS hl
  have hR : R = rm := hC.2.2.2.2.2.2.2.2.1
  have hK := hC.2.2.2.2.2.2.1
  have hPc := hP.sub (ws' := wc) isC (z_fm h1)
  have hDc := hD.sub (ws' := wc) isC h1n h1
  exact z_run (va_runIN (As := As) (rest := rest) ⟨hC.1, hC.2.1, hC.2.2.1, hC.2.2.2.2.1, hC.2.2.2.2.2.1⟩ (hM H.size) ⟨va_cnB na hC.2.2.2.2.2.1 hT hw hrc hrs (va_Nw.of rfl (hC.2.2.2.2.2.1 _ hlk)) (hC.2.2.2.2.2.1 _ hini) hdm (by rw [hR]; exact hRm), hy1, hC.2.2.2.2.2.1 _ him⟩ ⟨z_blind, fun U hU hW => ⟨rfl, by rw [hU], by rw [hU]; exact hPc, va_K.moved hW.alike hK, hDc.weaken (fun _ _ _ _ => trivial)⟩⟩ rfl hna hl.1 hst (lv_room hsum) hd (by rw [hR]; exact hcs)) hP hD hS hC.2.2.2.2.2.2.2.1 isC isR h1 h2 h2n hdis (fun v w1 hf H1 locs1 hP1 hD1 hS1 => kk v w1 hf H1 locs1 ls hP1 hD1 hS1 hl)
end ZJ
