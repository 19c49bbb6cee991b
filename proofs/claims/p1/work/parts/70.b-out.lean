section ZX
/-! out on a fresh object: it throws, and the law catches it -/
def nsE : String := "java/util/NoSuchElementException"
def zXl : List Cond := [.declares (Bundle.init0 "java/lang/RuntimeException"), .declares (Bundle.init0 "java/lang/Exception"), .declares (Bundle.init0 Bundle.tN), .castable nsE nsE]
theorem zXl_t : ∀ w ∈ zXl, w.onTables = true := by decide
theorem zXl_in : ∀ w ∈ (vx_at0 RX8 334 nsE ["java/lang/RuntimeException", "java/lang/Exception"]).filter (fun w => !goodWord w), w ∈ zXl := by decide +kernel
theorem zXl_w {s U : State} (hW : s.WarmedH U.vm) (h : ∀ w ∈ zXl, va_Nw w s) : ∀ w ∈ zXl, va_Nw w U := by
  intro w hw
  have hs := h w hw
  simp only [zXl, List.mem_cons, List.not_mem_nil, or_false] at hw
  rcases hw with rfl | rfl | rfl | rfl
  · exact va_Nw.warmD hW hs
  · exact va_Nw.warmD hW hs
  · exact va_Nw.warmD hW hs
  · exact va_Nw.warmC hW hs
/-- what a throw wants beside the good words: four words of the tables, and Throwable's two statics -/
def zXs (s : State) (A : Nat → Prop) (H : Heap) : Prop := (∀ w ∈ zXl, va_Nw w s) ∧ vx_Zq Bundle.tN "UNASSIGNED_STACK" Bundle.steD A s H ∧ vx_Zq Bundle.tN "SUPPRESSED_SENTINEL" Bundle.listD A s H
theorem zXs_m {s U : State} {A : Nat → Prop} {H : Heap} (hW : s.WarmedH U.vm) (h : zXs s A H) : zXs U (fun _ => False) H :=
  ⟨zXl_w hW h.1, vx_Zq.moved hW.alike (vx_Zq.narrow h.2.1 (fun _ z => z.elim)), vx_Zq.moved hW.alike (vx_Zq.narrow h.2.2 (fun _ z => z.elim))⟩
theorem zXs_k {s : State} {A : Nat → Prop} {H H1 : Heap} (h : zXs s A H) (hq : ∀ a : Nat, a < H.size → ¬ A a → H1[a]? = H[a]?) : zXs s A H1 := ⟨h.1, vx_Zq.kept h.2.1 hq, vx_Zq.kept h.2.2 hq⟩
def zPX (av : List Value) (sz : Nat) (D : va_G) (wc : va_W) (cA : ClassId × ClassId × ClassId × ClassId) : Array Value → State → Prop :=
  va_Pc av (fun U => (U.heap.size = sz ∧ va_P D vwCl wc U.heap ∧ va_K D vwCl (zT cA) U ∧ va_D (fun _ => True) wc) ∧ zXs U (fun _ => False) U.heap)
theorem zPX_blind {av : List Value} {sz : Nat} {D : va_G} {wc : va_W} {cA : ClassId × ClassId × ClassId × ClassId} : FrameBlind (zPX av sz D wc cA) := by
  intro a U g mk q
  obtain ⟨q0, ⟨q1, qP, qK, qD⟩, qX⟩ := q
  exact ⟨q0, ⟨q1, qP, va_K.moved (u := U) (U := U.calling g mk a) (Vm.Alike.refl U.vm) qK, qD⟩, fun w hw => va_tabs (A := #[]) (A' := #[]) (u := U) (U := U.calling g mk a) (zXl_t w hw) rfl (qX.1 w hw), vx_Zq.moved (u := U) (U := U.calling g mk a) (Vm.Alike.refl U.vm) qX.2.1, vx_Zq.moved (u := U) (U := U.calling g mk a) (Vm.Alike.refl U.vm) qX.2.2⟩
def zMetX (l : Launch) (D : va_G) (cA : ClassId × ClassId × ClassId × ClassId) (y : MethodName) (wds : List Cond) (rm : Room) (mc ms : Nat) (av : List Value) (ws : va_W) (Fin : Option Value → va_W → Prop) : Prop :=
  ∀ sz : Nat, vx_Met l y wds rm (zPX av sz D ws cA) (zQ Fin D ws sz) (fun _ _ _ => False) mc ms (va_A ws sz)
theorem vx_toRun {p : Program} {l : Launch} {e : Env} {R : Room} {s : State} {m : MethodId} {args : Array Value} {below : List Frame} {meth : Method} {c : Code} {H : Heap} {locs : List Loc} {cells slots mc ms : Nat} {g : JFrame} {rest : List Value} {Qa : State → Outcome → State → Prop} {free : Addr → Prop}
    (hr : vx_Run p l e R s m args below meth c H locs cells slots mc ms g rest Qa (fun _ _ _ => False) free) : va_Run p l e R s m args below meth c H locs cells slots mc ms g rest Qa free := by
  intro T hT X
  rcases hr T hT X with h | ⟨q, st₀, t, T', L, E, ce, h0, X', hL, e1, e2, hx, _⟩
  · exact h
  · exact hx.elim
def zXc (C : zC) : Prop :=
  match C with
  | (_, _, _, _, s, _, _, _, _, _, _, A, _, _, _) => zXs s A s.heap
set_option maxHeartbeats 4000000 in
theorem z_callSX {C : zC} {cc : ByteArray} {y : MethodName} {Ts : List Cond} {rm : Room} {nL : Nat} {k n : Nat} {ws : va_W} {lv : List (Nat × Value)} {pc : Nat} {st : List Value} {y2 : MethodName} {bytes : ByteArray} {maxL mc ms ix : Nat} {ret : Option FieldType} {hh : List (Nat × Nat × Nat × Nat)} {w2 w2' : List Cond} {rm2 : Room} {wc : va_W} {Fin : Option Value → va_W → Prop}
    (hC : zOK C cc y Ts rm nL) (hX : zXc C) (As : List Value) (na : Nat) (hd : decode cc pc = .ok (.invokestatic ix, 3)) (hM : zMetX (zl C) (zD C) (zK C) y2 w2 rm2 mc ms As wc Fin) (hT : GoodIn Ts (va_wsS y.cls ix y2 w2)) (hw : w2 = Cond.codeWith y2 bytes maxL ret hh :: w2') (hrc : rm2.cells = mc) (hrs : rm2.slots = ms) (hdm : y2.cls ≠ "java/lang/invoke/MethodHandle" ∧ y2.cls ≠ "java/lang/invoke/VarHandle" ∧ (parseMethodDescriptor y2.desc).map (fun d => d.parameters.length) = some na) (hRm : rm2.frames + 1 ≤ rm.frames ∧ 8 + (maxL + 11) + rm2.locals ≤ rm.locals) (hna : As.length = na)
    (isC isR : List Nat) (wr : va_W) (rest : List Value) (hst : st = As.reverse ++ rest) (h1 : isC.map (fun i => ws[i]?) = wc.map some) (h1n : va_nd isC = true) (h2 : isR.map (fun i => ws[i]?) = wr.map some) (h2n : va_nd isR = true) (hdis : ∀ i ∈ isR, i ∉ isC) (hsum : (rest.map fun v => v.category).sum ≤ 8) (hcs : k + mc ≤ rm.cells ∧ n + ms ≤ rm.slots)
    (kk : ∀ (v : Option Value) (w1 : va_W), Fin v w1 → ZW C (k + mc) (n + ms) (wr ++ w1) lv (pc + 3) (v.toList ++ rest)) : ZW C k n ws lv pc st := by
  obtain ⟨p, l, e, R, s, m, args, below, meth, c, Q, A, nL', D, cA⟩ := C
  obtain rfl : nL' = nL := hC.2.2.2.1
  intro H locs ls hP hD hS hl
  have hR : R = rm := hC.2.2.2.2.2.2.2.2.1
  have hK := hC.2.2.2.2.2.2.1
  have hPc := hP.sub (ws' := wc) isC (z_fm h1)
  have hDc := hD.sub (ws' := wc) isC h1n h1
  have hX2 : zXs s A H := zXs_k (show zXs s A s.heap from hX) hS.2.1
  exact z_run (vx_toRun (vx_runSX (As := As) (rest := rest) (hh := hh) ⟨hC.1, hC.2.1, hC.2.2.1, hC.2.2.2.2.1, hC.2.2.2.2.2.1⟩ (hM H.size) (vx_cwSW na hC.2.2.2.2.2.1 hT hw hrc hrs hdm (by rw [hR]; exact hRm)) ⟨zPX_blind, fun U hU hW => ⟨rfl, ⟨by rw [hU], by rw [hU]; exact hPc, va_K.moved hW.alike hK, hDc.weaken (fun _ _ _ _ => trivial)⟩, by rw [hU]; exact zXs_m hW hX2⟩⟩ rfl hna hl.1 hst (lv_room hsum) hd (by rw [hR]; exact hcs))) hP hD hS hC.2.2.2.2.2.2.2.1 isC isR h1 h2 h2n hdis (fun v w1 hf H1 locs1 hP1 hD1 hS1 => kk v w1 hf H1 locs1 ls hP1 hD1 hS1 hl)
set_option maxHeartbeats 4000000 in
set_option maxRecDepth 100000 in
theorem c_X8_out (l : Launch) (hlt : l.stackTraces = false) (D : va_G) (K : ClassId × ClassId × ClassId × ClassId) (x : Nat) (fs : List Value) (k : Int) (hk : zR k) (hf : fs[8]? = some (.int (zI 0))) (sz : Nat) :
    vx_Met l yX8_out wsX8_out ({ frames := 6, cells := 1, slots := 6, locals := 100 }) (zPX [.ref x, .int (zI k)] sz D [wO x 8 fs] K) (va_Qi (S := Unit) (fun _ _ => False) (fun _ _ => True) (fun _ => False)) (vx_X (S := Unit) (fun _ => True) (fun E _ _ => E = nsE) (fun _ => False)) 1 6 (fun _ => False) := by
  refine vx_ofW (cc := cX8_out) (maxL := 2) (ret := some .int) (by decide) rfl ?_
  intro p e s m args below meth c s₁ B hml htab hv
  obtain ⟨rfl, ⟨hsz, hP, hK, hD0⟩, hX⟩ := hv
  have hinX8 : ∀ w ∈ u_ws RX8 TX8 12, w ∈ wsX8_out := by decide +kernel
  have hts : ∀ w ∈ wsX8_out, w.before ([Value.ref x, .int (zI k)] : List Value).toArray s = true := atoms_spec (ws := wsX8_out) B.pre
  have hown : s.vm.findClass RX8 = some m.cls := findClass_of_methodNamed B.named
  have hat : ∀ w ∈ vx_at0 RX8 334 nsE ["java/lang/RuntimeException", "java/lang/Exception"], w.before ([Value.ref x, .int (zI k)] : List Value).toArray s = true := vx_hat (fun w hw => hts w (List.mem_cons_of_mem _ (List.mem_append_right _ hw))) zXl_in (fun w hw => va_Nw.use (zXl_t w hw) (hX.1 w hw))
  have hgood : ∀ w ∈ Cond.classLink RX8 332 nsE :: Cond.initialized nsE :: vx_at0 RX8 334 nsE ["java/lang/RuntimeException", "java/lang/Exception"], vx_ot w = true := by decide +kernel
  rw [lg_entry_eq]
  have key : ∀ ls : Array Slot, lv_has ls 2 [(0, .ref x), (1, .int (zI k))] → W p l e (headSpec wsX8_out ({ frames := 6, cells := 1, slots := 6, locals := 100 })).room s m ([Value.ref x, .int (zI k)] : List Value).toArray below meth c s.heap [] 0 0 (vx_MQ below (va_Qi (S := Unit) (fun _ _ => False) (fun _ _ => True) (fun _ => False)) (vx_X (S := Unit) (fun _ => True) (fun E _ _ => E = nsE) (fun _ => False)) ([Value.ref x, .int (zI k)] : List Value).toArray s 1 6 (fun _ => False)) (F0 m 0 ls []) := by
    intro ls hl
    have thr : W p l e (headSpec wsX8_out ({ frames := 6, cells := 1, slots := 6, locals := 100 })).room s m ([Value.ref x, .int (zI k)] : List Value).toArray below meth c s.heap [] 0 0 (vx_MQ below (va_Qi (S := Unit) (fun _ _ => False) (fun _ _ => True) (fun _ => False)) (vx_X (S := Unit) (fun _ => True) (fun E _ _ => E = nsE) (fun _ => False)) ([Value.ref x, .int (zI k)] : List Value).toArray s 1 6 (fun _ => False)) (F0 m 18 ls []) :=
      vx_throw0 (cc := cX8_out) (pc := 18) B.exec B.bytes hlt (own := RX8) (cls := nsE) (names := ["java/lang/RuntimeException", "java/lang/Exception"]) (ik := 332) (ic := 334) (A := fun _ => False) hown (by decide) (by decide) (hts _ (List.mem_of_getElem? (i := 1) rfl)) (hts _ (List.mem_of_getElem? (i := 2) rfl)) hat hgood hX.2.1 hX.2.2 va_S.rf (hl.1.trans hml.symm) dX8_out_18 dX8_out_21 dX8_out_22 dX8_out_25 (fun z hz => (htab z hz).elim) (Nat.le_of_ble_eq_true rfl) (Nat.le_of_ble_eq_true rfl) (Nat.le_of_ble_eq_true rfl) (Nat.le_of_ble_eq_true rfl) B.notSynchronized (fun t _ h1 h2 => ⟨(), trivial, rfl, h1, fun q h3 _ => h2 q h3⟩) (fun z hz => nomatch hz) (Nat.le_of_ble_eq_true rfl) (Nat.le_of_ble_eq_true rfl)
    refine lv_iload_n B.exec B.bytes dX8_out_0 rfl (lv_at hl 1 rfl) ?_
    refine lv_if_lt (tgt := 18) B.exec B.bytes dX8_out_1 (by decide) (fun _ => thr) (fun q => ?_)
    refine lv_iload_n B.exec B.bytes dX8_out_4 rfl (lv_at hl 1 rfl) ?_
    refine lv_aload_n B.exec B.bytes dX8_out_5 rfl (lv_at hl 0 rfl) ?_
    refine va_get (D := D) (cl := vwCl) (tys := zT K) (T := TX8) (N := 12) (ci := 8) B.exec B.bytes hts hinX8 hown hK hP 0 rfl rfl 8 (by decide) (hts _ (List.mem_of_getElem? (i := 3) rfl)) (fun x h => h) hf dX8_out_6 ?_
    refine lv_icmp_ge (tgt := 18) B.exec B.bytes dX8_out_9 (by decide) (fun _ => thr) (fun q2 => ?_)
    exfalso
    have h0 : zR (0 : Int) := by omega
    rw [zI_le ⟨h0, hk⟩] at q2
    have h1 : ¬ (zI k < zI 0) := q
    rw [zI_lt ⟨hk, h0⟩] at h1
    omega
  exact key _ (lv_entry [.ref x, .int (zI k)] (n := 2) (Nat.le_of_ble_eq_true rfl))
set_option maxHeartbeats 4000000 in
set_option maxRecDepth 100000 in
theorem c_L_out (l : Launch) (hlt : l.stackTraces = false) (D : va_G) (K : ClassId × ClassId × ClassId × ClassId) (x o : Nat) (fs : List Value) (k : Int) (g : Int → Int) (hk : zR k) (hf : fs[8]? = some (.int (zI 0))) :
    zMetX l D K yL_out wsL_out ({ frames := 7, cells := 1, slots := 6, locals := 150 }) 1 6 [.ref x, .int (zI k), .ref o] [wO x 8 fs, wJ o K.2.2.1 1 g] (fun vr_ wr_ => vr_ = some (.int (zI (1))) ∧ wr_ = [wO x 8 fs, wJ o K.2.2.1 1 g] ∧ (True)) := by
  intro sz
  refine vx_ofWH (cc := cL_out) (maxL := 4) (ret := some .int) (hh := [(0, 9, 12, 13)]) (by decide) rfl ?_
  intro p e s m args below meth c s₁ B hml hv
  obtain ⟨rfl, ⟨hsz, hP, hK, hD0⟩, hX⟩ := hv
  subst hsz
  have hts : ∀ w ∈ wsL_out, w.before ([Value.ref x, .int (zI k), .ref o] : List Value).toArray s = true := atoms_spec (ws := wsL_out) B.pre
  have hown : s.vm.findClass RL = some m.cls := findClass_of_methodNamed B.named
  have htb : c.exceptionTable.toList = tableOf [(0, 9, 12, 13)] := vx_table (x := yL_out) B (hts _ List.mem_cons_self)
  rw [lg_entry_eq]
  have key : ∀ ls : Array Slot, lv_has ls 4 [(0, .ref x), (1, .int (zI k)), (2, .ref o)] → W p l e (headSpec wsL_out ({ frames := 7, cells := 1, slots := 6, locals := 150 })).room s m ([Value.ref x, .int (zI k), .ref o] : List Value).toArray below meth c s.heap [] 0 0 (vx_MQ below (zQ (fun vr_ wr_ => vr_ = some (.int (zI (1))) ∧ wr_ = [wO x 8 fs, wJ o K.2.2.1 1 g] ∧ (True)) D [wO x 8 fs, wJ o K.2.2.1 1 g] s.heap.size) (fun _ _ _ => False) ([Value.ref x, .int (zI k), .ref o] : List Value).toArray s 1 6 (va_A [wO x 8 fs, wJ o K.2.2.1 1 g] s.heap.size)) (F0 m 0 ls []) := by
    intro ls hl
    refine lv_aload_n B.exec B.bytes dL_out_0 rfl (lv_at hl 2 rfl) ?_
    refine lv_iconst (v := zI 0) B.exec B.bytes dL_out_1 rfl ?_
    refine lv_aload_n B.exec B.bytes dL_out_2 rfl (lv_at hl 0 rfl) ?_
    refine lv_iload_n B.exec B.bytes dL_out_3 rfl (lv_at hl 1 rfl) ?_
    have hP1 : va_P D vwCl [wO x 8 fs] s.heap := hP.sub [0] rfl
    have hD1 : va_D (fun _ => True) [wO x 8 fs] := hD0.sub [0] rfl rfl
    refine vx_calli (A1 := fun _ => False) (AX := fun _ => False) (A0 := va_A [wO x 8 fs, wJ o K.2.2.1 1 g] s.heap.size) (H0 := s.heap) (mc := 1) (ms := 6) (free := fun _ => False) (rest := [.int (zI 0), .ref o])
      (vx_runV (y := yX8_out) (own := RL) (C := RX8) (index := 7) (bytes := cX8_out) (maxL := 2) (ret := some .int) (nL := 4) (Ts := wsL_out) (cc := cL_out) (n := 1) (As := [.int (zI k)]) (rest := [.int (zI 0), .ref o]) ⟨B.exec, B.bytes, hml, hown, hts⟩ (c_X8_out l hlt D K x fs k hk hf s.heap.size) (cwV 1 hts gL_out_X8_out rfl rfl rfl ⟨rfl, by decide, by decide, by decide +kernel⟩ ⟨Nat.le_of_ble_eq_true rfl, Nat.le_of_ble_eq_true rfl⟩)
        ⟨zPX_blind, va_recv (q := (RX8, TX8, 12)) (q0 := 0) (ci := 8) hK hP1 rfl rfl, fun U hU hW => ⟨rfl, ⟨by rw [hU], by rw [hU]; exact hP1, va_K.moved hW.alike hK, hD1⟩, by rw [hU]; exact zXs_m hW hX⟩⟩ rfl rfl hl.1 rfl (lv_room (Nat.le_of_ble_eq_true rfl)) dL_out_4 ⟨Nat.le_of_ble_eq_true rfl, Nat.le_of_ble_eq_true rfl⟩)
      va_S.rf (fun _ _ h => h.elim) (fun _ h => h.elim) (fun _ _ h => h.elim) ?_ (fun _ _ _ _ _ _ _ hp => hp.elim)
    intro E ce q9 u t H1 locs1 ht hal hu hE hz hkeep hS1 hce hcv hcl
    have hE2 : E = nsE := hE
    subst hE2
    refine vx_catch (own := RL) (name := nsE) hown [] ⟨0, 9, 12, 13⟩ [] htb (fun z hz => nomatch hz) rfl (by decide) (hts _ (List.mem_of_getElem? (i := 1) rfl)) (va_Nw.use rfl (hX.1 (.castable nsE nsE) (List.mem_of_getElem? (i := 3) rfl))) hce hcv hcl ?_
    refine lv_astore_n (lv' := [(3, .ref q9), (0, .ref x), (1, .int (zI k)), (2, .ref o)]) B.exec B.bytes dL_out_12 rfl hl (by decide) rfl (fun ls2 hl2 => ?_)
    refine lv_iconst (v := zI 1) B.exec B.bytes dL_out_13 rfl ?_
    refine vx_ret (W.widen (k := 1) (n := 6) (Nat.le_of_ble_eq_true rfl) (Nat.le_of_ble_eq_true rfl) ?_)
    have hP2 : va_P D vwCl [wO x 8 fs, wJ o K.2.2.1 1 g] H1 := hP.kept (fun k q hk => hkeep q.1 (vx_lt hP hk) (fun z => z))
    exact W.iret B.exec B.bytes B.returns (fun t2 ht2 hW => ⟨⟨_, [wO x 8 fs, wJ o K.2.2.1 1 g], rfl, ⟨rfl, rfl, trivial⟩, by rw [ht2]; exact hP2, hD0.self⟩, hS1.F ht2⟩) hS1.2.2 dL_out_14
  exact key _ (lv_entry [.ref x, .int (zI k), .ref o] (n := 4) (Nat.le_of_ble_eq_true rfl))
end ZX
