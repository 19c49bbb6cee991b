/-! THE CLAIM OUT OF ONE WALK OF THE LAW'S BODY. Your part is whole_start (and what it stands on); all else here is the same for every law, but numbers. -/
def R_law : String := "WalkBenchLaw"
def lw_P (b : Addr) (xs : List Int32) (args : Array Value) (s : State) : Prop := args = #[.ref b] ∧ s.IntsAt b xs ∧ xs.length ≤ 6 ∧ (Jvm.Cond.and given_1 narrow_1).before args s = true
def lw_Q (_ : Array Value) (s : State) (o : Outcome) (t : State) : Prop := o = .returned (some (.int 1)) ∧ Framed s o t [] 600002 7302232
def lw_Z (below : List Frame) (a : Array Value) (s : State) : State → Prop := fun t => ∃ o, t.status = .running ∧ Ended t below o ∧ lw_Q a s o t
/-- the law's own end, with 1 on the stack, nothing written that was there before, its room as the claim has it -/
theorem lw_ret {p : Program} {l : Launch} {e : Env} {s : State} {m : MethodId} {below : List Frame} {meth : Method} {c : Code} {b : Nat} (hx : p.tables.exec = Jvm.exec) (hb : c.code = code) (hr : meth.sig.returnType = ret) (hlocks : meth.locks = false) {pc : Nat} {H : Heap} {ls : Array Slot} (hdg : decode code pc = .ok (.ireturn, 1)) : W p l e room_1 s m #[Value.ref b] below meth c H [] 600002 7302232 (lw_Z below #[Value.ref b] s) (F0 m pc ls [.int 1]) := by
  intro T hT X
  obtain ⟨fs, hret, hrun, hended, hW, hframe⟩ := X.leave (v := some (.int 1)) (hlocks := hlocks) (fun h => by rw [hr] at h; cases h)
  have hmeth' : T.vm.method? m = some meth := X.method'
  refine ⟨T.setFrames fs, ?_, .returned (some (.int 1)), hrun, hended, rfl, ⟨_, rfl⟩, hW, hframe⟩
  jvm_step X.here [X.here.top, hx, hb, hdg, hmeth', hr, ret, narrow_b1]
  (try refine ⟨rfl, ?_⟩); (try refine ⟨rfl, ?_⟩)
  first | (intro acts; rw [hret _ acts rfl rfl rfl]) | rw [hret _ _ rfl rfl rfl]
  exact Steps.refl _
/-- what holds at the law's entry: the machine, the code, the tables' words (any of lw_tbl by 'hts w (by decide +kernel)'), the script of L ints xs at the cell b, what the Statement gives of the start (any of its parts by flat_of_before) -/
def lw_At (p : Program) (s : State) (m : MethodId) (meth : Method) (c : Code) (b L : Nat) (xs : Nat → Int32) : Prop :=
  p.tables.exec = Jvm.exec ∧ c.code = code ∧ meth.sig.returnType = ret ∧ c.maxLocals = 7 ∧ s.vm.findClass R_law = some m.cls ∧ (∀ w ∈ lw_tbl, w.before #[Value.ref b] s = true) ∧ va_X b L xs s s.heap ∧ b < s.heap.size ∧ meth.locks = false ∧ (Jvm.Cond.and given_1 narrow_1).before #[Value.ref b] s = true
def yLw (nm : String) : MethodName := ⟨RL, nm, "([I)Z"⟩
theorem z_wst {C : zC} {k n : Nat} {ws : va_W} {lv : List (Nat × Value)} {pc : Nat} {st : List Value} {k2 n2 : Nat} (h1 : k = k2) (h2 : n = n2) (kk : ZW C k2 n2 ws lv pc st) : ZW C k n ws lv pc st := by subst h1; subst h2; exact kk
/-- what the law's context gives beside the rows: the script's ints, its length, the end -/
def lwS (C : zC) (b : Nat) (v : Nat → Int) (L : Nat) : Prop :=
  (∀ (k n : Nat) (ws : va_W) (lv : List (Nat × Value)) (pc : Nat) (st : List Value) {j : Nat}, decode cL_law pc = .ok (.iaload, 1) → j < L → ZW C k n ws lv (pc + 1) (.int (zI (v j)) :: st) → ZW C k n ws lv pc (.int (zI (j : Int)) :: .ref b :: st)) ∧
  (∀ (k n : Nat) (ws : va_W) (lv : List (Nat × Value)) (pc : Nat) (st : List Value), decode cL_law pc = .ok (.arraylength, 1) → ZW C k n ws lv (pc + 1) (.int (zI (L : Int)) :: st) → ZW C k n ws lv pc (.ref b :: st)) ∧
  (∀ (k n : Nat) (ws : va_W) (lv : List (Nat × Value)), k ≤ 600002 → n ≤ 7302232 → ZW C k n ws lv 1665 [.int (zI 1)])
theorem law_exit {nm : String} {C : zC} {b L : Nat} {v : Nat → Int} {k n : Nat} {ws : va_W} {lv : List (Nat × Value)} {i : Int} (hC : zOK C cL_law (yLw nm) wsL_law room_1 7) (hS : lwS C b v L) (i4 i0 : Nat) (h4 : lv[i4]? = some (4, .int (zI i))) (h0 : lv[i0]? = some (0, .ref b)) (hi : (L : Int) - 6 < i) (hr : 0 ≤ i ∧ i < 100 ∧ L < 100) (hk : k ≤ 600002) (hn : n ≤ 7302232) : ZW C k n ws lv 23 [] := by
  refine z_iload hC i4 dL_law_23 h4 ?_
  refine z_aload_n hC i0 dL_law_25 h0 rfl ?_
  refine hS.2.1 _ _ _ _ _ _ dL_law_26 ?_
  refine z_bipush hC dL_law_27 (by decide) ?_
  refine z_isub hC ((L : Int) - 6) dL_law_29 rfl ?_
  refine z_icgt hC 1664 dL_law_30 (by decide) (by omega) (fun c => ?_) (fun c => by exfalso; omega)
  refine z_iconst hC dL_law_1664 ?_
  exact hS.2.2 _ _ _ _ hk hn
section ZEQ
variable {C : zC} {cc : ByteArray} {y : MethodName} {Ts : List Cond} {rm : Room} {nL : Nat} {k n : Nat} {ws : va_W} {lv : List (Nat × Value)} {pc : Nat} {st : List Value}
theorem z_lcE (hC : zOK C cc y Ts rm nL) {a b off : Int} (tgt : Nat) (hd1 : decode cc pc = .ok (.lcmp, 1)) (hd : decode cc (pc + 1) = .ok (.ifCond .eq off, 3)) (ht : ((pc + 1 : Nat) : Int) + off = (tgt : Int)) (h : a = b) (kt : ZW C k n ws lv tgt st) : ZW C k n ws lv pc (.long (zL b) :: .long (zL a) :: st) := by
  subst h
  obtain ⟨z, hz, e⟩ := zL_of (zL a)
  rw [e]
  exact z_lceq hC tgt hd1 hd ht ⟨hz, hz⟩ (fun _ => kt) (fun q => absurd rfl q)
theorem z_icE (hC : zOK C cc y Ts rm nL) {a b off : Int} (tgt : Nat) (hd : decode cc pc = .ok (.if_icmp .eq off, 3)) (ht : (pc : Int) + off = (tgt : Int)) (h : a = b) (kt : ZW C k n ws lv tgt st) : ZW C k n ws lv pc (.int (zI b) :: .int (zI a) :: st) := by
  subst h
  obtain ⟨z, hz, e⟩ := zI_of (zI a)
  rw [e]
  exact z_iceq hC tgt hd ht ⟨hz, hz⟩ (fun _ => kt) (fun q => absurd rfl q)
end ZEQ
theorem zXl_law : ∀ w ∈ zXl, w ∈ lw_tbl := by decide +kernel
theorem cnt_linkW (n : Int) : cntC oP slp 4 iB n.toNat 2244 = cntR nx0 4 (iR 0) n.toNat 1860 := by
  have h := cnt_same (iC := iB) (iR := iR 0) (fun x y a b c d => by unfold iB iR; (repeat' split) <;> omega) n.toNat 0 0 (by decide) (by decide) (by decide) (by decide)
  exact h
theorem cnt_linkA (n : Int) : cntC oP slp 4 iA n.toNat 2244 = cntR nx0 4 (iR 1) n.toNat 1860 := by
  have h := cnt_same (iC := iA) (iR := iR 1) (fun x y a b c d => by unfold iA iR; rw [if_pos (Or.inl rfl)]) n.toNat 0 0 (by decide) (by decide) (by decide) (by decide)
  exact h
