/-! exceptions of the class -/
def zXs : List (Nat × String) := [(84, "state, power, cost or latency is out of range"), (96, "power is out of range"), (102, "driver or state is out of range"), (114, "there is no clock parent"), (117, "divider or deepest is out of range"), (125, "there are 8 clocks"), (132, "there is no such clock"), (137, "the clock is used 9 times"), (143, "the clock is not used"), (160, "state is out of range"), (165, "due, slack or work is out of range"), (168, "there are 12 timers"), (171, "tick or work is out of range"), (173, "12 events are to come"), (175, "rule is out of range"), (184, "ticks is out of range"), (209, "hour or energy is out of range"), (223, "until is out of range")]
abbrev xA : String := "java/lang/IllegalArgumentException"
abbrev xI : String := "java/lang/IndexOutOfBoundsException"
abbrev xS : String := "java/lang/IllegalStateException"
abbrev xN : List String := ["java/lang/RuntimeException", "java/lang/Exception"]
def zXc : List String := [xA, xI, xS]
def zXd : List MethodName := [Bundle.initS "java/lang/RuntimeException", Bundle.initS "java/lang/Exception", Bundle.initS Bundle.tN]
abbrev zXb (X : String) : List Cond := [.castable X X, .declares (Bundle.initS "java/lang/RuntimeException"), .declares (Bundle.initS "java/lang/Exception"), .declares (Bundle.initS Bundle.tN)]
def zX (A : Nat → Prop) (U : State) : Prop := ((∀ X ∈ zXc, va_Nw (.castable X X) U) ∧ ∀ x ∈ zXd, va_Nw (.declares x) U) ∧ (∀ q ∈ zXs, ∃ sa : Nat, vk_R RX7 q.1 q.2 sa U) ∧ vx_Zq Bundle.tN "UNASSIGNED_STACK" Bundle.steD A U U.heap ∧ vx_Zq Bundle.tN "SUPPRESSED_SENTINEL" Bundle.listD A U U.heap
theorem zX.call {A0 A1 : Nat → Prop} {s U : State} {H : Heap} {locs : List Loc} (h : zX A0 s) (hS : va_S A0 s.heap H locs) (hU : U.heap = H) (hW : s.WarmedH U.vm) (hA : ∀ q, A1 q → A0 q) : zX A1 U :=
  ⟨⟨fun X hX => va_Nw.warmC hW (h.1.1 X hX), fun x hx => va_Nw.warmD hW (h.1.2 x hx)⟩, fun q hq => by obtain ⟨sa, h1⟩ := h.2.1 q hq; exact ⟨sa, vk_R.warm hW h1⟩,
    by rw [hU]; exact ((h.2.2.1.kept hS.2.1).moved hW.alike).narrow hA, by rw [hU]; exact ((h.2.2.2.kept hS.2.1).moved hW.alike).narrow hA⟩
theorem zX.same {A : Nat → Prop} {u U : State} (hv : U.vm = u.vm) (hh : U.heap = u.heap) (h : zX A u) : zX A U :=
  ⟨⟨fun X hX => va_Nw.same rfl hv.symm (h.1.1 X hX), fun x hx => va_Nw.same rfl hv.symm (h.1.2 x hx)⟩, fun q hq => by obtain ⟨sa, h1⟩ := h.2.1 q hq; exact ⟨sa, vk_R.same hv h1⟩,
    by rw [hh]; exact h.2.2.1.moved (by rw [hv]; exact Vm.Alike.refl _), by rw [hh]; exact h.2.2.2.moved (by rw [hv]; exact Vm.Alike.refl _)⟩
/-- what holds where a call has thrown -/
abbrev zXC (D : va_G) (A : Nat → Prop) (W0 : va_W) (PX : String → Prop) : String → State → State → Prop := vx_X (fun _ : Unit => True) (fun E _ t => PX E ∧ va_P D vwCl W0 t.heap ∧ va_D A W0) A
abbrev zPX (D : va_G) (tys : List (ClassId × FieldType)) (W0 : va_W) (sz : Nat) (av : List Value) : Array Value → State → Prop := fun a U => zP D tys W0 sz av a U ∧ zX (va_A W0 sz) U
def zXi (l : Launch) (y : MethodName) (ws : List Cond) (rm : Room) (D : va_G) (tys : List (ClassId × FieldType)) (W0 : va_W) (av : List Value) {S : Type} (post : Int → S → Prop) (W1 : S → va_W) (PX : String → Prop) : Prop :=
  l.stackTraces = false → ∀ sz : Nat, vx_Met l y ws rm (zPX D tys W0 sz av) (va_Qi (fun r u => ∃ v : Int, r = iI v ∧ post v u) (zB D (va_A W0 sz) W1) (va_A W0 sz)) (zXC D (va_A W0 sz) W0 PX) 1 6 (va_A W0 sz)
def zXl (l : Launch) (y : MethodName) (ws : List Cond) (rm : Room) (D : va_G) (tys : List (ClassId × FieldType)) (W0 : va_W) (av : List Value) {S : Type} (post : Int → S → Prop) (W1 : S → va_W) (PX : String → Prop) : Prop :=
  l.stackTraces = false → ∀ sz : Nat, vx_Met l y ws rm (zPX D tys W0 sz av) (va_Ql (fun r u => ∃ v : Int, r = lI v ∧ post v u) (zB D (va_A W0 sz) W1) (va_A W0 sz)) (zXC D (va_A W0 sz) W0 PX) 1 6 (va_A W0 sz)
def zXv (l : Launch) (y : MethodName) (ws : List Cond) (rm : Room) (D : va_G) (tys : List (ClassId × FieldType)) (W0 : va_W) (av : List Value) {S : Type} (post : S → Prop) (W1 : S → va_W) (PX : String → Prop) : Prop :=
  l.stackTraces = false → ∀ sz : Nat, vx_Met l y ws rm (zPX D tys W0 sz av) (va_Qv post (zB D (va_A W0 sz) W1) (va_A W0 sz)) (zXC D (va_A W0 sz) W0 PX) 1 6 (va_A W0 sz)
/-- a method that catches: it returns an int -/
def zMxi (l : Launch) (y : MethodName) (ws : List Cond) (rm : Room) (D : va_G) (tys : List (ClassId × FieldType)) (W0 : va_W) (av : List Value) {S : Type} (post : Int → S → Prop) (W1 : S → va_W) : Prop :=
  l.stackTraces = false → ∀ sz : Nat, Met l y ws rm (zPX D tys W0 sz av) (va_Qi (fun r u => ∃ v : Int, r = iI v ∧ post v u) (zB D (va_A W0 sz) W1) (va_A W0 sz)) 1 6 (va_A W0 sz)
theorem zPX.blind {D : va_G} {tys : List (ClassId × FieldType)} {W0 : va_W} {sz : Nat} {av : List Value} : FrameBlind (zPX D tys W0 sz av) := fun a U g mk q => ⟨zP.blind a U g mk q.1, zX.same (u := U) (U := U.calling g mk a) rfl rfl q.2⟩
section ZXENT
variable {l : Launch} {y : MethodName} {ws ws' : List Cond} {rm : Room} {D : va_G} {tys : List (ClassId × FieldType)} {W0 : va_W} {av : List Value} {S : Type} {W1 : S → va_W} {cc : ByteArray} {maxL : Nat} {ret : Option FieldType} {PX : String → Prop}
theorem zentx_i {post : Int → S → Prop} (hy : plainName y.cls = true) (hw : ws = Cond.code y cc maxL ret :: ws') (hl : (lg_sl av).length ≤ maxL)
    (body : ∀ (p : Program) (e : Env) (s : State) (m : MethodId) (below : List Frame) (meth : Method) (c : Code) (A : Nat → Prop) (ls : Array Slot), l.stackTraces = false → (∀ x ∈ c.exceptionTable.toList, False) → zX A s → zEnt p s m meth c cc maxL ret y.cls y.name ws av → va_P D vwCl W0 s.heap → zK D tys s → (∀ q : Nat, s.heap.size ≤ q → A q) → va_D A W0 → va_S A s.heap s.heap [] → lv_has ls maxL (lv_args 0 av) →
      W p l e rm s m av.toArray below meth c s.heap [] 0 0 (vx_MQ below (va_Qi (fun r u => ∃ v : Int, r = iI v ∧ post v u) (zB D A W1) A) (zXC D A W0 PX) av.toArray s 1 6 A) (F0 m 0 ls [])) : zXi l y ws rm D tys W0 av post W1 PX := by
  intro htr sz
  refine vx_ofW (cc := cc) (maxL := maxL) (ret := ret) hy hw ?_
  intro p e s m args below meth c s₁ B hml ht hv
  obtain ⟨⟨rfl, hsz, hP, hK, hD0⟩, hX⟩ := hv
  subst hsz
  have h := lv_entry av (n := maxL) hl
  rw [lg_entry_eq]
  exact body p e s m below meth c (va_A W0 s.heap.size) _ htr ht hX ⟨B.exec, B.bytes, B.returns, hml, findClass_of_methodNamed B.named, atoms_spec (ws := ws) B.pre, B.notSynchronized, (name_of_methodNamed B.named B.method).1⟩ hP hK (fun q h => Or.inr h) hD0.self va_S.rf h
theorem zentx_l {post : Int → S → Prop} (hy : plainName y.cls = true) (hw : ws = Cond.code y cc maxL ret :: ws') (hl : (lg_sl av).length ≤ maxL)
    (body : ∀ (p : Program) (e : Env) (s : State) (m : MethodId) (below : List Frame) (meth : Method) (c : Code) (A : Nat → Prop) (ls : Array Slot), l.stackTraces = false → (∀ x ∈ c.exceptionTable.toList, False) → zX A s → zEnt p s m meth c cc maxL ret y.cls y.name ws av → va_P D vwCl W0 s.heap → zK D tys s → (∀ q : Nat, s.heap.size ≤ q → A q) → va_D A W0 → va_S A s.heap s.heap [] → lv_has ls maxL (lv_args 0 av) →
      W p l e rm s m av.toArray below meth c s.heap [] 0 0 (vx_MQ below (va_Ql (fun r u => ∃ v : Int, r = lI v ∧ post v u) (zB D A W1) A) (zXC D A W0 PX) av.toArray s 1 6 A) (F0 m 0 ls [])) : zXl l y ws rm D tys W0 av post W1 PX := by
  intro htr sz
  refine vx_ofW (cc := cc) (maxL := maxL) (ret := ret) hy hw ?_
  intro p e s m args below meth c s₁ B hml ht hv
  obtain ⟨⟨rfl, hsz, hP, hK, hD0⟩, hX⟩ := hv
  subst hsz
  have h := lv_entry av (n := maxL) hl
  rw [lg_entry_eq]
  exact body p e s m below meth c (va_A W0 s.heap.size) _ htr ht hX ⟨B.exec, B.bytes, B.returns, hml, findClass_of_methodNamed B.named, atoms_spec (ws := ws) B.pre, B.notSynchronized, (name_of_methodNamed B.named B.method).1⟩ hP hK (fun q h => Or.inr h) hD0.self va_S.rf h
theorem zentx_v {post : S → Prop} (hy : plainName y.cls = true) (hw : ws = Cond.code y cc maxL ret :: ws') (hl : (lg_sl av).length ≤ maxL)
    (body : ∀ (p : Program) (e : Env) (s : State) (m : MethodId) (below : List Frame) (meth : Method) (c : Code) (A : Nat → Prop) (ls : Array Slot), l.stackTraces = false → (∀ x ∈ c.exceptionTable.toList, False) → zX A s → zEnt p s m meth c cc maxL ret y.cls y.name ws av → va_P D vwCl W0 s.heap → zK D tys s → (∀ q : Nat, s.heap.size ≤ q → A q) → va_D A W0 → va_S A s.heap s.heap [] → lv_has ls maxL (lv_args 0 av) →
      W p l e rm s m av.toArray below meth c s.heap [] 0 0 (vx_MQ below (va_Qv post (zB D A W1) A) (zXC D A W0 PX) av.toArray s 1 6 A) (F0 m 0 ls [])) : zXv l y ws rm D tys W0 av post W1 PX := by
  intro htr sz
  refine vx_ofW (cc := cc) (maxL := maxL) (ret := ret) hy hw ?_
  intro p e s m args below meth c s₁ B hml ht hv
  obtain ⟨⟨rfl, hsz, hP, hK, hD0⟩, hX⟩ := hv
  subst hsz
  have h := lv_entry av (n := maxL) hl
  rw [lg_entry_eq]
  exact body p e s m below meth c (va_A W0 s.heap.size) _ htr ht hX ⟨B.exec, B.bytes, B.returns, hml, findClass_of_methodNamed B.named, atoms_spec (ws := ws) B.pre, B.notSynchronized, (name_of_methodNamed B.named B.method).1⟩ hP hK (fun q h => Or.inr h) hD0.self va_S.rf h
theorem zentw_i {post : Int → S → Prop} {hh : List (Nat × Nat × Nat × Nat)} (hy : plainName y.cls = true) (hw : ws = Cond.codeWith y cc maxL ret hh :: ws') (hl : (lg_sl av).length ≤ maxL)
    (body : ∀ (p : Program) (e : Env) (s : State) (m : MethodId) (below : List Frame) (meth : Method) (c : Code) (A : Nat → Prop) (ls : Array Slot), l.stackTraces = false → c.exceptionTable.toList = tableOf hh → zX A s → zEnt p s m meth c cc maxL ret y.cls y.name ws av → va_P D vwCl W0 s.heap → zK D tys s → (∀ q : Nat, s.heap.size ≤ q → A q) → va_D A W0 → va_S A s.heap s.heap [] → lv_has ls maxL (lv_args 0 av) →
      W p l e rm s m av.toArray below meth c s.heap [] 0 0 (MQ below (va_Qi (fun r u => ∃ v : Int, r = iI v ∧ post v u) (zB D A W1) A) av.toArray s 1 6 A) (F0 m 0 ls [])) : zMxi l y ws rm D tys W0 av post W1 := by
  intro htr sz
  refine va_MetW (cc := cc) (maxL := maxL) (ret := ret) (hh := hh) hy hw ?_
  intro p e s m args below meth c s₁ B hml hv
  obtain ⟨⟨rfl, hsz, hP, hK, hD0⟩, hX⟩ := hv
  subst hsz
  have hts := atoms_spec (ws := ws) B.pre
  have htab := vx_table (x := y) B (hts _ (by rw [hw]; exact List.mem_cons_self))
  have h := lv_entry av (n := maxL) hl
  rw [lg_entry_eq]
  exact body p e s m below meth c (va_A W0 s.heap.size) _ htr htab hX ⟨B.exec, B.bytes, B.returns, hml, findClass_of_methodNamed B.named, hts, B.notSynchronized, (name_of_methodNamed B.named B.method).1⟩ hP hK (fun q h => Or.inr h) hD0.self va_S.rf h
end ZXENT
section ZXROWS
variable {p : Program} {l : Launch} {e : Env} {R : Room} {s : State} {m : MethodId} {args : Array Value} {below : List Frame} {meth : Method} {c : Code} {H : Heap} {locs : List Loc} {cells slots : Nat} {Q : State → Prop} {cc : ByteArray} {pc : Nat} {ls : Array Slot} {rest : List Value} {D : va_G} {tys : List (ClassId × FieldType)} {ws W0 : va_W} {A : Nat → Prop} {S : Type} {W1 : S → va_W} {PX : String → Prop} {Qc : Array Value → State → Outcome → State → Prop}
/-- new E(text) is thrown, with nothing changed -/
theorem zthrow {Ts : List Cond} {cls text : String} {ik is ic : Nat} (hx : p.tables.exec = Jvm.exec) (hb : c.code = cc) (htr : l.stackTraces = false) (hown : s.vm.findClass RX7 = some m.cls) (hX : zX A s) (hS : va_S A s.heap H locs) (hP : va_P D vwCl W0 H) (hD : va_D A W0) (hA : ∀ q : Nat, s.heap.size ≤ q → A q) (hml : ls.size = c.maxLocals) (htab : ∀ x ∈ c.exceptionTable.toList, False) (hlocks : meth.locks = false)
    (hts : ∀ w ∈ Ts, w.before args s = true) (hcls : Bundle.fit cls = true) (hcx : cls ∈ zXc) (h1 : Cond.classLink RX7 ik cls ∈ Ts) (h2 : Cond.initialized cls ∈ Ts) (h3 : ∀ w ∈ (vx_atS RX7 ic cls xN).filter goodWord, w ∈ Ts) (h4 : ∀ w ∈ (vx_atS RX7 ic cls xN).filter (fun w => !goodWord w), w ∈ zXb cls) (h5 : ∀ w ∈ Cond.classLink RX7 ik cls :: Cond.initialized cls :: vx_atS RX7 ic cls xN, vx_ot w = true) (h6 : (is, text) ∈ zXs)
    (d0 : decode cc pc = .ok (.new ik, 3)) (d3 : decode cc (pc + 3) = .ok (.dup, 1)) (d4 : decode cc (pc + 4) = .ok (.ldc is, 2)) (d6 : decode cc (pc + 6) = .ok (.invokespecial ic, 3)) (d9 : decode cc (pc + 9) = .ok (.athrow, 1)) (hR1 : 5 < R.frames) (hR2 : (rest.map fun v => v.category).sum + 82 ≤ R.locals) (hR3 : cells + 1 ≤ R.cells) (hR4 : slots + 6 ≤ R.slots) (hc : cells + 1 ≤ 1) (hs : slots + 6 ≤ 6) (hPX : PX cls) :
    W p l e R s m args below meth c H locs cells slots (vx_MQ below Qc (zXC D A W0 PX) args s 1 6 A) (F0 m pc ls rest) := by
  obtain ⟨sa, hstr⟩ := hX.2.1 _ h6
  refine vx_throwS (A := A) (cls := cls) (text := text) (names := xN) (ik := ik) (is := is) (ic := ic) (sa := sa) hx hb htr hown hcls (by decide +kernel) (hts _ h1) (hts _ h2) hstr
    (vx_hat (fun w hw => hts w (h3 w hw)) h4 (fun w hw => by
      simp only [zXb, List.mem_cons, List.not_mem_nil, or_false] at hw
      rcases hw with rfl | rfl | rfl | rfl
      · exact va_Nw.use rfl (hX.1.1 cls hcx)
      · exact va_Nw.use rfl (hX.1.2 _ (List.mem_of_getElem? (i := 0) rfl))
      · exact va_Nw.use rfl (hX.1.2 _ (List.mem_of_getElem? (i := 1) rfl))
      · exact va_Nw.use rfl (hX.1.2 _ (List.mem_of_getElem? (i := 2) rfl)))) h5 hX.2.2.1 hX.2.2.2 hS hml d0 d3 d4 d6 d9 (fun x hx => (htab x hx).elim) hR1 hR2 hR3 hR4 hlocks (fun t hvm hz hq => ?_) hS.2.2 hc hs
  refine ⟨(), trivial, ⟨hPX, hP.kept (fun k q hk => hq q.1 (hP k q hk).lt), hD⟩, ⟨Nat.le_trans hS.1 hz, fun q z1 z2 => ?_⟩⟩
  rw [hq q (Nat.lt_of_lt_of_le z1 hS.1)]
  exact hS.2.1 q z1 z2
theorem zxV {C : String} {b : Addr} {As : List Value} (hX : zX A s) (hS : va_S A s.heap H locs) (hA : ∀ q : Nat, s.heap.size ≤ q → A q) (hK : zK D tys s) (hP : va_P D vwCl ws H) (hD : va_D A ws) (isC : List Nat) (hC : isC.map (fun i => ws[i]?) = W0.map some) (hnd : va_nd isC = true) (q0 : Nat) {ci : Nat} {fs : List Value} {T : u_T} {N : Nat} (he : ws[q0]? = some (b, .inr (ci, fs))) (hc : vwCl[ci]? = some (C, T, N)) : PreV s H C b (zPX D tys W0 H.size (.ref b :: As)) As :=
  ⟨zPX.blind, va_recv hK.1 hP (q := (C, T, N)) hc he, fun U hU hW => ⟨⟨rfl, by rw [hU], by rw [hU]; exact hP.sub isC (z_fm hC), hK.warm hW, (hD.sub isC hnd hC).weaken (fun _ _ _ _ => trivial)⟩, hX.call hS hU hW (va_free hD hS hA isC hC)⟩⟩
theorem zxS {av : List Value} (hX : zX A s) (hS : va_S A s.heap H locs) (hA : ∀ q : Nat, s.heap.size ≤ q → A q) (hK : zK D tys s) (hP : va_P D vwCl ws H) (hD : va_D A ws) (isC : List Nat) (hC : isC.map (fun i => ws[i]?) = W0.map some) (hnd : va_nd isC = true) : PreS s H (zPX D tys W0 H.size av) av :=
  ⟨zPX.blind, fun U hU hW => ⟨⟨rfl, by rw [hU], by rw [hU]; exact hP.sub isC (z_fm hC), hK.warm hW, (hD.sub isC hnd hC).weaken (fun _ _ _ _ => trivial)⟩, hX.call hS hU hW (va_free hD hS hA isC hC)⟩⟩
/-- a call that returns or throws -/
theorem zxc_i {post : Int → S → Prop} {st0 : List Value} {aa : Array Value} {H0 : Heap} (hr : vx_Run p l e R s m args below meth c H locs cells slots 1 6 (F0 m pc ls st0) rest (va_Qi (fun r u => ∃ v : Int, r = iI v ∧ post v u) (zB D (va_A W0 H.size) W1) (va_A W0 H.size) aa) (zXC D (va_A W0 H.size) W0 PX) (va_A W0 H.size))
    (hP : va_P D vwCl ws H) (hD : va_D A ws) (hS : va_S A H0 H locs) (hA : ∀ q : Nat, H0.size ≤ q → A q) (isC isR : List Nat) (hC : isC.map (fun i => ws[i]?) = W0.map some) (hR : isR.map (fun i => ws[i]?) = (isR.filterMap (fun i => ws[i]?)).map some) (hn : va_nd isR = true) (hdis : ∀ i ∈ isR, i ∉ isC)
    (kx : ∀ (E : String) (ce : Cell) (q9 : Addr) (H1 : Heap) (locs1 : List Loc), PX E → va_P D vwCl (isR.filterMap (fun i => ws[i]?) ++ W0) H1 → va_D A (isR.filterMap (fun i => ws[i]?) ++ W0) → va_S A H0 H1 locs1 → H1[q9]? = some ce → ce.vm = .none → s.vm.findClass E = some ce.cls → vx_W p l e R s m args below meth c H1 locs1 (cells + 1) (slots + 6) Q (F0 m pc ls rest) q9)
    (kk : ∀ (v : Int) (u : S) (H1 : Heap) (locs1 : List Loc), post v u → va_P D vwCl (isR.filterMap (fun i => ws[i]?) ++ W1 u) H1 → va_D A (isR.filterMap (fun i => ws[i]?) ++ W1 u) → va_S A H0 H1 locs1 → W p l e R s m args below meth c H1 locs1 (cells + 1) (slots + 6) Q (F0 m (pc + 3) ls (.int (iI v) :: rest))) : W p l e R s m args below meth c H locs cells slots Q (F0 m pc ls st0) := by
  have hF := va_free (wc := W0) hD hS hA isC hC
  refine vx_calli hr hS (fun q _ h => hF q h) hF (fun q _ h => hF q h) (fun E ce q9 u t H1 locs1 ht hvm _ hB hz1 hk1 hS1 h1 h2 h3 => ?_) (fun r u t H1 locs1 ht hvm hw hB hz1 hk1 hS1 => ?_)
  · obtain ⟨hPX, hP1, hD1⟩ := hB
    rw [ht] at hP1
    obtain ⟨hP2, hD2⟩ := va_join hP hD isC isR hC hR hn hdis hk1 hF hP1 hD1
    exact kx E ce q9 H1 locs1 hPX hP2 hD2 hS1 h1 h2 h3
  · obtain ⟨v, rfl, hw⟩ := hw
    obtain ⟨hP1, hD1⟩ := hB
    rw [ht] at hP1
    obtain ⟨hP2, hD2⟩ := va_join hP hD isC isR hC hR hn hdis hk1 hF hP1 hD1
    exact kk v u H1 locs1 hw hP2 hD2 hS1
theorem zxc_l {post : Int → S → Prop} {st0 : List Value} {aa : Array Value} {H0 : Heap} (hr : vx_Run p l e R s m args below meth c H locs cells slots 1 6 (F0 m pc ls st0) rest (va_Ql (fun r u => ∃ v : Int, r = lI v ∧ post v u) (zB D (va_A W0 H.size) W1) (va_A W0 H.size) aa) (zXC D (va_A W0 H.size) W0 PX) (va_A W0 H.size))
    (hP : va_P D vwCl ws H) (hD : va_D A ws) (hS : va_S A H0 H locs) (hA : ∀ q : Nat, H0.size ≤ q → A q) (isC isR : List Nat) (hC : isC.map (fun i => ws[i]?) = W0.map some) (hR : isR.map (fun i => ws[i]?) = (isR.filterMap (fun i => ws[i]?)).map some) (hn : va_nd isR = true) (hdis : ∀ i ∈ isR, i ∉ isC)
    (kx : ∀ (E : String) (ce : Cell) (q9 : Addr) (H1 : Heap) (locs1 : List Loc), PX E → va_P D vwCl (isR.filterMap (fun i => ws[i]?) ++ W0) H1 → va_D A (isR.filterMap (fun i => ws[i]?) ++ W0) → va_S A H0 H1 locs1 → H1[q9]? = some ce → ce.vm = .none → s.vm.findClass E = some ce.cls → vx_W p l e R s m args below meth c H1 locs1 (cells + 1) (slots + 6) Q (F0 m pc ls rest) q9)
    (kk : ∀ (v : Int) (u : S) (H1 : Heap) (locs1 : List Loc), post v u → va_P D vwCl (isR.filterMap (fun i => ws[i]?) ++ W1 u) H1 → va_D A (isR.filterMap (fun i => ws[i]?) ++ W1 u) → va_S A H0 H1 locs1 → W p l e R s m args below meth c H1 locs1 (cells + 1) (slots + 6) Q (F0 m (pc + 3) ls (.long (lI v) :: rest))) : W p l e R s m args below meth c H locs cells slots Q (F0 m pc ls st0) := by
  have hF := va_free (wc := W0) hD hS hA isC hC
  refine vx_calll hr hS (fun q _ h => hF q h) hF (fun q _ h => hF q h) (fun E ce q9 u t H1 locs1 ht hvm _ hB hz1 hk1 hS1 h1 h2 h3 => ?_) (fun r u t H1 locs1 ht hvm hw hB hz1 hk1 hS1 => ?_)
  · obtain ⟨hPX, hP1, hD1⟩ := hB
    rw [ht] at hP1
    obtain ⟨hP2, hD2⟩ := va_join hP hD isC isR hC hR hn hdis hk1 hF hP1 hD1
    exact kx E ce q9 H1 locs1 hPX hP2 hD2 hS1 h1 h2 h3
  · obtain ⟨v, rfl, hw⟩ := hw
    obtain ⟨hP1, hD1⟩ := hB
    rw [ht] at hP1
    obtain ⟨hP2, hD2⟩ := va_join hP hD isC isR hC hR hn hdis hk1 hF hP1 hD1
    exact kk v u H1 locs1 hw hP2 hD2 hS1
theorem zxc_v {post : S → Prop} {st0 : List Value} {aa : Array Value} {H0 : Heap} (hr : vx_Run p l e R s m args below meth c H locs cells slots 1 6 (F0 m pc ls st0) rest (va_Qv post (zB D (va_A W0 H.size) W1) (va_A W0 H.size) aa) (zXC D (va_A W0 H.size) W0 PX) (va_A W0 H.size))
    (hP : va_P D vwCl ws H) (hD : va_D A ws) (hS : va_S A H0 H locs) (hA : ∀ q : Nat, H0.size ≤ q → A q) (isC isR : List Nat) (hC : isC.map (fun i => ws[i]?) = W0.map some) (hR : isR.map (fun i => ws[i]?) = (isR.filterMap (fun i => ws[i]?)).map some) (hn : va_nd isR = true) (hdis : ∀ i ∈ isR, i ∉ isC)
    (kx : ∀ (E : String) (ce : Cell) (q9 : Addr) (H1 : Heap) (locs1 : List Loc), PX E → va_P D vwCl (isR.filterMap (fun i => ws[i]?) ++ W0) H1 → va_D A (isR.filterMap (fun i => ws[i]?) ++ W0) → va_S A H0 H1 locs1 → H1[q9]? = some ce → ce.vm = .none → s.vm.findClass E = some ce.cls → vx_W p l e R s m args below meth c H1 locs1 (cells + 1) (slots + 6) Q (F0 m pc ls rest) q9)
    (kk : ∀ (u : S) (H1 : Heap) (locs1 : List Loc), post u → va_P D vwCl (isR.filterMap (fun i => ws[i]?) ++ W1 u) H1 → va_D A (isR.filterMap (fun i => ws[i]?) ++ W1 u) → va_S A H0 H1 locs1 → W p l e R s m args below meth c H1 locs1 (cells + 1) (slots + 6) Q (F0 m (pc + 3) ls rest)) : W p l e R s m args below meth c H locs cells slots Q (F0 m pc ls st0) := by
  have hF := va_free (wc := W0) hD hS hA isC hC
  refine vx_callv hr hS (fun q _ h => hF q h) hF (fun q _ h => hF q h) (fun E ce q9 u t H1 locs1 ht hvm _ hB hz1 hk1 hS1 h1 h2 h3 => ?_) (fun u t H1 locs1 ht hvm hw hB hz1 hk1 hS1 => ?_)
  · obtain ⟨hPX, hP1, hD1⟩ := hB
    rw [ht] at hP1
    obtain ⟨hP2, hD2⟩ := va_join hP hD isC isR hC hR hn hdis hk1 hF hP1 hD1
    exact kx E ce q9 H1 locs1 hPX hP2 hD2 hS1 h1 h2 h3
  · obtain ⟨hP1, hD1⟩ := hB
    rw [ht] at hP1
    obtain ⟨hP2, hD2⟩ := va_join hP hD isC isR hC hR hn hdis hk1 hF hP1 hD1
    exact kk u H1 locs1 hw hP2 hD2 hS1
end ZXROWS
theorem zx_n1 : ∀ w ∈ (vx_atS RX7 86 xA xN).filter (fun w => !goodWord w), w ∈ zXb xA := by decide +kernel
theorem zx_n2 : ∀ w ∈ (vx_atS RX7 116 xI xN).filter (fun w => !goodWord w), w ∈ zXb xI := by decide +kernel
theorem zx_n3 : ∀ w ∈ (vx_atS RX7 127 xS xN).filter (fun w => !goodWord w), w ∈ zXb xS := by decide +kernel
theorem zx_g1 : ∀ w ∈ Cond.classLink RX7 82 xA :: Cond.initialized xA :: vx_atS RX7 86 xA xN, vx_ot w = true := by decide +kernel
theorem zx_g2 : ∀ w ∈ Cond.classLink RX7 112 xI :: Cond.initialized xI :: vx_atS RX7 116 xI xN, vx_ot w = true := by decide +kernel
theorem zx_g3 : ∀ w ∈ Cond.classLink RX7 123 xS :: Cond.initialized xS :: vx_atS RX7 127 xS xN, vx_ot w = true := by decide +kernel
