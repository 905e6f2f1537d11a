/-! what the law of p34 needs beside: shifts, equal values, entries, the script -/
def shrZ (x y : Int) : Int := (iI x >>> (iI y &&& 31)).toInt
def ushZ (x y : Int) : Int := (((iI x).toUInt32 >>> ((iI y).toUInt32 &&& Int32.toUInt32 31)).toInt32).toInt
def xorZ (x y : Int) : Int := (iI x ^^^ iI y).toInt
theorem i32_r (x : Int32) : zR x.toInt := ⟨by have := x.le_toInt; omega, by have := x.toInt_lt; omega⟩
theorem iI_tI (x : Int32) : iI x.toInt = x := Int32.ofInt_toInt x
theorem shr_r (x y : Int) : zR (shrZ x y) := i32_r _
theorem xor_r (x y : Int) : zR (xorZ x y) := i32_r _
theorem ush_1 (x : Int) : 0 ≤ ushZ x 1 ∧ ushZ x 1 ≤ 2147483647 := by
  unfold ushZ
  rw [show ((iI 1).toUInt32 &&& Int32.toUInt32 31) = 1 from by decide]
  generalize (iI x).toUInt32 = u
  have h1 : (u >>> 1).toNat ≤ 2147483647 := by
    have h0 := u.toNat_lt
    have h2 : (u >>> 1).toNat = u.toNat / 2 := by
      rw [UInt32.toNat_shiftRight]
      rfl
    omega
  have h3 : (u >>> 1).toInt32.toInt = ((u >>> 1).toNat : Int) := BitVec.toInt_eq_toNat_of_lt (by show 2 * (u >>> 1).toNat < 4294967296; omega)
  omega
def smZ (x n : Int) : Int := ushZ x 1 % n
theorem sm_r (x : Int) {n : Int} (h : 0 < n) : 0 ≤ smZ x n ∧ smZ x n < n := ⟨Int.emod_nonneg _ (by omega), Int.emod_lt_of_pos _ h⟩
section PROWS
variable {p : Program} {l : Launch} {e : Env} {R : Room} {s : State} {m : MethodId} {args : Array Value} {below : List Frame} {meth : Method} {c : Code} {H : Heap} {locs : List Loc} {cells slots : Nat} {Q : State → Prop} {cc : ByteArray} {pc : Nat} {ls : Array Slot} {rest : List Value}
theorem zi_shr (hx : p.tables.exec = Jvm.exec) (hb : c.code = cc) {a b : Int} (d : decode cc pc = .ok (.ishr, 1)) (k : W p l e R s m args below meth c H locs cells slots Q (F0 m (pc + 1) ls (.int (iI (shrZ a b)) :: rest))) : W p l e R s m args below meth c H locs cells slots Q (F0 m pc ls (.int (iI b) :: .int (iI a) :: rest)) :=
  lv_ishr hx hb d (by unfold shrZ at k; rw [iI_tI] at k; exact k)
theorem zi_ushr (hx : p.tables.exec = Jvm.exec) (hb : c.code = cc) {a b : Int} (d : decode cc pc = .ok (.iushr, 1)) (k : W p l e R s m args below meth c H locs cells slots Q (F0 m (pc + 1) ls (.int (iI (ushZ a b)) :: rest))) : W p l e R s m args below meth c H locs cells slots Q (F0 m pc ls (.int (iI b) :: .int (iI a) :: rest)) :=
  lv_iushr hx hb d (iI_tI _).symm k
theorem zi_xor (hx : p.tables.exec = Jvm.exec) (hb : c.code = cc) {a b : Int} (d : decode cc pc = .ok (.ixor, 1)) (k : W p l e R s m args below meth c H locs cells slots Q (F0 m (pc + 1) ls (.int (iI (xorZ a b)) :: rest))) : W p l e R s m args below meth c H locs cells slots Q (F0 m pc ls (.int (iI b) :: .int (iI a) :: rest)) :=
  lv_ixor hx hb d (by unfold xorZ at k; rw [iI_tI] at k; exact k)
theorem zn_tI {x : Int} (k : W p l e R s m args below meth c H locs cells slots Q (F0 m pc ls (.int (iI (iI x).toInt) :: rest))) : W p l e R s m args below meth c H locs cells slots Q (F0 m pc ls (.int (iI x) :: rest)) := by rw [iI_tI] at k; exact k
theorem zi_l0 (hx : p.tables.exec = Jvm.exec) (hb : c.code = cc) {a : Int} (d : decode cc pc = .ok (.i2l, 1)) (k : W p l e R s m args below meth c H locs cells slots Q (F0 m (pc + 1) ls (.long (lI (iI a).toInt) :: rest))) : W p l e R s m args below meth c H locs cells slots Q (F0 m pc ls (.int (iI a) :: rest)) := lv_i2l hx hb d rfl k
theorem zi_same (hx : p.tables.exec = Jvm.exec) (hb : c.code = cc) {a b off : Int} {tgt : Nat} (h : a = b) (d : decode cc pc = .ok (.if_icmp .eq off, 3)) (ht : (pc : Int) + off = (tgt : Int)) (k : W p l e R s m args below meth c H locs cells slots Q (F0 m tgt ls rest)) : W p l e R s m args below meth c H locs cells slots Q (F0 m pc ls (.int (iI b) :: .int (iI a) :: rest)) :=
  lv_icmp_eq hx hb d ht (fun _ => k) (fun z => absurd (by rw [h]) z)
theorem zi_sameN (hx : p.tables.exec = Jvm.exec) (hb : c.code = cc) {a b off : Int} {tgt : Nat} (h : a = b) (d : decode cc pc = .ok (.if_icmp .ne off, 3)) (ht : (pc : Int) + off = (tgt : Int)) (k : W p l e R s m args below meth c H locs cells slots Q (F0 m (pc + 3) ls rest)) : W p l e R s m args below meth c H locs cells slots Q (F0 m pc ls (.int (iI b) :: .int (iI a) :: rest)) :=
  lv_icmp_ne hx hb d ht (fun z => absurd (by rw [h]) z) (fun _ => k)
theorem zl_ee (a : Int) : lg_cmp (lI a) (lI a) = iI 0 := by
  unfold lg_cmp
  simp
  rfl
theorem zl_same (hx : p.tables.exec = Jvm.exec) (hb : c.code = cc) {a b off : Int} {tgt : Nat} (h : a = b) (d : decode cc pc = .ok (.lcmp, 1)) (d2 : decode cc (pc + 1) = .ok (.ifCond .eq off, 3)) (ht : ((pc + 1 : Nat) : Int) + off = (tgt : Int)) (k : W p l e R s m args below meth c H locs cells slots Q (F0 m tgt ls rest)) : W p l e R s m args below meth c H locs cells slots Q (F0 m pc ls (.long (lI b) :: .long (lI a) :: rest)) := by
  subst h
  refine W.lcmp hx hb d ?_
  rw [zl_ee]
  exact zi_feq hx hb (by decide) d2 ht (fun _ => k) (fun z => absurd rfl z)
theorem zl_sameN (hx : p.tables.exec = Jvm.exec) (hb : c.code = cc) {a b off : Int} {tgt : Nat} (h : a = b) (d : decode cc pc = .ok (.lcmp, 1)) (d2 : decode cc (pc + 1) = .ok (.ifCond .ne off, 3)) (ht : ((pc + 1 : Nat) : Int) + off = (tgt : Int)) (k : W p l e R s m args below meth c H locs cells slots Q (F0 m (pc + 4) ls rest)) : W p l e R s m args below meth c H locs cells slots Q (F0 m pc ls (.long (lI b) :: .long (lI a) :: rest)) := by
  subst h
  refine W.lcmp hx hb d ?_
  rw [zl_ee]
  exact zi_fne hx hb (by decide) d2 ht (fun z => absurd rfl z) (fun _ => k)
end PROWS
def zY (U : State) : Prop := va_Nc xA xI U ∧ va_Nc xS xI U ∧ va_Nc xS xA U
theorem zY.moved {u U : State} (hvm : u.vm.Alike U.vm) (h : zY u) : zY U := ⟨h.1.moved hvm, h.2.1.moved hvm, h.2.2.moved hvm⟩
abbrev zPY (D : va_G) (tys : List (ClassId × FieldType)) (W0 : va_W) (sz : Nat) (av : List Value) : Array Value → State → Prop := fun a U => zPX D tys W0 sz av a U ∧ zY U
def zMyi (l : Launch) (y : MethodName) (ws : List Cond) (rm : Room) (D : va_G) (tys : List (ClassId × FieldType)) (W0 : va_W) (av : List Value) {S : Type} (post : Int → S → Prop) (W1 : S → va_W) : Prop :=
  l.stackTraces = false → ∀ sz : Nat, Met l y ws rm (zPY D tys W0 sz av) (va_Qi (fun r u => ∃ v : Int, r = iI v ∧ post v u) (zB D (va_A W0 sz) W1) (va_A W0 sz)) 1 6 (va_A W0 sz)
theorem zPY.blind {D : va_G} {tys : List (ClassId × FieldType)} {W0 : va_W} {sz : Nat} {av : List Value} : FrameBlind (zPY D tys W0 sz av) := fun a U g mk q => ⟨zPX.blind a U g mk q.1, zY.moved (u := U) (U := U.calling g mk a) (Vm.Alike.refl U.vm) q.2⟩
section ZYENT
variable {l : Launch} {y : MethodName} {ws ws' : List Cond} {rm : Room} {D : va_G} {tys : List (ClassId × FieldType)} {W0 : va_W} {av : List Value} {S : Type} {W1 : S → va_W} {cc : ByteArray} {maxL mc ms : Nat} {ret : Option FieldType}
theorem zenty_i {post : Int → S → Prop} {hh : List (Nat × Nat × Nat × Nat)} (hy : plainName y.cls = true) (hw : ws = Cond.codeWith y cc maxL ret hh :: ws') (hl : (lg_sl av).length ≤ maxL)
    (body : ∀ (p : Program) (e : Env) (s : State) (m : MethodId) (below : List Frame) (meth : Method) (c : Code) (A : Nat → Prop) (ls : Array Slot), l.stackTraces = false → c.exceptionTable.toList = tableOf hh → zY s → zX A s → zEnt p s m meth c cc maxL ret y.cls y.name ws av → va_P D vwCl W0 s.heap → zK D tys s → (∀ q : Nat, s.heap.size ≤ q → A q) → va_D A W0 → va_S A s.heap s.heap [] → lv_has ls maxL (lv_args 0 av) →
      W p l e rm s m av.toArray below meth c s.heap [] 0 0 (MQ below (va_Qi (fun r u => ∃ v : Int, r = iI v ∧ post v u) (zB D A W1) A) av.toArray s 1 6 A) (F0 m 0 ls [])) : zMyi l y ws rm D tys W0 av post W1 := by
  intro htr sz
  refine va_MetW (cc := cc) (maxL := maxL) (ret := ret) (hh := hh) hy hw ?_
  intro p e s m args below meth c s₁ B hml hv
  obtain ⟨⟨⟨rfl, hsz, hP, hK, hD0⟩, hX⟩, hY⟩ := hv
  subst hsz
  have hts := atoms_spec (ws := ws) B.pre
  have htab := vx_table (x := y) B (hts _ (by rw [hw]; exact List.mem_cons_self))
  have h := lv_entry av (n := maxL) hl
  rw [lg_entry_eq]
  exact body p e s m below meth c (va_A W0 s.heap.size) _ htr htab hY hX ⟨B.exec, B.bytes, B.returns, hml, findClass_of_methodNamed B.named, hts, B.notSynchronized, (name_of_methodNamed B.named B.method).1⟩ hP hK (fun q h => Or.inr h) hD0.self va_S.rf h
theorem zentz_i {post : Int → S → Prop} (hy : plainFor y = true) (hw : ws = Cond.code y cc maxL ret :: ws') (hl : (lg_sl av).length ≤ maxL)
    (body : ∀ (p : Program) (e : Env) (s : State) (m : MethodId) (below : List Frame) (meth : Method) (c : Code) (A : Nat → Prop) (ls : Array Slot), l.stackTraces = false → zY s → zX A s → zEnt p s m meth c cc maxL ret y.cls y.name ws av → va_P D vwCl W0 s.heap → zK D tys s → (∀ q : Nat, s.heap.size ≤ q → A q) → va_D A W0 → va_S A s.heap s.heap [] → lv_has ls maxL (lv_args 0 av) →
      W p l e rm s m av.toArray below meth c s.heap [] 0 0 (MQ below (va_Qi (fun r u => ∃ v : Int, r = iI v ∧ post v u) (zB D A W1) A) av.toArray s 1 6 A) (F0 m 0 ls [])) : zMyi l y ws rm D tys W0 av post W1 := by
  intro htr sz
  refine z_ofW (cc := cc) (maxL := maxL) (ret := ret) hy hw ?_
  intro p e s m args below meth c s₁ B hml hv
  obtain ⟨⟨⟨rfl, hsz, hP, hK, hD0⟩, hX⟩, hY⟩ := hv
  subst hsz
  have h := lv_entry av (n := maxL) hl
  rw [lg_entry_eq]
  exact body p e s m below meth c (va_A W0 s.heap.size) _ htr hY hX ⟨B.exec, B.bytes, B.returns, hml, findClass_of_methodNamed B.named, atoms_spec (ws := ws) B.pre, B.notSynchronized, (name_of_methodNamed B.named B.method).1⟩ hP hK (fun q h => Or.inr h) hD0.self va_S.rf h
theorem zentu_i {post : Int → S → Prop} {hh : List (Nat × Nat × Nat × Nat)} (hy : plainName y.cls = true) (hw : ws = Cond.codeWith y cc maxL ret hh :: ws') (hl : (lg_sl av).length ≤ maxL)
    (body : ∀ (p : Program) (e : Env) (s : State) (m : MethodId) (below : List Frame) (meth : Method) (c : Code) (A : Nat → Prop) (ls : Array Slot), zEnt p s m meth c cc maxL ret y.cls y.name ws av → va_P D vwCl W0 s.heap → zK D tys s → (∀ q : Nat, s.heap.size ≤ q → A q) → va_D A W0 → va_S A s.heap s.heap [] → lv_has ls maxL (lv_args 0 av) →
      W p l e rm s m av.toArray below meth c s.heap [] 0 0 (MQ below (va_Qi (fun r u => ∃ v : Int, r = iI v ∧ post v u) (zB D A W1) A) av.toArray s mc ms A) (F0 m 0 ls [])) : zMi l y ws rm D tys W0 av post W1 mc ms := by
  intro sz
  refine va_MetW (cc := cc) (maxL := maxL) (ret := ret) (hh := hh) hy hw ?_
  intro p e s m args below meth c s₁ B hml hv
  obtain ⟨rfl, hsz, hP, hK, hD0⟩ := hv
  subst hsz
  have h := lv_entry av (n := maxL) hl
  rw [lg_entry_eq]
  exact body p e s m below meth c (va_A W0 s.heap.size) _ ⟨B.exec, B.bytes, B.returns, hml, findClass_of_methodNamed B.named, atoms_spec (ws := ws) B.pre, B.notSynchronized, (name_of_methodNamed B.named B.method).1⟩ hP hK (fun q h => Or.inr h) hD0.self va_S.rf h
end ZYENT
theorem zyS {s : State} {H : Heap} {locs : List Loc} {A : Nat → Prop} {D : va_G} {tys : List (ClassId × FieldType)} {ws W0 : va_W} {av : List Value} (hY : zY s) (hX : zX A s) (hS : va_S A s.heap H locs) (hA : ∀ q : Nat, s.heap.size ≤ q → A q) (hK : zK D tys s) (hP : va_P D vwCl ws H) (hD : va_D A ws) (isC : List Nat) (hC : isC.map (fun i => ws[i]?) = W0.map some) (hnd : va_nd isC = true) : PreS s H (zPY D tys W0 H.size av) av :=
  ⟨zPY.blind, fun U hU hW => ⟨⟨⟨rfl, by rw [hU], by rw [hU]; exact hP.sub isC (z_fm hC), hK.warm hW, (hD.sub isC hnd hC).weaken (fun _ _ _ _ => trivial)⟩, hX.call hS hU hW (va_free hD hS hA isC hC)⟩, hY.moved hW.alike⟩⟩
/-! the script, read in a method of its own -/
def sZ (xs : Nat → Int32) (k : Int) : Int := (xs k.toNat).toInt
def zXP (b L : Nat) (xs : Nat → Int32) (av : List Value) : Array Value → State → Prop := va_Pc av (fun U => va_X b L xs U U.heap)
theorem zXP.blind {b L : Nat} {xs : Nat → Int32} {av : List Value} : FrameBlind (zXP b L xs av) := fun a U g mk q => by
  obtain ⟨q0, q1⟩ := q
  exact ⟨q0, q1.moved (u := U) (U := U.calling g mk a) (Vm.Alike.refl U.vm)⟩
theorem zxP {s : State} {H : Heap} {locs : List Loc} {A : Nat → Prop} {av : List Value} {b L : Nat} {xs : Nat → Int32} (hX : va_X b L xs s s.heap) (hbl : b < s.heap.size) (hbA : ¬ A b) (hS : va_S A s.heap H locs) : PreS s H (zXP b L xs av) av :=
  ⟨zXP.blind, fun U hU hW => ⟨rfl, by show va_X b L xs U U.heap; rw [hU]; exact (hX.kept (hS.2.1 b hbl hbA)).moved hW.alike⟩⟩
def celZ (v k : Int) : Int := (iI (xorZ v (ushZ v 14) * 1013904242 + 71 * k)).toInt
def cellZ (xs : Nat → Int32) (L : Nat) (k : Int) : Int := if k < (L : Int) then celZ (sZ xs k) k else celZ (27011 * (k + 19)) k
theorem cell_r (xs : Nat → Int32) (L : Nat) (k : Int) : zR (cellZ xs L k) := by
  unfold cellZ celZ
  split <;> exact i32_r _
