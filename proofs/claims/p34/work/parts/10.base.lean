/-! whole numbers behind the machine's ints and longs; functions behind arrays -/
def iI (z : Int) : Int32 := Int32.ofInt z
def lI (z : Int) : Int64 := Int64.ofInt z
def aI (f : Int → Int) : Nat → Int32 := fun j => iI (f (j : Int))
def aL (f : Int → Int) : Nat → Int64 := fun j => lI (f (j : Int))
def uZ (f : Int → Int) (i v : Int) : Int → Int := fun j => if j = i then v else f j
def b2i (P : Prop) [Decidable P] : Int := if P then 1 else 0
theorem uZ_s (f : Int → Int) (i v : Int) : uZ f i v i = v := if_pos rfl
theorem uZ_n (f : Int → Int) {i j : Int} (v : Int) (h : j ≠ i) : uZ f i v j = f j := if_neg h
theorem b2i_t {P : Prop} [Decidable P] (h : P) : b2i P = 1 := if_pos h
theorem b2i_f {P : Prop} [Decidable P] (h : ¬ P) : b2i P = 0 := if_neg h
theorem b2i_r (P : Prop) [Decidable P] : -2147483648 ≤ b2i P ∧ b2i P ≤ 2147483647 := by unfold b2i; split <;> decide
theorem b2i_01 (P : Prop) [Decidable P] : b2i P = 0 ∨ b2i P = 1 := by unfold b2i; split <;> simp
theorem b2i_0 {P : Prop} [Decidable P] : b2i P = 0 ↔ ¬ P := by unfold b2i; split <;> simp_all
theorem b2i_n0 {P : Prop} [Decidable P] : ¬ b2i P = 0 ↔ P := by unfold b2i; split <;> simp_all
abbrev zR (z : Int) : Prop := -2147483648 ≤ z ∧ z ≤ 2147483647
abbrev zRL (z : Int) : Prop := -9223372036854775808 ≤ z ∧ z ≤ 9223372036854775807
theorem iI_add (a b : Int) : iI a + iI b = iI (a + b) := (Int32.ofInt_add a b).symm
theorem iI_sub (a b : Int) : iI a - iI b = iI (a - b) := (Int32.ofInt_sub a b).symm
theorem iI_mul (a b : Int) : iI a * iI b = iI (a * b) := (Int32.ofInt_mul a b).symm
theorem iI_neg (a : Int) : -iI a = iI (-a) := (Int32.ofInt_neg a).symm
theorem lI_add (a b : Int) : lI a + lI b = lI (a + b) := (Int64.ofInt_add a b).symm
theorem lI_sub (a b : Int) : lI a - lI b = lI (a - b) := (Int64.ofInt_sub a b).symm
theorem lI_mul (a b : Int) : lI a * lI b = lI (a * b) := (Int64.ofInt_mul a b).symm
theorem lI_neg (a : Int) : -lI a = lI (-a) := (Int64.ofInt_neg a).symm
theorem iI_t {z : Int} (h : zR z) : (iI z).toInt = z := Int32.toInt_ofInt_of_le (by omega) (by omega)
theorem lI_t {z : Int} (h : zRL z) : (lI z).toInt = z := Int64.toInt_ofInt_of_le (by omega) (by omega)
theorem iI_lt {a b : Int} (ha : zR a) (hb : zR b) : iI a < iI b ↔ a < b := by rw [Int32.lt_iff_toInt_lt, iI_t ha, iI_t hb]
theorem iI_le {a b : Int} (ha : zR a) (hb : zR b) : iI a ≤ iI b ↔ a ≤ b := by rw [Int32.le_iff_toInt_le, iI_t ha, iI_t hb]
theorem iI_eq {a b : Int} (ha : zR a) (hb : zR b) : iI a = iI b ↔ a = b := by rw [← Int32.toInt_inj, iI_t ha, iI_t hb]
theorem lI_lt {a b : Int} (ha : zRL a) (hb : zRL b) : lI a < lI b ↔ a < b := by rw [Int64.lt_iff_toInt_lt, lI_t ha, lI_t hb]
theorem lI_le {a b : Int} (ha : zRL a) (hb : zRL b) : lI a ≤ lI b ↔ a ≤ b := by rw [Int64.le_iff_toInt_le, lI_t ha, lI_t hb]
theorem lI_eq {a b : Int} (ha : zRL a) (hb : zRL b) : lI a = lI b ↔ a = b := by rw [← Int64.toInt_inj, lI_t ha, lI_t hb]
theorem iI_0 : iI 0 = 0 := rfl
theorem iI_of (x : Int32) : ∃ z : Int, x = iI z ∧ zR z := ⟨x.toInt, (Int32.ofInt_toInt x).symm, by have := x.le_toInt; omega, by have := x.toInt_lt; omega⟩
theorem iI_l {z : Int} (h : zR z) : (iI z).toInt64 = lI z := by
  show Int64.ofInt (iI z).toInt = lI z
  rw [iI_t h]
  rfl
theorem lI_i (z : Int) : (lI z).toInt32 = iI z := Int64.toInt32_ofInt
theorem iI_cl {z : Int} (h : zR z) : (iI z).toNatClampNeg = z.toNat := Int32.toNatClampNeg_ofInt_of_le (by omega) (by omega)
theorem iI_in {i : Int} {n : Nat} (h : 0 ≤ i ∧ i < n) (hn : n ≤ 2147483647) : vp_in (iI i) n := by
  have hr : zR i := by omega
  rintro (h1 | h1)
  · have := (iI_lt hr (by decide : zR 0)).mp h1
    omega
  · rw [iI_cl hr] at h1
    omega
theorem aI_at {f : Int → Int} {i : Int} (h : 0 ≤ i) (h2 : i ≤ 2147483647) : aI f (iI i).toNatClampNeg = iI (f i) := by
  rw [iI_cl (by omega)]
  show iI (f (i.toNat : Int)) = _
  rw [Int.toNat_of_nonneg h]
theorem aL_at {f : Int → Int} {i : Int} (h : 0 ≤ i) (h2 : i ≤ 2147483647) : aL f (iI i).toNatClampNeg = lI (f i) := by
  rw [iI_cl (by omega)]
  show lI (f (i.toNat : Int)) = _
  rw [Int.toNat_of_nonneg h]
theorem aI_up {f : Int → Int} {i v : Int} (h : 0 ≤ i) (h2 : i ≤ 2147483647) : upd (aI f) (iI i).toNatClampNeg (iI v) = aI (uZ f i v) := by
  funext j
  rw [iI_cl (by omega)]
  show (if j = i.toNat then iI v else iI (f j)) = iI (if (j : Int) = i then v else f j)
  by_cases e : j = i.toNat
  · rw [if_pos e, if_pos (by omega)]
  · rw [if_neg e, if_neg (by omega)]
theorem aL_up {f : Int → Int} {i v : Int} (h : 0 ≤ i) (h2 : i ≤ 2147483647) : vp_updL (aL f) (iI i).toNatClampNeg (lI v) = aL (uZ f i v) := by
  funext j
  rw [iI_cl (by omega)]
  show (if j = i.toNat then lI v else lI (f j)) = lI (if (j : Int) = i then v else f j)
  by_cases e : j = i.toNat
  · rw [if_pos e, if_pos (by omega)]
  · rw [if_neg e, if_neg (by omega)]
theorem aI_0 : (fun _ => 0 : Nat → Int32) = aI (fun _ => 0) := rfl
theorem aL_0 : (fun _ => 0 : Nat → Int64) = aL (fun _ => 0) := rfl
theorem vp_nb {v : Int} (h : v = 0 ∨ v = 1) : vp_nar .boolean (iI v) = iI v := by rcases h with rfl | rfl <;> rfl
theorem nr_b {v : Int} (h : v = 0 ∨ v = 1) : narrow .boolean (.int (iI v)) = .int (iI v) := by rcases h with rfl | rfl <;> rfl
theorem iI_tdiv {a b : Int} (ha : zR a) (hb : zR b) (h : a ≠ -2147483648 ∨ b ≠ -1) : iI a / iI b = iI (a.tdiv b) := by
  apply Int32.toInt_inj.mp
  rcases h with h | h
  · rw [Int32.toInt_div_of_ne_left _ _ (fun e => h (by have e2 := congrArg Int32.toInt e; rw [iI_t ha] at e2; exact e2)), iI_t ha, iI_t hb, iI_t]
    have h1 : (a.tdiv b).natAbs ≤ a.natAbs := Int.natAbs_tdiv_le_natAbs a b
    omega
  · rw [Int32.toInt_div_of_ne_right _ _ (fun e => h (by have e2 := congrArg Int32.toInt e; rw [iI_t hb] at e2; exact e2)), iI_t ha, iI_t hb, iI_t]
    rcases Int.lt_or_le b 0 with h0 | h0
    · have h2 : (a.tdiv b).natAbs = a.natAbs / b.natAbs := Int.natAbs_tdiv a b
      have h3 : a.natAbs / b.natAbs ≤ a.natAbs / 2 := Nat.div_le_div_left (by omega) (by omega)
      omega
    · rcases Int.le_total 0 a with h1 | h1
      · have h2 : (a.tdiv b).natAbs ≤ a.natAbs := Int.natAbs_tdiv_le_natAbs a b
        omega
      · have h2 : (a.tdiv b).natAbs ≤ a.natAbs := Int.natAbs_tdiv_le_natAbs a b
        have h3 : 0 ≤ (-a).tdiv b := Int.tdiv_nonneg (by omega) h0
        rw [Int.neg_tdiv] at h3
        omega
theorem iI_div {a b : Int} (ha : 0 ≤ a ∧ a ≤ 2147483647) (hb : 0 < b ∧ b ≤ 2147483647) : iI a / iI b = iI (a / b) := by
  rw [iI_tdiv (by omega) (by omega) (by omega), Int.tdiv_eq_ediv_of_nonneg ha.1]
theorem iI_rem {a b : Int} (ha : 0 ≤ a ∧ a ≤ 2147483647) (hb : 0 < b ∧ b ≤ 2147483647) : iI a - iI a / iI b * iI b = iI (a % b) := by
  rw [iI_div ha hb, iI_mul, iI_sub]
  congr 1
  have := Int.mul_ediv_add_emod a b
  have h2 := Int.mul_comm (a / b) b
  omega
theorem lg_c {a b : Int} (ha : zRL a) (hb : zRL b) : lg_cmp (lI a) (lI b) = iI (if b < a then 1 else if a = b then 0 else -1) := by
  have h1 := lI_lt hb ha
  have h2 := lI_eq ha hb
  unfold lg_cmp
  by_cases q : b < a
  · simp [h1.mpr q, q]; rfl
  · by_cases q2 : a = b
    · subst q2
      simp; rfl
    · have n1 : ¬ lI b < lI a := fun z => q (h1.mp z)
      have n2 : ¬ lI a = lI b := fun z => q2 (h2.mp z)
      simp [n1, n2, q, q2]; rfl
section ZROWS
variable {p : Program} {l : Launch} {e : Env} {R : Room} {s : State} {m : MethodId} {args : Array Value} {below : List Frame} {meth : Method} {c : Code} {H : Heap} {locs : List Loc} {cells slots : Nat} {Q : State → Prop} {cc : ByteArray} {pc : Nat} {ls : Array Slot} {rest : List Value}
theorem zi_add (hx : p.tables.exec = Jvm.exec) (hb : c.code = cc) {a b : Int} (d : decode cc pc = .ok (.iadd, 1)) (k : W p l e R s m args below meth c H locs cells slots Q (F0 m (pc + 1) ls (.int (iI (a + b)) :: rest))) : W p l e R s m args below meth c H locs cells slots Q (F0 m pc ls (.int (iI b) :: .int (iI a) :: rest)) := lv_iadd hx hb d (by rw [iI_add]; exact k)
theorem zi_sub (hx : p.tables.exec = Jvm.exec) (hb : c.code = cc) {a b : Int} (d : decode cc pc = .ok (.isub, 1)) (k : W p l e R s m args below meth c H locs cells slots Q (F0 m (pc + 1) ls (.int (iI (a - b)) :: rest))) : W p l e R s m args below meth c H locs cells slots Q (F0 m pc ls (.int (iI b) :: .int (iI a) :: rest)) := lv_isub hx hb d (by rw [iI_sub]; exact k)
theorem zi_mul (hx : p.tables.exec = Jvm.exec) (hb : c.code = cc) {a b : Int} (d : decode cc pc = .ok (.imul, 1)) (k : W p l e R s m args below meth c H locs cells slots Q (F0 m (pc + 1) ls (.int (iI (a * b)) :: rest))) : W p l e R s m args below meth c H locs cells slots Q (F0 m pc ls (.int (iI b) :: .int (iI a) :: rest)) := lv_imul hx hb d (by rw [iI_mul]; exact k)
theorem zi_neg (hx : p.tables.exec = Jvm.exec) (hb : c.code = cc) {a : Int} (d : decode cc pc = .ok (.ineg, 1)) (k : W p l e R s m args below meth c H locs cells slots Q (F0 m (pc + 1) ls (.int (iI (-a)) :: rest))) : W p l e R s m args below meth c H locs cells slots Q (F0 m pc ls (.int (iI a) :: rest)) := lv_ineg hx hb d (by rw [iI_neg]; exact k)
theorem zi_div (hx : p.tables.exec = Jvm.exec) (hb : c.code = cc) {a b : Int} (ha : 0 ≤ a ∧ a ≤ 2147483647) (hb2 : 0 < b ∧ b ≤ 2147483647) (d : decode cc pc = .ok (.idiv, 1)) (k : W p l e R s m args below meth c H locs cells slots Q (F0 m (pc + 1) ls (.int (iI (a / b)) :: rest))) : W p l e R s m args below meth c H locs cells slots Q (F0 m pc ls (.int (iI b) :: .int (iI a) :: rest)) :=
  lv_idiv hx hb d (fun q => by have := (iI_eq (by omega) (by decide)).mp (q.trans iI_0.symm); omega) (by rw [iI_div ha hb2]; exact k)
theorem zi_tdiv (hx : p.tables.exec = Jvm.exec) (hb : c.code = cc) {a b : Int} (ha : zR a) (hb2 : zR b) (h0 : b ≠ 0) (h : a ≠ -2147483648 ∨ b ≠ -1) (d : decode cc pc = .ok (.idiv, 1)) (k : W p l e R s m args below meth c H locs cells slots Q (F0 m (pc + 1) ls (.int (iI (a.tdiv b)) :: rest))) : W p l e R s m args below meth c H locs cells slots Q (F0 m pc ls (.int (iI b) :: .int (iI a) :: rest)) :=
  lv_idiv hx hb d (fun q => h0 ((iI_eq hb2 (by decide)).mp (q.trans iI_0.symm))) (by rw [iI_tdiv ha hb2 h]; exact k)
theorem zi_rem (hx : p.tables.exec = Jvm.exec) (hb : c.code = cc) {a b : Int} (ha : 0 ≤ a ∧ a ≤ 2147483647) (hb2 : 0 < b ∧ b ≤ 2147483647) (d : decode cc pc = .ok (.irem, 1)) (k : W p l e R s m args below meth c H locs cells slots Q (F0 m (pc + 1) ls (.int (iI (a % b)) :: rest))) : W p l e R s m args below meth c H locs cells slots Q (F0 m pc ls (.int (iI b) :: .int (iI a) :: rest)) :=
  lv_irem hx hb d (fun q => by have := (iI_eq (by omega) (by decide)).mp (q.trans iI_0.symm); omega) (by rw [iI_rem ha hb2]; exact k)
theorem zl_add (hx : p.tables.exec = Jvm.exec) (hb : c.code = cc) {a b : Int} (d : decode cc pc = .ok (.ladd, 1)) (k : W p l e R s m args below meth c H locs cells slots Q (F0 m (pc + 1) ls (.long (lI (a + b)) :: rest))) : W p l e R s m args below meth c H locs cells slots Q (F0 m pc ls (.long (lI b) :: .long (lI a) :: rest)) := lv_ladd hx hb d (by rw [lI_add]; exact k)
theorem zl_sub (hx : p.tables.exec = Jvm.exec) (hb : c.code = cc) {a b : Int} (d : decode cc pc = .ok (.lsub, 1)) (k : W p l e R s m args below meth c H locs cells slots Q (F0 m (pc + 1) ls (.long (lI (a - b)) :: rest))) : W p l e R s m args below meth c H locs cells slots Q (F0 m pc ls (.long (lI b) :: .long (lI a) :: rest)) := lv_lsub hx hb d (by rw [lI_sub]; exact k)
theorem zl_mul (hx : p.tables.exec = Jvm.exec) (hb : c.code = cc) {a b : Int} (d : decode cc pc = .ok (.lmul, 1)) (k : W p l e R s m args below meth c H locs cells slots Q (F0 m (pc + 1) ls (.long (lI (a * b)) :: rest))) : W p l e R s m args below meth c H locs cells slots Q (F0 m pc ls (.long (lI b) :: .long (lI a) :: rest)) := lv_lmul hx hb d (by rw [lI_mul]; exact k)
theorem zi_l (hx : p.tables.exec = Jvm.exec) (hb : c.code = cc) {a : Int} (ha : zR a) (d : decode cc pc = .ok (.i2l, 1)) (k : W p l e R s m args below meth c H locs cells slots Q (F0 m (pc + 1) ls (.long (lI a) :: rest))) : W p l e R s m args below meth c H locs cells slots Q (F0 m pc ls (.int (iI a) :: rest)) := lv_i2l hx hb d (iI_l ha) k
theorem zl_i (hx : p.tables.exec = Jvm.exec) (hb : c.code = cc) {a : Int} (d : decode cc pc = .ok (.l2i, 1)) (k : W p l e R s m args below meth c H locs cells slots Q (F0 m (pc + 1) ls (.int (iI a) :: rest))) : W p l e R s m args below meth c H locs cells slots Q (F0 m pc ls (.long (lI a) :: rest)) := lv_l2i hx hb d (lI_i a) k
theorem zl_cmp (hx : p.tables.exec = Jvm.exec) (hb : c.code = cc) {a b : Int} (ha : zRL a) (hb2 : zRL b) (d : decode cc pc = .ok (.lcmp, 1)) (k : W p l e R s m args below meth c H locs cells slots Q (F0 m (pc + 1) ls (.int (iI (if b < a then 1 else if a = b then 0 else -1)) :: rest))) : W p l e R s m args below meth c H locs cells slots Q (F0 m pc ls (.long (lI b) :: .long (lI a) :: rest)) := W.lcmp hx hb d (by rw [lg_c ha hb2]; exact k)
/-- a name for what lies on top -/
theorem zn_i {x : Int} (k : ∀ y : Int, y = x → W p l e R s m args below meth c H locs cells slots Q (F0 m pc ls (.int (iI y) :: rest))) : W p l e R s m args below meth c H locs cells slots Q (F0 m pc ls (.int (iI x) :: rest)) := k x rfl
theorem zn_l {x : Int} (k : ∀ y : Int, y = x → W p l e R s m args below meth c H locs cells slots Q (F0 m pc ls (.long (lI y) :: rest))) : W p l e R s m args below meth c H locs cells slots Q (F0 m pc ls (.long (lI x) :: rest)) := k x rfl
theorem ze_i {x y : Int} (h : x = y) (k : W p l e R s m args below meth c H locs cells slots Q (F0 m pc ls (.int (iI y) :: rest))) : W p l e R s m args below meth c H locs cells slots Q (F0 m pc ls (.int (iI x) :: rest)) := by rw [h]; exact k
theorem ze_l {x y : Int} (h : x = y) (k : W p l e R s m args below meth c H locs cells slots Q (F0 m pc ls (.long (lI y) :: rest))) : W p l e R s m args below meth c H locs cells slots Q (F0 m pc ls (.long (lI x) :: rest)) := by rw [h]; exact k
theorem zi_clt (hx : p.tables.exec = Jvm.exec) (hb : c.code = cc) {a b off : Int} {tgt : Nat} (ha : zR a) (hb2 : zR b) (d : decode cc pc = .ok (.if_icmp .lt off, 3)) (ht : (pc : Int) + off = (tgt : Int)) (kt : a < b → W p l e R s m args below meth c H locs cells slots Q (F0 m tgt ls rest)) (kf : ¬ a < b → W p l e R s m args below meth c H locs cells slots Q (F0 m (pc + 3) ls rest)) : W p l e R s m args below meth c H locs cells slots Q (F0 m pc ls (.int (iI b) :: .int (iI a) :: rest)) :=
  lv_icmp_lt hx hb d ht (fun q => kt ((iI_lt ha hb2).mp q)) (fun q => kf (fun z => q ((iI_lt ha hb2).mpr z)))
theorem zi_flt (hx : p.tables.exec = Jvm.exec) (hb : c.code = cc) {a off : Int} {tgt : Nat} (ha : zR a) (d : decode cc pc = .ok (.ifCond .lt off, 3)) (ht : (pc : Int) + off = (tgt : Int)) (kt : a < 0 → W p l e R s m args below meth c H locs cells slots Q (F0 m tgt ls rest)) (kf : ¬ a < 0 → W p l e R s m args below meth c H locs cells slots Q (F0 m (pc + 3) ls rest)) : W p l e R s m args below meth c H locs cells slots Q (F0 m pc ls (.int (iI a) :: rest)) :=
  lv_if_lt hx hb d ht (fun q => kt ((iI_lt ha (by decide : zR 0)).mp q)) (fun q => kf (fun y => q ((iI_lt ha (by decide : zR 0)).mpr y)))
theorem zi_cge (hx : p.tables.exec = Jvm.exec) (hb : c.code = cc) {a b off : Int} {tgt : Nat} (ha : zR a) (hb2 : zR b) (d : decode cc pc = .ok (.if_icmp .ge off, 3)) (ht : (pc : Int) + off = (tgt : Int)) (kt : a ≥ b → W p l e R s m args below meth c H locs cells slots Q (F0 m tgt ls rest)) (kf : ¬ a ≥ b → W p l e R s m args below meth c H locs cells slots Q (F0 m (pc + 3) ls rest)) : W p l e R s m args below meth c H locs cells slots Q (F0 m pc ls (.int (iI b) :: .int (iI a) :: rest)) :=
  lv_icmp_ge hx hb d ht (fun q => kt ((iI_le hb2 ha).mp q)) (fun q => kf (fun z => q ((iI_le hb2 ha).mpr z)))
theorem zi_fge (hx : p.tables.exec = Jvm.exec) (hb : c.code = cc) {a off : Int} {tgt : Nat} (ha : zR a) (d : decode cc pc = .ok (.ifCond .ge off, 3)) (ht : (pc : Int) + off = (tgt : Int)) (kt : a ≥ 0 → W p l e R s m args below meth c H locs cells slots Q (F0 m tgt ls rest)) (kf : ¬ a ≥ 0 → W p l e R s m args below meth c H locs cells slots Q (F0 m (pc + 3) ls rest)) : W p l e R s m args below meth c H locs cells slots Q (F0 m pc ls (.int (iI a) :: rest)) :=
  lv_if_ge hx hb d ht (fun q => kt ((iI_le (by decide : zR 0) ha).mp q)) (fun q => kf (fun y => q ((iI_le (by decide : zR 0) ha).mpr y)))
theorem zi_cgt (hx : p.tables.exec = Jvm.exec) (hb : c.code = cc) {a b off : Int} {tgt : Nat} (ha : zR a) (hb2 : zR b) (d : decode cc pc = .ok (.if_icmp .gt off, 3)) (ht : (pc : Int) + off = (tgt : Int)) (kt : a > b → W p l e R s m args below meth c H locs cells slots Q (F0 m tgt ls rest)) (kf : ¬ a > b → W p l e R s m args below meth c H locs cells slots Q (F0 m (pc + 3) ls rest)) : W p l e R s m args below meth c H locs cells slots Q (F0 m pc ls (.int (iI b) :: .int (iI a) :: rest)) :=
  lv_icmp_gt hx hb d ht (fun q => kt ((iI_lt hb2 ha).mp q)) (fun q => kf (fun z => q ((iI_lt hb2 ha).mpr z)))
theorem zi_fgt (hx : p.tables.exec = Jvm.exec) (hb : c.code = cc) {a off : Int} {tgt : Nat} (ha : zR a) (d : decode cc pc = .ok (.ifCond .gt off, 3)) (ht : (pc : Int) + off = (tgt : Int)) (kt : a > 0 → W p l e R s m args below meth c H locs cells slots Q (F0 m tgt ls rest)) (kf : ¬ a > 0 → W p l e R s m args below meth c H locs cells slots Q (F0 m (pc + 3) ls rest)) : W p l e R s m args below meth c H locs cells slots Q (F0 m pc ls (.int (iI a) :: rest)) :=
  lv_if_gt hx hb d ht (fun q => kt ((iI_lt (by decide : zR 0) ha).mp q)) (fun q => kf (fun y => q ((iI_lt (by decide : zR 0) ha).mpr y)))
theorem zi_cle (hx : p.tables.exec = Jvm.exec) (hb : c.code = cc) {a b off : Int} {tgt : Nat} (ha : zR a) (hb2 : zR b) (d : decode cc pc = .ok (.if_icmp .le off, 3)) (ht : (pc : Int) + off = (tgt : Int)) (kt : a ≤ b → W p l e R s m args below meth c H locs cells slots Q (F0 m tgt ls rest)) (kf : ¬ a ≤ b → W p l e R s m args below meth c H locs cells slots Q (F0 m (pc + 3) ls rest)) : W p l e R s m args below meth c H locs cells slots Q (F0 m pc ls (.int (iI b) :: .int (iI a) :: rest)) :=
  lv_icmp_le hx hb d ht (fun q => kt ((iI_le ha hb2).mp q)) (fun q => kf (fun z => q ((iI_le ha hb2).mpr z)))
theorem zi_fle (hx : p.tables.exec = Jvm.exec) (hb : c.code = cc) {a off : Int} {tgt : Nat} (ha : zR a) (d : decode cc pc = .ok (.ifCond .le off, 3)) (ht : (pc : Int) + off = (tgt : Int)) (kt : a ≤ 0 → W p l e R s m args below meth c H locs cells slots Q (F0 m tgt ls rest)) (kf : ¬ a ≤ 0 → W p l e R s m args below meth c H locs cells slots Q (F0 m (pc + 3) ls rest)) : W p l e R s m args below meth c H locs cells slots Q (F0 m pc ls (.int (iI a) :: rest)) :=
  lv_if_le hx hb d ht (fun q => kt ((iI_le ha (by decide : zR 0)).mp q)) (fun q => kf (fun y => q ((iI_le ha (by decide : zR 0)).mpr y)))
theorem zi_ceq (hx : p.tables.exec = Jvm.exec) (hb : c.code = cc) {a b off : Int} {tgt : Nat} (ha : zR a) (hb2 : zR b) (d : decode cc pc = .ok (.if_icmp .eq off, 3)) (ht : (pc : Int) + off = (tgt : Int)) (kt : a = b → W p l e R s m args below meth c H locs cells slots Q (F0 m tgt ls rest)) (kf : ¬ a = b → W p l e R s m args below meth c H locs cells slots Q (F0 m (pc + 3) ls rest)) : W p l e R s m args below meth c H locs cells slots Q (F0 m pc ls (.int (iI b) :: .int (iI a) :: rest)) :=
  lv_icmp_eq hx hb d ht (fun q => kt ((iI_eq ha hb2).mp q)) (fun q => kf (fun z => q ((iI_eq ha hb2).mpr z)))
theorem zi_feq (hx : p.tables.exec = Jvm.exec) (hb : c.code = cc) {a off : Int} {tgt : Nat} (ha : zR a) (d : decode cc pc = .ok (.ifCond .eq off, 3)) (ht : (pc : Int) + off = (tgt : Int)) (kt : a = 0 → W p l e R s m args below meth c H locs cells slots Q (F0 m tgt ls rest)) (kf : ¬ a = 0 → W p l e R s m args below meth c H locs cells slots Q (F0 m (pc + 3) ls rest)) : W p l e R s m args below meth c H locs cells slots Q (F0 m pc ls (.int (iI a) :: rest)) :=
  lv_if_eq hx hb d ht (fun q => kt ((iI_eq ha (by decide : zR 0)).mp q)) (fun q => kf (fun y => q ((iI_eq ha (by decide : zR 0)).mpr y)))
theorem zi_cne (hx : p.tables.exec = Jvm.exec) (hb : c.code = cc) {a b off : Int} {tgt : Nat} (ha : zR a) (hb2 : zR b) (d : decode cc pc = .ok (.if_icmp .ne off, 3)) (ht : (pc : Int) + off = (tgt : Int)) (kt : a ≠ b → W p l e R s m args below meth c H locs cells slots Q (F0 m tgt ls rest)) (kf : a = b → W p l e R s m args below meth c H locs cells slots Q (F0 m (pc + 3) ls rest)) : W p l e R s m args below meth c H locs cells slots Q (F0 m pc ls (.int (iI b) :: .int (iI a) :: rest)) :=
  lv_icmp_ne hx hb d ht (fun q => kt ((not_congr (iI_eq ha hb2)).mp q)) (fun q => kf ((iI_eq ha hb2).mp q))
theorem zi_fne (hx : p.tables.exec = Jvm.exec) (hb : c.code = cc) {a off : Int} {tgt : Nat} (ha : zR a) (d : decode cc pc = .ok (.ifCond .ne off, 3)) (ht : (pc : Int) + off = (tgt : Int)) (kt : a ≠ 0 → W p l e R s m args below meth c H locs cells slots Q (F0 m tgt ls rest)) (kf : a = 0 → W p l e R s m args below meth c H locs cells slots Q (F0 m (pc + 3) ls rest)) : W p l e R s m args below meth c H locs cells slots Q (F0 m pc ls (.int (iI a) :: rest)) :=
  lv_if_ne hx hb d ht (fun q => kt ((not_congr (iI_eq ha (by decide : zR 0))).mp q)) (fun q => kf ((iI_eq ha (by decide : zR 0)).mp q))
theorem zb_feq (hx : p.tables.exec = Jvm.exec) (hb : c.code = cc) {P : Prop} [Decidable P] {off : Int} {tgt : Nat} (d : decode cc pc = .ok (.ifCond .eq off, 3)) (ht : (pc : Int) + off = (tgt : Int)) (kt : ¬ P → W p l e R s m args below meth c H locs cells slots Q (F0 m tgt ls rest)) (kf : P → W p l e R s m args below meth c H locs cells slots Q (F0 m (pc + 3) ls rest)) : W p l e R s m args below meth c H locs cells slots Q (F0 m pc ls (.int (iI (b2i P)) :: rest)) :=
  zi_feq hx hb (b2i_r P) d ht (fun q => kt (b2i_0.mp q)) (fun q => kf (b2i_n0.mp q))
theorem zb_fne (hx : p.tables.exec = Jvm.exec) (hb : c.code = cc) {P : Prop} [Decidable P] {off : Int} {tgt : Nat} (d : decode cc pc = .ok (.ifCond .ne off, 3)) (ht : (pc : Int) + off = (tgt : Int)) (kt : P → W p l e R s m args below meth c H locs cells slots Q (F0 m tgt ls rest)) (kf : ¬ P → W p l e R s m args below meth c H locs cells slots Q (F0 m (pc + 3) ls rest)) : W p l e R s m args below meth c H locs cells slots Q (F0 m pc ls (.int (iI (b2i P)) :: rest)) :=
  zi_fne hx hb (b2i_r P) d ht (fun q => kt (b2i_n0.mp q)) (fun q => kf (b2i_0.mp q))
theorem zl_clt (hx : p.tables.exec = Jvm.exec) (hb : c.code = cc) {a b off : Int} {tgt : Nat} (ha : zRL a) (hb2 : zRL b) (d : decode cc pc = .ok (.lcmp, 1)) (d2 : decode cc (pc + 1) = .ok (.ifCond .lt off, 3)) (ht : ((pc + 1 : Nat) : Int) + off = (tgt : Int)) (kt : a < b → W p l e R s m args below meth c H locs cells slots Q (F0 m tgt ls rest)) (kf : ¬ (a < b) → W p l e R s m args below meth c H locs cells slots Q (F0 m (pc + 4) ls rest)) : W p l e R s m args below meth c H locs cells slots Q (F0 m pc ls (.long (lI b) :: .long (lI a) :: rest)) :=
  zl_cmp hx hb ha hb2 d (zi_flt hx hb (by split <;> first | decide | (split <;> decide)) d2 ht (fun q => kt (by
    by_cases h1 : b < a
    · rw [if_pos h1] at q; first | omega | exact absurd q (by decide)
    · rw [if_neg h1] at q
      by_cases h2 : a = b
      · rw [if_pos h2] at q; first | omega | exact absurd q (by decide)
      · rw [if_neg h2] at q; first | omega | exact absurd q (by decide))) (fun q => kf (fun z => q (by
    by_cases h1 : b < a
    · rw [if_pos h1]; try first | omega | decide
    · rw [if_neg h1]
      by_cases h2 : a = b
      · rw [if_pos h2]; try first | omega | decide
      · rw [if_neg h2]; try first | omega | decide))))
theorem zl_cge (hx : p.tables.exec = Jvm.exec) (hb : c.code = cc) {a b off : Int} {tgt : Nat} (ha : zRL a) (hb2 : zRL b) (d : decode cc pc = .ok (.lcmp, 1)) (d2 : decode cc (pc + 1) = .ok (.ifCond .ge off, 3)) (ht : ((pc + 1 : Nat) : Int) + off = (tgt : Int)) (kt : a ≥ b → W p l e R s m args below meth c H locs cells slots Q (F0 m tgt ls rest)) (kf : ¬ (a ≥ b) → W p l e R s m args below meth c H locs cells slots Q (F0 m (pc + 4) ls rest)) : W p l e R s m args below meth c H locs cells slots Q (F0 m pc ls (.long (lI b) :: .long (lI a) :: rest)) :=
  zl_cmp hx hb ha hb2 d (zi_fge hx hb (by split <;> first | decide | (split <;> decide)) d2 ht (fun q => kt (by
    by_cases h1 : b < a
    · rw [if_pos h1] at q; first | omega | exact absurd q (by decide)
    · rw [if_neg h1] at q
      by_cases h2 : a = b
      · rw [if_pos h2] at q; first | omega | exact absurd q (by decide)
      · rw [if_neg h2] at q; first | omega | exact absurd q (by decide))) (fun q => kf (fun z => q (by
    by_cases h1 : b < a
    · rw [if_pos h1]; try first | omega | decide
    · rw [if_neg h1]
      by_cases h2 : a = b
      · rw [if_pos h2]; try first | omega | decide
      · rw [if_neg h2]; try first | omega | decide))))
theorem zl_cgt (hx : p.tables.exec = Jvm.exec) (hb : c.code = cc) {a b off : Int} {tgt : Nat} (ha : zRL a) (hb2 : zRL b) (d : decode cc pc = .ok (.lcmp, 1)) (d2 : decode cc (pc + 1) = .ok (.ifCond .gt off, 3)) (ht : ((pc + 1 : Nat) : Int) + off = (tgt : Int)) (kt : a > b → W p l e R s m args below meth c H locs cells slots Q (F0 m tgt ls rest)) (kf : ¬ (a > b) → W p l e R s m args below meth c H locs cells slots Q (F0 m (pc + 4) ls rest)) : W p l e R s m args below meth c H locs cells slots Q (F0 m pc ls (.long (lI b) :: .long (lI a) :: rest)) :=
  zl_cmp hx hb ha hb2 d (zi_fgt hx hb (by split <;> first | decide | (split <;> decide)) d2 ht (fun q => kt (by
    by_cases h1 : b < a
    · rw [if_pos h1] at q; first | omega | exact absurd q (by decide)
    · rw [if_neg h1] at q
      by_cases h2 : a = b
      · rw [if_pos h2] at q; first | omega | exact absurd q (by decide)
      · rw [if_neg h2] at q; first | omega | exact absurd q (by decide))) (fun q => kf (fun z => q (by
    by_cases h1 : b < a
    · rw [if_pos h1]; try first | omega | decide
    · rw [if_neg h1]
      by_cases h2 : a = b
      · rw [if_pos h2]; try first | omega | decide
      · rw [if_neg h2]; try first | omega | decide))))
theorem zl_cle (hx : p.tables.exec = Jvm.exec) (hb : c.code = cc) {a b off : Int} {tgt : Nat} (ha : zRL a) (hb2 : zRL b) (d : decode cc pc = .ok (.lcmp, 1)) (d2 : decode cc (pc + 1) = .ok (.ifCond .le off, 3)) (ht : ((pc + 1 : Nat) : Int) + off = (tgt : Int)) (kt : a ≤ b → W p l e R s m args below meth c H locs cells slots Q (F0 m tgt ls rest)) (kf : ¬ (a ≤ b) → W p l e R s m args below meth c H locs cells slots Q (F0 m (pc + 4) ls rest)) : W p l e R s m args below meth c H locs cells slots Q (F0 m pc ls (.long (lI b) :: .long (lI a) :: rest)) :=
  zl_cmp hx hb ha hb2 d (zi_fle hx hb (by split <;> first | decide | (split <;> decide)) d2 ht (fun q => kt (by
    by_cases h1 : b < a
    · rw [if_pos h1] at q; first | omega | exact absurd q (by decide)
    · rw [if_neg h1] at q
      by_cases h2 : a = b
      · rw [if_pos h2] at q; first | omega | exact absurd q (by decide)
      · rw [if_neg h2] at q; first | omega | exact absurd q (by decide))) (fun q => kf (fun z => q (by
    by_cases h1 : b < a
    · rw [if_pos h1]; try first | omega | decide
    · rw [if_neg h1]
      by_cases h2 : a = b
      · rw [if_pos h2]; try first | omega | decide
      · rw [if_neg h2]; try first | omega | decide))))
theorem zl_ceq (hx : p.tables.exec = Jvm.exec) (hb : c.code = cc) {a b off : Int} {tgt : Nat} (ha : zRL a) (hb2 : zRL b) (d : decode cc pc = .ok (.lcmp, 1)) (d2 : decode cc (pc + 1) = .ok (.ifCond .eq off, 3)) (ht : ((pc + 1 : Nat) : Int) + off = (tgt : Int)) (kt : a = b → W p l e R s m args below meth c H locs cells slots Q (F0 m tgt ls rest)) (kf : ¬ (a = b) → W p l e R s m args below meth c H locs cells slots Q (F0 m (pc + 4) ls rest)) : W p l e R s m args below meth c H locs cells slots Q (F0 m pc ls (.long (lI b) :: .long (lI a) :: rest)) :=
  zl_cmp hx hb ha hb2 d (zi_feq hx hb (by split <;> first | decide | (split <;> decide)) d2 ht (fun q => kt (by
    by_cases h1 : b < a
    · rw [if_pos h1] at q; first | omega | exact absurd q (by decide)
    · rw [if_neg h1] at q
      by_cases h2 : a = b
      · rw [if_pos h2] at q; first | omega | exact absurd q (by decide)
      · rw [if_neg h2] at q; first | omega | exact absurd q (by decide))) (fun q => kf (fun z => q (by
    by_cases h1 : b < a
    · rw [if_pos h1]; try first | omega | decide
    · rw [if_neg h1]
      by_cases h2 : a = b
      · rw [if_pos h2]; try first | omega | decide
      · rw [if_neg h2]; try first | omega | decide))))
theorem zl_cne (hx : p.tables.exec = Jvm.exec) (hb : c.code = cc) {a b off : Int} {tgt : Nat} (ha : zRL a) (hb2 : zRL b) (d : decode cc pc = .ok (.lcmp, 1)) (d2 : decode cc (pc + 1) = .ok (.ifCond .ne off, 3)) (ht : ((pc + 1 : Nat) : Int) + off = (tgt : Int)) (kt : a ≠ b → W p l e R s m args below meth c H locs cells slots Q (F0 m tgt ls rest)) (kf : a = b → W p l e R s m args below meth c H locs cells slots Q (F0 m (pc + 4) ls rest)) : W p l e R s m args below meth c H locs cells slots Q (F0 m pc ls (.long (lI b) :: .long (lI a) :: rest)) :=
  zl_cmp hx hb ha hb2 d (zi_fne hx hb (by split <;> first | decide | (split <;> decide)) d2 ht (fun q => kt (by
    by_cases h1 : b < a
    · rw [if_pos h1] at q; first | omega | exact absurd q (by decide)
    · rw [if_neg h1] at q
      by_cases h2 : a = b
      · rw [if_pos h2] at q; first | omega | exact absurd q (by decide)
      · rw [if_neg h2] at q; first | omega | exact absurd q (by decide))) (fun q => kf (by
    by_cases h1 : b < a
    · rw [if_pos h1] at q; exact absurd q (by decide)
    · rw [if_neg h1] at q
      by_cases h2 : a = b
      · exact h2
      · rw [if_neg h2] at q; exact absurd q (by decide))))
end ZROWS
/-! worlds of ours: one list of array classes, one list of nest links, for every contract -/
def zNL : List Cond := [.fieldLinkNest "SleepPlanner" 189 "SleepPlanner$Ledger" "spent" "J" "SleepPlanner", .fieldLinkNest "SleepPlanner" 193 "SleepPlanner$Ledger" "ticksIn" "[I" "SleepPlanner", .fieldLinkNest "SleepPlanner" 200 "SleepPlanner$Ledger" "sleeps" "I" "SleepPlanner", .fieldLinkNest "SleepPlanner" 203 "SleepPlanner$Ledger" "lateness" "I" "SleepPlanner", .fieldLinkNest "SleepPlanner" 206 "SleepPlanner$Ledger" "served" "I" "SleepPlanner", .fieldLinkNest "SleepPlanner" 211 "SleepPlanner$Battery" "harvest" "[I" "SleepPlanner", .fieldLinkNest "SleepPlanner" 214 "SleepPlanner$Battery" "available" "I" "SleepPlanner", .fieldLinkNest "SleepPlanner" 217 "SleepPlanner$Battery" "bound" "I" "SleepPlanner", .fieldLinkNest "SleepPlanner" 220 "SleepPlanner$Battery" "shortTicks" "I" "SleepPlanner", .fieldLinkNest "SleepPlanner" 301 "SleepPlanner$IdleTimes" "count" "I" "SleepPlanner", .fieldLinkNest "SleepPlanner" 177 "SleepPlanner$Jobs" "count" "I" "SleepPlanner", .fieldLinkNest "SleepPlanner$Plans" 24 "SleepPlanner$Jobs" "count" "I" "SleepPlanner"]
def zML : List Cond := [.methodLinkNest "SleepPlanner$Battery" 27 yX7_read "SleepPlanner", .methodLinkNest "SleepPlanner$Clocks" 36 yX7_read "SleepPlanner", .methodLinkNest "SleepPlanner$Clocks" 44 yX7_exchange "SleepPlanner", .methodLinkNest "SleepPlanner$Ledger" 32 yX7_read "SleepPlanner", .methodLinkNest "SleepPlanner$Ledger" 36 yX7_exchange "SleepPlanner", .methodLinkNest "SleepPlanner$States" 21 yX7_exchange "SleepPlanner", .methodLinkNest "SleepPlanner$States" 25 yX7_read "SleepPlanner"]
def zN (U : State) : Prop := (∀ w ∈ zNL, va_Nw w U) ∧ ∀ w ∈ zML, va_Nw w U
theorem zN.warm {s U : State} (hW : s.WarmedH U.vm) (h : zN s) : zN U := by
  refine ⟨fun w hw => ?_, fun w hw => ?_⟩
  · have h1 := h.1 w hw
    simp only [zNL, List.mem_cons, List.not_mem_nil, or_false] at hw
    rcases hw with rfl | rfl | rfl | rfl | rfl | rfl | rfl | rfl | rfl | rfl | rfl | rfl <;> exact va_Nw.warmF hW h1
  · have h1 := h.2 w hw
    simp only [zML, List.mem_cons, List.not_mem_nil, or_false] at hw
    rcases hw with rfl | rfl | rfl | rfl | rfl | rfl | rfl <;> exact va_Nw.warmM hW h1
theorem zN.same {u U : State} (hvm : u.vm = U.vm) (h : zN u) : zN U := by
  refine ⟨fun w hw => ?_, fun w hw => ?_⟩
  · have h1 := h.1 w hw
    simp only [zNL, List.mem_cons, List.not_mem_nil, or_false] at hw
    rcases hw with rfl | rfl | rfl | rfl | rfl | rfl | rfl | rfl | rfl | rfl | rfl | rfl <;> exact va_Nw.same rfl hvm h1
  · have h1 := h.2 w hw
    simp only [zML, List.mem_cons, List.not_mem_nil, or_false] at hw
    rcases hw with rfl | rfl | rfl | rfl | rfl | rfl | rfl <;> exact va_Nw.same rfl hvm h1
def zK (D : va_G) (tys : List (ClassId × FieldType)) (U : State) : Prop := va_K D vwCl tys U ∧ zN U
theorem zK.warm {D : va_G} {tys : List (ClassId × FieldType)} {s U : State} (hW : s.WarmedH U.vm) (h : zK D tys s) : zK D tys U := ⟨h.1.moved hW.alike, h.2.warm hW⟩
theorem zK.same {D : va_G} {tys : List (ClassId × FieldType)} {u U : State} (hvm : u.vm = U.vm) (h : zK D tys u) : zK D tys U := ⟨h.1.moved (by rw [hvm]; exact Vm.Alike.refl _), h.2.same hvm⟩
/-- arrays of ints, of longs, of truths -/
abbrev zA (cA : ClassId) (n : Nat) (f : Int → Int) : va_E := .inl (cA, n, .inl (aI f))
abbrev zAL (cA : ClassId) (n : Nat) (f : Int → Int) : va_E := .inl (cA, n, .inr (.inl (aL f)))
/-- how a method begins: its arguments, its world -/
def zP (D : va_G) (tys : List (ClassId × FieldType)) (W0 : va_W) (sz : Nat) (av : List Value) : Array Value → State → Prop := va_Pc av (fun U => U.heap.size = sz ∧ va_P D vwCl W0 U.heap ∧ zK D tys U ∧ va_D (fun _ => True) W0)
def zQ (D : va_G) (tys : List (ClassId × FieldType)) (W0 : va_W) (av : List Value) : Array Value → State → Prop := va_Pc av (fun U => va_P D vwCl W0 U.heap ∧ zK D tys U)
def zB (D : va_G) (A : Nat → Prop) {S : Type} (W1 : S → va_W) : S → State → Prop := fun u t => va_P D vwCl (W1 u) t.heap ∧ va_D A (W1 u)
/-- a method that answers an int and leaves the world W1 u -/
def zMi (l : Launch) (y : MethodName) (ws : List Cond) (rm : Room) (D : va_G) (tys : List (ClassId × FieldType)) (W0 : va_W) (av : List Value) {S : Type} (post : Int → S → Prop) (W1 : S → va_W) (mc ms : Nat) : Prop :=
  ∀ sz : Nat, Met l y ws rm (zP D tys W0 sz av) (va_Qi (fun r u => ∃ v : Int, r = iI v ∧ post v u) (zB D (va_A W0 sz) W1) (va_A W0 sz)) mc ms (va_A W0 sz)
def zMl (l : Launch) (y : MethodName) (ws : List Cond) (rm : Room) (D : va_G) (tys : List (ClassId × FieldType)) (W0 : va_W) (av : List Value) {S : Type} (post : Int → S → Prop) (W1 : S → va_W) (mc ms : Nat) : Prop :=
  ∀ sz : Nat, Met l y ws rm (zP D tys W0 sz av) (va_Ql (fun r u => ∃ v : Int, r = lI v ∧ post v u) (zB D (va_A W0 sz) W1) (va_A W0 sz)) mc ms (va_A W0 sz)
def zMv (l : Launch) (y : MethodName) (ws : List Cond) (rm : Room) (D : va_G) (tys : List (ClassId × FieldType)) (W0 : va_W) (av : List Value) {S : Type} (post : S → Prop) (W1 : S → va_W) (mc ms : Nat) : Prop :=
  ∀ sz : Nat, Met l y ws rm (zP D tys W0 sz av) (va_Qv post (zB D (va_A W0 sz) W1) (va_A W0 sz)) mc ms (va_A W0 sz)
/-- a method that only reads: its answer is v -/
def zPi (l : Launch) (y : MethodName) (ws : List Cond) (rm : Room) (D : va_G) (tys : List (ClassId × FieldType)) (W0 : va_W) (av : List Value) (v : Int) : Prop := Met l y ws rm (zQ D tys W0 av) (vp_Si (fun r => r = iI v)) 0 0 (fun _ => False)
def zPl (l : Launch) (y : MethodName) (ws : List Cond) (rm : Room) (D : va_G) (tys : List (ClassId × FieldType)) (W0 : va_W) (av : List Value) (v : Int) : Prop := Met l y ws rm (zQ D tys W0 av) (vp_Sl (fun r => r = lI v)) 0 0 (fun _ => False)
theorem zP.blind {D : va_G} {tys : List (ClassId × FieldType)} {W0 : va_W} {sz : Nat} {av : List Value} : FrameBlind (zP D tys W0 sz av) := fun a U g mk q => by
  obtain ⟨q0, q1, q2, q3, q4⟩ := q
  exact ⟨q0, q1, q2, q3.same (u := U) (U := U.calling g mk a) rfl, q4⟩
theorem zQ.blind {D : va_G} {tys : List (ClassId × FieldType)} {W0 : va_W} {av : List Value} : FrameBlind (zQ D tys W0 av) := fun a U g mk q => by
  obtain ⟨q0, q1, q2⟩ := q
  exact ⟨q0, q1, q2.same (u := U) (U := U.calling g mk a) rfl⟩
/-- what a method's body is given -/
def zEnt (p : Program) (s : State) (m : MethodId) (meth : Method) (c : Code) (cc : ByteArray) (maxL : Nat) (ret : Option FieldType) (cls nm : String) (ws : List Cond) (av : List Value) : Prop :=
  p.tables.exec = Jvm.exec ∧ c.code = cc ∧ meth.sig.returnType = ret ∧ c.maxLocals = maxL ∧ s.vm.findClass cls = some m.cls ∧ (∀ w ∈ ws, w.before av.toArray s = true) ∧ meth.locks = false ∧ meth.name = nm
theorem z_ofW {l : Launch} {y : MethodName} {ws ws' : List Cond} {rm : Room} {Pc : Array Value → State → Prop} {Qc : Array Value → State → Outcome → State → Prop} {mc ms : Nat} {free : Addr → Prop} {cc : ByteArray} {maxL : Nat} {ret : Option FieldType}
    (hy : plainFor y = true) (hw : ws = Cond.code y cc maxL ret :: ws')
    (body : ∀ p e s m args below meth c s₁, BodyLoose p l y (headSpec ws rm) cc maxL ret e s m args below meth c s₁ → c.maxLocals = maxL → Pc args s →
      W p l e (headSpec ws rm).room s m args below meth c s.heap [] 0 0 (MQ below Qc args s mc ms free) (entryFrame m args maxL)) : Met l y ws rm Pc Qc mc ms free := by
  refine MetFree.of_bodySF (code := cc) (maxLocals := maxL) (ret := ret) hy ?_ ?_
  · intro args s m h hn
    obtain ⟨meth, c, h1, h2, h3, h4, h5, h6, -, -⟩ := Cond.code_spec hn (atoms_spec (ws := ws) h _ (by rw [hw]; exact List.mem_cons_self))
    exact ⟨meth, c, h1, h2, h3, h4, h5, h6⟩
  · intro p e s m args below meth c s₁ B hml hP _
    have hh0 : s₁.heap = s.heap := by rw [B.state]; rfl
    obtain ⟨t, a1, o, b1, b2, b3⟩ := body p e s m args below meth c s₁ B hml hP s₁ hh0 (Stand.of_body B)
    exact ⟨t, o, a1, b1, b2, ⟨b3.1, b3.2⟩⟩
section ZENT
variable {l : Launch} {y : MethodName} {ws ws' : List Cond} {rm : Room} {D : va_G} {tys : List (ClassId × FieldType)} {W0 : va_W} {av : List Value} {S : Type} {W1 : S → va_W} {mc ms : Nat} {cc : ByteArray} {maxL : Nat} {ret : Option FieldType}
theorem zent_i {post : Int → S → Prop} (hy : plainFor y = true) (hw : ws = Cond.code y cc maxL ret :: ws') (hl : (lg_sl av).length ≤ maxL)
    (body : ∀ (p : Program) (e : Env) (s : State) (m : MethodId) (below : List Frame) (meth : Method) (c : Code) (A : Nat → Prop) (ls : Array Slot), zEnt p s m meth c cc maxL ret y.cls y.name ws av → va_P D vwCl W0 s.heap → zK D tys s → (∀ q : Nat, s.heap.size ≤ q → A q) → va_D A W0 → va_S A s.heap s.heap [] → lv_has ls maxL (lv_args 0 av) →
      W p l e rm s m av.toArray below meth c s.heap [] 0 0 (MQ below (va_Qi (fun r u => ∃ v : Int, r = iI v ∧ post v u) (zB D A W1) A) av.toArray s mc ms A) (F0 m 0 ls [])) : zMi l y ws rm D tys W0 av post W1 mc ms := by
  intro sz
  refine z_ofW (cc := cc) (maxL := maxL) (ret := ret) hy hw ?_
  intro p e s m args below meth c s₁ B hml hv
  obtain ⟨rfl, hsz, hP, hK, hD0⟩ := hv
  subst hsz
  have h := lv_entry av (n := maxL) hl
  rw [lg_entry_eq]
  exact body p e s m below meth c (va_A W0 s.heap.size) _ ⟨B.exec, B.bytes, B.returns, hml, findClass_of_methodNamed B.named, atoms_spec (ws := ws) B.pre, B.notSynchronized, (name_of_methodNamed B.named B.method).1⟩ hP hK (fun q h => Or.inr h) hD0.self va_S.rf h
theorem zent_l {post : Int → S → Prop} (hy : plainFor y = true) (hw : ws = Cond.code y cc maxL ret :: ws') (hl : (lg_sl av).length ≤ maxL)
    (body : ∀ (p : Program) (e : Env) (s : State) (m : MethodId) (below : List Frame) (meth : Method) (c : Code) (A : Nat → Prop) (ls : Array Slot), zEnt p s m meth c cc maxL ret y.cls y.name ws av → va_P D vwCl W0 s.heap → zK D tys s → (∀ q : Nat, s.heap.size ≤ q → A q) → va_D A W0 → va_S A s.heap s.heap [] → lv_has ls maxL (lv_args 0 av) →
      W p l e rm s m av.toArray below meth c s.heap [] 0 0 (MQ below (va_Ql (fun r u => ∃ v : Int, r = lI v ∧ post v u) (zB D A W1) A) av.toArray s mc ms A) (F0 m 0 ls [])) : zMl l y ws rm D tys W0 av post W1 mc ms := by
  intro sz
  refine z_ofW (cc := cc) (maxL := maxL) (ret := ret) hy hw ?_
  intro p e s m args below meth c s₁ B hml hv
  obtain ⟨rfl, hsz, hP, hK, hD0⟩ := hv
  subst hsz
  have h := lv_entry av (n := maxL) hl
  rw [lg_entry_eq]
  exact body p e s m below meth c (va_A W0 s.heap.size) _ ⟨B.exec, B.bytes, B.returns, hml, findClass_of_methodNamed B.named, atoms_spec (ws := ws) B.pre, B.notSynchronized, (name_of_methodNamed B.named B.method).1⟩ hP hK (fun q h => Or.inr h) hD0.self va_S.rf h
theorem zent_v {post : S → Prop} (hy : plainFor y = true) (hw : ws = Cond.code y cc maxL ret :: ws') (hl : (lg_sl av).length ≤ maxL)
    (body : ∀ (p : Program) (e : Env) (s : State) (m : MethodId) (below : List Frame) (meth : Method) (c : Code) (A : Nat → Prop) (ls : Array Slot), zEnt p s m meth c cc maxL ret y.cls y.name ws av → va_P D vwCl W0 s.heap → zK D tys s → (∀ q : Nat, s.heap.size ≤ q → A q) → va_D A W0 → va_S A s.heap s.heap [] → lv_has ls maxL (lv_args 0 av) →
      W p l e rm s m av.toArray below meth c s.heap [] 0 0 (MQ below (va_Qv post (zB D A W1) A) av.toArray s mc ms A) (F0 m 0 ls [])) : zMv l y ws rm D tys W0 av post W1 mc ms := by
  intro sz
  refine z_ofW (cc := cc) (maxL := maxL) (ret := ret) hy hw ?_
  intro p e s m args below meth c s₁ B hml hv
  obtain ⟨rfl, hsz, hP, hK, hD0⟩ := hv
  subst hsz
  have h := lv_entry av (n := maxL) hl
  rw [lg_entry_eq]
  exact body p e s m below meth c (va_A W0 s.heap.size) _ ⟨B.exec, B.bytes, B.returns, hml, findClass_of_methodNamed B.named, atoms_spec (ws := ws) B.pre, B.notSynchronized, (name_of_methodNamed B.named B.method).1⟩ hP hK (fun q h => Or.inr h) hD0.self va_S.rf h
theorem zent_pi {v : Int} (hy : plainFor y = true) (hw : ws = Cond.code y cc maxL ret :: ws') (hl : (lg_sl av).length ≤ maxL)
    (body : ∀ (p : Program) (e : Env) (s : State) (m : MethodId) (below : List Frame) (meth : Method) (c : Code) (ls : Array Slot), zEnt p s m meth c cc maxL ret y.cls y.name ws av → va_P D vwCl W0 s.heap → zK D tys s → lv_has ls maxL (lv_args 0 av) →
      W p l e rm s m av.toArray below meth c s.heap [] 0 0 (MQ below (vp_Si (fun r => r = iI v)) av.toArray s 0 0 (fun _ => False)) (F0 m 0 ls [])) : zPi l y ws rm D tys W0 av v := by
  refine z_ofW (cc := cc) (maxL := maxL) (ret := ret) hy hw ?_
  intro p e s m args below meth c s₁ B hml hv
  obtain ⟨rfl, hP, hK⟩ := hv
  have h := lv_entry av (n := maxL) hl
  rw [lg_entry_eq]
  exact body p e s m below meth c _ ⟨B.exec, B.bytes, B.returns, hml, findClass_of_methodNamed B.named, atoms_spec (ws := ws) B.pre, B.notSynchronized, (name_of_methodNamed B.named B.method).1⟩ hP hK h
theorem zent_pl {v : Int} (hy : plainFor y = true) (hw : ws = Cond.code y cc maxL ret :: ws') (hl : (lg_sl av).length ≤ maxL)
    (body : ∀ (p : Program) (e : Env) (s : State) (m : MethodId) (below : List Frame) (meth : Method) (c : Code) (ls : Array Slot), zEnt p s m meth c cc maxL ret y.cls y.name ws av → va_P D vwCl W0 s.heap → zK D tys s → lv_has ls maxL (lv_args 0 av) →
      W p l e rm s m av.toArray below meth c s.heap [] 0 0 (MQ below (vp_Sl (fun r => r = lI v)) av.toArray s 0 0 (fun _ => False)) (F0 m 0 ls [])) : zPl l y ws rm D tys W0 av v := by
  refine z_ofW (cc := cc) (maxL := maxL) (ret := ret) hy hw ?_
  intro p e s m args below meth c s₁ B hml hv
  obtain ⟨rfl, hP, hK⟩ := hv
  have h := lv_entry av (n := maxL) hl
  rw [lg_entry_eq]
  exact body p e s m below meth c _ ⟨B.exec, B.bytes, B.returns, hml, findClass_of_methodNamed B.named, atoms_spec (ws := ws) B.pre, B.notSynchronized, (name_of_methodNamed B.named B.method).1⟩ hP hK h
end ZENT
theorem z_fm {α β : Type} {g : α → Option β} {is : List α} {l : List β} (h : is.map g = l.map some) : is.filterMap g = l := by
  have e : is.filterMap g = (is.map g).filterMap id := by rw [List.filterMap_map]; rfl
  rw [e, h, List.filterMap_map]
  show l.filterMap (fun a => some a) = l
  exact List.filterMap_some
section ZENDS
variable {p : Program} {l : Launch} {e : Env} {R : Room} {s : State} {m : MethodId} {args : Array Value} {below : List Frame} {meth : Method} {c : Code} {H : Heap} {locs : List Loc} {cells slots : Nat} {Q : State → Prop} {cc : ByteArray} {pc : Nat} {ls : Array Slot} {rest : List Value} {D : va_G} {tys : List (ClassId × FieldType)} {ws : va_W} {A : Nat → Prop} {S : Type} {W1 : S → va_W}
theorem zret_i {post : Int → S → Prop} {v : Int} (u : S) (hx : p.tables.exec = Jvm.exec) (hb : c.code = cc) (hr : meth.sig.returnType = some .int) (hP : va_P D vwCl (W1 u) H) (hD : va_D A (W1 u)) (hS : va_S A s.heap H locs) (hlocks : meth.locks = false) (d : decode cc pc = .ok (.ireturn, 1)) (hpost : post v u) :
    W p l e R s m args below meth c H locs cells slots (MQ below (va_Qi (fun r u => ∃ v : Int, r = iI v ∧ post v u) (zB D A W1) A) args s cells slots A) (F0 m pc ls [.int (iI v)]) :=
  W.iret hx hb hr (fun t ht _ => ⟨⟨iI v, u, rfl, ⟨v, rfl, hpost⟩, by rw [ht]; exact hP, hD⟩, hS.F ht⟩) hS.2.2 d hlocks
theorem zret_z {post : Int → S → Prop} {v : Int} (u : S) (hx : p.tables.exec = Jvm.exec) (hb : c.code = cc) (hr : meth.sig.returnType = some .boolean) (hP : va_P D vwCl (W1 u) H) (hD : va_D A (W1 u)) (hS : va_S A s.heap H locs) (hlocks : meth.locks = false) (d : decode cc pc = .ok (.ireturn, 1)) (hv : v = 0 ∨ v = 1) (hpost : post v u) :
    W p l e R s m args below meth c H locs cells slots (MQ below (va_Qi (fun r u => ∃ v : Int, r = iI v ∧ post v u) (zB D A W1) A) args s cells slots A) (F0 m pc ls [.int (iI v)]) :=
  W.zret hx hb hr (nr_b hv) (fun t ht _ => ⟨⟨iI v, u, rfl, ⟨v, rfl, hpost⟩, by rw [ht]; exact hP, hD⟩, hS.F ht⟩) hS.2.2 d hlocks
theorem zret_l {post : Int → S → Prop} {v : Int} (u : S) (hx : p.tables.exec = Jvm.exec) (hb : c.code = cc) (hr : meth.sig.returnType = some .long) (hP : va_P D vwCl (W1 u) H) (hD : va_D A (W1 u)) (hS : va_S A s.heap H locs) (hlocks : meth.locks = false) (d : decode cc pc = .ok (.lreturn, 1)) (hpost : post v u) :
    W p l e R s m args below meth c H locs cells slots (MQ below (va_Ql (fun r u => ∃ v : Int, r = lI v ∧ post v u) (zB D A W1) A) args s cells slots A) (F0 m pc ls [.long (lI v)]) :=
  W.lret hx hb hr (fun t ht _ => ⟨⟨lI v, u, rfl, ⟨v, rfl, hpost⟩, by rw [ht]; exact hP, hD⟩, hS.F ht⟩) hS.2.2 d hlocks
theorem zret_v {post : S → Prop} (u : S) (hx : p.tables.exec = Jvm.exec) (hb : c.code = cc) (hr : meth.sig.returnType = none) (hP : va_P D vwCl (W1 u) H) (hD : va_D A (W1 u)) (hS : va_S A s.heap H locs) (hlocks : meth.locks = false) (d : decode cc pc = .ok (.return_, 1)) (hpost : post u) :
    W p l e R s m args below meth c H locs cells slots (MQ below (va_Qv post (zB D A W1) A) args s cells slots A) (F0 m pc ls []) :=
  W.vret hx hb hr (fun t ht _ => ⟨⟨u, rfl, hpost, by rw [ht]; exact hP, hD⟩, hS.F ht⟩) hS.2.2 d hlocks
theorem zret_pi {v w : Int} (hx : p.tables.exec = Jvm.exec) (hb : c.code = cc) (hr : meth.sig.returnType = some .int) (hlocks : meth.locks = false) (d : decode cc pc = .ok (.ireturn, 1)) (hv : v = w) :
    W p l e R s m args below meth c s.heap [] 0 0 (MQ below (vp_Si (fun r => r = iI w)) args s 0 0 (fun _ => False)) (F0 m pc ls [.int (iI v)]) :=
  W.iret hx hb hr (fun t ht _ => ⟨iI v, rfl, by rw [hv], ht⟩) (fun _ h => by cases h) d hlocks
theorem zret_pz {v w : Int} (hx : p.tables.exec = Jvm.exec) (hb : c.code = cc) (hr : meth.sig.returnType = some .boolean) (hlocks : meth.locks = false) (d : decode cc pc = .ok (.ireturn, 1)) (h01 : v = 0 ∨ v = 1) (hv : v = w) :
    W p l e R s m args below meth c s.heap [] 0 0 (MQ below (vp_Si (fun r => r = iI w)) args s 0 0 (fun _ => False)) (F0 m pc ls [.int (iI v)]) :=
  W.zret hx hb hr (nr_b h01) (fun t ht _ => ⟨iI v, rfl, by rw [hv], ht⟩) (fun _ h => by cases h) d hlocks
theorem zret_pl {v w : Int} (hx : p.tables.exec = Jvm.exec) (hb : c.code = cc) (hr : meth.sig.returnType = some .long) (hlocks : meth.locks = false) (d : decode cc pc = .ok (.lreturn, 1)) (hv : v = w) :
    W p l e R s m args below meth c s.heap [] 0 0 (MQ below (vp_Sl (fun r => r = lI w)) args s 0 0 (fun _ => False)) (F0 m pc ls [.long (lI v)]) :=
  W.lret hx hb hr (fun t ht _ => ⟨lI v, rfl, by rw [hv], ht⟩) (fun _ h => by cases h) d hlocks
variable {a : Addr} {H0 : Heap}
theorem za_ld (hx : p.tables.exec = Jvm.exec) (hb : c.code = cc) (hK : zK D tys s) (hP : va_P D vwCl ws H) (q0 t0 : Nat) {cA : ClassId} {n : Nat} {f : Int → Int} {i : Int} (ha : ws[q0]? = some (a, zA cA n f)) (ht : tys[t0]? = some (cA, .int)) (hi : 0 ≤ i ∧ i < n) (hn : n ≤ 2147483647) (d : decode cc pc = .ok (.iaload, 1))
    (k : W p l e R s m args below meth c H locs cells slots Q (F0 m (pc + 1) ls (.int (iI (f i)) :: rest))) : W p l e R s m args below meth c H locs cells slots Q (F0 m pc ls (.int (iI i) :: .ref a :: rest)) :=
  va_iald hx hb hK.1 hP q0 t0 ha ht (iI_in hi hn) d (by rw [aI_at hi.1 (by omega)]; exact k)
theorem za_zld (hx : p.tables.exec = Jvm.exec) (hb : c.code = cc) (hK : zK D tys s) (hP : va_P D vwCl ws H) (q0 t0 : Nat) {cA : ClassId} {n : Nat} {f : Int → Int} {i : Int} (ha : ws[q0]? = some (a, zA cA n f)) (ht : tys[t0]? = some (cA, .boolean)) (hi : 0 ≤ i ∧ i < n) (hn : n ≤ 2147483647) (d : decode cc pc = .ok (.baload, 1))
    (k : W p l e R s m args below meth c H locs cells slots Q (F0 m (pc + 1) ls (.int (iI (f i)) :: rest))) : W p l e R s m args below meth c H locs cells slots Q (F0 m pc ls (.int (iI i) :: .ref a :: rest)) :=
  va_zald hx hb hK.1 hP q0 t0 ha ht (iI_in hi hn) d (by rw [aI_at hi.1 (by omega)]; exact k)
theorem za_lld (hx : p.tables.exec = Jvm.exec) (hb : c.code = cc) (hK : zK D tys s) (hP : va_P D vwCl ws H) (q0 t0 : Nat) {cA : ClassId} {n : Nat} {f : Int → Int} {i : Int} (ha : ws[q0]? = some (a, zAL cA n f)) (ht : tys[t0]? = some (cA, .long)) (hi : 0 ≤ i ∧ i < n) (hn : n ≤ 2147483647) (d : decode cc pc = .ok (.laload, 1))
    (k : W p l e R s m args below meth c H locs cells slots Q (F0 m (pc + 1) ls (.long (lI (f i)) :: rest))) : W p l e R s m args below meth c H locs cells slots Q (F0 m pc ls (.int (iI i) :: .ref a :: rest)) :=
  va_lald hx hb hK.1 hP q0 t0 ha ht (iI_in hi hn) d (by rw [aL_at hi.1 (by omega)]; exact k)
theorem za_st (hx : p.tables.exec = Jvm.exec) (hb : c.code = cc) (hK : zK D tys s) (hP : va_P D vwCl ws H) (hD : va_D A ws) (hS : va_S A H0 H locs) (q0 t0 : Nat) {cA : ClassId} {n : Nat} {f : Int → Int} {i x : Int} (ha : ws[q0]? = some (a, zA cA n f)) (ht : tys[t0]? = some (cA, .int)) (hi : 0 ≤ i ∧ i < n) (hn : n ≤ 2147483647) (d : decode cc pc = .ok (.iastore, 1))
    (k : ∀ (H1 : Heap) (locs1 : List Loc), va_P D vwCl (ws.set q0 (a, zA cA n (uZ f i x))) H1 → va_D A (ws.set q0 (a, zA cA n (uZ f i x))) → va_S A H0 H1 locs1 → W p l e R s m args below meth c H1 locs1 cells slots Q (F0 m (pc + 1) ls rest)) : W p l e R s m args below meth c H locs cells slots Q (F0 m pc ls (.int (iI x) :: .int (iI i) :: .ref a :: rest)) :=
  va_iast hx hb hK.1 hP hD hS q0 t0 ha ht (iI_in hi hn) d (fun H1 locs1 h1 h2 h3 => by rw [aI_up hi.1 (by omega)] at h1 h2; exact k H1 locs1 h1 h2 h3)
theorem za_zst (hx : p.tables.exec = Jvm.exec) (hb : c.code = cc) (hK : zK D tys s) (hP : va_P D vwCl ws H) (hD : va_D A ws) (hS : va_S A H0 H locs) (q0 t0 : Nat) {cA : ClassId} {n : Nat} {f : Int → Int} {i x : Int} (ha : ws[q0]? = some (a, zA cA n f)) (ht : tys[t0]? = some (cA, .boolean)) (hi : 0 ≤ i ∧ i < n) (hn : n ≤ 2147483647) (hv : x = 0 ∨ x = 1) (d : decode cc pc = .ok (.bastore, 1))
    (k : ∀ (H1 : Heap) (locs1 : List Loc), va_P D vwCl (ws.set q0 (a, zA cA n (uZ f i x))) H1 → va_D A (ws.set q0 (a, zA cA n (uZ f i x))) → va_S A H0 H1 locs1 → W p l e R s m args below meth c H1 locs1 cells slots Q (F0 m (pc + 1) ls rest)) : W p l e R s m args below meth c H locs cells slots Q (F0 m pc ls (.int (iI x) :: .int (iI i) :: .ref a :: rest)) :=
  va_zast hx hb hK.1 hP hD hS q0 t0 ha ht (iI_in hi hn) d (fun H1 locs1 h1 h2 h3 => by rw [vp_nb hv, aI_up hi.1 (by omega)] at h1 h2; exact k H1 locs1 h1 h2 h3)
theorem za_lst (hx : p.tables.exec = Jvm.exec) (hb : c.code = cc) (hK : zK D tys s) (hP : va_P D vwCl ws H) (hD : va_D A ws) (hS : va_S A H0 H locs) (q0 t0 : Nat) {cA : ClassId} {n : Nat} {f : Int → Int} {i x : Int} (ha : ws[q0]? = some (a, zAL cA n f)) (ht : tys[t0]? = some (cA, .long)) (hi : 0 ≤ i ∧ i < n) (hn : n ≤ 2147483647) (d : decode cc pc = .ok (.lastore, 1))
    (k : ∀ (H1 : Heap) (locs1 : List Loc), va_P D vwCl (ws.set q0 (a, zAL cA n (uZ f i x))) H1 → va_D A (ws.set q0 (a, zAL cA n (uZ f i x))) → va_S A H0 H1 locs1 → W p l e R s m args below meth c H1 locs1 cells slots Q (F0 m (pc + 1) ls rest)) : W p l e R s m args below meth c H locs cells slots Q (F0 m pc ls (.long (lI x) :: .int (iI i) :: .ref a :: rest)) :=
  va_last hx hb hK.1 hP hD hS q0 t0 ha ht (iI_in hi hn) d (fun H1 locs1 h1 h2 h3 => by rw [aL_up hi.1 (by omega)] at h1 h2; exact k H1 locs1 h1 h2 h3)
theorem za_len (hx : p.tables.exec = Jvm.exec) (hb : c.code = cc) (hK : zK D tys s) (hP : va_P D vwCl ws H) (q0 t0 : Nat) {cA : ClassId} {n : Nat} {f : Int → Int} {ty : FieldType} (ha : ws[q0]? = some (a, zA cA n f)) (ht : tys[t0]? = some (cA, ty)) (d : decode cc pc = .ok (.arraylength, 1))
    (k : W p l e R s m args below meth c H locs cells slots Q (F0 m (pc + 1) ls (.int (iI (n : Int)) :: rest))) : W p l e R s m args below meth c H locs cells slots Q (F0 m pc ls (.ref a :: rest)) :=
  va_alen hx hb hK.1 hP q0 t0 ha ht (v := iI (n : Int)) (by show Int32.ofNat n = iI (n : Int); exact (Int32.ofInt_eq_ofNat).symm) d k
/-- a call that only reads -/
theorem zc_pi {v : Int} {st0 : List Value} {aa : Array Value} (hr : va_Run p l e R s m args below meth c H locs cells slots 0 0 (F0 m pc ls st0) rest (vp_Si (fun r => r = iI v) aa) (fun _ => False))
    (k : W p l e R s m args below meth c H locs cells slots Q (F0 m (pc + 3) ls (.int (iI v) :: rest))) : W p l e R s m args below meth c H locs cells slots Q (F0 m pc ls st0) := by
  intro T hT X
  obtain ⟨w, st₀, t, T', L, h0, X', hL, e1, e2, ⟨r, hv, rfl, hh⟩, st⟩ := hr T hT X
  cases hv
  obtain ⟨t2, a1, b1⟩ := k T' (by rw [e1, hh, h0]) (Stand.forget X' (fun q h => (hL q h).elim))
  exact ⟨t2, st t2 a1, b1⟩
theorem zc_pl {v : Int} {st0 : List Value} {aa : Array Value} (hr : va_Run p l e R s m args below meth c H locs cells slots 0 0 (F0 m pc ls st0) rest (vp_Sl (fun r => r = lI v) aa) (fun _ => False))
    (k : W p l e R s m args below meth c H locs cells slots Q (F0 m (pc + 3) ls (.long (lI v) :: rest))) : W p l e R s m args below meth c H locs cells slots Q (F0 m pc ls st0) := by
  intro T hT X
  obtain ⟨w, st₀, t, T', L, h0, X', hL, e1, e2, ⟨r, hv, rfl, hh⟩, st⟩ := hr T hT X
  cases hv
  obtain ⟨t2, a1, b1⟩ := k T' (by rw [e1, hh, h0]) (Stand.forget X' (fun q h => (hL q h).elim))
  exact ⟨t2, st t2 a1, b1⟩
/-- a call that changes its world W0, which lies at the places isC of the caller's world; what lies at isR stays -/
theorem zc_i {post : Int → S → Prop} {mc ms : Nat} {W0 : va_W} {st0 : List Value} {aa : Array Value} (hr : va_Run p l e R s m args below meth c H locs cells slots mc ms (F0 m pc ls st0) rest (va_Qi (fun r u => ∃ v : Int, r = iI v ∧ post v u) (zB D (va_A W0 H.size) W1) (va_A W0 H.size) aa) (va_A W0 H.size))
    (hP : va_P D vwCl ws H) (hD : va_D A ws) (hS : va_S A H0 H locs) (hA : ∀ q : Nat, H0.size ≤ q → A q) (isC isR : List Nat) (hC : isC.map (fun i => ws[i]?) = W0.map some) (hR : isR.map (fun i => ws[i]?) = (isR.filterMap (fun i => ws[i]?)).map some) (hn : va_nd isR = true) (hdis : ∀ i ∈ isR, i ∉ isC)
    (k : ∀ (v : Int) (u : S) (H1 : Heap) (locs1 : List Loc), post v u → va_P D vwCl (isR.filterMap (fun i => ws[i]?) ++ W1 u) H1 → va_D A (isR.filterMap (fun i => ws[i]?) ++ W1 u) → va_S A H0 H1 locs1 → W p l e R s m args below meth c H1 locs1 (cells + mc) (slots + ms) Q (F0 m (pc + 3) ls (.int (iI v) :: rest))) : W p l e R s m args below meth c H locs cells slots Q (F0 m pc ls st0) := by
  have hF := va_free (wc := W0) hD hS hA isC hC
  refine va_calli hr hS (fun q _ h => hF q h) hF (fun r u t H1 locs1 ht hvm hw hB hz1 hk1 hS1 => ?_)
  obtain ⟨v, rfl, hw⟩ := hw
  obtain ⟨hP1, hD1⟩ := hB
  rw [ht] at hP1
  obtain ⟨hP2, hD2⟩ := va_join hP hD isC isR hC hR hn hdis hk1 hF hP1 hD1
  exact k v u H1 locs1 hw hP2 hD2 hS1
theorem zc_l {post : Int → S → Prop} {mc ms : Nat} {W0 : va_W} {st0 : List Value} {aa : Array Value} (hr : va_Run p l e R s m args below meth c H locs cells slots mc ms (F0 m pc ls st0) rest (va_Ql (fun r u => ∃ v : Int, r = lI v ∧ post v u) (zB D (va_A W0 H.size) W1) (va_A W0 H.size) aa) (va_A W0 H.size))
    (hP : va_P D vwCl ws H) (hD : va_D A ws) (hS : va_S A H0 H locs) (hA : ∀ q : Nat, H0.size ≤ q → A q) (isC isR : List Nat) (hC : isC.map (fun i => ws[i]?) = W0.map some) (hR : isR.map (fun i => ws[i]?) = (isR.filterMap (fun i => ws[i]?)).map some) (hn : va_nd isR = true) (hdis : ∀ i ∈ isR, i ∉ isC)
    (k : ∀ (v : Int) (u : S) (H1 : Heap) (locs1 : List Loc), post v u → va_P D vwCl (isR.filterMap (fun i => ws[i]?) ++ W1 u) H1 → va_D A (isR.filterMap (fun i => ws[i]?) ++ W1 u) → va_S A H0 H1 locs1 → W p l e R s m args below meth c H1 locs1 (cells + mc) (slots + ms) Q (F0 m (pc + 3) ls (.long (lI v) :: rest))) : W p l e R s m args below meth c H locs cells slots Q (F0 m pc ls st0) := by
  have hF := va_free (wc := W0) hD hS hA isC hC
  refine va_calll hr hS (fun q _ h => hF q h) hF (fun r u t H1 locs1 ht hvm hw hB hz1 hk1 hS1 => ?_)
  obtain ⟨v, rfl, hw⟩ := hw
  obtain ⟨hP1, hD1⟩ := hB
  rw [ht] at hP1
  obtain ⟨hP2, hD2⟩ := va_join hP hD isC isR hC hR hn hdis hk1 hF hP1 hD1
  exact k v u H1 locs1 hw hP2 hD2 hS1
theorem zc_v {post : S → Prop} {mc ms : Nat} {W0 : va_W} {st0 : List Value} {aa : Array Value} (hr : va_Run p l e R s m args below meth c H locs cells slots mc ms (F0 m pc ls st0) rest (va_Qv post (zB D (va_A W0 H.size) W1) (va_A W0 H.size) aa) (va_A W0 H.size))
    (hP : va_P D vwCl ws H) (hD : va_D A ws) (hS : va_S A H0 H locs) (hA : ∀ q : Nat, H0.size ≤ q → A q) (isC isR : List Nat) (hC : isC.map (fun i => ws[i]?) = W0.map some) (hR : isR.map (fun i => ws[i]?) = (isR.filterMap (fun i => ws[i]?)).map some) (hn : va_nd isR = true) (hdis : ∀ i ∈ isR, i ∉ isC)
    (k : ∀ (u : S) (H1 : Heap) (locs1 : List Loc), post u → va_P D vwCl (isR.filterMap (fun i => ws[i]?) ++ W1 u) H1 → va_D A (isR.filterMap (fun i => ws[i]?) ++ W1 u) → va_S A H0 H1 locs1 → W p l e R s m args below meth c H1 locs1 (cells + mc) (slots + ms) Q (F0 m (pc + 3) ls rest)) : W p l e R s m args below meth c H locs cells slots Q (F0 m pc ls st0) := by
  have hF := va_free (wc := W0) hD hS hA isC hC
  refine va_callv hr hS (fun q _ h => hF q h) hF (fun u t H1 locs1 ht hvm hw hB hz1 hk1 hS1 => ?_)
  obtain ⟨hP1, hD1⟩ := hB
  rw [ht] at hP1
  obtain ⟨hP2, hD2⟩ := va_join hP hD isC isR hC hR hn hdis hk1 hF hP1 hD1
  exact k u H1 locs1 hw hP2 hD2 hS1
theorem zpS {av : List Value} {W0 : va_W} (hK : zK D tys s) (hP : va_P D vwCl ws H) (hD : va_D A ws) (isC : List Nat) (hC : isC.map (fun i => ws[i]?) = W0.map some) (hnd : va_nd isC = true) : PreS s H (zP D tys W0 H.size av) av :=
  ⟨zP.blind, fun U hU hW => ⟨rfl, by rw [hU], by rw [hU]; exact hP.sub isC (z_fm hC), hK.warm hW, (hD.sub isC hnd hC).weaken (fun _ _ _ _ => trivial)⟩⟩
theorem zpV {C : String} {b : Addr} {As : List Value} {W0 : va_W} (hK : zK D tys s) (hP : va_P D vwCl ws H) (hD : va_D A ws) (isC : List Nat) (hC : isC.map (fun i => ws[i]?) = W0.map some) (hnd : va_nd isC = true) (q0 : Nat) {ci : Nat} {fs : List Value} {T : u_T} {N : Nat} (he : ws[q0]? = some (b, .inr (ci, fs))) (hc : vwCl[ci]? = some (C, T, N)) : PreV s H C b (zP D tys W0 H.size (.ref b :: As)) As :=
  ⟨zP.blind, va_recv hK.1 hP (q := (C, T, N)) hc he, fun U hU hW => ⟨rfl, by rw [hU], by rw [hU]; exact hP.sub isC (z_fm hC), hK.warm hW, (hD.sub isC hnd hC).weaken (fun _ _ _ _ => trivial)⟩⟩
theorem zqS {av : List Value} {W0 : va_W} (hK : zK D tys s) (hP : va_P D vwCl ws H) (isC : List Nat) (hC : isC.map (fun i => ws[i]?) = W0.map some) : PreS s H (zQ D tys W0 av) av :=
  ⟨zQ.blind, fun U hU hW => ⟨rfl, by rw [hU]; exact hP.sub isC (z_fm hC), hK.warm hW⟩⟩
theorem zqV {C : String} {b : Addr} {As : List Value} {W0 : va_W} (hK : zK D tys s) (hP : va_P D vwCl ws H) (isC : List Nat) (hC : isC.map (fun i => ws[i]?) = W0.map some) (q0 : Nat) {ci : Nat} {fs : List Value} {T : u_T} {N : Nat} (he : ws[q0]? = some (b, .inr (ci, fs))) (hc : vwCl[ci]? = some (C, T, N)) : PreV s H C b (zQ D tys W0 (.ref b :: As)) As :=
  ⟨zQ.blind, va_recv hK.1 hP (q := (C, T, N)) hc he, fun U hU hW => ⟨rfl, by rw [hU]; exact hP.sub isC (z_fm hC), hK.warm hW⟩⟩
end ZENDS
