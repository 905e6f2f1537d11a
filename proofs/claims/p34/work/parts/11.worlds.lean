abbrev zT (cI cJ cZ : ClassId) : List (ClassId × FieldType) := [(cI, .int), (cJ, .long), (cZ, .boolean)]
section ZMORE
variable {p : Program} {l : Launch} {e : Env} {R : Room} {s : State} {m : MethodId} {args : Array Value} {below : List Frame} {meth : Method} {c : Code} {H : Heap} {locs : List Loc} {cells slots : Nat} {Q : State → Prop} {cc : ByteArray} {pc : Nat} {ls : Array Slot} {rest : List Value}
theorem z_gen {Q0 : State → Prop} {g : JFrame} (k : ∀ Q : State → Prop, Q0 = Q → W p l e R s m args below meth c H locs cells slots Q g) : W p l e R s m args below meth c H locs cells slots Q0 g := k Q0 rfl
theorem zi_max (hx : p.tables.exec = Jvm.exec) (hb : c.code = cc) (hml : c.maxLocals = ls.size) {own : String} {index : Nat} (hown : s.vm.findClass own = some m.cls) (h1 : (Cond.methodLink own index Lib.Math.max.name).before args s = true) (h2 : (Cond.static Lib.Math.max.name).before args s = true) (h3 : (Cond.initialized "java/lang/Math").before args s = true) (h4 : (Cond.code Lib.Math.max.name Lib.Math.max.code 2 (some .int)).before args s = true)
    (h5 : 1 ≤ R.frames) (h6 : (rest.map fun v => v.category).sum + 13 ≤ R.locals) (h7 : cells ≤ R.cells) (h8 : slots ≤ R.slots) {a b : Int} (ha : zR a) (hb2 : zR b) (d : decode cc pc = .ok (.invokestatic index, 3))
    (k : W p l e R s m args below meth c H locs cells slots Q (F0 m (pc + 3) ls (.int (iI (max a b)) :: rest))) : W p l e R s m args below meth c H locs cells slots Q (F0 m pc ls (.int (iI b) :: .int (iI a) :: rest)) := by
  refine va_mmax hx hb hml hown h1 h2 h3 h4 h5 h6 h7 h8 d ?_
  have h := iI_lt ha hb2
  by_cases q : a < b
  · rw [if_pos (h.mpr q)]
    rw [Int.max_eq_right (by omega)] at k
    exact k
  · rw [if_neg (fun z => q (h.mp z))]
    rw [Int.max_eq_left (by omega)] at k
    exact k
theorem zi_min (hx : p.tables.exec = Jvm.exec) (hb : c.code = cc) (hml : c.maxLocals = ls.size) {own : String} {index : Nat} (hown : s.vm.findClass own = some m.cls) (h1 : (Cond.methodLink own index Lib.Math.min.name).before args s = true) (h2 : (Cond.static Lib.Math.min.name).before args s = true) (h3 : (Cond.initialized "java/lang/Math").before args s = true) (h4 : (Cond.code Lib.Math.min.name Lib.Math.min.code 2 (some .int)).before args s = true)
    (h5 : 1 ≤ R.frames) (h6 : (rest.map fun v => v.category).sum + 13 ≤ R.locals) (h7 : cells ≤ R.cells) (h8 : slots ≤ R.slots) {a b : Int} (ha : zR a) (hb2 : zR b) (d : decode cc pc = .ok (.invokestatic index, 3))
    (k : W p l e R s m args below meth c H locs cells slots Q (F0 m (pc + 3) ls (.int (iI (min a b)) :: rest))) : W p l e R s m args below meth c H locs cells slots Q (F0 m pc ls (.int (iI b) :: .int (iI a) :: rest)) := by
  refine va_mmin hx hb hml hown h1 h2 h3 h4 h5 h6 h7 h8 d ?_
  have h := iI_lt hb2 ha
  by_cases q : b < a
  · rw [if_pos (h.mpr q)]
    rw [Int.min_eq_right (by omega)] at k
    exact k
  · rw [if_neg (fun z => q (h.mp z))]
    rw [Int.min_eq_left (by omega)] at k
    exact k
theorem zl_max (hx : p.tables.exec = Jvm.exec) (hb : c.code = cc) (hml : c.maxLocals = ls.size) {own : String} {index : Nat} (hown : s.vm.findClass own = some m.cls) (h1 : (Cond.methodLink own index Lib.MathLoose.max_long.x).before args s = true) (h2 : (Cond.static Lib.MathLoose.max_long.x).before args s = true) (h3 : (Cond.initialized "java/lang/Math").before args s = true) (h4 : (Cond.code Lib.MathLoose.max_long.x Lib.MathLoose.max_long.code 4 (some .long)).before args s = true)
    (h5 : 1 ≤ R.frames) (h6 : (rest.map fun v => v.category).sum + 15 ≤ R.locals) (h7 : cells ≤ R.cells) (h8 : slots ≤ R.slots) {a b : Int} (ha : zRL a) (hb2 : zRL b) (d : decode cc pc = .ok (.invokestatic index, 3))
    (k : W p l e R s m args below meth c H locs cells slots Q (F0 m (pc + 3) ls (.long (lI (max a b)) :: rest))) : W p l e R s m args below meth c H locs cells slots Q (F0 m pc ls (.long (lI b) :: .long (lI a) :: rest)) := by
  refine va_mmax_long hx hb hml hown h1 h2 h3 h4 h5 h6 h7 h8 d ?_
  have h := lI_lt hb2 ha
  by_cases q : b < a
  · rw [if_pos (h.mpr q)]
    rw [Int.max_eq_left (by omega)] at k
    exact k
  · rw [if_neg (fun z => q (h.mp z))]
    rw [Int.max_eq_right (by omega)] at k
    exact k
theorem zl_min (hx : p.tables.exec = Jvm.exec) (hb : c.code = cc) (hml : c.maxLocals = ls.size) {own : String} {index : Nat} (hown : s.vm.findClass own = some m.cls) (h1 : (Cond.methodLink own index Lib.MathLoose.min_long.x).before args s = true) (h2 : (Cond.static Lib.MathLoose.min_long.x).before args s = true) (h3 : (Cond.initialized "java/lang/Math").before args s = true) (h4 : (Cond.code Lib.MathLoose.min_long.x Lib.MathLoose.min_long.code 4 (some .long)).before args s = true)
    (h5 : 1 ≤ R.frames) (h6 : (rest.map fun v => v.category).sum + 15 ≤ R.locals) (h7 : cells ≤ R.cells) (h8 : slots ≤ R.slots) {a b : Int} (ha : zRL a) (hb2 : zRL b) (d : decode cc pc = .ok (.invokestatic index, 3))
    (k : W p l e R s m args below meth c H locs cells slots Q (F0 m (pc + 3) ls (.long (lI (min a b)) :: rest))) : W p l e R s m args below meth c H locs cells slots Q (F0 m pc ls (.long (lI b) :: .long (lI a) :: rest)) := by
  refine va_mmin_long hx hb hml hown h1 h2 h3 h4 h5 h6 h7 h8 d ?_
  have h := lI_lt hb2 ha
  by_cases q : b < a
  · rw [if_pos (h.mpr q)]
    rw [Int.min_eq_right (by omega)] at k
    exact k
  · rw [if_neg (fun z => q (h.mp z))]
    rw [Int.min_eq_left (by omega)] at k
    exact k
theorem z_neg (z : Int32) : z < 0 ↔ z.toBitVec.msb = true := by
  rw [Int32.lt_iff_toInt_lt, BitVec.msb_eq_toInt, decide_eq_true_iff, show (0 : Int32).toInt = 0 from rfl]
  exact Iff.rfl
theorem z_xor {x y : Int} (hx : zR x) (hy : 0 < y ∧ y ≤ 2147483647) : (iI x ^^^ iI y < 0) ↔ x < 0 := by
  have h1 := z_neg (iI x)
  have h2 := z_neg (iI y)
  rw [show (0 : Int32) = iI 0 from rfl, iI_lt hx (by decide)] at h1
  rw [show (0 : Int32) = iI 0 from rfl, iI_lt (by omega) (by decide)] at h2
  have h3 : (iI y).toBitVec.msb = false := by
    cases h : (iI y).toBitVec.msb
    · rfl
    · have := h2.mpr h
      omega
  rw [z_neg, Int32.toBitVec_xor, BitVec.msb_xor, h3, Bool.xor_false]
  exact h1.symm
theorem zi_xge (hx : p.tables.exec = Jvm.exec) (hb : c.code = cc) {a b off : Int} {tgt : Nat} (ha : zR a) (hb2 : 0 < b ∧ b ≤ 2147483647) (d : decode cc pc = .ok (.ixor, 1)) (d2 : decode cc (pc + 1) = .ok (.ifCond .ge off, 3)) (ht : ((pc + 1 : Nat) : Int) + off = (tgt : Int)) (kt : 0 ≤ a → W p l e R s m args below meth c H locs cells slots Q (F0 m tgt ls rest)) (kf : a < 0 → W p l e R s m args below meth c H locs cells slots Q (F0 m (pc + 4) ls rest)) : W p l e R s m args below meth c H locs cells slots Q (F0 m pc ls (.int (iI b) :: .int (iI a) :: rest)) := by
  refine lv_ixor hx hb d ?_
  refine lv_if_ge hx hb d2 ht (fun q => kt ?_) (fun q => kf ?_)
  · rcases Int.lt_or_le a 0 with h | h
    · have h4 := (z_xor ha hb2).mpr h
      exact absurd q (by rw [Int32.not_le]; exact h4)
    · exact h
  · exact (z_xor ha hb2).mp (by rw [Int32.not_le] at q; exact q)
theorem z_tm {x y : Int} (hy : 0 < y) (hx : x < 0) : x ≤ x.tdiv y * y ∧ x.tdiv y * y ≤ 0 := by
  have h1 : x.tdiv y = -((-x) / y) := by
    rw [← Int.tdiv_eq_ediv_of_nonneg (by omega), Int.neg_tdiv, Int.neg_neg]
  have h2 : (-x) / y * y ≤ -x := Int.ediv_mul_le _ (by omega)
  have h3 : 0 ≤ (-x) / y * y := Int.mul_nonneg (Int.ediv_nonneg (by omega) (by omega)) (by omega)
  rw [h1, Int.neg_mul]
  omega
theorem z_td {x y : Int} : x.tdiv y = x / y + if 0 ≤ x ∨ y ∣ x then 0 else y.sign := Int.tdiv_eq_ediv
theorem z_fd1 {x y : Int} (hy : 0 < y) (hx : x < 0) (h : x.tdiv y * y ≠ x) : x.tdiv y - 1 = x / y := by
  have hd : ¬ y ∣ x := fun ⟨k, hk⟩ => h (by rw [hk, Int.mul_tdiv_cancel_left _ (by omega), Int.mul_comm])
  rw [z_td, if_neg (fun z => z.elim (by omega) hd), Int.sign_eq_one_of_pos hy]
  omega
theorem z_fd2 {x y : Int} (hy : 0 < y) (h : x.tdiv y * y = x) : x.tdiv y = x / y := by
  have hd : y ∣ x := ⟨x.tdiv y, by rw [Int.mul_comm]; exact h.symm⟩
  rw [z_td, if_pos (Or.inr hd)]
  omega
/-! folds: upward, and downward -/
def fo {α : Type} (g : Int → α → α) (a : α) : Nat → α
  | 0 => a
  | n + 1 => g (n : Int) (fo g a n)
def foZ {α : Type} (g : Int → α → α) (a : α) (k : Int) : α := fo g a k.toNat
theorem foZ_0 {α : Type} (g : Int → α → α) (a : α) : foZ g a 0 = a := rfl
theorem foZ_s {α : Type} (g : Int → α → α) (a : α) {k : Int} (h : 0 ≤ k) : foZ g a (k + 1) = g k (foZ g a k) := by
  unfold foZ
  rw [show (k + 1).toNat = k.toNat + 1 by omega]
  show g (k.toNat : Int) _ = _
  rw [Int.toNat_of_nonneg h]
theorem foZ_p {α : Type} (g : Int → α → α) (a : α) {k : Int} (h : 0 < k) : foZ g a k = g (k - 1) (foZ g a (k - 1)) := by
  have := foZ_s g a (k := k - 1) (by omega)
  rw [show k - 1 + 1 = k by omega] at this
  exact this
theorem foZ_n {α : Type} (g : Int → α → α) (a : α) {k : Int} (h : k ≤ 0) : foZ g a k = a := by
  unfold foZ
  rw [show k.toNat = 0 by omega]
  rfl
theorem foZ_i {α : Type} {g : Int → α → α} {a : α} (P : Int → α → Prop) (h0 : P 0 a) (hs : ∀ (k : Int) (x : α), 0 ≤ k → P k x → P (k + 1) (g k x)) {k : Int} (h : 0 ≤ k) : P k (foZ g a k) := by
  obtain ⟨n, rfl⟩ : ∃ n : Nat, k = (n : Int) := ⟨k.toNat, by omega⟩
  clear h
  induction n with
  | zero => exact h0
  | succ n ih =>
    rw [show ((n + 1 : Nat) : Int) = (n : Int) + 1 by omega, foZ_s _ _ (by omega)]
    exact hs _ _ (by omega) ih
theorem foZ_ib {α : Type} {g : Int → α → α} {a : α} {N : Int} (P : Int → α → Prop) (h0 : P 0 a) (hs : ∀ (k : Int) (x : α), 0 ≤ k → k < N → P k x → P (k + 1) (g k x)) {k : Int} (h : 0 ≤ k) (hN : k ≤ N) : P k (foZ g a k) :=
  foZ_i (fun k x => k ≤ N → P k x) (fun _ => h0) (fun k x h1 h2 h3 => hs k x h1 (by omega) (h2 (by omega))) h hN
theorem foZ_c {α : Type} {g g' : Int → α → α} {a : α} {k : Int} (h : ∀ (j : Int) (x : α), 0 ≤ j → j < k → g j x = g' j x) : foZ g a k = foZ g' a k := by
  rcases Int.lt_or_le 0 k with h0 | h0
  · exact foZ_ib (N := k) (fun j x => x = foZ g' a j) rfl (fun j x h1 h2 h3 => by rw [foZ_s _ _ h1, ← h3, h j x h1 h2]) (by omega) (Int.le_refl _)
  · rw [foZ_n _ _ h0, foZ_n _ _ h0]
def fd {α : Type} (g : Int → α → α) : Nat → α → α
  | 0, a => a
  | n + 1, a => fd g n (g ((n : Int) + 1) a)
def fdZ {α : Type} (g : Int → α → α) (k : Int) (a : α) : α := fd g k.toNat a
theorem fdZ_n {α : Type} (g : Int → α → α) {k : Int} (h : k ≤ 0) (a : α) : fdZ g k a = a := by
  unfold fdZ
  rw [show k.toNat = 0 by omega]
  rfl
theorem fdZ_s {α : Type} (g : Int → α → α) {k : Int} (h : 0 < k) (a : α) : fdZ g k a = fdZ g (k - 1) (g k a) := by
  unfold fdZ
  obtain ⟨n, rfl⟩ : ∃ n : Nat, k = (n : Int) + 1 := ⟨(k - 1).toNat, by omega⟩
  rw [show ((n : Int) + 1).toNat = n + 1 by omega, show ((n : Int) + 1 - 1).toNat = n by omega]
  rfl
theorem fdZ_i {α : Type} {g : Int → α → α} (P : α → Prop) {N : Int} (hs : ∀ (k : Int) (x : α), 0 < k → k ≤ N → P x → P (g k x)) {a : α} (h0 : P a) : P (fdZ g N a) := by
  have key : ∀ (n : Nat) (a : α), (n : Int) ≤ N → P a → P (fd g n a) := by
    intro n
    induction n with
    | zero => intro a _ h; exact h
    | succ n ih => intro a hn h; exact ih _ (by omega) (hs _ _ (by omega) (by omega) h)
  rcases Int.lt_or_le 0 N with h | h
  · exact key N.toNat a (by omega) h0
  · rw [fdZ_n _ h]; exact h0
theorem fd_fo {α : Type} {g : Int → α → α} (hc : ∀ i j x, g i (g j x) = g j (g i x)) : ∀ (n : Nat) (a : α), fd g n a = fo (fun j => g (j + 1)) a n := by
  have key : ∀ (n : Nat) (i : Int) (a : α), fd g n (g i a) = g i (fd g n a) := by
    intro n
    induction n with
    | zero => intro i a; rfl
    | succ n ih => intro i a; show fd g n (g _ (g i a)) = g i (fd g n (g _ a)); rw [hc, ih]
  intro n
  induction n with
  | zero => intro a; rfl
  | succ n ih => intro a; show fd g n (g _ a) = g _ (fo _ a n); rw [key, ih]
theorem fdZ_fo {α : Type} {g : Int → α → α} (hc : ∀ i j x, g i (g j x) = g j (g i x)) (k : Int) (a : α) : fdZ g k a = foZ (fun j => g (j + 1)) a k := fd_fo hc _ a
abbrev rgZ (f : Int → Int) (n M : Int) : Prop := ∀ k : Int, 0 ≤ k → k < n → 0 ≤ f k ∧ f k ≤ M
theorem rgZ_u {f : Int → Int} {n M i v : Int} (h : rgZ f n M) (hv : 0 ≤ v ∧ v ≤ M) : rgZ (uZ f i v) n M := fun k h1 h2 => by
  unfold uZ
  split
  · exact hv
  · exact h k h1 h2
end ZMORE
abbrev wRD (cI cJ cZ : ClassId) (h0 : Nat) (n : Nat) (f : Int → Int) : va_W := [(h0, zA cI n f)]
abbrev wNO (cI cJ cZ : ClassId)    : va_W := []
abbrev wSt (cI cJ cZ : ClassId) (h0 h1 h2 h3 : Nat)  (pw : Int → Int) (co : Int → Int) (la : Int → Int) : va_W := [(h0, .inr (6, [.ref h1, .ref h2, .ref h3])), (h1, zA cI 4 pw), (h2, zA cI 4 co), (h3, zA cI 4 la)]
abbrev wCl (cI cJ cZ : ClassId) (h0 h1 h2 h3 h4 h5 : Nat)  (cpar : Int → Int) (fr : Int → Int) (cdee : Int → Int) (use : Int → Int) (run : Int → Int) (nC : Int) : va_W := [(h0, .inr (1, [.ref h1, .ref h2, .ref h3, .ref h4, .ref h5, .int (iI nC)])), (h1, zA cI 8 cpar), (h2, zA cI 8 fr), (h3, zA cI 8 cdee), (h4, zA cI 8 use), (h5, zA cZ 8 run)]
abbrev wJb (cI cJ cZ : ClassId) (h0 h1 h2 h3 : Nat)  (due : Int → Int) (lat : Int → Int) (wk : Int → Int) (nJ : Int) : va_W := [(h0, .inr (3, [.ref h1, .ref h2, .ref h3, .int (iI nJ)])), (h1, zA cI 12 due), (h2, zA cI 12 lat), (h3, zA cI 12 wk)]
abbrev wId (cI cJ cZ : ClassId) (h0 h1 : Nat)  (len : Int → Int) (cnt : Int) : va_W := [(h0, .inr (2, [.ref h1, .int (iI cnt)])), (h1, zA cI 4 len)]
abbrev wLe (cI cJ cZ : ClassId) (h0 h1 : Nat)  (tin : Int → Int) (sp : Int) (pe : Int) (slp : Int) (late : Int) (srv : Int) : va_W := [(h0, .inr (4, [.ref h1, .long (lI sp), .long (lI pe), .int (iI slp), .int (iI late), .int (iI srv)])), (h1, zA cI 4 tin)]
abbrev wBa (cI cJ cZ : ClassId) (h0 h1 : Nat)  (hv : Int → Int) (av : Int) (bd : Int) (sh : Int) : va_W := [(h0, .inr (0, [.ref h1, .int (iI av), .int (iI bd), .int (iI sh)])), (h1, zA cI 24 hv)]
abbrev wPl (cI cJ cZ : ClassId) (h0 h1 h2 : Nat)  (sc : Int → Int) (lt : Int → Int) : va_W := [(h0, .inr (5, [.ref h1, .ref h2])), (h1, zAL cJ 402 sc), (h2, zAL cJ 402 lt)]
abbrev wPlJ (cI cJ cZ : ClassId) (h0 h1 h2 g0 g1 g2 g3 : Nat)  (sc : Int → Int) (lt : Int → Int) (due : Int → Int) (lat : Int → Int) (wk : Int → Int) (nJ : Int) : va_W := [(h0, .inr (5, [.ref h1, .ref h2])), (h1, zAL cJ 402 sc), (h2, zAL cJ 402 lt), (g0, .inr (3, [.ref g1, .ref g2, .ref g3, .int (iI nJ)])), (g1, zA cI 12 due), (g2, zA cI 12 lat), (g3, zA cI 12 wk)]
abbrev wPlJS (cI cJ cZ : ClassId) (h0 h1 h2 g0 g1 g2 g3 k0 k1 k2 k3 : Nat)  (sc : Int → Int) (lt : Int → Int) (due : Int → Int) (lat : Int → Int) (wk : Int → Int) (nJ : Int) (pw : Int → Int) (co : Int → Int) (la : Int → Int) : va_W := [(h0, .inr (5, [.ref h1, .ref h2])), (h1, zAL cJ 402 sc), (h2, zAL cJ 402 lt), (g0, .inr (3, [.ref g1, .ref g2, .ref g3, .int (iI nJ)])), (g1, zA cI 12 due), (g2, zA cI 12 lat), (g3, zA cI 12 wk), (k0, .inr (6, [.ref k1, .ref k2, .ref k3])), (k1, zA cI 4 pw), (k2, zA cI 4 co), (k3, zA cI 4 la)]
abbrev wP (cI cJ cZ : ClassId) (q : Nat → Nat)  (pw : Int → Int) (co : Int → Int) (la : Int → Int) (vo : Int → Int) (cpar : Int → Int) (fr : Int → Int) (cdee : Int → Int) (use : Int → Int) (run : Int → Int) (nC : Int) (tdue : Int → Int) (tlat : Int → Int) (twk : Int → Int) (nT : Int) (edue : Int → Int) (elat : Int → Int) (ewk : Int → Int) (nE : Int) (len : Int → Int) (cnt : Int) (tin : Int → Int) (sp : Int) (pe : Int) (slp : Int) (late : Int) (srv : Int) (hv : Int → Int) (av : Int) (bd : Int) (sh : Int) (sc : Int → Int) (lt : Int → Int) (rule : Int) (now : Int) (st : Int) (asl : Int) (idl : Int → Int) (idn : Int) (par : Int → Int) (div : Int → Int) (dee : Int → Int) : va_W := [((q 0), .inr (7, [.ref (q 1), .ref (q 5), .ref (q 6), .ref (q 12), .ref (q 16), .ref (q 20), .ref (q 22), .ref (q 24), .ref (q 26), .int (iI rule), .int (iI now), .int (iI st), .int (iI asl)])), ((q 1), .inr (6, [.ref (q 2), .ref (q 3), .ref (q 4)])), ((q 2), zA cI 4 pw), ((q 3), zA cI 4 co), ((q 4), zA cI 4 la), ((q 5), zA cI 6 vo), ((q 6), .inr (1, [.ref (q 7), .ref (q 8), .ref (q 9), .ref (q 10), .ref (q 11), .int (iI nC)])), ((q 7), zA cI 8 cpar), ((q 8), zA cI 8 fr), ((q 9), zA cI 8 cdee), ((q 10), zA cI 8 use), ((q 11), zA cZ 8 run), ((q 12), .inr (3, [.ref (q 13), .ref (q 14), .ref (q 15), .int (iI nT)])), ((q 13), zA cI 12 tdue), ((q 14), zA cI 12 tlat), ((q 15), zA cI 12 twk), ((q 16), .inr (3, [.ref (q 17), .ref (q 18), .ref (q 19), .int (iI nE)])), ((q 17), zA cI 12 edue), ((q 18), zA cI 12 elat), ((q 19), zA cI 12 ewk), ((q 20), .inr (2, [.ref (q 21), .int (iI cnt)])), ((q 21), zA cI 4 len), ((q 22), .inr (4, [.ref (q 23), .long (lI sp), .long (lI pe), .int (iI slp), .int (iI late), .int (iI srv)])), ((q 23), zA cI 4 tin), ((q 24), .inr (0, [.ref (q 25), .int (iI av), .int (iI bd), .int (iI sh)])), ((q 25), zA cI 24 hv), ((q 26), .inr (5, [.ref (q 27), .ref (q 28)])), ((q 27), zAL cJ 402 sc), ((q 28), zAL cJ 402 lt)]
