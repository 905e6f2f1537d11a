/-! what holds at the head of the law's loop, and that each call keeps it -/
def SI (pw co la : Int → Int) : Prop := rgZ pw 4 1000 ∧ rgZ co 4 10000 ∧ rgZ la 4 100 ∧ co 0 = 0 ∧ la 0 = 0
def CI9 (vo cpar fr cdee use run : Int → Int) (nC : Int) (par div dee mrun : Int → Int) : Prop :=
  (1 ≤ nC ∧ nC ≤ 8) ∧ (∀ c : Int, 1 ≤ c → c < nC → 0 ≤ cpar c ∧ cpar c < c) ∧ rgZ use 8 9 ∧ tfZ run ∧ rgZ cdee 8 3 ∧ rgZ vo 6 3 ∧ (∀ c : Int, 1 ≤ c → c < nC → par c = cpar c) ∧ (∀ c : Int, 1 ≤ c → c < nC → dee c = cdee c) ∧ cdee 0 = 3 ∧ rgZ dee 8 3 ∧
  (∀ c : Int, nC ≤ c → c < 8 → use c = 0) ∧ (∀ c : Int, 0 ≤ c → c < nC → 0 ≤ fr c ∧ fr c ≤ 4800) ∧ (∀ c : Int, 0 ≤ c → c < nC → fr c = 4800 / fqN par div 8 c 1) ∧ (∀ c : Int, 1 ≤ c → c < nC → 1 ≤ div c ∧ div c ≤ 64) ∧ tfZ mrun
def DI (rule : Int) (hv len : Int → Int) (cnt : Int) (elat idl : Int → Int) (idn : Int) : Prop := (0 ≤ rule ∧ rule ≤ 2) ∧ rgZ hv 24 1000 ∧ idR len cnt idl idn ∧ rgZ elat 12 1000000
def PI9 (sc lt mB : Int → Int) : Prop := rgZ sc 402 1110000 ∧ rgZ lt 402 1000000000000 ∧ rgZ mB 401 100110000
theorem ti_mono {K K' st asl now nT nE sp pe slp late srv av bd sh idn : Int} {tdue tlat twk edue ewk tin idl : Int → Int} (h : K ≤ K') (hi : tiB K st asl now nT tdue tlat twk nE edue ewk sp pe tin slp late srv av bd sh idl idn) : tiB K' st asl now nT tdue tlat twk nE edue ewk sp pe tin slp late srv av bd sh idl idn := by
  obtain ⟨i1, i2, i3, i4⟩ := hi
  exact ⟨i1, i2, by omega, i4⟩
theorem sc_ti {pw la : Int → Int} {K st asl now nT nE sp pe slp late srv av bd sh idn st1 sp1 pe1 idn1 : Int} {tdue tlat twk edue ewk tin idl idl1 : Int → Int} (hpw : rgZ pw 4 1000) (hla : rgZ la 4 100) (hK : K ≤ 200000) (hi : tiB K st asl now nT tdue tlat twk nE edue ewk sp pe tin slp late srv av bd sh idl idn)
    (h : (st1, sp1, pe1, idl1, idn1) = scF pw la st asl now sp pe idl idn) : tiB K st1 asl now nT tdue tlat twk nE edue ewk sp1 pe1 tin slp late srv av bd sh idl1 idn1 := by
  obtain ⟨i1, i2, i3, i4, i5, i6, i7, i8, i9, i10, i11, i12, i13, i14, i15, i16, i17⟩ := hi
  have h1 := mul_r (hpw 0 (by omega) (by omega)) (hla st (by omega) (by omega))
  unfold scF at h
  split at h
  · simp only [Prod.mk.injEq] at h
    obtain ⟨rfl, rfl, rfl, rfl, rfl⟩ := h
    exact ⟨i1, i2, i3, i4, i5, i6, i7, i8, i9, i10, i11, i12, i13, i14, i15, i16, i17⟩
  · simp only [Prod.mk.injEq] at h
    obtain ⟨rfl, rfl, rfl, rfl, rfl⟩ := h
    have q1 := i11.2.2 ‹_›
    exact ⟨by omega, i2, i3, i4, i5, i6, i7, i8, i9, i10, ⟨by omega, by omega, fun z => absurd rfl z⟩, i12, i13, i14, i15, ⟨by omega, fun _ => by omega, fun z => absurd rfl z⟩, rgZ_u i17 (by omega)⟩
theorem it_i {pw co la hv : Int → Int} {rule dp : Int} (hpw : rgZ pw 4 1000) (hco : rgZ co 4 10000) (hla : rgZ la 4 100) (hdp : 0 ≤ dp ∧ dp ≤ 3) : ∀ (n : Nat) (K : Int) (t : TT), K + n ≤ 200000 → tiT K t → tiT (K + n) (itT pw co la hv rule dp n t) := by
  intro n
  induction n with
  | zero => intro K t _ h; show tiT (K + 0) t; rw [Int.add_zero]; exact h
  | succ n ih =>
    intro K t hK h
    have h1 : tiT (K + 1) (tkT pw co la hv rule dp t) := tk_i hpw hco hla hdp (by omega) h
    have h2 := ih (K + 1) _ (by omega) h1
    rw [show K + 1 + (n : Int) = K + ((n + 1 : Nat) : Int) by omega] at h2
    exact h2
theorem dp_eq {a b c : Int} (h : a = b) (h2 : b = c) : a = c := h.trans h2
/-- frequencies -/
def pdN (par div : Int → Int) : Nat → Int → Int
  | 0, _ => 1
  | n + 1, c => if c ≤ 0 then 1 else div c * pdN par div n (par c)
theorem pd_1 {par div : Int → Int} {nC : Int} (hp : ∀ c : Int, 1 ≤ c → c < nC → 0 ≤ par c ∧ par c < c) (hd : ∀ c : Int, 1 ≤ c → c < nC → 1 ≤ div c ∧ div c ≤ 64) : ∀ (n : Nat) (c : Int), c < nC → 1 ≤ pdN par div n c := by
  intro n
  induction n with
  | zero => intro c _; exact Int.le_refl _
  | succ n ih =>
    intro c hc
    unfold pdN
    split
    · exact Int.le_refl _
    · have h1 := hp c (by omega) hc
      have h2 := hd c (by omega) hc
      have h3 := ih (par c) (by omega)
      have h4 : 1 * 1 ≤ div c * pdN par div n (par c) := Int.mul_le_mul h2.1 h3 (by omega) (by omega)
      omega
theorem cp_m {x y : Int} (hx : 1 ≤ x) (hy : 1 ≤ y) : cpF (cpF x * y) = cpF (x * y) := by
  have h1 : x * 1 ≤ x * y := Int.mul_le_mul_of_nonneg_left hy (by omega)
  have h2 : 4801 * 1 ≤ 4801 * y := Int.mul_le_mul_of_nonneg_left hy (by omega)
  unfold cpF
  by_cases h : x > 4800
  · rw [if_pos h, if_pos (by omega), if_pos (by omega)]
  · rw [if_neg h]
theorem fq_pd {par div : Int → Int} {nC : Int} (hp : ∀ c : Int, 1 ≤ c → c < nC → 0 ≤ par c ∧ par c < c) (hd : ∀ c : Int, 1 ≤ c → c < nC → 1 ≤ div c ∧ div c ≤ 64) : ∀ (n : Nat) (c a : Int), c < nC → 1 ≤ a → a ≤ 4801 → fqN par div n c a = cpF (a * pdN par div n c) := by
  intro n
  induction n with
  | zero =>
    intro c a _ h1 h2
    show a = cpF (a * 1)
    unfold cpF
    split <;> omega
  | succ n ih =>
    intro c a hc h1 h2
    unfold fqN pdN
    split
    · unfold cpF
      split <;> omega
    · have q1 := hp c (by omega) hc
      have q2 := hd c (by omega) hc
      have q3 : a * 1 ≤ a * div c := Int.mul_le_mul_of_nonneg_left q2.1 (by omega)
      have q4 := cp_r (x := a * div c) (by omega)
      rw [ih (par c) _ (by omega) q4.1 q4.2, cp_m (by omega) (pd_1 hp hd n (par c) (by omega)), Int.mul_assoc]
theorem pd_f {par div : Int → Int} {nC : Int} (hp : ∀ c : Int, 1 ≤ c → c < nC → 0 ≤ par c ∧ par c < c) : ∀ (n : Nat) (c : Int), c < nC → c ≤ n → pdN par div (n + 1) c = pdN par div n c := by
  intro n
  induction n with
  | zero =>
    intro c _ h
    unfold pdN
    exact if_pos (by omega)
  | succ n ih =>
    intro c hc h
    show (if c ≤ 0 then 1 else div c * pdN par div (n + 1) (par c)) = (if c ≤ 0 then 1 else div c * pdN par div n (par c))
    by_cases q : c ≤ 0
    · rw [if_pos q, if_pos q]
    · have q1 := hp c (by omega) hc
      rw [if_neg q, if_neg q, ih (par c) (by omega) (by omega)]
theorem pd_c {par div par' div' : Int → Int} {nC : Int} (hp : ∀ c : Int, 1 ≤ c → c < nC → 0 ≤ par c ∧ par c < c) (h1 : ∀ c : Int, 1 ≤ c → c < nC → par' c = par c) (h2 : ∀ c : Int, 1 ≤ c → c < nC → div' c = div c) : ∀ (n : Nat) (c : Int), c < nC → pdN par' div' n c = pdN par div n c := by
  intro n
  induction n with
  | zero => intro c _; rfl
  | succ n ih =>
    intro c hc
    unfold pdN
    by_cases q : c ≤ 0
    · rw [if_pos q, if_pos q]
    · have q1 := hp c (by omega) hc
      rw [if_neg q, if_neg q, h1 c (by omega) hc, h2 c (by omega) hc, ih (par c) (by omega)]
theorem cp_q {x : Int} (h : 1 ≤ x) : 4800 / cpF x = 4800 / x := by
  unfold cpF
  by_cases q : x > 4800
  · rw [if_pos q, Int.ediv_eq_zero_of_lt (by omega) q]
    decide
  · rw [if_neg q]
theorem fq_new {par div : Int → Int} {fr : Int → Int} {nC x1 x2 : Int} (hC : 1 ≤ nC ∧ nC < 8) (hp : ∀ c : Int, 1 ≤ c → c < nC → 0 ≤ par c ∧ par c < c) (hd : ∀ c : Int, 1 ≤ c → c < nC → 1 ≤ div c ∧ div c ≤ 64) (hf : ∀ c : Int, 0 ≤ c → c < nC → fr c = 4800 / fqN par div 8 c 1) (h1 : 0 ≤ x1 ∧ x1 < nC) (h2 : 1 ≤ x2 ∧ x2 ≤ 64) :
    ∀ c : Int, 0 ≤ c → c < nC + 1 → uZ fr nC (fr x1 / x2) c = 4800 / fqN (uZ par nC x1) (uZ div nC x2) 8 c 1 := by
  intro c hc hc2
  have hp' : ∀ c : Int, 1 ≤ c → c < nC + 1 → 0 ≤ uZ par nC x1 c ∧ uZ par nC x1 c < c := fun c q1 q2 => by
    unfold uZ
    split
    · omega
    · exact hp c q1 (by omega)
  have hd' : ∀ c : Int, 1 ≤ c → c < nC + 1 → 1 ≤ uZ div nC x2 c ∧ uZ div nC x2 c ≤ 64 := fun c q1 q2 => by
    unfold uZ
    split
    · exact h2
    · exact hd c q1 (by omega)
  rw [fq_pd hp' hd' 8 c 1 hc2 (by omega) (by omega), Int.one_mul, cp_q (pd_1 hp' hd' 8 c hc2)]
  have e1 : ∀ (n : Nat) (c : Int), c < nC → pdN (uZ par nC x1) (uZ div nC x2) n c = pdN par div n c := pd_c hp (fun c q1 q2 => uZ_n _ _ (by omega)) (fun c q1 q2 => uZ_n _ _ (by omega))
  have e2 : ∀ c : Int, 0 ≤ c → c < nC → fr c = 4800 / pdN par div 8 c := fun c q1 q2 => by
    rw [hf c q1 q2, fq_pd hp hd 8 c 1 q2 (by omega) (by omega), Int.one_mul, cp_q (pd_1 hp hd 8 c q2)]
  rcases Int.lt_or_le c nC with q | q
  · rw [uZ_n _ _ (by omega), e2 c hc q, e1 8 c q]
  · obtain rfl : c = nC := by omega
    have e3 : pdN (uZ par c x1) (uZ div c x2) 8 c = x2 * pdN (uZ par c x1) (uZ div c x2) 7 x1 := by
      show (if c ≤ 0 then 1 else uZ div c x2 c * pdN (uZ par c x1) (uZ div c x2) 7 (uZ par c x1 c)) = _
      rw [if_neg (by omega), uZ_s, uZ_s]
    have e4 : pdN par div 8 x1 = pdN par div 7 x1 := pd_f hp 7 x1 h1.2 (by omega)
    rw [uZ_s, e2 x1 h1.1 h1.2, e3, e1 7 x1 h1.2, e4, Int.ediv_ediv_of_nonneg (by have := pd_1 hp hd 7 x1 h1.2; omega), Int.mul_comm]
theorem b2i_v {v : Int} (h : v = 0 ∨ v = 1) : b2i (v ≠ 0) = v := by
  rcases h with rfl | rfl
  · exact b2i_f (by omega)
  · exact b2i_t (by omega)
theorem nw_eq {due lat : Int → Int} {n : Int} (hd : rgZ due 12 1000000) (hl : rgZ lat 12 1000000) (h : 0 ≤ n ∧ n ≤ 12) : llZ due lat (-1) 1000000000 n = if n = 0 then -1 else nxZ lat n := by
  have h1 := nx_ll hd hl h
  by_cases q : n = 0
  · subst q
    rw [if_pos rfl]
    rfl
  · rw [if_neg q]
    have h2 := (nx_le (lat := lat) (n := n) (b := nxZ lat n) h.1).mp (Int.le_refl _)
    have h3 := h2.2 0 (by omega) (by omega)
    have h4 := hl 0 (by omega) (by omega)
    omega
theorem ci_add {vo cpar fr cdee use run par div dee mrun : Int → Int} {nC x1 x2 x3 : Int} (h1 : 0 ≤ x1 ∧ x1 < nC) (h2 : 1 ≤ x2 ∧ x2 ≤ 64) (h3 : 0 ≤ x3 ∧ x3 ≤ 3) (h4 : nC < 8) (h : CI9 vo cpar fr cdee use run nC par div dee mrun) :
    CI9 vo (uZ cpar nC x1) (uZ fr nC (fr x1 / x2)) (uZ cdee nC x3) use run (nC + 1) (uZ par nC x1) (uZ div nC x2) (uZ dee nC x3) mrun := by
  obtain ⟨hnC, hcp, huse, hrun, hcd, hvo, hpp, hdd, hd0, hde, huz, hfr, hfq, hdv, hmrun⟩ := h
  have hpar : ∀ c : Int, 1 ≤ c → c < nC → 0 ≤ par c ∧ par c < c := fun c q1 q2 => by rw [hpp c q1 q2]; exact hcp c q1 q2
  refine ⟨by omega, fun c q1 q2 => ?_, huse, hrun, rgZ_u hcd h3, hvo, fun c q1 q2 => ?_, fun c q1 q2 => ?_, by rw [uZ_n _ _ (by omega)]; exact hd0, rgZ_u hde h3, fun c q1 q2 => huz c (by omega) q2, fun c q1 q2 => ?_, fq_new ⟨hnC.1, h4⟩ hpar hdv hfq h1 h2, fun c q1 q2 => ?_, hmrun⟩
  · unfold uZ
    split
    · omega
    · exact hcp c q1 (by omega)
  · unfold uZ
    split
    · rfl
    · exact hpp c q1 (by omega)
  · unfold uZ
    split
    · rfl
    · exact hdd c q1 (by omega)
  · unfold uZ
    split
    · have q3 := hfr x1 h1.1 h1.2
      have q4 : 0 ≤ fr x1 / x2 := Int.ediv_nonneg q3.1 (by omega)
      have q5 : fr x1 / x2 ≤ fr x1 := Int.ediv_le_self x2 q3.1
      omega
    · exact hfr c q1 (by omega)
  · unfold uZ
    split
    · exact h2
    · exact hdv c q1 (by omega)
theorem ti_sched {K st asl now nT nE sp pe slp late srv av bd sh idn x1 x2 x3 : Int} {tdue tlat twk edue ewk tin idl : Int → Int} (hK : K ≤ 110000) (h1 : now ≤ x1 ∧ x1 ≤ now + 1000) (h2 : 0 ≤ x2 ∧ x2 ≤ 500) (h3 : 1 ≤ x3 ∧ x3 ≤ 50) (h4 : nT < 12) (hi : tiB K st asl now nT tdue tlat twk nE edue ewk sp pe tin slp late srv av bd sh idl idn) :
    tiB (K + 200) st asl now (nT + 1) (uZ tdue nT x1) (uZ tlat nT (x1 + x2)) (uZ twk nT x3) nE edue ewk sp pe tin slp late srv av bd sh idl idn := by
  obtain ⟨i1, i2, i3, i4, i5, i6, i7, i8, i9, i10, i11, i12, i13, i14, i15, i16, i17⟩ := hi
  refine ⟨i1, i2, by omega, by omega, rgZ_u i5 (by omega), rgZ_u i6 (by omega), rgZ_u i7 (by omega), i8, i9, i10, i11, i12, i13, fun k q1 q2 => ?_, i15, i16, i17⟩
  unfold uZ
  by_cases q : k = nT
  · rw [if_pos q, if_pos q]
    omega
  · rw [if_neg q, if_neg q]
    exact i14 k q1 (by omega)
theorem ti_event {K st asl now nT nE sp pe slp late srv av bd sh idn x1 x2 : Int} {tdue tlat twk edue ewk tin idl : Int → Int} (hK : K ≤ 110000) (h1 : now ≤ x1 ∧ x1 ≤ now + 1000) (h3 : 1 ≤ x2 ∧ x2 ≤ 50) (h4 : nE < 12) (hi : tiB K st asl now nT tdue tlat twk nE edue ewk sp pe tin slp late srv av bd sh idl idn) :
    tiB (K + 200) st asl now nT tdue tlat twk (nE + 1) (uZ edue nE x1) (uZ ewk nE x2) sp pe tin slp late srv av bd sh idl idn := by
  obtain ⟨i1, i2, i3, i4, i5, i6, i7, i8, i9, i10, i11, i12, i13, i14, i15, i16, i17⟩ := hi
  refine ⟨i1, i2, by omega, i4, i5, i6, i7, by omega, rgZ_u i9 (by omega), rgZ_u i10 (by omega), i11, i12, i13, i14, fun k q1 q2 => ?_, i16, i17⟩
  unfold uZ
  split
  · exact h1.1
  · exact i15 k q1 (by omega)
def LI (K : Int) (pw : Int → Int) (co : Int → Int) (la : Int → Int) (vo : Int → Int) (cpar : Int → Int) (fr : Int → Int) (cdee : Int → Int) (use : Int → Int) (run : Int → Int) (nC : Int) (tdue : Int → Int) (tlat : Int → Int) (twk : Int → Int) (nT : Int) (edue : Int → Int) (elat : Int → Int) (ewk : Int → Int) (nE : Int) (len : Int → Int) (cnt : Int) (tin : Int → Int) (sp : Int) (pe : Int) (slp : Int) (late : Int) (srv : Int) (hv : Int → Int) (av : Int) (bd : Int) (sh : Int) (sc : Int → Int) (lt : Int → Int) (rule : Int) (now : Int) (st : Int) (asl : Int) (idl : Int → Int) (idn : Int) (par : Int → Int) (div : Int → Int) (dee : Int → Int) (mrun : Int → Int) (mB : Int → Int) : Prop := SI pw co la ∧ CI9 vo cpar fr cdee use run nC par div dee mrun ∧ DI rule hv len cnt elat idl idn ∧ tiB K st asl now nT tdue tlat twk nE edue ewk sp pe tin slp late srv av bd sh idl idn ∧ PI9 sc lt mB
theorem lo_setState {K : Int} {pw : Int → Int} {co : Int → Int} {la : Int → Int} {vo : Int → Int} {cpar : Int → Int} {fr : Int → Int} {cdee : Int → Int} {use : Int → Int} {run : Int → Int} {nC : Int} {tdue : Int → Int} {tlat : Int → Int} {twk : Int → Int} {nT : Int} {edue : Int → Int} {elat : Int → Int} {ewk : Int → Int} {nE : Int} {len : Int → Int} {cnt : Int} {tin : Int → Int} {sp : Int} {pe : Int} {slp : Int} {late : Int} {srv : Int} {hv : Int → Int} {av : Int} {bd : Int} {sh : Int} {sc : Int → Int} {lt : Int → Int} {rule : Int} {now : Int} {st : Int} {asl : Int} {idl : Int → Int} {idn : Int} {par : Int → Int} {div : Int → Int} {dee : Int → Int} {mrun : Int → Int} {mL : Int → Int} {mB : Int → Int} {o : Int → Int} {x1 : Int} {x2 : Int} {x3 : Int} {x4 : Int} {kv : Int} {st_c : Int} {sp_c : Int} {pe_c : Int} {idl_c : Int → Int} {idn_c : Int} {len_c : Int → Int} {cnt_c : Int} {pw_c : Int → Int} {co_c : Int → Int} {la_c : Int → Int} {thr_m : Int} {st_m : Int} {sp_m : Int} {pe_m : Int} {idl_m : Int → Int} {idn_m : Int} {pw_m : Int → Int} {co_m : Int → Int} {la_m : Int → Int} (hK : 0 ≤ K ∧ K ≤ 110000) (hx1 : zR x1) (hx2 : zR x2) (hx3 : zR x3) (hx4 : zR x4) (hI : LI K pw co la vo cpar fr cdee use run nC tdue tlat twk nT edue elat ewk nE len cnt tin sp pe slp late srv hv av bd sh sc lt rule now st asl idl idn par div dee mrun mB) (hc : (kv = 0 ∧ (((1 ≤ x1 ∧ x1 ≤ 3) ∧ (0 ≤ x2 ∧ x2 ≤ 1000) ∧ (0 ≤ x3 ∧ x3 ≤ 10000) ∧ (0 ≤ x4 ∧ x4 ≤ 100)) ∧ (st_c, sp_c, pe_c, idl_c, idn_c) = scF pw la st asl now sp pe idl idn ∧ idR len_c cnt_c idl_c idn_c) ∧ pw_c = uZ pw x1 x2 ∧ co_c = uZ co x1 x3 ∧ la_c = uZ la x1 x4) ∨ (kv = 1 ∧ (¬ ((1 ≤ x1 ∧ x1 ≤ 3) ∧ (0 ≤ x2 ∧ x2 ≤ 1000) ∧ (0 ≤ x3 ∧ x3 ≤ 10000) ∧ (0 ≤ x4 ∧ x4 ≤ 100))) ∧ st_c = st ∧ sp_c = sp ∧ pe_c = pe ∧ idl_c = idl ∧ idn_c = idn ∧ len_c = len ∧ cnt_c = cnt ∧ pw_c = pw ∧ co_c = co ∧ la_c = la)) (hm : (((1 ≤ x1 ∧ x1 ≤ 3) ∧ (0 ≤ x2 ∧ x2 ≤ 1000) ∧ (0 ≤ x3 ∧ x3 ≤ 10000) ∧ (0 ≤ x4 ∧ x4 ≤ 100)) ∧ thr_m = 0 ∧ (st_m, sp_m, pe_m, idl_m, idn_m) = scF pw la st asl now sp pe idl idn ∧ pw_m = uZ pw x1 x2 ∧ co_m = uZ co x1 x3 ∧ la_m = uZ la x1 x4) ∨ (¬ ((1 ≤ x1 ∧ x1 ≤ 3) ∧ (0 ≤ x2 ∧ x2 ≤ 1000) ∧ (0 ≤ x3 ∧ x3 ≤ 10000) ∧ (0 ≤ x4 ∧ x4 ≤ 100)) ∧ thr_m = 1 ∧ st_m = st ∧ sp_m = sp ∧ pe_m = pe ∧ idl_m = idl ∧ idn_m = idn ∧ pw_m = pw ∧ co_m = co ∧ la_m = la)) : (kv = thr_m) ∧ (0 ≤ kv ∧ kv ≤ 3) ∧ (st_m = st_c) ∧ (sp_m = sp_c) ∧ (pe_m = pe_c) ∧ (idl_m = idl_c) ∧ (idn_m = idn_c) ∧ (pw_m = pw_c) ∧ (co_m = co_c) ∧ (la_m = la_c) ∧ (LI (K + 200) pw_c co_c la_c vo cpar fr cdee use run nC tdue tlat twk nT edue elat ewk nE len_c cnt_c tin sp_c pe_c slp late srv hv av bd sh sc lt rule now st_c asl idl_c idn_c par div dee mrun mB) := by
  obtain ⟨⟨hpw, hco, hla, hc0, hl0⟩, ⟨hnC, hcp, huse, hrun, hcd, hvo, hpp, hdd, hd0, hde, huz, hfr, hfq, hdv, hmrun⟩, ⟨hrl, hhv, hid, hel⟩, hti, ⟨hsc, hlt, hmB⟩⟩ := id hI
  rcases hc with ⟨rfl, ⟨hcc, hcs, hcid⟩, hd_pw, hd_co, hd_la⟩ | ⟨rfl, hcn, hz_st, hz_sp, hz_pe, hz_idl, hz_idn, hz_len, hz_cnt, hz_pw, hz_co, hz_la⟩
  · rcases hm with ⟨hm0, ht, hms, hq_pw, hq_co, hq_la⟩ | ⟨hm0, ht, hst, hsp, hpe, hidl, hidn, hq_pw, hq_co, hq_la⟩
    · have h9 := hms.trans hcs.symm; simp only [Prod.mk.injEq] at h9; obtain ⟨e1, e2, e3, e4, e5⟩ := h9
      exact ⟨ht.symm, ⟨by omega, by omega⟩, e1, e2, e3, e4, e5, hq_pw.trans hd_pw.symm, hq_co.trans hd_co.symm, hq_la.trans hd_la.symm, ⟨(by rw [hd_pw, hd_co, hd_la]; exact ⟨rgZ_u hpw (by omega), rgZ_u hco (by omega), rgZ_u hla (by omega), by rw [uZ_n _ _ (by omega)]; exact hc0, by rw [uZ_n _ _ (by omega)]; exact hl0⟩), ⟨hnC, hcp, huse, hrun, hcd, hvo, hpp, hdd, hd0, hde, huz, hfr, hfq, hdv, hmrun⟩, ⟨hrl, hhv, hcid, hel⟩, ti_mono (by omega) (sc_ti hpw hla (by omega) hti hcs), ⟨hsc, hlt, hmB⟩⟩⟩
    · exfalso; omega
  · rcases hm with ⟨hm0, ht, hms, hq_pw, hq_co, hq_la⟩ | ⟨hm0, ht, hst, hsp, hpe, hidl, hidn, hq_pw, hq_co, hq_la⟩
    · exfalso; omega
    · skip
      exact ⟨ht.symm, ⟨by omega, by omega⟩, hst.trans hz_st.symm, hsp.trans hz_sp.symm, hpe.trans hz_pe.symm, hidl.trans hz_idl.symm, hidn.trans hz_idn.symm, hq_pw.trans hz_pw.symm, hq_co.trans hz_co.symm, hq_la.trans hz_la.symm, by rw [hz_st, hz_sp, hz_pe, hz_idl, hz_idn, hz_len, hz_cnt, hz_pw, hz_co, hz_la]; exact ⟨⟨hpw, hco, hla, hc0, hl0⟩, ⟨hnC, hcp, huse, hrun, hcd, hvo, hpp, hdd, hd0, hde, huz, hfr, hfq, hdv, hmrun⟩, ⟨hrl, hhv, hid, hel⟩, ti_mono (by omega) hti, ⟨hsc, hlt, hmB⟩⟩⟩
theorem lo_setAwake {K : Int} {pw : Int → Int} {co : Int → Int} {la : Int → Int} {vo : Int → Int} {cpar : Int → Int} {fr : Int → Int} {cdee : Int → Int} {use : Int → Int} {run : Int → Int} {nC : Int} {tdue : Int → Int} {tlat : Int → Int} {twk : Int → Int} {nT : Int} {edue : Int → Int} {elat : Int → Int} {ewk : Int → Int} {nE : Int} {len : Int → Int} {cnt : Int} {tin : Int → Int} {sp : Int} {pe : Int} {slp : Int} {late : Int} {srv : Int} {hv : Int → Int} {av : Int} {bd : Int} {sh : Int} {sc : Int → Int} {lt : Int → Int} {rule : Int} {now : Int} {st : Int} {asl : Int} {idl : Int → Int} {idn : Int} {par : Int → Int} {div : Int → Int} {dee : Int → Int} {mrun : Int → Int} {mL : Int → Int} {mB : Int → Int} {o : Int → Int} {x1 : Int} {kv : Int} {st_c : Int} {sp_c : Int} {pe_c : Int} {idl_c : Int → Int} {idn_c : Int} {len_c : Int → Int} {cnt_c : Int} {pw_c : Int → Int} {o_c : Int → Int} {bv : Int} {thr_m : Int} {st_m : Int} {sp_m : Int} {pe_m : Int} {idl_m : Int → Int} {idn_m : Int} {pw_m : Int → Int} (hK : 0 ≤ K ∧ K ≤ 110000) (hx1 : zR x1) (hI : LI K pw co la vo cpar fr cdee use run nC tdue tlat twk nT edue elat ewk nE len cnt tin sp pe slp late srv hv av bd sh sc lt rule now st asl idl idn par div dee mrun mB) (hc : (kv = 0 ∧ ((0 ≤ x1 ∧ x1 ≤ 1000) ∧ (st_c, sp_c, pe_c, idl_c, idn_c) = scF pw la st asl now sp pe idl idn ∧ idR len_c cnt_c idl_c idn_c) ∧ pw_c = uZ pw 0 x1 ∧ o_c = uZ o 0 ((iI (pw 0)).toInt)) ∨ (kv = 1 ∧ (¬ (0 ≤ x1 ∧ x1 ≤ 1000)) ∧ st_c = st ∧ sp_c = sp ∧ pe_c = pe ∧ idl_c = idl ∧ idn_c = idn ∧ len_c = len ∧ cnt_c = cnt ∧ pw_c = pw ∧ o_c = o)) (hm : ((0 ≤ x1 ∧ x1 ≤ 1000) ∧ thr_m = 0 ∧ bv = pw 0 ∧ (st_m, sp_m, pe_m, idl_m, idn_m) = scF pw la st asl now sp pe idl idn ∧ pw_m = uZ pw 0 x1) ∨ (¬ (0 ≤ x1 ∧ x1 ≤ 1000) ∧ thr_m = 1 ∧ st_m = st ∧ sp_m = sp ∧ pe_m = pe ∧ idl_m = idl ∧ idn_m = idn ∧ pw_m = pw)) : (kv = thr_m) ∧ (0 ≤ kv ∧ kv ≤ 3) ∧ (kv = 0 → o_c 0 = (iI bv).toInt) ∧ (st_m = st_c) ∧ (sp_m = sp_c) ∧ (pe_m = pe_c) ∧ (idl_m = idl_c) ∧ (idn_m = idn_c) ∧ (pw_m = pw_c) ∧ (LI (K + 200) pw_c co la vo cpar fr cdee use run nC tdue tlat twk nT edue elat ewk nE len_c cnt_c tin sp_c pe_c slp late srv hv av bd sh sc lt rule now st_c asl idl_c idn_c par div dee mrun mB) := by
  obtain ⟨⟨hpw, hco, hla, hc0, hl0⟩, ⟨hnC, hcp, huse, hrun, hcd, hvo, hpp, hdd, hd0, hde, huz, hfr, hfq, hdv, hmrun⟩, ⟨hrl, hhv, hid, hel⟩, hti, ⟨hsc, hlt, hmB⟩⟩ := id hI
  rcases hc with ⟨rfl, ⟨hcc, hcs, hcid⟩, hd_pw, ho⟩ | ⟨rfl, hcn, hz_st, hz_sp, hz_pe, hz_idl, hz_idn, hz_len, hz_cnt, hz_pw, ho⟩
  · rcases hm with ⟨hm0, ht, hb, hms, hq_pw⟩ | ⟨hm0, ht, hst, hsp, hpe, hidl, hidn, hq_pw⟩
    · have h9 := hms.trans hcs.symm; simp only [Prod.mk.injEq] at h9; obtain ⟨e1, e2, e3, e4, e5⟩ := h9
      exact ⟨ht.symm, ⟨by omega, by omega⟩, fun _ => by rw [ho, hb, uZ_s], e1, e2, e3, e4, e5, hq_pw.trans hd_pw.symm, ⟨(by rw [hd_pw]; exact ⟨rgZ_u hpw (by omega), hco, hla, hc0, hl0⟩), ⟨hnC, hcp, huse, hrun, hcd, hvo, hpp, hdd, hd0, hde, huz, hfr, hfq, hdv, hmrun⟩, ⟨hrl, hhv, hcid, hel⟩, ti_mono (by omega) (sc_ti hpw hla (by omega) hti hcs), ⟨hsc, hlt, hmB⟩⟩⟩
    · exfalso; omega
  · rcases hm with ⟨hm0, ht, hb, hms, hq_pw⟩ | ⟨hm0, ht, hst, hsp, hpe, hidl, hidn, hq_pw⟩
    · exfalso; omega
    · skip
      exact ⟨ht.symm, ⟨by omega, by omega⟩, fun z => absurd z (by omega), hst.trans hz_st.symm, hsp.trans hz_sp.symm, hpe.trans hz_pe.symm, hidl.trans hz_idl.symm, hidn.trans hz_idn.symm, hq_pw.trans hz_pw.symm, by rw [hz_st, hz_sp, hz_pe, hz_idl, hz_idn, hz_len, hz_cnt, hz_pw]; exact ⟨⟨hpw, hco, hla, hc0, hl0⟩, ⟨hnC, hcp, huse, hrun, hcd, hvo, hpp, hdd, hd0, hde, huz, hfr, hfq, hdv, hmrun⟩, ⟨hrl, hhv, hid, hel⟩, ti_mono (by omega) hti, ⟨hsc, hlt, hmB⟩⟩⟩
theorem lo_vote {K : Int} {pw : Int → Int} {co : Int → Int} {la : Int → Int} {vo : Int → Int} {cpar : Int → Int} {fr : Int → Int} {cdee : Int → Int} {use : Int → Int} {run : Int → Int} {nC : Int} {tdue : Int → Int} {tlat : Int → Int} {twk : Int → Int} {nT : Int} {edue : Int → Int} {elat : Int → Int} {ewk : Int → Int} {nE : Int} {len : Int → Int} {cnt : Int} {tin : Int → Int} {sp : Int} {pe : Int} {slp : Int} {late : Int} {srv : Int} {hv : Int → Int} {av : Int} {bd : Int} {sh : Int} {sc : Int → Int} {lt : Int → Int} {rule : Int} {now : Int} {st : Int} {asl : Int} {idl : Int → Int} {idn : Int} {par : Int → Int} {div : Int → Int} {dee : Int → Int} {mrun : Int → Int} {mL : Int → Int} {mB : Int → Int} {o : Int → Int} {x1 : Int} {x2 : Int} {kv : Int} {st_c : Int} {sp_c : Int} {pe_c : Int} {idl_c : Int → Int} {idn_c : Int} {len_c : Int → Int} {cnt_c : Int} {vo_c : Int → Int} {o_c : Int → Int} {bv : Int} {thr_m : Int} {st_m : Int} {sp_m : Int} {pe_m : Int} {idl_m : Int → Int} {idn_m : Int} {vo_m : Int → Int} (hK : 0 ≤ K ∧ K ≤ 110000) (hx1 : zR x1) (hx2 : zR x2) (hI : LI K pw co la vo cpar fr cdee use run nC tdue tlat twk nT edue elat ewk nE len cnt tin sp pe slp late srv hv av bd sh sc lt rule now st asl idl idn par div dee mrun mB) (hc : (kv = 0 ∧ (((0 ≤ x1 ∧ x1 ≤ 5) ∧ (0 ≤ x2 ∧ x2 ≤ 3)) ∧ (st_c, sp_c, pe_c, idl_c, idn_c) = scF pw la st asl now sp pe idl idn ∧ idR len_c cnt_c idl_c idn_c) ∧ vo_c = uZ vo x1 x2 ∧ o_c = uZ o 0 ((iI (vo x1)).toInt)) ∨ (kv = 1 ∧ (¬ ((0 ≤ x1 ∧ x1 ≤ 5) ∧ (0 ≤ x2 ∧ x2 ≤ 3))) ∧ st_c = st ∧ sp_c = sp ∧ pe_c = pe ∧ idl_c = idl ∧ idn_c = idn ∧ len_c = len ∧ cnt_c = cnt ∧ vo_c = vo ∧ o_c = o)) (hm : (((0 ≤ x1 ∧ x1 ≤ 5) ∧ (0 ≤ x2 ∧ x2 ≤ 3)) ∧ thr_m = 0 ∧ bv = vo x1 ∧ (st_m, sp_m, pe_m, idl_m, idn_m) = scF pw la st asl now sp pe idl idn ∧ vo_m = uZ vo x1 x2) ∨ (¬ ((0 ≤ x1 ∧ x1 ≤ 5) ∧ (0 ≤ x2 ∧ x2 ≤ 3)) ∧ thr_m = 1 ∧ st_m = st ∧ sp_m = sp ∧ pe_m = pe ∧ idl_m = idl ∧ idn_m = idn ∧ vo_m = vo)) : (kv = thr_m) ∧ (0 ≤ kv ∧ kv ≤ 3) ∧ (kv = 0 → o_c 0 = (iI bv).toInt) ∧ (st_m = st_c) ∧ (sp_m = sp_c) ∧ (pe_m = pe_c) ∧ (idl_m = idl_c) ∧ (idn_m = idn_c) ∧ (vo_m = vo_c) ∧ (LI (K + 200) pw co la vo_c cpar fr cdee use run nC tdue tlat twk nT edue elat ewk nE len_c cnt_c tin sp_c pe_c slp late srv hv av bd sh sc lt rule now st_c asl idl_c idn_c par div dee mrun mB) := by
  obtain ⟨⟨hpw, hco, hla, hc0, hl0⟩, ⟨hnC, hcp, huse, hrun, hcd, hvo, hpp, hdd, hd0, hde, huz, hfr, hfq, hdv, hmrun⟩, ⟨hrl, hhv, hid, hel⟩, hti, ⟨hsc, hlt, hmB⟩⟩ := id hI
  rcases hc with ⟨rfl, ⟨hcc, hcs, hcid⟩, hd_vo, ho⟩ | ⟨rfl, hcn, hz_st, hz_sp, hz_pe, hz_idl, hz_idn, hz_len, hz_cnt, hz_vo, ho⟩
  · rcases hm with ⟨hm0, ht, hb, hms, hq_vo⟩ | ⟨hm0, ht, hst, hsp, hpe, hidl, hidn, hq_vo⟩
    · have h9 := hms.trans hcs.symm; simp only [Prod.mk.injEq] at h9; obtain ⟨e1, e2, e3, e4, e5⟩ := h9
      exact ⟨ht.symm, ⟨by omega, by omega⟩, fun _ => by rw [ho, hb, uZ_s], e1, e2, e3, e4, e5, hq_vo.trans hd_vo.symm, ⟨⟨hpw, hco, hla, hc0, hl0⟩, (by rw [hd_vo]; exact ⟨hnC, hcp, huse, hrun, hcd, rgZ_u hvo (by omega), hpp, hdd, hd0, hde, huz, hfr, hfq, hdv, hmrun⟩), ⟨hrl, hhv, hcid, hel⟩, ti_mono (by omega) (sc_ti hpw hla (by omega) hti hcs), ⟨hsc, hlt, hmB⟩⟩⟩
    · exfalso; omega
  · rcases hm with ⟨hm0, ht, hb, hms, hq_vo⟩ | ⟨hm0, ht, hst, hsp, hpe, hidl, hidn, hq_vo⟩
    · exfalso; omega
    · skip
      exact ⟨ht.symm, ⟨by omega, by omega⟩, fun z => absurd z (by omega), hst.trans hz_st.symm, hsp.trans hz_sp.symm, hpe.trans hz_pe.symm, hidl.trans hz_idl.symm, hidn.trans hz_idn.symm, hq_vo.trans hz_vo.symm, by rw [hz_st, hz_sp, hz_pe, hz_idl, hz_idn, hz_len, hz_cnt, hz_vo]; exact ⟨⟨hpw, hco, hla, hc0, hl0⟩, ⟨hnC, hcp, huse, hrun, hcd, hvo, hpp, hdd, hd0, hde, huz, hfr, hfq, hdv, hmrun⟩, ⟨hrl, hhv, hid, hel⟩, ti_mono (by omega) hti, ⟨hsc, hlt, hmB⟩⟩⟩
theorem lo_addClock {K : Int} {pw : Int → Int} {co : Int → Int} {la : Int → Int} {vo : Int → Int} {cpar : Int → Int} {fr : Int → Int} {cdee : Int → Int} {use : Int → Int} {run : Int → Int} {nC : Int} {tdue : Int → Int} {tlat : Int → Int} {twk : Int → Int} {nT : Int} {edue : Int → Int} {elat : Int → Int} {ewk : Int → Int} {nE : Int} {len : Int → Int} {cnt : Int} {tin : Int → Int} {sp : Int} {pe : Int} {slp : Int} {late : Int} {srv : Int} {hv : Int → Int} {av : Int} {bd : Int} {sh : Int} {sc : Int → Int} {lt : Int → Int} {rule : Int} {now : Int} {st : Int} {asl : Int} {idl : Int → Int} {idn : Int} {par : Int → Int} {div : Int → Int} {dee : Int → Int} {mrun : Int → Int} {mL : Int → Int} {mB : Int → Int} {o : Int → Int} {x1 : Int} {x2 : Int} {x3 : Int} {kv : Int} {st_c : Int} {sp_c : Int} {pe_c : Int} {idl_c : Int → Int} {idn_c : Int} {len_c : Int → Int} {cnt_c : Int} {cpar_c : Int → Int} {fr_c : Int → Int} {cdee_c : Int → Int} {nC_c : Int} {par_c : Int → Int} {div_c : Int → Int} {dee_c : Int → Int} {o_c : Int → Int} {bv : Int} {thr_m : Int} {st_m : Int} {sp_m : Int} {pe_m : Int} {idl_m : Int → Int} {idn_m : Int} {par_m : Int → Int} {div_m : Int → Int} {dee_m : Int → Int} {nC_m : Int} (hK : 0 ≤ K ∧ K ≤ 110000) (hx1 : zR x1) (hx2 : zR x2) (hx3 : zR x3) (hI : LI K pw co la vo cpar fr cdee use run nC tdue tlat twk nT edue elat ewk nE len cnt tin sp pe slp late srv hv av bd sh sc lt rule now st asl idl idn par div dee mrun mB) (hc : (kv = 0 ∧ (((0 ≤ x1 ∧ x1 < nC) ∧ ((1 ≤ x2 ∧ x2 ≤ 64) ∧ (0 ≤ x3 ∧ x3 ≤ 3)) ∧ nC < 8) ∧ (st_c, sp_c, pe_c, idl_c, idn_c) = scF pw la st asl now sp pe idl idn ∧ idR len_c cnt_c idl_c idn_c) ∧ cpar_c = uZ cpar nC x1 ∧ fr_c = uZ fr nC (fr x1 / x2) ∧ cdee_c = uZ cdee nC x3 ∧ nC_c = nC + 1 ∧ par_c = uZ par nC x1 ∧ div_c = uZ div nC x2 ∧ dee_c = uZ dee nC x3 ∧ o_c = uZ o 0 ((iI (nC)).toInt)) ∨ (kv = 1 ∧ (¬ (0 ≤ x1 ∧ x1 < nC)) ∧ st_c = st ∧ sp_c = sp ∧ pe_c = pe ∧ idl_c = idl ∧ idn_c = idn ∧ len_c = len ∧ cnt_c = cnt ∧ cpar_c = cpar ∧ fr_c = fr ∧ cdee_c = cdee ∧ nC_c = nC ∧ par_c = par ∧ div_c = div ∧ dee_c = dee ∧ o_c = o) ∨ (kv = 2 ∧ ((0 ≤ x1 ∧ x1 < nC) ∧ ¬ ((1 ≤ x2 ∧ x2 ≤ 64) ∧ (0 ≤ x3 ∧ x3 ≤ 3))) ∧ st_c = st ∧ sp_c = sp ∧ pe_c = pe ∧ idl_c = idl ∧ idn_c = idn ∧ len_c = len ∧ cnt_c = cnt ∧ cpar_c = cpar ∧ fr_c = fr ∧ cdee_c = cdee ∧ nC_c = nC ∧ par_c = par ∧ div_c = div ∧ dee_c = dee ∧ o_c = o) ∨ (kv = 3 ∧ ((0 ≤ x1 ∧ x1 < nC) ∧ ((1 ≤ x2 ∧ x2 ≤ 64) ∧ (0 ≤ x3 ∧ x3 ≤ 3)) ∧ ¬ nC < 8) ∧ st_c = st ∧ sp_c = sp ∧ pe_c = pe ∧ idl_c = idl ∧ idn_c = idn ∧ len_c = len ∧ cnt_c = cnt ∧ cpar_c = cpar ∧ fr_c = fr ∧ cdee_c = cdee ∧ nC_c = nC ∧ par_c = par ∧ div_c = div ∧ dee_c = dee ∧ o_c = o)) (hm : ((0 ≤ x1 ∧ x1 < nC) ∧ ((1 ≤ x2 ∧ x2 ≤ 64) ∧ (0 ≤ x3 ∧ x3 ≤ 3)) ∧ (nC < 8) ∧ thr_m = 0 ∧ bv = nC ∧ (st_m, sp_m, pe_m, idl_m, idn_m) = scF pw la st asl now sp pe idl idn ∧ par_m = uZ par nC x1 ∧ div_m = uZ div nC x2 ∧ dee_m = uZ dee nC x3 ∧ nC_m = nC + 1) ∨ (¬ (0 ≤ x1 ∧ x1 < nC) ∧ thr_m = 1 ∧ st_m = st ∧ sp_m = sp ∧ pe_m = pe ∧ idl_m = idl ∧ idn_m = idn ∧ par_m = par ∧ div_m = div ∧ dee_m = dee ∧ nC_m = nC) ∨ ((0 ≤ x1 ∧ x1 < nC) ∧ ¬ ((1 ≤ x2 ∧ x2 ≤ 64) ∧ (0 ≤ x3 ∧ x3 ≤ 3)) ∧ thr_m = 2 ∧ st_m = st ∧ sp_m = sp ∧ pe_m = pe ∧ idl_m = idl ∧ idn_m = idn ∧ par_m = par ∧ div_m = div ∧ dee_m = dee ∧ nC_m = nC) ∨ ((0 ≤ x1 ∧ x1 < nC) ∧ ((1 ≤ x2 ∧ x2 ≤ 64) ∧ (0 ≤ x3 ∧ x3 ≤ 3)) ∧ ¬ (nC < 8) ∧ thr_m = 3 ∧ st_m = st ∧ sp_m = sp ∧ pe_m = pe ∧ idl_m = idl ∧ idn_m = idn ∧ par_m = par ∧ div_m = div ∧ dee_m = dee ∧ nC_m = nC)) : (kv = thr_m) ∧ (0 ≤ kv ∧ kv ≤ 3) ∧ (kv = 0 → o_c 0 = (iI bv).toInt) ∧ (st_m = st_c) ∧ (sp_m = sp_c) ∧ (pe_m = pe_c) ∧ (idl_m = idl_c) ∧ (idn_m = idn_c) ∧ (par_m = par_c) ∧ (div_m = div_c) ∧ (dee_m = dee_c) ∧ (nC_m = nC_c) ∧ (LI (K + 200) pw co la vo cpar_c fr_c cdee_c use run nC_c tdue tlat twk nT edue elat ewk nE len_c cnt_c tin sp_c pe_c slp late srv hv av bd sh sc lt rule now st_c asl idl_c idn_c par_c div_c dee_c mrun mB) := by
  obtain ⟨⟨hpw, hco, hla, hc0, hl0⟩, ⟨hnC, hcp, huse, hrun, hcd, hvo, hpp, hdd, hd0, hde, huz, hfr, hfq, hdv, hmrun⟩, ⟨hrl, hhv, hid, hel⟩, hti, ⟨hsc, hlt, hmB⟩⟩ := id hI
  rcases hc with ⟨rfl, ⟨hcc, hcs, hcid⟩, hd_cpar, hd_fr, hd_cdee, hd_nC, hd_par, hd_div, hd_dee, ho⟩ | ⟨rfl, hcn, hz_st, hz_sp, hz_pe, hz_idl, hz_idn, hz_len, hz_cnt, hz_cpar, hz_fr, hz_cdee, hz_nC, hz_par, hz_div, hz_dee, ho⟩ | ⟨rfl, hcn, hz_st, hz_sp, hz_pe, hz_idl, hz_idn, hz_len, hz_cnt, hz_cpar, hz_fr, hz_cdee, hz_nC, hz_par, hz_div, hz_dee, ho⟩ | ⟨rfl, hcn, hz_st, hz_sp, hz_pe, hz_idl, hz_idn, hz_len, hz_cnt, hz_cpar, hz_fr, hz_cdee, hz_nC, hz_par, hz_div, hz_dee, ho⟩
  · rcases hm with ⟨hm0, hm1, hm2, ht, hb, hms, hq_par, hq_div, hq_dee, hq_nC⟩ | ⟨hm0, ht, hst, hsp, hpe, hidl, hidn, hq_par, hq_div, hq_dee, hq_nC⟩ | ⟨hm0, hm1, ht, hst, hsp, hpe, hidl, hidn, hq_par, hq_div, hq_dee, hq_nC⟩ | ⟨hm0, hm1, hm2, ht, hst, hsp, hpe, hidl, hidn, hq_par, hq_div, hq_dee, hq_nC⟩
    · have h9 := hms.trans hcs.symm; simp only [Prod.mk.injEq] at h9; obtain ⟨e1, e2, e3, e4, e5⟩ := h9
      have hci := ci_add (x1 := x1) (x2 := x2) (x3 := x3) hcc.1 hcc.2.1.1 hcc.2.1.2 hcc.2.2 ⟨hnC, hcp, huse, hrun, hcd, hvo, hpp, hdd, hd0, hde, huz, hfr, hfq, hdv, hmrun⟩
      exact ⟨ht.symm, ⟨by omega, by omega⟩, fun _ => by rw [ho, hb, uZ_s], e1, e2, e3, e4, e5, hq_par.trans hd_par.symm, hq_div.trans hd_div.symm, hq_dee.trans hd_dee.symm, hq_nC.trans hd_nC.symm, ⟨⟨hpw, hco, hla, hc0, hl0⟩, (by rw [hd_cpar, hd_fr, hd_cdee, hd_nC, hd_par, hd_div, hd_dee]; exact hci), ⟨hrl, hhv, hcid, hel⟩, ti_mono (by omega) (sc_ti hpw hla (by omega) hti hcs), ⟨hsc, hlt, hmB⟩⟩⟩
    · exfalso; omega
    · exfalso; omega
    · exfalso; omega
  · rcases hm with ⟨hm0, hm1, hm2, ht, hb, hms, hq_par, hq_div, hq_dee, hq_nC⟩ | ⟨hm0, ht, hst, hsp, hpe, hidl, hidn, hq_par, hq_div, hq_dee, hq_nC⟩ | ⟨hm0, hm1, ht, hst, hsp, hpe, hidl, hidn, hq_par, hq_div, hq_dee, hq_nC⟩ | ⟨hm0, hm1, hm2, ht, hst, hsp, hpe, hidl, hidn, hq_par, hq_div, hq_dee, hq_nC⟩
    · exfalso; omega
    · skip
      exact ⟨ht.symm, ⟨by omega, by omega⟩, fun z => absurd z (by omega), hst.trans hz_st.symm, hsp.trans hz_sp.symm, hpe.trans hz_pe.symm, hidl.trans hz_idl.symm, hidn.trans hz_idn.symm, hq_par.trans hz_par.symm, hq_div.trans hz_div.symm, hq_dee.trans hz_dee.symm, hq_nC.trans hz_nC.symm, by rw [hz_st, hz_sp, hz_pe, hz_idl, hz_idn, hz_len, hz_cnt, hz_cpar, hz_fr, hz_cdee, hz_nC, hz_par, hz_div, hz_dee]; exact ⟨⟨hpw, hco, hla, hc0, hl0⟩, ⟨hnC, hcp, huse, hrun, hcd, hvo, hpp, hdd, hd0, hde, huz, hfr, hfq, hdv, hmrun⟩, ⟨hrl, hhv, hid, hel⟩, ti_mono (by omega) hti, ⟨hsc, hlt, hmB⟩⟩⟩
    · exfalso; omega
    · exfalso; omega
  · rcases hm with ⟨hm0, hm1, hm2, ht, hb, hms, hq_par, hq_div, hq_dee, hq_nC⟩ | ⟨hm0, ht, hst, hsp, hpe, hidl, hidn, hq_par, hq_div, hq_dee, hq_nC⟩ | ⟨hm0, hm1, ht, hst, hsp, hpe, hidl, hidn, hq_par, hq_div, hq_dee, hq_nC⟩ | ⟨hm0, hm1, hm2, ht, hst, hsp, hpe, hidl, hidn, hq_par, hq_div, hq_dee, hq_nC⟩
    · exfalso; omega
    · exfalso; omega
    · skip
      exact ⟨ht.symm, ⟨by omega, by omega⟩, fun z => absurd z (by omega), hst.trans hz_st.symm, hsp.trans hz_sp.symm, hpe.trans hz_pe.symm, hidl.trans hz_idl.symm, hidn.trans hz_idn.symm, hq_par.trans hz_par.symm, hq_div.trans hz_div.symm, hq_dee.trans hz_dee.symm, hq_nC.trans hz_nC.symm, by rw [hz_st, hz_sp, hz_pe, hz_idl, hz_idn, hz_len, hz_cnt, hz_cpar, hz_fr, hz_cdee, hz_nC, hz_par, hz_div, hz_dee]; exact ⟨⟨hpw, hco, hla, hc0, hl0⟩, ⟨hnC, hcp, huse, hrun, hcd, hvo, hpp, hdd, hd0, hde, huz, hfr, hfq, hdv, hmrun⟩, ⟨hrl, hhv, hid, hel⟩, ti_mono (by omega) hti, ⟨hsc, hlt, hmB⟩⟩⟩
    · exfalso; omega
  · rcases hm with ⟨hm0, hm1, hm2, ht, hb, hms, hq_par, hq_div, hq_dee, hq_nC⟩ | ⟨hm0, ht, hst, hsp, hpe, hidl, hidn, hq_par, hq_div, hq_dee, hq_nC⟩ | ⟨hm0, hm1, ht, hst, hsp, hpe, hidl, hidn, hq_par, hq_div, hq_dee, hq_nC⟩ | ⟨hm0, hm1, hm2, ht, hst, hsp, hpe, hidl, hidn, hq_par, hq_div, hq_dee, hq_nC⟩
    · exfalso; omega
    · exfalso; omega
    · exfalso; omega
    · skip
      exact ⟨ht.symm, ⟨by omega, by omega⟩, fun z => absurd z (by omega), hst.trans hz_st.symm, hsp.trans hz_sp.symm, hpe.trans hz_pe.symm, hidl.trans hz_idl.symm, hidn.trans hz_idn.symm, hq_par.trans hz_par.symm, hq_div.trans hz_div.symm, hq_dee.trans hz_dee.symm, hq_nC.trans hz_nC.symm, by rw [hz_st, hz_sp, hz_pe, hz_idl, hz_idn, hz_len, hz_cnt, hz_cpar, hz_fr, hz_cdee, hz_nC, hz_par, hz_div, hz_dee]; exact ⟨⟨hpw, hco, hla, hc0, hl0⟩, ⟨hnC, hcp, huse, hrun, hcd, hvo, hpp, hdd, hd0, hde, huz, hfr, hfq, hdv, hmrun⟩, ⟨hrl, hhv, hid, hel⟩, ti_mono (by omega) hti, ⟨hsc, hlt, hmB⟩⟩⟩
theorem lo_use {K : Int} {pw : Int → Int} {co : Int → Int} {la : Int → Int} {vo : Int → Int} {cpar : Int → Int} {fr : Int → Int} {cdee : Int → Int} {use : Int → Int} {run : Int → Int} {nC : Int} {tdue : Int → Int} {tlat : Int → Int} {twk : Int → Int} {nT : Int} {edue : Int → Int} {elat : Int → Int} {ewk : Int → Int} {nE : Int} {len : Int → Int} {cnt : Int} {tin : Int → Int} {sp : Int} {pe : Int} {slp : Int} {late : Int} {srv : Int} {hv : Int → Int} {av : Int} {bd : Int} {sh : Int} {sc : Int → Int} {lt : Int → Int} {rule : Int} {now : Int} {st : Int} {asl : Int} {idl : Int → Int} {idn : Int} {par : Int → Int} {div : Int → Int} {dee : Int → Int} {mrun : Int → Int} {mL : Int → Int} {mB : Int → Int} {o : Int → Int} {x1 : Int} {kv : Int} {st_c : Int} {sp_c : Int} {pe_c : Int} {idl_c : Int → Int} {idn_c : Int} {len_c : Int → Int} {cnt_c : Int} {use_c : Int → Int} {o_c : Int → Int} {bv : Int} {thr_m : Int} {st_m : Int} {sp_m : Int} {pe_m : Int} {idl_m : Int → Int} {idn_m : Int} {use_m : Int → Int} (hK : 0 ≤ K ∧ K ≤ 110000) (hx1 : zR x1) (hI : LI K pw co la vo cpar fr cdee use run nC tdue tlat twk nT edue elat ewk nE len cnt tin sp pe slp late srv hv av bd sh sc lt rule now st asl idl idn par div dee mrun mB) (hc : (kv = 0 ∧ (((0 ≤ x1 ∧ x1 < nC) ∧ use x1 < 9) ∧ (st_c, sp_c, pe_c, idl_c, idn_c) = scF pw la st asl now sp pe idl idn ∧ idR len_c cnt_c idl_c idn_c) ∧ use_c = uZ use x1 (use x1 + 1) ∧ o_c = uZ o 0 ((iI (use x1 + 1)).toInt)) ∨ (kv = 1 ∧ (¬ (0 ≤ x1 ∧ x1 < nC)) ∧ st_c = st ∧ sp_c = sp ∧ pe_c = pe ∧ idl_c = idl ∧ idn_c = idn ∧ len_c = len ∧ cnt_c = cnt ∧ use_c = use ∧ o_c = o) ∨ (kv = 2 ∧ ((0 ≤ x1 ∧ x1 < nC) ∧ ¬ use x1 < 9) ∧ st_c = st ∧ sp_c = sp ∧ pe_c = pe ∧ idl_c = idl ∧ idn_c = idn ∧ len_c = len ∧ cnt_c = cnt ∧ use_c = use ∧ o_c = o)) (hm : ((0 ≤ x1 ∧ x1 < nC) ∧ (use x1 < 9) ∧ thr_m = 0 ∧ bv = use x1 + 1 ∧ (st_m, sp_m, pe_m, idl_m, idn_m) = scF pw la st asl now sp pe idl idn ∧ use_m = uZ use x1 (use x1 + 1)) ∨ (¬ (0 ≤ x1 ∧ x1 < nC) ∧ thr_m = 1 ∧ st_m = st ∧ sp_m = sp ∧ pe_m = pe ∧ idl_m = idl ∧ idn_m = idn ∧ use_m = use) ∨ ((0 ≤ x1 ∧ x1 < nC) ∧ ¬ (use x1 < 9) ∧ thr_m = 2 ∧ st_m = st ∧ sp_m = sp ∧ pe_m = pe ∧ idl_m = idl ∧ idn_m = idn ∧ use_m = use)) : (kv = thr_m) ∧ (0 ≤ kv ∧ kv ≤ 3) ∧ (kv = 0 → o_c 0 = (iI bv).toInt) ∧ (st_m = st_c) ∧ (sp_m = sp_c) ∧ (pe_m = pe_c) ∧ (idl_m = idl_c) ∧ (idn_m = idn_c) ∧ (use_m = use_c) ∧ (LI (K + 200) pw co la vo cpar fr cdee use_c run nC tdue tlat twk nT edue elat ewk nE len_c cnt_c tin sp_c pe_c slp late srv hv av bd sh sc lt rule now st_c asl idl_c idn_c par div dee mrun mB) := by
  obtain ⟨⟨hpw, hco, hla, hc0, hl0⟩, ⟨hnC, hcp, huse, hrun, hcd, hvo, hpp, hdd, hd0, hde, huz, hfr, hfq, hdv, hmrun⟩, ⟨hrl, hhv, hid, hel⟩, hti, ⟨hsc, hlt, hmB⟩⟩ := id hI
  rcases hc with ⟨rfl, ⟨hcc, hcs, hcid⟩, hd_use, ho⟩ | ⟨rfl, hcn, hz_st, hz_sp, hz_pe, hz_idl, hz_idn, hz_len, hz_cnt, hz_use, ho⟩ | ⟨rfl, hcn, hz_st, hz_sp, hz_pe, hz_idl, hz_idn, hz_len, hz_cnt, hz_use, ho⟩
  · rcases hm with ⟨hm0, hm1, ht, hb, hms, hq_use⟩ | ⟨hm0, ht, hst, hsp, hpe, hidl, hidn, hq_use⟩ | ⟨hm0, hm1, ht, hst, hsp, hpe, hidl, hidn, hq_use⟩
    · have h9 := hms.trans hcs.symm; simp only [Prod.mk.injEq] at h9; obtain ⟨e1, e2, e3, e4, e5⟩ := h9
      have hu9 := huse x1 (by omega) (by omega)
      exact ⟨ht.symm, ⟨by omega, by omega⟩, fun _ => by rw [ho, hb, uZ_s], e1, e2, e3, e4, e5, hq_use.trans hd_use.symm, ⟨⟨hpw, hco, hla, hc0, hl0⟩, (by rw [hd_use]; exact ⟨hnC, hcp, rgZ_u huse (by have := huse x1 (by omega) (by omega); omega), hrun, hcd, hvo, hpp, hdd, hd0, hde, fun c q1 q2 => by rw [uZ_n _ _ (by omega)]; exact huz c q1 q2, hfr, hfq, hdv, hmrun⟩), ⟨hrl, hhv, hcid, hel⟩, ti_mono (by omega) (sc_ti hpw hla (by omega) hti hcs), ⟨hsc, hlt, hmB⟩⟩⟩
    · exfalso; omega
    · exfalso; omega
  · rcases hm with ⟨hm0, hm1, ht, hb, hms, hq_use⟩ | ⟨hm0, ht, hst, hsp, hpe, hidl, hidn, hq_use⟩ | ⟨hm0, hm1, ht, hst, hsp, hpe, hidl, hidn, hq_use⟩
    · exfalso; omega
    · skip
      exact ⟨ht.symm, ⟨by omega, by omega⟩, fun z => absurd z (by omega), hst.trans hz_st.symm, hsp.trans hz_sp.symm, hpe.trans hz_pe.symm, hidl.trans hz_idl.symm, hidn.trans hz_idn.symm, hq_use.trans hz_use.symm, by rw [hz_st, hz_sp, hz_pe, hz_idl, hz_idn, hz_len, hz_cnt, hz_use]; exact ⟨⟨hpw, hco, hla, hc0, hl0⟩, ⟨hnC, hcp, huse, hrun, hcd, hvo, hpp, hdd, hd0, hde, huz, hfr, hfq, hdv, hmrun⟩, ⟨hrl, hhv, hid, hel⟩, ti_mono (by omega) hti, ⟨hsc, hlt, hmB⟩⟩⟩
    · exfalso; omega
  · rcases hm with ⟨hm0, hm1, ht, hb, hms, hq_use⟩ | ⟨hm0, ht, hst, hsp, hpe, hidl, hidn, hq_use⟩ | ⟨hm0, hm1, ht, hst, hsp, hpe, hidl, hidn, hq_use⟩
    · exfalso; omega
    · exfalso; omega
    · skip
      exact ⟨ht.symm, ⟨by omega, by omega⟩, fun z => absurd z (by omega), hst.trans hz_st.symm, hsp.trans hz_sp.symm, hpe.trans hz_pe.symm, hidl.trans hz_idl.symm, hidn.trans hz_idn.symm, hq_use.trans hz_use.symm, by rw [hz_st, hz_sp, hz_pe, hz_idl, hz_idn, hz_len, hz_cnt, hz_use]; exact ⟨⟨hpw, hco, hla, hc0, hl0⟩, ⟨hnC, hcp, huse, hrun, hcd, hvo, hpp, hdd, hd0, hde, huz, hfr, hfq, hdv, hmrun⟩, ⟨hrl, hhv, hid, hel⟩, ti_mono (by omega) hti, ⟨hsc, hlt, hmB⟩⟩⟩
theorem lo_release {K : Int} {pw : Int → Int} {co : Int → Int} {la : Int → Int} {vo : Int → Int} {cpar : Int → Int} {fr : Int → Int} {cdee : Int → Int} {use : Int → Int} {run : Int → Int} {nC : Int} {tdue : Int → Int} {tlat : Int → Int} {twk : Int → Int} {nT : Int} {edue : Int → Int} {elat : Int → Int} {ewk : Int → Int} {nE : Int} {len : Int → Int} {cnt : Int} {tin : Int → Int} {sp : Int} {pe : Int} {slp : Int} {late : Int} {srv : Int} {hv : Int → Int} {av : Int} {bd : Int} {sh : Int} {sc : Int → Int} {lt : Int → Int} {rule : Int} {now : Int} {st : Int} {asl : Int} {idl : Int → Int} {idn : Int} {par : Int → Int} {div : Int → Int} {dee : Int → Int} {mrun : Int → Int} {mL : Int → Int} {mB : Int → Int} {o : Int → Int} {x1 : Int} {kv : Int} {st_c : Int} {sp_c : Int} {pe_c : Int} {idl_c : Int → Int} {idn_c : Int} {len_c : Int → Int} {cnt_c : Int} {use_c : Int → Int} {o_c : Int → Int} {bv : Int} {thr_m : Int} {st_m : Int} {sp_m : Int} {pe_m : Int} {idl_m : Int → Int} {idn_m : Int} {use_m : Int → Int} (hK : 0 ≤ K ∧ K ≤ 110000) (hx1 : zR x1) (hI : LI K pw co la vo cpar fr cdee use run nC tdue tlat twk nT edue elat ewk nE len cnt tin sp pe slp late srv hv av bd sh sc lt rule now st asl idl idn par div dee mrun mB) (hc : (kv = 0 ∧ (((0 ≤ x1 ∧ x1 < nC) ∧ 0 < use x1) ∧ (st_c, sp_c, pe_c, idl_c, idn_c) = scF pw la st asl now sp pe idl idn ∧ idR len_c cnt_c idl_c idn_c) ∧ use_c = uZ use x1 (use x1 - 1) ∧ o_c = uZ o 0 ((iI (use x1 - 1)).toInt)) ∨ (kv = 1 ∧ (¬ (0 ≤ x1 ∧ x1 < nC)) ∧ st_c = st ∧ sp_c = sp ∧ pe_c = pe ∧ idl_c = idl ∧ idn_c = idn ∧ len_c = len ∧ cnt_c = cnt ∧ use_c = use ∧ o_c = o) ∨ (kv = 2 ∧ ((0 ≤ x1 ∧ x1 < nC) ∧ ¬ 0 < use x1) ∧ st_c = st ∧ sp_c = sp ∧ pe_c = pe ∧ idl_c = idl ∧ idn_c = idn ∧ len_c = len ∧ cnt_c = cnt ∧ use_c = use ∧ o_c = o)) (hm : ((0 ≤ x1 ∧ x1 < nC) ∧ (0 < use x1) ∧ thr_m = 0 ∧ bv = use x1 - 1 ∧ (st_m, sp_m, pe_m, idl_m, idn_m) = scF pw la st asl now sp pe idl idn ∧ use_m = uZ use x1 (use x1 - 1)) ∨ (¬ (0 ≤ x1 ∧ x1 < nC) ∧ thr_m = 1 ∧ st_m = st ∧ sp_m = sp ∧ pe_m = pe ∧ idl_m = idl ∧ idn_m = idn ∧ use_m = use) ∨ ((0 ≤ x1 ∧ x1 < nC) ∧ ¬ (0 < use x1) ∧ thr_m = 2 ∧ st_m = st ∧ sp_m = sp ∧ pe_m = pe ∧ idl_m = idl ∧ idn_m = idn ∧ use_m = use)) : (kv = thr_m) ∧ (0 ≤ kv ∧ kv ≤ 3) ∧ (kv = 0 → o_c 0 = (iI bv).toInt) ∧ (st_m = st_c) ∧ (sp_m = sp_c) ∧ (pe_m = pe_c) ∧ (idl_m = idl_c) ∧ (idn_m = idn_c) ∧ (use_m = use_c) ∧ (LI (K + 200) pw co la vo cpar fr cdee use_c run nC tdue tlat twk nT edue elat ewk nE len_c cnt_c tin sp_c pe_c slp late srv hv av bd sh sc lt rule now st_c asl idl_c idn_c par div dee mrun mB) := by
  obtain ⟨⟨hpw, hco, hla, hc0, hl0⟩, ⟨hnC, hcp, huse, hrun, hcd, hvo, hpp, hdd, hd0, hde, huz, hfr, hfq, hdv, hmrun⟩, ⟨hrl, hhv, hid, hel⟩, hti, ⟨hsc, hlt, hmB⟩⟩ := id hI
  rcases hc with ⟨rfl, ⟨hcc, hcs, hcid⟩, hd_use, ho⟩ | ⟨rfl, hcn, hz_st, hz_sp, hz_pe, hz_idl, hz_idn, hz_len, hz_cnt, hz_use, ho⟩ | ⟨rfl, hcn, hz_st, hz_sp, hz_pe, hz_idl, hz_idn, hz_len, hz_cnt, hz_use, ho⟩
  · rcases hm with ⟨hm0, hm1, ht, hb, hms, hq_use⟩ | ⟨hm0, ht, hst, hsp, hpe, hidl, hidn, hq_use⟩ | ⟨hm0, hm1, ht, hst, hsp, hpe, hidl, hidn, hq_use⟩
    · have h9 := hms.trans hcs.symm; simp only [Prod.mk.injEq] at h9; obtain ⟨e1, e2, e3, e4, e5⟩ := h9
      have hu9 := huse x1 (by omega) (by omega)
      exact ⟨ht.symm, ⟨by omega, by omega⟩, fun _ => by rw [ho, hb, uZ_s], e1, e2, e3, e4, e5, hq_use.trans hd_use.symm, ⟨⟨hpw, hco, hla, hc0, hl0⟩, (by rw [hd_use]; exact ⟨hnC, hcp, rgZ_u huse (by have := huse x1 (by omega) (by omega); omega), hrun, hcd, hvo, hpp, hdd, hd0, hde, fun c q1 q2 => by rw [uZ_n _ _ (by omega)]; exact huz c q1 q2, hfr, hfq, hdv, hmrun⟩), ⟨hrl, hhv, hcid, hel⟩, ti_mono (by omega) (sc_ti hpw hla (by omega) hti hcs), ⟨hsc, hlt, hmB⟩⟩⟩
    · exfalso; omega
    · exfalso; omega
  · rcases hm with ⟨hm0, hm1, ht, hb, hms, hq_use⟩ | ⟨hm0, ht, hst, hsp, hpe, hidl, hidn, hq_use⟩ | ⟨hm0, hm1, ht, hst, hsp, hpe, hidl, hidn, hq_use⟩
    · exfalso; omega
    · skip
      exact ⟨ht.symm, ⟨by omega, by omega⟩, fun z => absurd z (by omega), hst.trans hz_st.symm, hsp.trans hz_sp.symm, hpe.trans hz_pe.symm, hidl.trans hz_idl.symm, hidn.trans hz_idn.symm, hq_use.trans hz_use.symm, by rw [hz_st, hz_sp, hz_pe, hz_idl, hz_idn, hz_len, hz_cnt, hz_use]; exact ⟨⟨hpw, hco, hla, hc0, hl0⟩, ⟨hnC, hcp, huse, hrun, hcd, hvo, hpp, hdd, hd0, hde, huz, hfr, hfq, hdv, hmrun⟩, ⟨hrl, hhv, hid, hel⟩, ti_mono (by omega) hti, ⟨hsc, hlt, hmB⟩⟩⟩
    · exfalso; omega
  · rcases hm with ⟨hm0, hm1, ht, hb, hms, hq_use⟩ | ⟨hm0, ht, hst, hsp, hpe, hidl, hidn, hq_use⟩ | ⟨hm0, hm1, ht, hst, hsp, hpe, hidl, hidn, hq_use⟩
    · exfalso; omega
    · exfalso; omega
    · skip
      exact ⟨ht.symm, ⟨by omega, by omega⟩, fun z => absurd z (by omega), hst.trans hz_st.symm, hsp.trans hz_sp.symm, hpe.trans hz_pe.symm, hidl.trans hz_idl.symm, hidn.trans hz_idn.symm, hq_use.trans hz_use.symm, by rw [hz_st, hz_sp, hz_pe, hz_idl, hz_idn, hz_len, hz_cnt, hz_use]; exact ⟨⟨hpw, hco, hla, hc0, hl0⟩, ⟨hnC, hcp, huse, hrun, hcd, hvo, hpp, hdd, hd0, hde, huz, hfr, hfq, hdv, hmrun⟩, ⟨hrl, hhv, hid, hel⟩, ti_mono (by omega) hti, ⟨hsc, hlt, hmB⟩⟩⟩
theorem lo_schedule {K : Int} {pw : Int → Int} {co : Int → Int} {la : Int → Int} {vo : Int → Int} {cpar : Int → Int} {fr : Int → Int} {cdee : Int → Int} {use : Int → Int} {run : Int → Int} {nC : Int} {tdue : Int → Int} {tlat : Int → Int} {twk : Int → Int} {nT : Int} {edue : Int → Int} {elat : Int → Int} {ewk : Int → Int} {nE : Int} {len : Int → Int} {cnt : Int} {tin : Int → Int} {sp : Int} {pe : Int} {slp : Int} {late : Int} {srv : Int} {hv : Int → Int} {av : Int} {bd : Int} {sh : Int} {sc : Int → Int} {lt : Int → Int} {rule : Int} {now : Int} {st : Int} {asl : Int} {idl : Int → Int} {idn : Int} {par : Int → Int} {div : Int → Int} {dee : Int → Int} {mrun : Int → Int} {mL : Int → Int} {mB : Int → Int} {o : Int → Int} {x1 : Int} {x2 : Int} {x3 : Int} {kv : Int} {st_c : Int} {sp_c : Int} {pe_c : Int} {idl_c : Int → Int} {idn_c : Int} {len_c : Int → Int} {cnt_c : Int} {tdue_c : Int → Int} {tlat_c : Int → Int} {twk_c : Int → Int} {nT_c : Int} {o_c : Int → Int} {bv : Int} {thr_m : Int} {st_m : Int} {sp_m : Int} {pe_m : Int} {idl_m : Int → Int} {idn_m : Int} {tdue_m : Int → Int} {tlat_m : Int → Int} {twk_m : Int → Int} {nT_m : Int} (hK : 0 ≤ K ∧ K ≤ 110000) (hx1 : zR x1) (hx2 : zR x2) (hx3 : zR x3) (hI : LI K pw co la vo cpar fr cdee use run nC tdue tlat twk nT edue elat ewk nE len cnt tin sp pe slp late srv hv av bd sh sc lt rule now st asl idl idn par div dee mrun mB) (hc : (kv = 0 ∧ ((((now ≤ x1 ∧ x1 ≤ now + 1000) ∧ (0 ≤ x2 ∧ x2 ≤ 500) ∧ (1 ≤ x3 ∧ x3 ≤ 50)) ∧ nT < 12) ∧ (st_c, sp_c, pe_c, idl_c, idn_c) = scF pw la st asl now sp pe idl idn ∧ idR len_c cnt_c idl_c idn_c) ∧ tdue_c = uZ tdue nT x1 ∧ tlat_c = uZ tlat nT (x1 + x2) ∧ twk_c = uZ twk nT x3 ∧ nT_c = nT + 1 ∧ o_c = uZ o 0 ((iI (nT + 1)).toInt)) ∨ (kv = 1 ∧ (¬ ((now ≤ x1 ∧ x1 ≤ now + 1000) ∧ (0 ≤ x2 ∧ x2 ≤ 500) ∧ (1 ≤ x3 ∧ x3 ≤ 50))) ∧ st_c = st ∧ sp_c = sp ∧ pe_c = pe ∧ idl_c = idl ∧ idn_c = idn ∧ len_c = len ∧ cnt_c = cnt ∧ tdue_c = tdue ∧ tlat_c = tlat ∧ twk_c = twk ∧ nT_c = nT ∧ o_c = o) ∨ (kv = 2 ∧ (((now ≤ x1 ∧ x1 ≤ now + 1000) ∧ (0 ≤ x2 ∧ x2 ≤ 500) ∧ (1 ≤ x3 ∧ x3 ≤ 50)) ∧ ¬ nT < 12) ∧ st_c = st ∧ sp_c = sp ∧ pe_c = pe ∧ idl_c = idl ∧ idn_c = idn ∧ len_c = len ∧ cnt_c = cnt ∧ tdue_c = tdue ∧ tlat_c = tlat ∧ twk_c = twk ∧ nT_c = nT ∧ o_c = o)) (hm : (((now ≤ x1 ∧ x1 ≤ now + 1000) ∧ (0 ≤ x2 ∧ x2 ≤ 500) ∧ (1 ≤ x3 ∧ x3 ≤ 50)) ∧ (nT < 12) ∧ thr_m = 0 ∧ bv = nT + 1 ∧ (st_m, sp_m, pe_m, idl_m, idn_m) = scF pw la st asl now sp pe idl idn ∧ tdue_m = uZ tdue nT x1 ∧ tlat_m = uZ tlat nT (x1 + x2) ∧ twk_m = uZ twk nT x3 ∧ nT_m = nT + 1) ∨ (¬ ((now ≤ x1 ∧ x1 ≤ now + 1000) ∧ (0 ≤ x2 ∧ x2 ≤ 500) ∧ (1 ≤ x3 ∧ x3 ≤ 50)) ∧ thr_m = 1 ∧ st_m = st ∧ sp_m = sp ∧ pe_m = pe ∧ idl_m = idl ∧ idn_m = idn ∧ tdue_m = tdue ∧ tlat_m = tlat ∧ twk_m = twk ∧ nT_m = nT) ∨ (((now ≤ x1 ∧ x1 ≤ now + 1000) ∧ (0 ≤ x2 ∧ x2 ≤ 500) ∧ (1 ≤ x3 ∧ x3 ≤ 50)) ∧ ¬ (nT < 12) ∧ thr_m = 2 ∧ st_m = st ∧ sp_m = sp ∧ pe_m = pe ∧ idl_m = idl ∧ idn_m = idn ∧ tdue_m = tdue ∧ tlat_m = tlat ∧ twk_m = twk ∧ nT_m = nT)) : (kv = thr_m) ∧ (0 ≤ kv ∧ kv ≤ 3) ∧ (kv = 0 → o_c 0 = (iI bv).toInt) ∧ (st_m = st_c) ∧ (sp_m = sp_c) ∧ (pe_m = pe_c) ∧ (idl_m = idl_c) ∧ (idn_m = idn_c) ∧ (tdue_m = tdue_c) ∧ (tlat_m = tlat_c) ∧ (twk_m = twk_c) ∧ (nT_m = nT_c) ∧ (LI (K + 200) pw co la vo cpar fr cdee use run nC tdue_c tlat_c twk_c nT_c edue elat ewk nE len_c cnt_c tin sp_c pe_c slp late srv hv av bd sh sc lt rule now st_c asl idl_c idn_c par div dee mrun mB) := by
  obtain ⟨⟨hpw, hco, hla, hc0, hl0⟩, ⟨hnC, hcp, huse, hrun, hcd, hvo, hpp, hdd, hd0, hde, huz, hfr, hfq, hdv, hmrun⟩, ⟨hrl, hhv, hid, hel⟩, hti, ⟨hsc, hlt, hmB⟩⟩ := id hI
  rcases hc with ⟨rfl, ⟨hcc, hcs, hcid⟩, hd_tdue, hd_tlat, hd_twk, hd_nT, ho⟩ | ⟨rfl, hcn, hz_st, hz_sp, hz_pe, hz_idl, hz_idn, hz_len, hz_cnt, hz_tdue, hz_tlat, hz_twk, hz_nT, ho⟩ | ⟨rfl, hcn, hz_st, hz_sp, hz_pe, hz_idl, hz_idn, hz_len, hz_cnt, hz_tdue, hz_tlat, hz_twk, hz_nT, ho⟩
  · rcases hm with ⟨hm0, hm1, ht, hb, hms, hq_due, hq_lat, hq_wk, hq_nT⟩ | ⟨hm0, ht, hst, hsp, hpe, hidl, hidn, hq_due, hq_lat, hq_wk, hq_nT⟩ | ⟨hm0, hm1, ht, hst, hsp, hpe, hidl, hidn, hq_due, hq_lat, hq_wk, hq_nT⟩
    · have h9 := hms.trans hcs.symm; simp only [Prod.mk.injEq] at h9; obtain ⟨e1, e2, e3, e4, e5⟩ := h9
      exact ⟨ht.symm, ⟨by omega, by omega⟩, fun _ => by rw [ho, hb, uZ_s], e1, e2, e3, e4, e5, hq_due.trans hd_tdue.symm, hq_lat.trans hd_tlat.symm, hq_wk.trans hd_twk.symm, hq_nT.trans hd_nT.symm, ⟨⟨hpw, hco, hla, hc0, hl0⟩, ⟨hnC, hcp, huse, hrun, hcd, hvo, hpp, hdd, hd0, hde, huz, hfr, hfq, hdv, hmrun⟩, ⟨hrl, hhv, hcid, hel⟩, (by rw [hd_tdue, hd_tlat, hd_twk, hd_nT]; exact ti_sched hK.2 hcc.1.1 hcc.1.2.1 hcc.1.2.2 hcc.2 (sc_ti hpw hla (by omega) hti hcs)), ⟨hsc, hlt, hmB⟩⟩⟩
    · exfalso; omega
    · exfalso; omega
  · rcases hm with ⟨hm0, hm1, ht, hb, hms, hq_due, hq_lat, hq_wk, hq_nT⟩ | ⟨hm0, ht, hst, hsp, hpe, hidl, hidn, hq_due, hq_lat, hq_wk, hq_nT⟩ | ⟨hm0, hm1, ht, hst, hsp, hpe, hidl, hidn, hq_due, hq_lat, hq_wk, hq_nT⟩
    · exfalso; omega
    · skip
      exact ⟨ht.symm, ⟨by omega, by omega⟩, fun z => absurd z (by omega), hst.trans hz_st.symm, hsp.trans hz_sp.symm, hpe.trans hz_pe.symm, hidl.trans hz_idl.symm, hidn.trans hz_idn.symm, hq_due.trans hz_tdue.symm, hq_lat.trans hz_tlat.symm, hq_wk.trans hz_twk.symm, hq_nT.trans hz_nT.symm, by rw [hz_st, hz_sp, hz_pe, hz_idl, hz_idn, hz_len, hz_cnt, hz_tdue, hz_tlat, hz_twk, hz_nT]; exact ⟨⟨hpw, hco, hla, hc0, hl0⟩, ⟨hnC, hcp, huse, hrun, hcd, hvo, hpp, hdd, hd0, hde, huz, hfr, hfq, hdv, hmrun⟩, ⟨hrl, hhv, hid, hel⟩, ti_mono (by omega) hti, ⟨hsc, hlt, hmB⟩⟩⟩
    · exfalso; omega
  · rcases hm with ⟨hm0, hm1, ht, hb, hms, hq_due, hq_lat, hq_wk, hq_nT⟩ | ⟨hm0, ht, hst, hsp, hpe, hidl, hidn, hq_due, hq_lat, hq_wk, hq_nT⟩ | ⟨hm0, hm1, ht, hst, hsp, hpe, hidl, hidn, hq_due, hq_lat, hq_wk, hq_nT⟩
    · exfalso; omega
    · exfalso; omega
    · skip
      exact ⟨ht.symm, ⟨by omega, by omega⟩, fun z => absurd z (by omega), hst.trans hz_st.symm, hsp.trans hz_sp.symm, hpe.trans hz_pe.symm, hidl.trans hz_idl.symm, hidn.trans hz_idn.symm, hq_due.trans hz_tdue.symm, hq_lat.trans hz_tlat.symm, hq_wk.trans hz_twk.symm, hq_nT.trans hz_nT.symm, by rw [hz_st, hz_sp, hz_pe, hz_idl, hz_idn, hz_len, hz_cnt, hz_tdue, hz_tlat, hz_twk, hz_nT]; exact ⟨⟨hpw, hco, hla, hc0, hl0⟩, ⟨hnC, hcp, huse, hrun, hcd, hvo, hpp, hdd, hd0, hde, huz, hfr, hfq, hdv, hmrun⟩, ⟨hrl, hhv, hid, hel⟩, ti_mono (by omega) hti, ⟨hsc, hlt, hmB⟩⟩⟩
theorem lo_setRule {K : Int} {pw : Int → Int} {co : Int → Int} {la : Int → Int} {vo : Int → Int} {cpar : Int → Int} {fr : Int → Int} {cdee : Int → Int} {use : Int → Int} {run : Int → Int} {nC : Int} {tdue : Int → Int} {tlat : Int → Int} {twk : Int → Int} {nT : Int} {edue : Int → Int} {elat : Int → Int} {ewk : Int → Int} {nE : Int} {len : Int → Int} {cnt : Int} {tin : Int → Int} {sp : Int} {pe : Int} {slp : Int} {late : Int} {srv : Int} {hv : Int → Int} {av : Int} {bd : Int} {sh : Int} {sc : Int → Int} {lt : Int → Int} {rule : Int} {now : Int} {st : Int} {asl : Int} {idl : Int → Int} {idn : Int} {par : Int → Int} {div : Int → Int} {dee : Int → Int} {mrun : Int → Int} {mL : Int → Int} {mB : Int → Int} {o : Int → Int} {x1 : Int} {kv : Int} {st_c : Int} {sp_c : Int} {pe_c : Int} {idl_c : Int → Int} {idn_c : Int} {len_c : Int → Int} {cnt_c : Int} {rule_c : Int} {o_c : Int → Int} {bv : Int} {thr_m : Int} {st_m : Int} {sp_m : Int} {pe_m : Int} {idl_m : Int → Int} {idn_m : Int} {rule_m : Int} (hK : 0 ≤ K ∧ K ≤ 110000) (hx1 : zR x1) (hI : LI K pw co la vo cpar fr cdee use run nC tdue tlat twk nT edue elat ewk nE len cnt tin sp pe slp late srv hv av bd sh sc lt rule now st asl idl idn par div dee mrun mB) (hc : (kv = 0 ∧ ((0 ≤ x1 ∧ x1 ≤ 2) ∧ (st_c, sp_c, pe_c, idl_c, idn_c) = scF pw la st asl now sp pe idl idn ∧ idR len_c cnt_c idl_c idn_c) ∧ rule_c = x1 ∧ o_c = uZ o 0 ((iI (rule)).toInt)) ∨ (kv = 1 ∧ (¬ (0 ≤ x1 ∧ x1 ≤ 2)) ∧ st_c = st ∧ sp_c = sp ∧ pe_c = pe ∧ idl_c = idl ∧ idn_c = idn ∧ len_c = len ∧ cnt_c = cnt ∧ rule_c = rule ∧ o_c = o)) (hm : ((0 ≤ x1 ∧ x1 ≤ 2) ∧ thr_m = 0 ∧ bv = rule ∧ (st_m, sp_m, pe_m, idl_m, idn_m) = scF pw la st asl now sp pe idl idn ∧ rule_m = x1) ∨ (¬ (0 ≤ x1 ∧ x1 ≤ 2) ∧ thr_m = 1 ∧ st_m = st ∧ sp_m = sp ∧ pe_m = pe ∧ idl_m = idl ∧ idn_m = idn ∧ rule_m = rule)) : (kv = thr_m) ∧ (0 ≤ kv ∧ kv ≤ 3) ∧ (kv = 0 → o_c 0 = (iI bv).toInt) ∧ (st_m = st_c) ∧ (sp_m = sp_c) ∧ (pe_m = pe_c) ∧ (idl_m = idl_c) ∧ (idn_m = idn_c) ∧ (rule_m = rule_c) ∧ (LI (K + 200) pw co la vo cpar fr cdee use run nC tdue tlat twk nT edue elat ewk nE len_c cnt_c tin sp_c pe_c slp late srv hv av bd sh sc lt rule_c now st_c asl idl_c idn_c par div dee mrun mB) := by
  obtain ⟨⟨hpw, hco, hla, hc0, hl0⟩, ⟨hnC, hcp, huse, hrun, hcd, hvo, hpp, hdd, hd0, hde, huz, hfr, hfq, hdv, hmrun⟩, ⟨hrl, hhv, hid, hel⟩, hti, ⟨hsc, hlt, hmB⟩⟩ := id hI
  rcases hc with ⟨rfl, ⟨hcc, hcs, hcid⟩, hd_rule, ho⟩ | ⟨rfl, hcn, hz_st, hz_sp, hz_pe, hz_idl, hz_idn, hz_len, hz_cnt, hz_rule, ho⟩
  · rcases hm with ⟨hm0, ht, hb, hms, hq_rule⟩ | ⟨hm0, ht, hst, hsp, hpe, hidl, hidn, hq_rule⟩
    · have h9 := hms.trans hcs.symm; simp only [Prod.mk.injEq] at h9; obtain ⟨e1, e2, e3, e4, e5⟩ := h9
      exact ⟨ht.symm, ⟨by omega, by omega⟩, fun _ => by rw [ho, hb, uZ_s], e1, e2, e3, e4, e5, hq_rule.trans hd_rule.symm, ⟨⟨hpw, hco, hla, hc0, hl0⟩, ⟨hnC, hcp, huse, hrun, hcd, hvo, hpp, hdd, hd0, hde, huz, hfr, hfq, hdv, hmrun⟩, ⟨by omega, hhv, hcid, hel⟩, ti_mono (by omega) (sc_ti hpw hla (by omega) hti hcs), ⟨hsc, hlt, hmB⟩⟩⟩
    · exfalso; omega
  · rcases hm with ⟨hm0, ht, hb, hms, hq_rule⟩ | ⟨hm0, ht, hst, hsp, hpe, hidl, hidn, hq_rule⟩
    · exfalso; omega
    · skip
      exact ⟨ht.symm, ⟨by omega, by omega⟩, fun z => absurd z (by omega), hst.trans hz_st.symm, hsp.trans hz_sp.symm, hpe.trans hz_pe.symm, hidl.trans hz_idl.symm, hidn.trans hz_idn.symm, hq_rule.trans hz_rule.symm, by rw [hz_st, hz_sp, hz_pe, hz_idl, hz_idn, hz_len, hz_cnt, hz_rule]; exact ⟨⟨hpw, hco, hla, hc0, hl0⟩, ⟨hnC, hcp, huse, hrun, hcd, hvo, hpp, hdd, hd0, hde, huz, hfr, hfq, hdv, hmrun⟩, ⟨hrl, hhv, hid, hel⟩, ti_mono (by omega) hti, ⟨hsc, hlt, hmB⟩⟩⟩
theorem lo_runs {K : Int} {pw : Int → Int} {co : Int → Int} {la : Int → Int} {vo : Int → Int} {cpar : Int → Int} {fr : Int → Int} {cdee : Int → Int} {use : Int → Int} {run : Int → Int} {nC : Int} {tdue : Int → Int} {tlat : Int → Int} {twk : Int → Int} {nT : Int} {edue : Int → Int} {elat : Int → Int} {ewk : Int → Int} {nE : Int} {len : Int → Int} {cnt : Int} {tin : Int → Int} {sp : Int} {pe : Int} {slp : Int} {late : Int} {srv : Int} {hv : Int → Int} {av : Int} {bd : Int} {sh : Int} {sc : Int → Int} {lt : Int → Int} {rule : Int} {now : Int} {st : Int} {asl : Int} {idl : Int → Int} {idn : Int} {par : Int → Int} {div : Int → Int} {dee : Int → Int} {mrun : Int → Int} {mL : Int → Int} {mB : Int → Int} {o : Int → Int} {x1 : Int} {kv : Int} {run_c : Int → Int} {o_c : Int → Int} {bv : Int} {thr_m : Int} {mrun_m : Int → Int} (hK : 0 ≤ K ∧ K ≤ 110000) (hx1 : zR x1) (hI : LI K pw co la vo cpar fr cdee use run nC tdue tlat twk nT edue elat ewk nE len cnt tin sp pe slp late srv hv av bd sh sc lt rule now st asl idl idn par div dee mrun mB) (hc : (kv = 0 ∧ ((0 ≤ x1 ∧ x1 < nC)) ∧ run_c = rnZ cpar (nC - 1) (r0Z use nC run) ∧ o_c = uZ o 0 (b2i (rnZ cpar (nC - 1) (r0Z use nC run) x1 ≠ 0))) ∨ (kv = 1 ∧ (¬ (0 ≤ x1 ∧ x1 < nC)) ∧ run_c = run ∧ o_c = o)) (hm : ((0 ≤ x1 ∧ x1 < nC) ∧ thr_m = 0 ∧ bv = (rnZ par (nC - 1) (r0Z use 8 mrun)) x1 ∧ mrun_m = rnZ par (nC - 1) (r0Z use 8 mrun)) ∨ (¬ (0 ≤ x1 ∧ x1 < nC) ∧ thr_m = 1 ∧ mrun_m = mrun)) : (kv = thr_m) ∧ (0 ≤ kv ∧ kv ≤ 3) ∧ (kv = 0 → (bv = 0 ∨ bv = 1) ∧ o_c 0 = bv) ∧ (LI (K + 200) pw co la vo cpar fr cdee use run_c nC tdue tlat twk nT edue elat ewk nE len cnt tin sp pe slp late srv hv av bd sh sc lt rule now st asl idl idn par div dee mrun_m mB) := by
  obtain ⟨⟨hpw, hco, hla, hc0, hl0⟩, ⟨hnC, hcp, huse, hrun, hcd, hvo, hpp, hdd, hd0, hde, huz, hfr, hfq, hdv, hmrun⟩, ⟨hrl, hhv, hid, hel⟩, hti, ⟨hsc, hlt, hmB⟩⟩ := id hI
  rcases hc with ⟨rfl, hcc, hd_run, ho⟩ | ⟨rfl, hcn, hz_run, ho⟩
  · rcases hm with ⟨hm0, ht, hb, hq_mrun⟩ | ⟨hm0, ht, hq_mrun⟩
    · skip
      have ht9 : tfZ (rnZ par (nC - 1) (r0Z use 8 mrun)) := rn_t (r0_t hmrun)
      have hv9 := ht9 x1 (by omega) (by omega)
      have hr9 := rn_eq (run := run) (mrun := mrun) (use := use) (m := 8) hnC hcp hpp (c := x1) hcc
      exact ⟨ht.symm, ⟨by omega, by omega⟩, fun _ => ⟨by rw [hb]; exact hv9, by rw [ho, hb, uZ_s, hr9]; exact b2i_v hv9⟩, by rw [hd_run, hq_mrun]; exact ⟨⟨hpw, hco, hla, hc0, hl0⟩, ⟨hnC, hcp, huse, rn_t (r0_t hrun), hcd, hvo, hpp, hdd, hd0, hde, huz, hfr, hfq, hdv, rn_t (r0_t hmrun)⟩, ⟨hrl, hhv, hid, hel⟩, ti_mono (by omega) hti, ⟨hsc, hlt, hmB⟩⟩⟩
    · exfalso; omega
  · rcases hm with ⟨hm0, ht, hb, hq_mrun⟩ | ⟨hm0, ht, hq_mrun⟩
    · exfalso; omega
    · skip
      exact ⟨ht.symm, ⟨by omega, by omega⟩, fun z => absurd z (by omega), by rw [hz_run, hq_mrun]; exact ⟨⟨hpw, hco, hla, hc0, hl0⟩, ⟨hnC, hcp, huse, hrun, hcd, hvo, hpp, hdd, hd0, hde, huz, hfr, hfq, hdv, hmrun⟩, ⟨hrl, hhv, hid, hel⟩, ti_mono (by omega) hti, ⟨hsc, hlt, hmB⟩⟩⟩
theorem lo_frequency {K : Int} {pw : Int → Int} {co : Int → Int} {la : Int → Int} {vo : Int → Int} {cpar : Int → Int} {fr : Int → Int} {cdee : Int → Int} {use : Int → Int} {run : Int → Int} {nC : Int} {tdue : Int → Int} {tlat : Int → Int} {twk : Int → Int} {nT : Int} {edue : Int → Int} {elat : Int → Int} {ewk : Int → Int} {nE : Int} {len : Int → Int} {cnt : Int} {tin : Int → Int} {sp : Int} {pe : Int} {slp : Int} {late : Int} {srv : Int} {hv : Int → Int} {av : Int} {bd : Int} {sh : Int} {sc : Int → Int} {lt : Int → Int} {rule : Int} {now : Int} {st : Int} {asl : Int} {idl : Int → Int} {idn : Int} {par : Int → Int} {div : Int → Int} {dee : Int → Int} {mrun : Int → Int} {mL : Int → Int} {mB : Int → Int} {o : Int → Int} {x1 : Int} {kv : Int} {o_c : Int → Int} {bv : Int} {thr_m : Int} (hK : 0 ≤ K ∧ K ≤ 110000) (hx1 : zR x1) (hI : LI K pw co la vo cpar fr cdee use run nC tdue tlat twk nT edue elat ewk nE len cnt tin sp pe slp late srv hv av bd sh sc lt rule now st asl idl idn par div dee mrun mB) (hc : (kv = 0 ∧ ((0 ≤ x1 ∧ x1 < nC)) ∧ o_c = uZ o 0 ((iI (fr x1)).toInt)) ∨ (kv = 1 ∧ (¬ (0 ≤ x1 ∧ x1 < nC)) ∧ o_c = o)) (hm : ((0 ≤ x1 ∧ x1 < nC) ∧ thr_m = 0 ∧ bv = 4800 / fqN par div 8 x1 1) ∨ (¬ (0 ≤ x1 ∧ x1 < nC) ∧ thr_m = 1)) : (kv = thr_m) ∧ (0 ≤ kv ∧ kv ≤ 3) ∧ (kv = 0 → o_c 0 = (iI bv).toInt) ∧ (LI (K + 200) pw co la vo cpar fr cdee use run nC tdue tlat twk nT edue elat ewk nE len cnt tin sp pe slp late srv hv av bd sh sc lt rule now st asl idl idn par div dee mrun mB) := by
  obtain ⟨⟨hpw, hco, hla, hc0, hl0⟩, ⟨hnC, hcp, huse, hrun, hcd, hvo, hpp, hdd, hd0, hde, huz, hfr, hfq, hdv, hmrun⟩, ⟨hrl, hhv, hid, hel⟩, hti, ⟨hsc, hlt, hmB⟩⟩ := id hI
  rcases hc with ⟨rfl, hcc, ho⟩ | ⟨rfl, hcn, ho⟩
  · rcases hm with ⟨hm0, ht, hb⟩ | ⟨hm0, ht⟩
    · skip
      exact ⟨ht.symm, ⟨by omega, by omega⟩, fun _ => by rw [ho, hb, uZ_s, hfq x1 hcc.1 hcc.2], ⟨⟨hpw, hco, hla, hc0, hl0⟩, ⟨hnC, hcp, huse, hrun, hcd, hvo, hpp, hdd, hd0, hde, huz, hfr, hfq, hdv, hmrun⟩, ⟨hrl, hhv, hid, hel⟩, ti_mono (by omega) hti, ⟨hsc, hlt, hmB⟩⟩⟩
    · exfalso; omega
  · rcases hm with ⟨hm0, ht, hb⟩ | ⟨hm0, ht⟩
    · exfalso; omega
    · skip
      exact ⟨ht.symm, ⟨by omega, by omega⟩, fun z => absurd z (by omega), ⟨⟨hpw, hco, hla, hc0, hl0⟩, ⟨hnC, hcp, huse, hrun, hcd, hvo, hpp, hdd, hd0, hde, huz, hfr, hfq, hdv, hmrun⟩, ⟨hrl, hhv, hid, hel⟩, ti_mono (by omega) hti, ⟨hsc, hlt, hmB⟩⟩⟩
theorem lo_breakEven {K : Int} {pw : Int → Int} {co : Int → Int} {la : Int → Int} {vo : Int → Int} {cpar : Int → Int} {fr : Int → Int} {cdee : Int → Int} {use : Int → Int} {run : Int → Int} {nC : Int} {tdue : Int → Int} {tlat : Int → Int} {twk : Int → Int} {nT : Int} {edue : Int → Int} {elat : Int → Int} {ewk : Int → Int} {nE : Int} {len : Int → Int} {cnt : Int} {tin : Int → Int} {sp : Int} {pe : Int} {slp : Int} {late : Int} {srv : Int} {hv : Int → Int} {av : Int} {bd : Int} {sh : Int} {sc : Int → Int} {lt : Int → Int} {rule : Int} {now : Int} {st : Int} {asl : Int} {idl : Int → Int} {idn : Int} {par : Int → Int} {div : Int → Int} {dee : Int → Int} {mrun : Int → Int} {mL : Int → Int} {mB : Int → Int} {o : Int → Int} {x1 : Int} {kv : Int} {o_c : Int → Int} {bv : Int} {thr_m : Int} (hK : 0 ≤ K ∧ K ≤ 110000) (hx1 : zR x1) (hI : LI K pw co la vo cpar fr cdee use run nC tdue tlat twk nT edue elat ewk nE len cnt tin sp pe slp late srv hv av bd sh sc lt rule now st asl idl idn par div dee mrun mB) (hc : (kv = 0 ∧ ((1 ≤ x1 ∧ x1 ≤ 3)) ∧ o_c = uZ o 0 ((iI (evA pw co la x1)).toInt)) ∨ (kv = 1 ∧ (¬ (1 ≤ x1 ∧ x1 ≤ 3)) ∧ o_c = o)) (hm : ((1 ≤ x1 ∧ x1 ≤ 3) ∧ thr_m = 0 ∧ bv = evA pw co la x1) ∨ (¬ (1 ≤ x1 ∧ x1 ≤ 3) ∧ thr_m = 1)) : (kv = thr_m) ∧ (0 ≤ kv ∧ kv ≤ 3) ∧ (kv = 0 → o_c 0 = (iI bv).toInt) ∧ (LI (K + 200) pw co la vo cpar fr cdee use run nC tdue tlat twk nT edue elat ewk nE len cnt tin sp pe slp late srv hv av bd sh sc lt rule now st asl idl idn par div dee mrun mB) := by
  obtain ⟨⟨hpw, hco, hla, hc0, hl0⟩, ⟨hnC, hcp, huse, hrun, hcd, hvo, hpp, hdd, hd0, hde, huz, hfr, hfq, hdv, hmrun⟩, ⟨hrl, hhv, hid, hel⟩, hti, ⟨hsc, hlt, hmB⟩⟩ := id hI
  rcases hc with ⟨rfl, hcc, ho⟩ | ⟨rfl, hcn, ho⟩
  · rcases hm with ⟨hm0, ht, hb⟩ | ⟨hm0, ht⟩
    · skip
      exact ⟨ht.symm, ⟨by omega, by omega⟩, fun _ => by rw [ho, hb, uZ_s], ⟨⟨hpw, hco, hla, hc0, hl0⟩, ⟨hnC, hcp, huse, hrun, hcd, hvo, hpp, hdd, hd0, hde, huz, hfr, hfq, hdv, hmrun⟩, ⟨hrl, hhv, hid, hel⟩, ti_mono (by omega) hti, ⟨hsc, hlt, hmB⟩⟩⟩
    · exfalso; omega
  · rcases hm with ⟨hm0, ht, hb⟩ | ⟨hm0, ht⟩
    · exfalso; omega
    · skip
      exact ⟨ht.symm, ⟨by omega, by omega⟩, fun z => absurd z (by omega), ⟨⟨hpw, hco, hla, hc0, hl0⟩, ⟨hnC, hcp, huse, hrun, hcd, hvo, hpp, hdd, hd0, hde, huz, hfr, hfq, hdv, hmrun⟩, ⟨hrl, hhv, hid, hel⟩, ti_mono (by omega) hti, ⟨hsc, hlt, hmB⟩⟩⟩
theorem lo_addEvent {K : Int} {pw : Int → Int} {co : Int → Int} {la : Int → Int} {vo : Int → Int} {cpar : Int → Int} {fr : Int → Int} {cdee : Int → Int} {use : Int → Int} {run : Int → Int} {nC : Int} {tdue : Int → Int} {tlat : Int → Int} {twk : Int → Int} {nT : Int} {edue : Int → Int} {elat : Int → Int} {ewk : Int → Int} {nE : Int} {len : Int → Int} {cnt : Int} {tin : Int → Int} {sp : Int} {pe : Int} {slp : Int} {late : Int} {srv : Int} {hv : Int → Int} {av : Int} {bd : Int} {sh : Int} {sc : Int → Int} {lt : Int → Int} {rule : Int} {now : Int} {st : Int} {asl : Int} {idl : Int → Int} {idn : Int} {par : Int → Int} {div : Int → Int} {dee : Int → Int} {mrun : Int → Int} {mL : Int → Int} {mB : Int → Int} {o : Int → Int} {x1 : Int} {x2 : Int} {kv : Int} {edue_c : Int → Int} {elat_c : Int → Int} {ewk_c : Int → Int} {nE_c : Int} {o_c : Int → Int} {bv : Int} {thr_m : Int} {edue_m : Int → Int} {ewk_m : Int → Int} {nE_m : Int} (hK : 0 ≤ K ∧ K ≤ 110000) (hx1 : zR x1) (hx2 : zR x2) (hI : LI K pw co la vo cpar fr cdee use run nC tdue tlat twk nT edue elat ewk nE len cnt tin sp pe slp late srv hv av bd sh sc lt rule now st asl idl idn par div dee mrun mB) (hc : (kv = 0 ∧ ((((now ≤ x1 ∧ x1 ≤ now + 1000) ∧ (1 ≤ x2 ∧ x2 ≤ 50)) ∧ nE < 12)) ∧ edue_c = uZ edue nE x1 ∧ elat_c = uZ elat nE x1 ∧ ewk_c = uZ ewk nE x2 ∧ nE_c = nE + 1 ∧ o_c = uZ o 0 ((iI (nE + 1)).toInt)) ∨ (kv = 1 ∧ (¬ ((now ≤ x1 ∧ x1 ≤ now + 1000) ∧ (1 ≤ x2 ∧ x2 ≤ 50))) ∧ edue_c = edue ∧ elat_c = elat ∧ ewk_c = ewk ∧ nE_c = nE ∧ o_c = o) ∨ (kv = 2 ∧ (((now ≤ x1 ∧ x1 ≤ now + 1000) ∧ (1 ≤ x2 ∧ x2 ≤ 50)) ∧ ¬ nE < 12) ∧ edue_c = edue ∧ elat_c = elat ∧ ewk_c = ewk ∧ nE_c = nE ∧ o_c = o)) (hm : (((now ≤ x1 ∧ x1 ≤ now + 1000) ∧ (1 ≤ x2 ∧ x2 ≤ 50)) ∧ (nE < 12) ∧ thr_m = 0 ∧ bv = nE + 1 ∧ edue_m = uZ edue nE x1 ∧ ewk_m = uZ ewk nE x2 ∧ nE_m = nE + 1) ∨ (¬ ((now ≤ x1 ∧ x1 ≤ now + 1000) ∧ (1 ≤ x2 ∧ x2 ≤ 50)) ∧ thr_m = 1 ∧ edue_m = edue ∧ ewk_m = ewk ∧ nE_m = nE) ∨ (((now ≤ x1 ∧ x1 ≤ now + 1000) ∧ (1 ≤ x2 ∧ x2 ≤ 50)) ∧ ¬ (nE < 12) ∧ thr_m = 2 ∧ edue_m = edue ∧ ewk_m = ewk ∧ nE_m = nE)) : (kv = thr_m) ∧ (0 ≤ kv ∧ kv ≤ 3) ∧ (kv = 0 → o_c 0 = (iI bv).toInt) ∧ (edue_m = edue_c) ∧ (ewk_m = ewk_c) ∧ (nE_m = nE_c) ∧ (LI (K + 200) pw co la vo cpar fr cdee use run nC tdue tlat twk nT edue_c elat_c ewk_c nE_c len cnt tin sp pe slp late srv hv av bd sh sc lt rule now st asl idl idn par div dee mrun mB) := by
  obtain ⟨⟨hpw, hco, hla, hc0, hl0⟩, ⟨hnC, hcp, huse, hrun, hcd, hvo, hpp, hdd, hd0, hde, huz, hfr, hfq, hdv, hmrun⟩, ⟨hrl, hhv, hid, hel⟩, hti, ⟨hsc, hlt, hmB⟩⟩ := id hI
  rcases hc with ⟨rfl, hcc, hd_edue, hd_elat, hd_ewk, hd_nE, ho⟩ | ⟨rfl, hcn, hz_edue, hz_elat, hz_ewk, hz_nE, ho⟩ | ⟨rfl, hcn, hz_edue, hz_elat, hz_ewk, hz_nE, ho⟩
  · rcases hm with ⟨hm0, hm1, ht, hb, hq_tk, hq_ld, hq_nE⟩ | ⟨hm0, ht, hq_tk, hq_ld, hq_nE⟩ | ⟨hm0, hm1, ht, hq_tk, hq_ld, hq_nE⟩
    · skip
      exact ⟨ht.symm, ⟨by omega, by omega⟩, fun _ => by rw [ho, hb, uZ_s], hq_tk.trans hd_edue.symm, hq_ld.trans hd_ewk.symm, hq_nE.trans hd_nE.symm, by rw [hd_edue, hd_elat, hd_ewk, hd_nE]; exact ⟨⟨hpw, hco, hla, hc0, hl0⟩, ⟨hnC, hcp, huse, hrun, hcd, hvo, hpp, hdd, hd0, hde, huz, hfr, hfq, hdv, hmrun⟩, ⟨hrl, hhv, hid, rgZ_u hel (by have := hti.2.2.1; omega)⟩, ti_event hK.2 hcc.1.1 hcc.1.2 hcc.2 hti, ⟨hsc, hlt, hmB⟩⟩⟩
    · exfalso; omega
    · exfalso; omega
  · rcases hm with ⟨hm0, hm1, ht, hb, hq_tk, hq_ld, hq_nE⟩ | ⟨hm0, ht, hq_tk, hq_ld, hq_nE⟩ | ⟨hm0, hm1, ht, hq_tk, hq_ld, hq_nE⟩
    · exfalso; omega
    · skip
      exact ⟨ht.symm, ⟨by omega, by omega⟩, fun z => absurd z (by omega), hq_tk.trans hz_edue.symm, hq_ld.trans hz_ewk.symm, hq_nE.trans hz_nE.symm, by rw [hz_edue, hz_elat, hz_ewk, hz_nE]; exact ⟨⟨hpw, hco, hla, hc0, hl0⟩, ⟨hnC, hcp, huse, hrun, hcd, hvo, hpp, hdd, hd0, hde, huz, hfr, hfq, hdv, hmrun⟩, ⟨hrl, hhv, hid, hel⟩, ti_mono (by omega) hti, ⟨hsc, hlt, hmB⟩⟩⟩
    · exfalso; omega
  · rcases hm with ⟨hm0, hm1, ht, hb, hq_tk, hq_ld, hq_nE⟩ | ⟨hm0, ht, hq_tk, hq_ld, hq_nE⟩ | ⟨hm0, hm1, ht, hq_tk, hq_ld, hq_nE⟩
    · exfalso; omega
    · exfalso; omega
    · skip
      exact ⟨ht.symm, ⟨by omega, by omega⟩, fun z => absurd z (by omega), hq_tk.trans hz_edue.symm, hq_ld.trans hz_ewk.symm, hq_nE.trans hz_nE.symm, by rw [hz_edue, hz_elat, hz_ewk, hz_nE]; exact ⟨⟨hpw, hco, hla, hc0, hl0⟩, ⟨hnC, hcp, huse, hrun, hcd, hvo, hpp, hdd, hd0, hde, huz, hfr, hfq, hdv, hmrun⟩, ⟨hrl, hhv, hid, hel⟩, ti_mono (by omega) hti, ⟨hsc, hlt, hmB⟩⟩⟩
theorem lo_ticksIn {K : Int} {pw : Int → Int} {co : Int → Int} {la : Int → Int} {vo : Int → Int} {cpar : Int → Int} {fr : Int → Int} {cdee : Int → Int} {use : Int → Int} {run : Int → Int} {nC : Int} {tdue : Int → Int} {tlat : Int → Int} {twk : Int → Int} {nT : Int} {edue : Int → Int} {elat : Int → Int} {ewk : Int → Int} {nE : Int} {len : Int → Int} {cnt : Int} {tin : Int → Int} {sp : Int} {pe : Int} {slp : Int} {late : Int} {srv : Int} {hv : Int → Int} {av : Int} {bd : Int} {sh : Int} {sc : Int → Int} {lt : Int → Int} {rule : Int} {now : Int} {st : Int} {asl : Int} {idl : Int → Int} {idn : Int} {par : Int → Int} {div : Int → Int} {dee : Int → Int} {mrun : Int → Int} {mL : Int → Int} {mB : Int → Int} {o : Int → Int} {x1 : Int} {kv : Int} {o_c : Int → Int} {bv : Int} {thr_m : Int} (hK : 0 ≤ K ∧ K ≤ 110000) (hx1 : zR x1) (hI : LI K pw co la vo cpar fr cdee use run nC tdue tlat twk nT edue elat ewk nE len cnt tin sp pe slp late srv hv av bd sh sc lt rule now st asl idl idn par div dee mrun mB) (hc : (kv = 0 ∧ ((0 ≤ x1 ∧ x1 ≤ 3)) ∧ o_c = uZ o 0 ((iI (tin x1)).toInt)) ∨ (kv = 1 ∧ (¬ (0 ≤ x1 ∧ x1 ≤ 3)) ∧ o_c = o)) (hm : ((0 ≤ x1 ∧ x1 ≤ 3) ∧ thr_m = 0 ∧ bv = tin x1) ∨ (¬ (0 ≤ x1 ∧ x1 ≤ 3) ∧ thr_m = 1)) : (kv = thr_m) ∧ (0 ≤ kv ∧ kv ≤ 3) ∧ (kv = 0 → o_c 0 = (iI bv).toInt) ∧ (LI (K + 200) pw co la vo cpar fr cdee use run nC tdue tlat twk nT edue elat ewk nE len cnt tin sp pe slp late srv hv av bd sh sc lt rule now st asl idl idn par div dee mrun mB) := by
  obtain ⟨⟨hpw, hco, hla, hc0, hl0⟩, ⟨hnC, hcp, huse, hrun, hcd, hvo, hpp, hdd, hd0, hde, huz, hfr, hfq, hdv, hmrun⟩, ⟨hrl, hhv, hid, hel⟩, hti, ⟨hsc, hlt, hmB⟩⟩ := id hI
  rcases hc with ⟨rfl, hcc, ho⟩ | ⟨rfl, hcn, ho⟩
  · rcases hm with ⟨hm0, ht, hb⟩ | ⟨hm0, ht⟩
    · skip
      exact ⟨ht.symm, ⟨by omega, by omega⟩, fun _ => by rw [ho, hb, uZ_s], ⟨⟨hpw, hco, hla, hc0, hl0⟩, ⟨hnC, hcp, huse, hrun, hcd, hvo, hpp, hdd, hd0, hde, huz, hfr, hfq, hdv, hmrun⟩, ⟨hrl, hhv, hid, hel⟩, ti_mono (by omega) hti, ⟨hsc, hlt, hmB⟩⟩⟩
    · exfalso; omega
  · rcases hm with ⟨hm0, ht, hb⟩ | ⟨hm0, ht⟩
    · exfalso; omega
    · skip
      exact ⟨ht.symm, ⟨by omega, by omega⟩, fun z => absurd z (by omega), ⟨⟨hpw, hco, hla, hc0, hl0⟩, ⟨hnC, hcp, huse, hrun, hcd, hvo, hpp, hdd, hd0, hde, huz, hfr, hfq, hdv, hmrun⟩, ⟨hrl, hhv, hid, hel⟩, ti_mono (by omega) hti, ⟨hsc, hlt, hmB⟩⟩⟩
theorem lo_setHarvest {K : Int} {pw : Int → Int} {co : Int → Int} {la : Int → Int} {vo : Int → Int} {cpar : Int → Int} {fr : Int → Int} {cdee : Int → Int} {use : Int → Int} {run : Int → Int} {nC : Int} {tdue : Int → Int} {tlat : Int → Int} {twk : Int → Int} {nT : Int} {edue : Int → Int} {elat : Int → Int} {ewk : Int → Int} {nE : Int} {len : Int → Int} {cnt : Int} {tin : Int → Int} {sp : Int} {pe : Int} {slp : Int} {late : Int} {srv : Int} {hv : Int → Int} {av : Int} {bd : Int} {sh : Int} {sc : Int → Int} {lt : Int → Int} {rule : Int} {now : Int} {st : Int} {asl : Int} {idl : Int → Int} {idn : Int} {par : Int → Int} {div : Int → Int} {dee : Int → Int} {mrun : Int → Int} {mL : Int → Int} {mB : Int → Int} {o : Int → Int} {x1 : Int} {x2 : Int} {kv : Int} {hv_c : Int → Int} {o_c : Int → Int} {bv : Int} {thr_m : Int} {hv_m : Int → Int} (hK : 0 ≤ K ∧ K ≤ 110000) (hx1 : zR x1) (hx2 : zR x2) (hI : LI K pw co la vo cpar fr cdee use run nC tdue tlat twk nT edue elat ewk nE len cnt tin sp pe slp late srv hv av bd sh sc lt rule now st asl idl idn par div dee mrun mB) (hc : (kv = 0 ∧ (((0 ≤ x1 ∧ x1 ≤ 23) ∧ (0 ≤ x2 ∧ x2 ≤ 1000))) ∧ hv_c = uZ hv x1 x2 ∧ o_c = uZ o 0 ((iI (hv x1)).toInt)) ∨ (kv = 1 ∧ (¬ ((0 ≤ x1 ∧ x1 ≤ 23) ∧ (0 ≤ x2 ∧ x2 ≤ 1000))) ∧ hv_c = hv ∧ o_c = o)) (hm : (((0 ≤ x1 ∧ x1 ≤ 23) ∧ (0 ≤ x2 ∧ x2 ≤ 1000)) ∧ thr_m = 0 ∧ bv = hv x1 ∧ hv_m = uZ hv x1 x2) ∨ (¬ ((0 ≤ x1 ∧ x1 ≤ 23) ∧ (0 ≤ x2 ∧ x2 ≤ 1000)) ∧ thr_m = 1 ∧ hv_m = hv)) : (kv = thr_m) ∧ (0 ≤ kv ∧ kv ≤ 3) ∧ (kv = 0 → o_c 0 = (iI bv).toInt) ∧ (hv_m = hv_c) ∧ (LI (K + 200) pw co la vo cpar fr cdee use run nC tdue tlat twk nT edue elat ewk nE len cnt tin sp pe slp late srv hv_c av bd sh sc lt rule now st asl idl idn par div dee mrun mB) := by
  obtain ⟨⟨hpw, hco, hla, hc0, hl0⟩, ⟨hnC, hcp, huse, hrun, hcd, hvo, hpp, hdd, hd0, hde, huz, hfr, hfq, hdv, hmrun⟩, ⟨hrl, hhv, hid, hel⟩, hti, ⟨hsc, hlt, hmB⟩⟩ := id hI
  rcases hc with ⟨rfl, hcc, hd_hv, ho⟩ | ⟨rfl, hcn, hz_hv, ho⟩
  · rcases hm with ⟨hm0, ht, hb, hq_hv⟩ | ⟨hm0, ht, hq_hv⟩
    · skip
      exact ⟨ht.symm, ⟨by omega, by omega⟩, fun _ => by rw [ho, hb, uZ_s], hq_hv.trans hd_hv.symm, by rw [hd_hv]; exact ⟨⟨hpw, hco, hla, hc0, hl0⟩, ⟨hnC, hcp, huse, hrun, hcd, hvo, hpp, hdd, hd0, hde, huz, hfr, hfq, hdv, hmrun⟩, ⟨hrl, rgZ_u hhv (by omega), hid, hel⟩, ti_mono (by omega) hti, ⟨hsc, hlt, hmB⟩⟩⟩
    · exfalso; omega
  · rcases hm with ⟨hm0, ht, hb, hq_hv⟩ | ⟨hm0, ht, hq_hv⟩
    · exfalso; omega
    · skip
      exact ⟨ht.symm, ⟨by omega, by omega⟩, fun z => absurd z (by omega), hq_hv.trans hz_hv.symm, by rw [hz_hv]; exact ⟨⟨hpw, hco, hla, hc0, hl0⟩, ⟨hnC, hcp, huse, hrun, hcd, hvo, hpp, hdd, hd0, hde, huz, hfr, hfq, hdv, hmrun⟩, ⟨hrl, hhv, hid, hel⟩, ti_mono (by omega) hti, ⟨hsc, hlt, hmB⟩⟩⟩
theorem lo_plannedWakeups {K : Int} {pw : Int → Int} {co : Int → Int} {la : Int → Int} {vo : Int → Int} {cpar : Int → Int} {fr : Int → Int} {cdee : Int → Int} {use : Int → Int} {run : Int → Int} {nC : Int} {tdue : Int → Int} {tlat : Int → Int} {twk : Int → Int} {nT : Int} {edue : Int → Int} {elat : Int → Int} {ewk : Int → Int} {nE : Int} {len : Int → Int} {cnt : Int} {tin : Int → Int} {sp : Int} {pe : Int} {slp : Int} {late : Int} {srv : Int} {hv : Int → Int} {av : Int} {bd : Int} {sh : Int} {sc : Int → Int} {lt : Int → Int} {rule : Int} {now : Int} {st : Int} {asl : Int} {idl : Int → Int} {idn : Int} {par : Int → Int} {div : Int → Int} {dee : Int → Int} {mrun : Int → Int} {mL : Int → Int} {mB : Int → Int} {o : Int → Int} {x1 : Int} {kv : Int} {o_c : Int → Int} {bv : Int} {thr_m : Int} (hK : 0 ≤ K ∧ K ≤ 110000) (hx1 : zR x1) (hI : LI K pw co la vo cpar fr cdee use run nC tdue tlat twk nT edue elat ewk nE len cnt tin sp pe slp late srv hv av bd sh sc lt rule now st asl idl idn par div dee mrun mB) (hc : (kv = 0 ∧ ((now ≤ x1 ∧ x1 ≤ now + 400)) ∧ o_c = uZ o 0 ((iI (swN tdue tlat x1 nT (x1 + 1).toNat (-1))).toInt)) ∨ (kv = 1 ∧ (¬ (now ≤ x1 ∧ x1 ≤ now + 400)) ∧ o_c = o)) (hm : ((now ≤ x1 ∧ x1 ≤ now + 400) ∧ thr_m = 0 ∧ bv = swN tdue tlat x1 nT (x1 + 1).toNat (-1)) ∨ (¬ (now ≤ x1 ∧ x1 ≤ now + 400) ∧ thr_m = 1)) : (kv = thr_m) ∧ (0 ≤ kv ∧ kv ≤ 3) ∧ (kv = 0 → o_c 0 = (iI bv).toInt) ∧ (LI (K + 200) pw co la vo cpar fr cdee use run nC tdue tlat twk nT edue elat ewk nE len cnt tin sp pe slp late srv hv av bd sh sc lt rule now st asl idl idn par div dee mrun mB) := by
  obtain ⟨⟨hpw, hco, hla, hc0, hl0⟩, ⟨hnC, hcp, huse, hrun, hcd, hvo, hpp, hdd, hd0, hde, huz, hfr, hfq, hdv, hmrun⟩, ⟨hrl, hhv, hid, hel⟩, hti, ⟨hsc, hlt, hmB⟩⟩ := id hI
  rcases hc with ⟨rfl, hcc, ho⟩ | ⟨rfl, hcn, ho⟩
  · rcases hm with ⟨hm0, ht, hb⟩ | ⟨hm0, ht⟩
    · skip
      exact ⟨ht.symm, ⟨by omega, by omega⟩, fun _ => by rw [ho, hb, uZ_s], ⟨⟨hpw, hco, hla, hc0, hl0⟩, ⟨hnC, hcp, huse, hrun, hcd, hvo, hpp, hdd, hd0, hde, huz, hfr, hfq, hdv, hmrun⟩, ⟨hrl, hhv, hid, hel⟩, ti_mono (by omega) hti, ⟨hsc, hlt, hmB⟩⟩⟩
    · exfalso; omega
  · rcases hm with ⟨hm0, ht, hb⟩ | ⟨hm0, ht⟩
    · exfalso; omega
    · skip
      exact ⟨ht.symm, ⟨by omega, by omega⟩, fun z => absurd z (by omega), ⟨⟨hpw, hco, hla, hc0, hl0⟩, ⟨hnC, hcp, huse, hrun, hcd, hvo, hpp, hdd, hd0, hde, huz, hfr, hfq, hdv, hmrun⟩, ⟨hrl, hhv, hid, hel⟩, ti_mono (by omega) hti, ⟨hsc, hlt, hmB⟩⟩⟩
theorem lo_fewestWakeups {K : Int} {pw : Int → Int} {co : Int → Int} {la : Int → Int} {vo : Int → Int} {cpar : Int → Int} {fr : Int → Int} {cdee : Int → Int} {use : Int → Int} {run : Int → Int} {nC : Int} {tdue : Int → Int} {tlat : Int → Int} {twk : Int → Int} {nT : Int} {edue : Int → Int} {elat : Int → Int} {ewk : Int → Int} {nE : Int} {len : Int → Int} {cnt : Int} {tin : Int → Int} {sp : Int} {pe : Int} {slp : Int} {late : Int} {srv : Int} {hv : Int → Int} {av : Int} {bd : Int} {sh : Int} {sc : Int → Int} {lt : Int → Int} {rule : Int} {now : Int} {st : Int} {asl : Int} {idl : Int → Int} {idn : Int} {par : Int → Int} {div : Int → Int} {dee : Int → Int} {mrun : Int → Int} {mL : Int → Int} {mB : Int → Int} {o : Int → Int} {x1 : Int} {kv : Int} {sc_c : Int → Int} {lt_c : Int → Int} {o_c : Int → Int} {bv : Int} {thr_m : Int} (hK : 0 ≤ K ∧ K ≤ 110000) (hx1 : zR x1) (hI : LI K pw co la vo cpar fr cdee use run nC tdue tlat twk nT edue elat ewk nE len cnt tin sp pe slp late srv hv av bd sh sc lt rule now st asl idl idn par div dee mrun mB) (hc : (kv = 0 ∧ ((now ≤ x1 ∧ x1 ≤ now + 400) ∧ sc_c = scZ (fun _ => 1) sc 402 ∧ lt_c = ltZ (scZ (fun _ => 1) sc 402) (fun to => ebZ tdue tlat nT now (now - 1) ((now - 1) + to)) lt (x1 - (now - 1))) ∧ o_c = uZ o 0 ((iI (ltZ (scZ (fun _ => 1) sc 402) (fun to => ebZ tdue tlat nT now (now - 1) ((now - 1) + to)) lt (x1 - (now - 1)) (x1 - (now - 1)) - 1)).toInt)) ∨ (kv = 1 ∧ (¬ (now ≤ x1 ∧ x1 ≤ now + 400)) ∧ sc_c = sc ∧ lt_c = lt ∧ o_c = o)) (hm : ((now ≤ x1 ∧ x1 ≤ now + 400) ∧ thr_m = 0 ∧ bv = swN tdue tlat x1 nT (x1 + 1).toNat (-1)) ∨ (¬ (now ≤ x1 ∧ x1 ≤ now + 400) ∧ thr_m = 1)) : (kv = thr_m) ∧ (0 ≤ kv ∧ kv ≤ 3) ∧ (kv = 0 → o_c 0 = (iI bv).toInt) ∧ (LI (K + 200) pw co la vo cpar fr cdee use run nC tdue tlat twk nT edue elat ewk nE len cnt tin sp pe slp late srv hv av bd sh sc_c lt_c rule now st asl idl idn par div dee mrun mB) := by
  obtain ⟨⟨hpw, hco, hla, hc0, hl0⟩, ⟨hnC, hcp, huse, hrun, hcd, hvo, hpp, hdd, hd0, hde, huz, hfr, hfq, hdv, hmrun⟩, ⟨hrl, hhv, hid, hel⟩, hti, ⟨hsc, hlt, hmB⟩⟩ := id hI
  rcases hc with ⟨rfl, ⟨hcc, hd_sc, hd_lt⟩, ho⟩ | ⟨rfl, hcn, hz_sc, hz_lt, ho⟩
  · rcases hm with ⟨hm0, ht, hb⟩ | ⟨hm0, ht⟩
    · skip
      obtain ⟨i1, i2, i3, i4, i5, i6, i7, i8, i9, i10, i11, i12, i13, i14, i15, i16, i17⟩ := id hti
      have hd0l : ∀ j : Int, 0 ≤ j → j < nT → 0 ≤ tdue j := fun j q1 q2 => (i5 j q1 (by omega)).1
      have hdl : ∀ j : Int, 0 ≤ j → j < nT → tdue j ≤ tlat j := fun j q1 q2 => (i14 j q1 q2).2
      have hnl : ∀ j : Int, 0 ≤ j → j < nT → now ≤ tlat j := fun j q1 q2 => (i14 j q1 q2).1
      have hs9 : rgZ (scZ (fun _ => 1) sc 402) 402 1110000 := sc_r (fun j _ _ => by show (0 : Int) ≤ 1 ∧ (1 : Int) ≤ 1110000; omega) hsc (by omega) (Int.le_refl _)
      exact ⟨ht.symm, ⟨by omega, by omega⟩, fun _ => by rw [ho, hb, uZ_s, few_eq hsc i4.1 hd0l hdl hnl i3.1 hcc], by rw [hd_sc, hd_lt]; exact ⟨⟨hpw, hco, hla, hc0, hl0⟩, ⟨hnC, hcp, huse, hrun, hcd, hvo, hpp, hdd, hd0, hde, huz, hfr, hfq, hdv, hmrun⟩, ⟨hrl, hhv, hid, hel⟩, ti_mono (by omega) hti, ⟨hs9, ltz_r hs9 hlt (by omega) (by omega), hmB⟩⟩⟩
    · exfalso; omega
  · rcases hm with ⟨hm0, ht, hb⟩ | ⟨hm0, ht⟩
    · exfalso; omega
    · skip
      exact ⟨ht.symm, ⟨by omega, by omega⟩, fun z => absurd z (by omega), by rw [hz_sc, hz_lt]; exact ⟨⟨hpw, hco, hla, hc0, hl0⟩, ⟨hnC, hcp, huse, hrun, hcd, hvo, hpp, hdd, hd0, hde, huz, hfr, hfq, hdv, hmrun⟩, ⟨hrl, hhv, hid, hel⟩, ti_mono (by omega) hti, ⟨hsc, hlt, hmB⟩⟩⟩
theorem lo_plannedCost {K : Int} {pw : Int → Int} {co : Int → Int} {la : Int → Int} {vo : Int → Int} {cpar : Int → Int} {fr : Int → Int} {cdee : Int → Int} {use : Int → Int} {run : Int → Int} {nC : Int} {tdue : Int → Int} {tlat : Int → Int} {twk : Int → Int} {nT : Int} {edue : Int → Int} {elat : Int → Int} {ewk : Int → Int} {nE : Int} {len : Int → Int} {cnt : Int} {tin : Int → Int} {sp : Int} {pe : Int} {slp : Int} {late : Int} {srv : Int} {hv : Int → Int} {av : Int} {bd : Int} {sh : Int} {sc : Int → Int} {lt : Int → Int} {rule : Int} {now : Int} {st : Int} {asl : Int} {idl : Int → Int} {idn : Int} {par : Int → Int} {div : Int → Int} {dee : Int → Int} {mrun : Int → Int} {mL : Int → Int} {mB : Int → Int} {o : Int → Int} {x1 : Int} {kv : Int} {run_c : Int → Int} {o_c : Int → Int} {bv : Int} {thr_m : Int} {mrun_m : Int → Int} (hK : 0 ≤ K ∧ K ≤ 110000) (hx1 : zR x1) (hI : LI K pw co la vo cpar fr cdee use run nC tdue tlat twk nT edue elat ewk nE len cnt tin sp pe slp late srv hv av bd sh sc lt rule now st asl idl idn par div dee mrun mB) (hc : (kv = 0 ∧ ((now ≤ x1 ∧ x1 ≤ now + 400)) ∧ run_c = rnZ cpar (nC - 1) (r0Z use nC run) ∧ o_c = uZ o 0 (plN (pcZ pw co la (dzM vo par dee use nC)) tdue tlat x1 nT (x1 + 1).toNat now (-1))) ∨ (kv = 1 ∧ (¬ (now ≤ x1 ∧ x1 ≤ now + 400)) ∧ run_c = run ∧ o_c = o)) (hm : tfZ mrun_m ∧ (((now ≤ x1 ∧ x1 ≤ now + 400) ∧ thr_m = 0 ∧ bv = plN (mpZ pw co la (dzM vo par dee use nC)) tdue tlat x1 nT (x1 + 1).toNat now (-1)) ∨ (¬ (now ≤ x1 ∧ x1 ≤ now + 400) ∧ thr_m = 1 ∧ mrun_m = mrun))) : (kv = thr_m) ∧ (0 ≤ kv ∧ kv ≤ 3) ∧ (kv = 0 → o_c 0 = bv) ∧ (LI (K + 200) pw co la vo cpar fr cdee use run_c nC tdue tlat twk nT edue elat ewk nE len cnt tin sp pe slp late srv hv av bd sh sc lt rule now st asl idl idn par div dee mrun_m mB) := by
  obtain ⟨⟨hpw, hco, hla, hc0, hl0⟩, ⟨hnC, hcp, huse, hrun, hcd, hvo, hpp, hdd, hd0, hde, huz, hfr, hfq, hdv, hmrun⟩, ⟨hrl, hhv, hid, hel⟩, hti, ⟨hsc, hlt, hmB⟩⟩ := id hI
  rcases hc with ⟨rfl, hcc, hd_run, ho⟩ | ⟨rfl, hcn, hz_run, ho⟩
  · rcases hm with ⟨htf, ⟨hm0, ht, hb⟩ | ⟨hm0, ht, hq⟩⟩
    · exact ⟨ht.symm, ⟨by omega, by omega⟩, fun _ => by rw [ho, hb, uZ_s, pc_mp hc0 hl0], by rw [hd_run]; exact ⟨⟨hpw, hco, hla, hc0, hl0⟩, ⟨hnC, hcp, huse, rn_t (r0_t hrun), hcd, hvo, hpp, hdd, hd0, hde, huz, hfr, hfq, hdv, htf⟩, ⟨hrl, hhv, hid, hel⟩, ti_mono (by omega) hti, ⟨hsc, hlt, hmB⟩⟩⟩
    · exfalso; omega
  · rcases hm with ⟨htf, ⟨hm0, ht, hb⟩ | ⟨hm0, ht, hq⟩⟩
    · exfalso; omega
    · exact ⟨ht.symm, ⟨by omega, by omega⟩, fun z => absurd z (by omega), by rw [hz_run, hq]; exact ⟨⟨hpw, hco, hla, hc0, hl0⟩, ⟨hnC, hcp, huse, hrun, hcd, hvo, hpp, hdd, hd0, hde, huz, hfr, hfq, hdv, hmrun⟩, ⟨hrl, hhv, hid, hel⟩, ti_mono (by omega) hti, ⟨hsc, hlt, hmB⟩⟩⟩
theorem lo_leastCost {K : Int} {pw : Int → Int} {co : Int → Int} {la : Int → Int} {vo : Int → Int} {cpar : Int → Int} {fr : Int → Int} {cdee : Int → Int} {use : Int → Int} {run : Int → Int} {nC : Int} {tdue : Int → Int} {tlat : Int → Int} {twk : Int → Int} {nT : Int} {edue : Int → Int} {elat : Int → Int} {ewk : Int → Int} {nE : Int} {len : Int → Int} {cnt : Int} {tin : Int → Int} {sp : Int} {pe : Int} {slp : Int} {late : Int} {srv : Int} {hv : Int → Int} {av : Int} {bd : Int} {sh : Int} {sc : Int → Int} {lt : Int → Int} {rule : Int} {now : Int} {st : Int} {asl : Int} {idl : Int → Int} {idn : Int} {par : Int → Int} {div : Int → Int} {dee : Int → Int} {mrun : Int → Int} {mL : Int → Int} {mB : Int → Int} {o : Int → Int} {x1 : Int} {kv : Int} {run_c : Int → Int} {sc_c : Int → Int} {lt_c : Int → Int} {o_c : Int → Int} {bv : Int} {thr_m : Int} {mrun_m : Int → Int} {mL_m : Int → Int} {mB_m : Int → Int} (hK : 0 ≤ K ∧ K ≤ 110000) (hx1 : zR x1) (hI : LI K pw co la vo cpar fr cdee use run nC tdue tlat twk nT edue elat ewk nE len cnt tin sp pe slp late srv hv av bd sh sc lt rule now st asl idl idn par div dee mrun mB) (hc : (kv = 0 ∧ ((now ≤ x1 ∧ x1 ≤ now + 400) ∧ sc_c = scZ (fun j => liZ pw co la j (dzM vo par dee use nC)) sc 402 ∧ lt_c = ltZ (scZ (fun j => liZ pw co la j (dzM vo par dee use nC)) sc 402) (fun to => ebZ tdue tlat nT now (now) ((now) + to)) lt (x1 - now)) ∧ run_c = rnZ cpar (nC - 1) (r0Z use nC run) ∧ o_c = uZ o 0 (ltZ (scZ (fun j => liZ pw co la j (dzM vo par dee use nC)) sc 402) (fun to => ebZ tdue tlat nT now (now) ((now) + to)) lt (x1 - now) (x1 - now))) ∨ (kv = 1 ∧ (¬ (now ≤ x1 ∧ x1 ≤ now + 400)) ∧ run_c = run ∧ sc_c = sc ∧ lt_c = lt ∧ o_c = o)) (hm : tfZ mrun_m ∧ (((now ≤ x1 ∧ x1 ≤ now + 400) ∧ thr_m = 0 ∧ bv = fwZ (scZ (fun n => lmZ pw co la n (dzM vo par dee use nC)) mB (x1 - now + 1)) (fun f => npZ tdue tlat (now + f) x1 nT - now) (uZ (scZ (fun _ => -1) mL (x1 - now + 1)) 0 0) (x1 - now) (x1 - now) ∧ mB_m = (scZ (fun n => lmZ pw co la n (dzM vo par dee use nC)) mB (x1 - now + 1)) ∧ mL_m = fwZ (scZ (fun n => lmZ pw co la n (dzM vo par dee use nC)) mB (x1 - now + 1)) (fun f => npZ tdue tlat (now + f) x1 nT - now) (uZ (scZ (fun _ => -1) mL (x1 - now + 1)) 0 0) (x1 - now)) ∨ (¬ (now ≤ x1 ∧ x1 ≤ now + 400) ∧ thr_m = 1 ∧ mrun_m = mrun ∧ mL_m = mL ∧ mB_m = mB))) : (kv = thr_m) ∧ (0 ≤ kv ∧ kv ≤ 3) ∧ (kv = 0 → o_c 0 = bv) ∧ (LI (K + 200) pw co la vo cpar fr cdee use run_c nC tdue tlat twk nT edue elat ewk nE len cnt tin sp pe slp late srv hv av bd sh sc_c lt_c rule now st asl idl idn par div dee mrun_m mB_m) := by
  obtain ⟨⟨hpw, hco, hla, hc0, hl0⟩, ⟨hnC, hcp, huse, hrun, hcd, hvo, hpp, hdd, hd0, hde, huz, hfr, hfq, hdv, hmrun⟩, ⟨hrl, hhv, hid, hel⟩, hti, ⟨hsc, hlt, hmB⟩⟩ := id hI
  obtain ⟨i1, i2, i3, i4, i5, i6, i7, i8, i9, i10, i11, i12, i13, i14, i15, i16, i17⟩ := id hti
  have hd0l : ∀ j : Int, 0 ≤ j → j < nT → 0 ≤ tdue j := fun j q1 q2 => (i5 j q1 (by omega)).1
  have hdl : ∀ j : Int, 0 ≤ j → j < nT → tdue j ≤ tlat j := fun j q1 q2 => (i14 j q1 q2).2
  have hnl : ∀ j : Int, 0 ≤ j → j < nT → now ≤ tlat j := fun j q1 q2 => (i14 j q1 q2).1
  have hdz := dzM_r (par := par) (use := use) hvo hde hnC
  rcases hc with ⟨rfl, ⟨hcc, hd_sc, hd_lt⟩, hd_run, ho⟩ | ⟨rfl, hcn, hz_run, hz_sc, hz_lt, ho⟩
  · rcases hm with ⟨htf, ⟨hm0, ht, hb, hqB, hqL⟩ | ⟨hm0, ht, hq, hqL, hqB⟩⟩
    · have hs9 : rgZ (scZ (fun j => liZ pw co la j (dzM vo par dee use nC)) sc 402) 402 1110000 := sc_r (fun j q1 q2 => liZ_r hpw hco hla hl0 hdz (by omega)) hsc (by omega) (Int.le_refl _)
      exact ⟨ht.symm, ⟨by omega, by omega⟩, fun _ => by rw [ho, hb, uZ_s, least_eq hpw hco hla hc0 hl0 hdz hsc i4.1 hd0l hdl hnl i3.1 hcc], by rw [hd_run, hd_sc, hd_lt, hqB]; exact ⟨⟨hpw, hco, hla, hc0, hl0⟩, ⟨hnC, hcp, huse, rn_t (r0_t hrun), hcd, hvo, hpp, hdd, hd0, hde, huz, hfr, hfq, hdv, htf⟩, ⟨hrl, hhv, hid, hel⟩, ti_mono (by omega) hti, ⟨hs9, ltz_r hs9 hlt (by omega) (by omega), sc_rN (fun j q1 q2 => lm_r hpw hco hla hl0 hdz (by omega)) hmB (by omega) (by omega)⟩⟩⟩
    · exfalso; omega
  · rcases hm with ⟨htf, ⟨hm0, ht, hb, hqB, hqL⟩ | ⟨hm0, ht, hq, hqL, hqB⟩⟩
    · exfalso; omega
    · exact ⟨ht.symm, ⟨by omega, by omega⟩, fun z => absurd z (by omega), by rw [hz_run, hz_sc, hz_lt, hq, hqB]; exact ⟨⟨hpw, hco, hla, hc0, hl0⟩, ⟨hnC, hcp, huse, hrun, hcd, hvo, hpp, hdd, hd0, hde, huz, hfr, hfq, hdv, hmrun⟩, ⟨hrl, hhv, hid, hel⟩, ti_mono (by omega) hti, ⟨hsc, hlt, hmB⟩⟩⟩
theorem lo_play {K : Int} {pw : Int → Int} {co : Int → Int} {la : Int → Int} {vo : Int → Int} {cpar : Int → Int} {fr : Int → Int} {cdee : Int → Int} {use : Int → Int} {run : Int → Int} {nC : Int} {tdue : Int → Int} {tlat : Int → Int} {twk : Int → Int} {nT : Int} {edue : Int → Int} {elat : Int → Int} {ewk : Int → Int} {nE : Int} {len : Int → Int} {cnt : Int} {tin : Int → Int} {sp : Int} {pe : Int} {slp : Int} {late : Int} {srv : Int} {hv : Int → Int} {av : Int} {bd : Int} {sh : Int} {sc : Int → Int} {lt : Int → Int} {rule : Int} {now : Int} {st : Int} {asl : Int} {idl : Int → Int} {idn : Int} {par : Int → Int} {div : Int → Int} {dee : Int → Int} {mrun : Int → Int} {mL : Int → Int} {mB : Int → Int} {o : Int → Int} {x1 : Int} {kv : Int} {st_c : Int} {asl_c : Int} {now_c : Int} {nT_c : Int} {tdue_c : Int → Int} {tlat_c : Int → Int} {twk_c : Int → Int} {nE_c : Int} {edue_c : Int → Int} {ewk_c : Int → Int} {sp_c : Int} {pe_c : Int} {tin_c : Int → Int} {slp_c : Int} {late_c : Int} {srv_c : Int} {av_c : Int} {bd_c : Int} {sh_c : Int} {idl_c : Int → Int} {idn_c : Int} {len_c : Int → Int} {cnt_c : Int} {elat_c : Int → Int} {run_c : Int → Int} {o_c : Int → Int} {bv : Int} {thr_m : Int} {st_m : Int} {asl_m : Int} {now_m : Int} {nT_m : Int} {tdue_m : Int → Int} {tlat_m : Int → Int} {twk_m : Int → Int} {nE_m : Int} {edue_m : Int → Int} {ewk_m : Int → Int} {sp_m : Int} {pe_m : Int} {tin_m : Int → Int} {slp_m : Int} {late_m : Int} {srv_m : Int} {av_m : Int} {bd_m : Int} {sh_m : Int} {idl_m : Int → Int} {idn_m : Int} {mrun_m : Int → Int} (hK : 0 ≤ K ∧ K ≤ 110000) (hx1 : zR x1) (hI : LI K pw co la vo cpar fr cdee use run nC tdue tlat twk nT edue elat ewk nE len cnt tin sp pe slp late srv hv av bd sh sc lt rule now st asl idl idn par div dee mrun mB) (hc : (kv = 0 ∧ ((1 ≤ x1 ∧ x1 ≤ 200) ∧ (st_c, asl_c, now_c, nT_c, tdue_c, tlat_c, twk_c, nE_c, edue_c, ewk_c, sp_c, pe_c, tin_c, slp_c, late_c, srv_c, av_c, bd_c, sh_c, idl_c, idn_c) = itT pw co la hv rule (dzM vo par dee use nC) x1.toNat (st, asl, now, nT, tdue, tlat, twk, nE, edue, ewk, sp, pe, tin, slp, late, srv, av, bd, sh, idl, idn) ∧ idR len_c cnt_c idl_c idn_c ∧ rgZ elat_c 12 1000000 ∧ tfZ run_c) ∧ o_c = uZ o 0 ((iI (now_c)).toInt)) ∨ (kv = 1 ∧ (¬ (1 ≤ x1 ∧ x1 ≤ 200)) ∧ st_c = st ∧ asl_c = asl ∧ now_c = now ∧ nT_c = nT ∧ tdue_c = tdue ∧ tlat_c = tlat ∧ twk_c = twk ∧ nE_c = nE ∧ edue_c = edue ∧ ewk_c = ewk ∧ sp_c = sp ∧ pe_c = pe ∧ tin_c = tin ∧ slp_c = slp ∧ late_c = late ∧ srv_c = srv ∧ av_c = av ∧ bd_c = bd ∧ sh_c = sh ∧ idl_c = idl ∧ idn_c = idn ∧ len_c = len ∧ cnt_c = cnt ∧ elat_c = elat ∧ run_c = run ∧ o_c = o)) (hm : tfZ mrun_m ∧ (((1 ≤ x1 ∧ x1 ≤ 200) ∧ thr_m = 0 ∧ bv = now_m ∧ (st_m, asl_m, now_m, nT_m, tdue_m, tlat_m, twk_m, nE_m, edue_m, ewk_m, sp_m, pe_m, tin_m, slp_m, late_m, srv_m, av_m, bd_m, sh_m, idl_m, idn_m) = itT pw co la hv rule (dzM vo par dee use nC) x1.toNat (st, asl, now, nT, tdue, tlat, twk, nE, edue, ewk, sp, pe, tin, slp, late, srv, av, bd, sh, idl, idn)) ∨ (¬ (1 ≤ x1 ∧ x1 ≤ 200) ∧ thr_m = 1 ∧ (st_m, asl_m, now_m, nT_m, tdue_m, tlat_m, twk_m, nE_m, edue_m, ewk_m, sp_m, pe_m, tin_m, slp_m, late_m, srv_m, av_m, bd_m, sh_m, idl_m, idn_m) = (st, asl, now, nT, tdue, tlat, twk, nE, edue, ewk, sp, pe, tin, slp, late, srv, av, bd, sh, idl, idn)))) : (kv = thr_m) ∧ (0 ≤ kv ∧ kv ≤ 3) ∧ (kv = 0 → o_c 0 = (iI bv).toInt) ∧ (st_m = st_c) ∧ (asl_m = asl_c) ∧ (now_m = now_c) ∧ (nT_m = nT_c) ∧ (tdue_m = tdue_c) ∧ (tlat_m = tlat_c) ∧ (twk_m = twk_c) ∧ (nE_m = nE_c) ∧ (edue_m = edue_c) ∧ (ewk_m = ewk_c) ∧ (sp_m = sp_c) ∧ (pe_m = pe_c) ∧ (tin_m = tin_c) ∧ (slp_m = slp_c) ∧ (late_m = late_c) ∧ (srv_m = srv_c) ∧ (av_m = av_c) ∧ (bd_m = bd_c) ∧ (sh_m = sh_c) ∧ (idl_m = idl_c) ∧ (idn_m = idn_c) ∧ (LI (K + 200) pw co la vo cpar fr cdee use run_c nC tdue_c tlat_c twk_c nT_c edue_c elat_c ewk_c nE_c len_c cnt_c tin_c sp_c pe_c slp_c late_c srv_c hv av_c bd_c sh_c sc lt rule now_c st_c asl_c idl_c idn_c par div dee mrun_m mB) := by
  obtain ⟨⟨hpw, hco, hla, hc0, hl0⟩, ⟨hnC, hcp, huse, hrun, hcd, hvo, hpp, hdd, hd0, hde, huz, hfr, hfq, hdv, hmrun⟩, ⟨hrl, hhv, hid, hel⟩, hti, ⟨hsc, hlt, hmB⟩⟩ := id hI
  have hdz := dzM_r (par := par) (use := use) hvo hde hnC
  obtain ⟨htf, hm⟩ := hm
  rcases hc with ⟨rfl, ⟨hcc, hct, hcid, hcel, hcrun⟩, ho⟩ | ⟨rfl, hcn, hz_st, hz_asl, hz_now, hz_nT, hz_tdue, hz_tlat, hz_twk, hz_nE, hz_edue, hz_ewk, hz_sp, hz_pe, hz_tin, hz_slp, hz_late, hz_srv, hz_av, hz_bd, hz_sh, hz_idl, hz_idn, hz_len, hz_cnt, hz_elat, hz_run, ho⟩
  · rcases hm with ⟨hm0, ht, hb, hmt⟩ | ⟨hm0, ht, hmt⟩
    · have h9 := hmt.trans hct.symm
      simp only [Prod.mk.injEq] at h9
      obtain ⟨e1, e2, e3, e4, e5, e6, e7, e8, e9, e10, e11, e12, e13, e14, e15, e16, e17, e18, e19, e20, e21⟩ := h9
      have h8 := it_i (hv := hv) (rule := rule) hpw hco hla hdz x1.toNat K (st, asl, now, nT, tdue, tlat, twk, nE, edue, ewk, sp, pe, tin, slp, late, srv, av, bd, sh, idl, idn) (by omega) hti
      rw [← hct] at h8
      exact ⟨ht.symm, ⟨by omega, by omega⟩, fun _ => by rw [ho, hb, uZ_s, e3], e1, e2, e3, e4, e5, e6, e7, e8, e9, e10, e11, e12, e13, e14, e15, e16, e17, e18, e19, e20, e21, ⟨⟨hpw, hco, hla, hc0, hl0⟩, ⟨hnC, hcp, huse, hcrun, hcd, hvo, hpp, hdd, hd0, hde, huz, hfr, hfq, hdv, htf⟩, ⟨hrl, hhv, hcid, hcel⟩, ti_mono (by omega) h8, ⟨hsc, hlt, hmB⟩⟩⟩
    · exfalso; omega
  · rcases hm with ⟨hm0, ht, hb, hmt⟩ | ⟨hm0, ht, hmt⟩
    · exfalso; omega
    · simp only [Prod.mk.injEq] at hmt
      obtain ⟨e1, e2, e3, e4, e5, e6, e7, e8, e9, e10, e11, e12, e13, e14, e15, e16, e17, e18, e19, e20, e21⟩ := hmt
      exact ⟨ht.symm, ⟨by omega, by omega⟩, fun z => absurd z (by omega), e1.trans hz_st.symm, e2.trans hz_asl.symm, e3.trans hz_now.symm, e4.trans hz_nT.symm, e5.trans hz_tdue.symm, e6.trans hz_tlat.symm, e7.trans hz_twk.symm, e8.trans hz_nE.symm, e9.trans hz_edue.symm, e10.trans hz_ewk.symm, e11.trans hz_sp.symm, e12.trans hz_pe.symm, e13.trans hz_tin.symm, e14.trans hz_slp.symm, e15.trans hz_late.symm, e16.trans hz_srv.symm, e17.trans hz_av.symm, e18.trans hz_bd.symm, e19.trans hz_sh.symm, e20.trans hz_idl.symm, e21.trans hz_idn.symm, by rw [hz_st, hz_asl, hz_now, hz_nT, hz_tdue, hz_tlat, hz_twk, hz_nE, hz_edue, hz_ewk, hz_sp, hz_pe, hz_tin, hz_slp, hz_late, hz_srv, hz_av, hz_bd, hz_sh, hz_idl, hz_idn, hz_len, hz_cnt, hz_elat, hz_run]; exact ⟨⟨hpw, hco, hla, hc0, hl0⟩, ⟨hnC, hcp, huse, hrun, hcd, hvo, hpp, hdd, hd0, hde, huz, hfr, hfq, hdv, htf⟩, ⟨hrl, hhv, hid, hel⟩, ti_mono (by omega) hti, ⟨hsc, hlt, hmB⟩⟩⟩
