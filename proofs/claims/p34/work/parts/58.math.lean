/-! pure rows of p34: what a tick does, as its law asks -/
def SI (pw co la : Int → Int) : Prop := rgZ pw 4 1000 ∧ rgZ co 4 10000 ∧ rgZ la 4 100 ∧ co 0 = 0 ∧ la 0 = 0
def DI (rule : Int) (hv len : Int → Int) (cnt : Int) (elat idl : Int → Int) (idn : Int) : Prop := (0 ≤ rule ∧ rule ≤ 2) ∧ rgZ hv 24 1000 ∧ idR len cnt idl idn ∧ rgZ elat 12 1000000
theorem ti_mono {K K' st asl now nT nE sp pe slp late srv av bd sh idn : Int} {tdue tlat twk edue ewk tin idl : Int → Int} (h : K ≤ K') (hi : tiB K st asl now nT tdue tlat twk nE edue ewk sp pe tin slp late srv av bd sh idl idn) : tiB K' st asl now nT tdue tlat twk nE edue ewk sp pe tin slp late srv av bd sh idl idn := by
  obtain ⟨i1, i2, i3, i4⟩ := hi
  exact ⟨i1, i2, by omega, i4⟩
theorem sc_ti {pw la : Int → Int} {K st asl now nT nE sp pe slp late srv av bd sh idn st1 sp1 pe1 idn1 : Int} {tdue tlat twk edue ewk tin idl idl1 : Int → Int} (hpw : rgZ pw 4 1000) (hla : rgZ la 4 100) (hK : K ≤ 200000) (hi : tiB K st asl now nT tdue tlat twk nE edue ewk sp pe tin slp late srv av bd sh idl idn)
    (h : (st1, sp1, pe1, idl1, idn1) = scF pw la st asl now sp pe idl idn) : tiB K st1 asl now nT tdue tlat twk nE edue ewk sp1 pe1 tin slp late srv av bd sh idl1 idn1 := by
  obtain ⟨i1, i2, i3, i4, i5, i6, i7, i8, i9, i10, i11, i12, i13, i14, i15, i16, i17⟩ := hi
  have h1 := mul_r (hpw 0 (by omega) (by omega)) (hla st (by omega) (by omega))
  unfold scF at h
  split at h
  · simp only [Prod.mk.injEq] at h
    obtain ⟨rfl, rfl, rfl, rfl, rfl⟩ := h
    exact ⟨i1, i2, i3, i4, i5, i6, i7, i8, i9, i10, i11, i12, i13, i14, i15, i16, i17⟩
  · simp only [Prod.mk.injEq] at h
    obtain ⟨rfl, rfl, rfl, rfl, rfl⟩ := h
    have q1 := i11.2.2 ‹_›
    exact ⟨by omega, i2, i3, i4, i5, i6, i7, i8, i9, i10, ⟨by omega, by omega, fun z => absurd rfl z⟩, i12, i13, i14, i15, ⟨by omega, fun _ => by omega, fun z => absurd rfl z⟩, rgZ_u i17 (by omega)⟩
theorem it_i {pw co la hv : Int → Int} {rule dp : Int} (hpw : rgZ pw 4 1000) (hco : rgZ co 4 10000) (hla : rgZ la 4 100) (hdp : 0 ≤ dp ∧ dp ≤ 3) : ∀ (n : Nat) (K : Int) (t : TT), K + n ≤ 200000 → tiT K t → tiT (K + n) (itT pw co la hv rule dp n t) := by
  intro n
  induction n with
  | zero => intro K t _ h; show tiT (K + 0) t; rw [Int.add_zero]; exact h
  | succ n ih =>
    intro K t hK h
    have h1 : tiT (K + 1) (tkT pw co la hv rule dp t) := tk_i hpw hco hla hdp (by omega) h
    have h2 := ih (K + 1) _ (by omega) h1
    rw [show K + 1 + (n : Int) = K + ((n + 1 : Nat) : Int) by omega] at h2
    exact h2
theorem b2i_v {v : Int} (h : v = 0 ∨ v = 1) : b2i (v ≠ 0) = v := by
  rcases h with rfl | rfl
  · exact b2i_f (by omega)
  · exact b2i_t (by omega)
theorem ti_sched {K st asl now nT nE sp pe slp late srv av bd sh idn x1 x2 x3 : Int} {tdue tlat twk edue ewk tin idl : Int → Int} (hK : K ≤ 110000) (h1 : now ≤ x1 ∧ x1 ≤ now + 1000) (h2 : 0 ≤ x2 ∧ x2 ≤ 500) (h3 : 1 ≤ x3 ∧ x3 ≤ 50) (h4 : nT < 12) (hi : tiB K st asl now nT tdue tlat twk nE edue ewk sp pe tin slp late srv av bd sh idl idn) :
    tiB (K + 200) st asl now (nT + 1) (uZ tdue nT x1) (uZ tlat nT (x1 + x2)) (uZ twk nT x3) nE edue ewk sp pe tin slp late srv av bd sh idl idn := by
  obtain ⟨i1, i2, i3, i4, i5, i6, i7, i8, i9, i10, i11, i12, i13, i14, i15, i16, i17⟩ := hi
  refine ⟨i1, i2, by omega, by omega, rgZ_u i5 (by omega), rgZ_u i6 (by omega), rgZ_u i7 (by omega), i8, i9, i10, i11, i12, i13, fun k q1 q2 => ?_, i15, i16, i17⟩
  unfold uZ
  by_cases q : k = nT
  · rw [if_pos q, if_pos q]
    omega
  · rw [if_neg q, if_neg q]
    exact i14 k q1 (by omega)
theorem ti_event {K st asl now nT nE sp pe slp late srv av bd sh idn x1 x2 : Int} {tdue tlat twk edue ewk tin idl : Int → Int} (hK : K ≤ 110000) (h1 : now ≤ x1 ∧ x1 ≤ now + 1000) (h3 : 1 ≤ x2 ∧ x2 ≤ 50) (h4 : nE < 12) (hi : tiB K st asl now nT tdue tlat twk nE edue ewk sp pe tin slp late srv av bd sh idl idn) :
    tiB (K + 200) st asl now nT tdue tlat twk (nE + 1) (uZ edue nE x1) (uZ ewk nE x2) sp pe tin slp late srv av bd sh idl idn := by
  obtain ⟨i1, i2, i3, i4, i5, i6, i7, i8, i9, i10, i11, i12, i13, i14, i15, i16, i17⟩ := hi
  refine ⟨i1, i2, by omega, i4, i5, i6, i7, by omega, rgZ_u i9 (by omega), rgZ_u i10 (by omega), i11, i12, i13, i14, fun k q1 q2 => ?_, i16, i17⟩
  unfold uZ
  split
  · exact h1.1
  · exact i15 k q1 (by omega)

theorem sc_f {pw la : Int → Int} {st asl now sp pe idn st1 sp1 pe1 idn1 : Int} {idl idl1 : Int → Int} (h : (st1, sp1, pe1, idl1, idn1) = scF pw la st asl now sp pe idl idn) : st1 = 0 ∧ sp1 = sp + (if st = 0 then 0 else pw 0 * la st) := by
  unfold scF at h
  by_cases q : st = 0
  · rw [if_pos q] at h ⊢
    simp only [Prod.mk.injEq] at h
    omega
  · rw [if_neg q] at h ⊢
    simp only [Prod.mk.injEq] at h
    omega
theorem w1_f {pw la : Int → Int} {nx ev st asl now sp pe late : Int} {idl : Int → Int} {idn : Int} {st1 sp1 pe1 late1 idn1 : Int} {idl1 : Int → Int} (h : (st1, sp1, pe1, late1, idl1, idn1) = w1F pw la nx ev st asl now sp pe late idl idn) :
    (late1 = late ∧ sp1 = sp ∧ (st1 = 0 ∨ (st1 = st ∧ st ≠ 0 ∧ nx ≠ now))) ∨ (st ≠ 0 ∧ nx ≠ now ∧ st1 = 0 ∧ sp1 = sp + pw 0 * la st ∧ late1 = late + la st) := by
  unfold w1F wkF at h
  split at h
  · simp only [Prod.mk.injEq] at h
    omega
  · split at h
    · simp only [Prod.mk.injEq] at h
      omega
    · split at h
      · simp only [Prod.mk.injEq] at h
        omega
      · simp only [Prod.mk.injEq] at h
        omega
theorem ch_dp {pw co la : Int → Int} {rule dp k mn : Int} (h : 0 ≤ dp ∧ dp ≤ 3) : 0 ≤ chZ pw co la rule dp k mn ∧ chZ pw co la rule dp k mn ≤ dp := by
  unfold chZ
  split
  · exact dp_r (okW la k) (k := dp) h.1
  · exact dp_r (okR pw co la rule k mn) (k := dp) h.1
theorem sg_f {pw : Int → Int} {co : Int → Int} {la : Int → Int} {rule : Int} {dp : Int} {st : Int} {asl : Int} {now : Int} {nT : Int} {tdue : Int → Int} {tlat : Int → Int} {twk : Int → Int} {nE : Int} {edue : Int → Int} {ewk : Int → Int} {slp : Int} {sp : Int} {pe : Int} {srv : Int} {idl : Int → Int} {idn : Int} {st2 : Int} {asl2 : Int} {nT2 : Int} {tdue2 : Int → Int} {tlat2 : Int → Int} {twk2 : Int → Int} {nE2 : Int} {edue2 : Int → Int} {ewk2 : Int → Int} {slp2 : Int} {sp2 : Int} {pe2 : Int} {srv2 : Int} (hpw : rgZ pw 4 1000) (hdp : 0 ≤ dp ∧ dp ≤ 3) (hnT : 0 ≤ nT ∧ nT ≤ 12) (htd : rgZ tdue 12 1000000) (htl : rgZ tlat 12 1000000) (htw : rgZ twk 12 50) (hnE : 0 ≤ nE ∧ nE ≤ 12) (hed : rgZ edue 12 1000000) (hew : rgZ ewk 12 50)
    (h : (st2, asl2, nT2, tdue2, tlat2, twk2, nE2, edue2, ewk2, slp2, sp2, pe2, srv2) = sgF pw co la rule dp st asl now nT tdue tlat twk nE edue ewk slp sp pe srv idl idn) :
    (0 ≤ srv2 - srv ∧ srv2 - srv ≤ 1200) ∧ ((slp2 = slp ∧ st2 = st ∧ sp2 = sp + (srv2 - srv) * pw 0) ∨ (st = 0 ∧ slp2 = slp + 1 ∧ 0 < st2 ∧ st2 ≤ dp ∧ sp2 = sp + (srv2 - srv) * pw 0 + co st2)) := by
  unfold sgF at h
  by_cases q : st = 0
  · rw [if_pos q] at h
    simp only [Prod.mk.injEq] at h
    obtain ⟨e1, -, -, -, -, -, -, -, -, e10, e11, -, e13⟩ := h
    have h1 := td_r (t := now) (k := nT) htd htl htw hnT
    have h2 := td_r (t := now) (due := edue) (lat := fun _ => 0) (wk := ewk) (k := nE) (L := 0) hed (fun _ _ _ => ⟨Int.le_refl 0, Int.le_refl 0⟩) hew hnE
    have ht := te_td now edue (fun _ => 0) ewk hnE.1
    have hc := ch_dp (pw := pw) (co := co) (la := la) (rule := rule) (k := nxZ (tdZ now tdue tlat twk nT).2.2.2.1 (tdZ now tdue tlat twk nT).2.1 - now) (mn := meM idl idn) hdp
    rw [ht] at e1 e10 e11 e13
    dsimp only at e1 e10 e11 e13
    generalize chZ pw co la rule dp (nxZ (tdZ now tdue tlat twk nT).2.2.2.1 (tdZ now tdue tlat twk nT).2.1 - now) (meM idl idn) = ch at e1 e10 e11 hc
    have e14 : srv2 - srv = (tdZ now edue (fun _ => 0) ewk nE).1 + (tdZ now tdue tlat twk nT).1 := by omega
    rw [e14]
    refine ⟨by omega, ?_⟩
    unfold faF at e1 e10 e11
    by_cases z : ch = 0
    · rw [if_pos z] at e1 e10 e11
      exact Or.inl ⟨e10, e1, e11⟩
    · rw [if_neg z] at e1 e10 e11
      dsimp only at e1 e10 e11
      subst e1
      exact Or.inr ⟨q, e10, by omega, hc.2, e11⟩
  · rw [if_neg q] at h
    simp only [Prod.mk.injEq] at h
    obtain ⟨rfl, rfl, rfl, rfl, rfl, rfl, rfl, rfl, rfl, rfl, rfl, rfl, rfl⟩ := h
    rw [Int.sub_self, Int.zero_mul]
    exact ⟨by omega, Or.inl ⟨rfl, rfl, by omega⟩⟩
theorem use_back (f : Int → Int) (i x : Int) : uZ (uZ f i x) i (f i) = f := by
  funext j
  unfold uZ
  by_cases q : j = i
  · rw [if_pos q, q]
  · rw [if_neg q, if_neg q]
theorem dz_vo {vo par dee use : Int → Int} {nC k : Int} (h : 1 ≤ nC) (hk : 0 ≤ k ∧ k < 6) : dzM vo par dee use nC ≤ vo k := ((dzM_glb (vo := vo) (par := par) (dee := dee) (use := use) h _).mp (Int.le_refl _)).1.2 k hk.1 hk.2

def WJ (w pw co la : Int → Int) : Prop := (∀ k : Int, 0 ≤ k → k < 4 → w k = pw k) ∧ (∀ k : Int, 0 ≤ k → k < 4 → w (4 + k) = co k) ∧ ∀ k : Int, 0 ≤ k → k < 4 → w (8 + k) = la k
def CJ (vo cdee use run : Int → Int) (nC : Int) (dee : Int → Int) : Prop := nC = 1 ∧ use 0 = 0 ∧ rgZ use 8 9 ∧ tfZ run ∧ rgZ cdee 8 3 ∧ rgZ vo 6 3 ∧ cdee 0 = 3 ∧ rgZ dee 8 3
/-- what holds of the planner and of the law's own row w, K ticks at most behind the start -/
def LJ (K : Int) (pw : Int → Int) (co : Int → Int) (la : Int → Int) (vo : Int → Int) (cdee : Int → Int) (use : Int → Int) (run : Int → Int) (nC : Int) (tdue : Int → Int) (tlat : Int → Int) (twk : Int → Int) (nT : Int) (edue : Int → Int) (elat : Int → Int) (ewk : Int → Int) (nE : Int) (len : Int → Int) (cnt : Int) (tin : Int → Int) (sp : Int) (pe : Int) (slp : Int) (late : Int) (srv : Int) (hv : Int → Int) (av : Int) (bd : Int) (sh : Int) (rule : Int) (now : Int) (st : Int) (asl : Int) (idl : Int → Int) (idn : Int) (dee : Int → Int) (w : Int → Int) : Prop := SI pw co la ∧ CJ vo cdee use run nC dee ∧ DI rule hv len cnt elat idl idn ∧ tiB K st asl now nT tdue tlat twk nE edue ewk sp pe tin slp late srv av bd sh idl idn ∧ (0 ≤ slp ∧ slp ≤ now ∧ 0 ≤ late ∧ late ≤ 100 * now) ∧ WJ w pw co la
theorem lj_mono {K : Int} {pw : Int → Int} {co : Int → Int} {la : Int → Int} {vo : Int → Int} {cdee : Int → Int} {use : Int → Int} {run : Int → Int} {nC : Int} {tdue : Int → Int} {tlat : Int → Int} {twk : Int → Int} {nT : Int} {edue : Int → Int} {elat : Int → Int} {ewk : Int → Int} {nE : Int} {len : Int → Int} {cnt : Int} {tin : Int → Int} {sp : Int} {pe : Int} {slp : Int} {late : Int} {srv : Int} {hv : Int → Int} {av : Int} {bd : Int} {sh : Int} {rule : Int} {now : Int} {st : Int} {asl : Int} {idl : Int → Int} {idn : Int} {dee : Int → Int} {w : Int → Int} (hI : LJ K pw co la vo cdee use run nC tdue tlat twk nT edue elat ewk nE len cnt tin sp pe slp late srv hv av bd sh rule now st asl idl idn dee w) {K2 : Int} (h : K ≤ K2) : LJ K2 pw co la vo cdee use run nC tdue tlat twk nT edue elat ewk nE len cnt tin sp pe slp late srv hv av bd sh rule now st asl idl idn dee w := by
  obtain ⟨⟨hpw, hco, hla, hc0, hl0⟩, ⟨hnC1, hu0, huse, hrun, hcd, hvo, hd0, hde⟩, ⟨hrl, hhv, hid, hel⟩, hti, hsb, hw0, hw4, hw8⟩ := id hI
  exact ⟨⟨hpw, hco, hla, hc0, hl0⟩, ⟨hnC1, hu0, huse, hrun, hcd, hvo, hd0, hde⟩, ⟨hrl, hhv, hid, hel⟩, ti_mono h hti, hsb, ⟨hw0, hw4, hw8⟩⟩
theorem lj_sc {K : Int} {st2 : Int} {sp2 : Int} {pe2 : Int} {idl2 : Int → Int} {idn2 : Int} {len2 : Int → Int} {cnt2 : Int} {pw : Int → Int} {co : Int → Int} {la : Int → Int} {vo : Int → Int} {cdee : Int → Int} {use : Int → Int} {run : Int → Int} {nC : Int} {tdue : Int → Int} {tlat : Int → Int} {twk : Int → Int} {nT : Int} {edue : Int → Int} {elat : Int → Int} {ewk : Int → Int} {nE : Int} {len : Int → Int} {cnt : Int} {tin : Int → Int} {sp : Int} {pe : Int} {slp : Int} {late : Int} {srv : Int} {hv : Int → Int} {av : Int} {bd : Int} {sh : Int} {rule : Int} {now : Int} {st : Int} {asl : Int} {idl : Int → Int} {idn : Int} {dee : Int → Int} {w : Int → Int} (hI : LJ K pw co la vo cdee use run nC tdue tlat twk nT edue elat ewk nE len cnt tin sp pe slp late srv hv av bd sh rule now st asl idl idn dee w) (hK : K ≤ 200000) (h : (st2, sp2, pe2, idl2, idn2) = scF pw la st asl now sp pe idl idn) (h2 : idR len2 cnt2 idl2 idn2) : LJ K pw co la vo cdee use run nC tdue tlat twk nT edue elat ewk nE len2 cnt2 tin sp2 pe2 slp late srv hv av bd sh rule now st2 asl idl2 idn2 dee w := by
  obtain ⟨⟨hpw, hco, hla, hc0, hl0⟩, ⟨hnC1, hu0, huse, hrun, hcd, hvo, hd0, hde⟩, ⟨hrl, hhv, hid, hel⟩, hti, hsb, hw0, hw4, hw8⟩ := id hI
  exact ⟨⟨hpw, hco, hla, hc0, hl0⟩, ⟨hnC1, hu0, huse, hrun, hcd, hvo, hd0, hde⟩, ⟨hrl, hhv, h2, hel⟩, sc_ti hpw hla hK hti h, hsb, ⟨hw0, hw4, hw8⟩⟩
theorem lj_run {K : Int} {pw : Int → Int} {co : Int → Int} {la : Int → Int} {vo : Int → Int} {cdee : Int → Int} {use : Int → Int} {run : Int → Int} {nC : Int} {tdue : Int → Int} {tlat : Int → Int} {twk : Int → Int} {nT : Int} {edue : Int → Int} {elat : Int → Int} {ewk : Int → Int} {nE : Int} {len : Int → Int} {cnt : Int} {tin : Int → Int} {sp : Int} {pe : Int} {slp : Int} {late : Int} {srv : Int} {hv : Int → Int} {av : Int} {bd : Int} {sh : Int} {rule : Int} {now : Int} {st : Int} {asl : Int} {idl : Int → Int} {idn : Int} {dee : Int → Int} {w : Int → Int} (hI : LJ K pw co la vo cdee use run nC tdue tlat twk nT edue elat ewk nE len cnt tin sp pe slp late srv hv av bd sh rule now st asl idl idn dee w) {run2 : Int → Int} (h : tfZ run2) : LJ K pw co la vo cdee use run2 nC tdue tlat twk nT edue elat ewk nE len cnt tin sp pe slp late srv hv av bd sh rule now st asl idl idn dee w := by
  obtain ⟨⟨hpw, hco, hla, hc0, hl0⟩, ⟨hnC1, hu0, huse, hrun, hcd, hvo, hd0, hde⟩, ⟨hrl, hhv, hid, hel⟩, hti, hsb, hw0, hw4, hw8⟩ := id hI
  exact ⟨⟨hpw, hco, hla, hc0, hl0⟩, ⟨hnC1, hu0, huse, h, hcd, hvo, hd0, hde⟩, ⟨hrl, hhv, hid, hel⟩, hti, hsb, ⟨hw0, hw4, hw8⟩⟩
theorem lj_state {K : Int} {pw : Int → Int} {co : Int → Int} {la : Int → Int} {vo : Int → Int} {cdee : Int → Int} {use : Int → Int} {run : Int → Int} {nC : Int} {tdue : Int → Int} {tlat : Int → Int} {twk : Int → Int} {nT : Int} {edue : Int → Int} {elat : Int → Int} {ewk : Int → Int} {nE : Int} {len : Int → Int} {cnt : Int} {tin : Int → Int} {sp : Int} {pe : Int} {slp : Int} {late : Int} {srv : Int} {hv : Int → Int} {av : Int} {bd : Int} {sh : Int} {rule : Int} {now : Int} {st : Int} {asl : Int} {idl : Int → Int} {idn : Int} {dee : Int → Int} {w : Int → Int} (hI : LJ K pw co la vo cdee use run nC tdue tlat twk nT edue elat ewk nE len cnt tin sp pe slp late srv hv av bd sh rule now st asl idl idn dee w) {x1 x2 x3 x4 : Int} (h1 : 1 ≤ x1 ∧ x1 ≤ 3) (h2 : 0 ≤ x2 ∧ x2 ≤ 1000) (h3 : 0 ≤ x3 ∧ x3 ≤ 10000) (h4 : 0 ≤ x4 ∧ x4 ≤ 100) : LJ K (uZ pw x1 x2) (uZ co x1 x3) (uZ la x1 x4) vo cdee use run nC tdue tlat twk nT edue elat ewk nE len cnt tin sp pe slp late srv hv av bd sh rule now st asl idl idn dee (uZ (uZ (uZ w x1 x2) (4 + x1) x3) (8 + x1) x4) := by
  obtain ⟨⟨hpw, hco, hla, hc0, hl0⟩, ⟨hnC1, hu0, huse, hrun, hcd, hvo, hd0, hde⟩, ⟨hrl, hhv, hid, hel⟩, hti, hsb, hw0, hw4, hw8⟩ := id hI
  refine ⟨⟨rgZ_u hpw h2, rgZ_u hco h3, rgZ_u hla h4, by rw [uZ_n _ _ (by omega)]; exact hc0, by rw [uZ_n _ _ (by omega)]; exact hl0⟩, ⟨hnC1, hu0, huse, hrun, hcd, hvo, hd0, hde⟩, ⟨hrl, hhv, hid, hel⟩, hti, hsb, ⟨fun k q1 q2 => ?_, fun k q1 q2 => ?_, fun k q1 q2 => ?_⟩⟩
  · have e := hw0 k q1 q2
    unfold uZ
    by_cases q : k = x1
    · subst q
      rw [if_neg (by omega), if_neg (by omega), if_pos rfl, if_pos rfl]
    · rw [if_neg (by omega), if_neg (by omega), if_neg q, if_neg q]
      exact e
  · have e := hw4 k q1 q2
    unfold uZ
    by_cases q : k = x1
    · subst q
      rw [if_neg (by omega), if_pos rfl, if_pos rfl]
    · rw [if_neg (by omega), if_neg (by omega), if_neg (by omega), if_neg q]
      exact e
  · have e := hw8 k q1 q2
    unfold uZ
    by_cases q : k = x1
    · subst q
      rw [if_pos rfl, if_pos rfl]
    · rw [if_neg (by omega), if_neg (by omega), if_neg (by omega), if_neg q]
      exact e
theorem lj_awake {K : Int} {pw : Int → Int} {co : Int → Int} {la : Int → Int} {vo : Int → Int} {cdee : Int → Int} {use : Int → Int} {run : Int → Int} {nC : Int} {tdue : Int → Int} {tlat : Int → Int} {twk : Int → Int} {nT : Int} {edue : Int → Int} {elat : Int → Int} {ewk : Int → Int} {nE : Int} {len : Int → Int} {cnt : Int} {tin : Int → Int} {sp : Int} {pe : Int} {slp : Int} {late : Int} {srv : Int} {hv : Int → Int} {av : Int} {bd : Int} {sh : Int} {rule : Int} {now : Int} {st : Int} {asl : Int} {idl : Int → Int} {idn : Int} {dee : Int → Int} {w : Int → Int} (hI : LJ K pw co la vo cdee use run nC tdue tlat twk nT edue elat ewk nE len cnt tin sp pe slp late srv hv av bd sh rule now st asl idl idn dee w) {x1 : Int} (h1 : 0 ≤ x1 ∧ x1 ≤ 1000) : LJ K (uZ pw 0 x1) co la vo cdee use run nC tdue tlat twk nT edue elat ewk nE len cnt tin sp pe slp late srv hv av bd sh rule now st asl idl idn dee (uZ w 0 x1) := by
  obtain ⟨⟨hpw, hco, hla, hc0, hl0⟩, ⟨hnC1, hu0, huse, hrun, hcd, hvo, hd0, hde⟩, ⟨hrl, hhv, hid, hel⟩, hti, hsb, hw0, hw4, hw8⟩ := id hI
  refine ⟨⟨rgZ_u hpw h1, hco, hla, hc0, hl0⟩, ⟨hnC1, hu0, huse, hrun, hcd, hvo, hd0, hde⟩, ⟨hrl, hhv, hid, hel⟩, hti, hsb, ⟨fun k q1 q2 => ?_, fun k q1 q2 => ?_, fun k q1 q2 => ?_⟩⟩
  · have e := hw0 k q1 q2
    unfold uZ
    by_cases q : k = 0
    · rw [if_pos q, if_pos q]
    · rw [if_neg q, if_neg q]
      exact e
  · rw [uZ_n _ _ (by omega)]
    exact hw4 k q1 q2
  · rw [uZ_n _ _ (by omega)]
    exact hw8 k q1 q2
theorem lj_vote {K : Int} {pw : Int → Int} {co : Int → Int} {la : Int → Int} {vo : Int → Int} {cdee : Int → Int} {use : Int → Int} {run : Int → Int} {nC : Int} {tdue : Int → Int} {tlat : Int → Int} {twk : Int → Int} {nT : Int} {edue : Int → Int} {elat : Int → Int} {ewk : Int → Int} {nE : Int} {len : Int → Int} {cnt : Int} {tin : Int → Int} {sp : Int} {pe : Int} {slp : Int} {late : Int} {srv : Int} {hv : Int → Int} {av : Int} {bd : Int} {sh : Int} {rule : Int} {now : Int} {st : Int} {asl : Int} {idl : Int → Int} {idn : Int} {dee : Int → Int} {w : Int → Int} (hI : LJ K pw co la vo cdee use run nC tdue tlat twk nT edue elat ewk nE len cnt tin sp pe slp late srv hv av bd sh rule now st asl idl idn dee w) {x1 x2 : Int} (h2 : 0 ≤ x2 ∧ x2 ≤ 3) : LJ K pw co la (uZ vo x1 x2) cdee use run nC tdue tlat twk nT edue elat ewk nE len cnt tin sp pe slp late srv hv av bd sh rule now st asl idl idn dee w := by
  obtain ⟨⟨hpw, hco, hla, hc0, hl0⟩, ⟨hnC1, hu0, huse, hrun, hcd, hvo, hd0, hde⟩, ⟨hrl, hhv, hid, hel⟩, hti, hsb, hw0, hw4, hw8⟩ := id hI
  exact ⟨⟨hpw, hco, hla, hc0, hl0⟩, ⟨hnC1, hu0, huse, hrun, hcd, rgZ_u hvo h2, hd0, hde⟩, ⟨hrl, hhv, hid, hel⟩, hti, hsb, ⟨hw0, hw4, hw8⟩⟩
theorem lj_rule {K : Int} {pw : Int → Int} {co : Int → Int} {la : Int → Int} {vo : Int → Int} {cdee : Int → Int} {use : Int → Int} {run : Int → Int} {nC : Int} {tdue : Int → Int} {tlat : Int → Int} {twk : Int → Int} {nT : Int} {edue : Int → Int} {elat : Int → Int} {ewk : Int → Int} {nE : Int} {len : Int → Int} {cnt : Int} {tin : Int → Int} {sp : Int} {pe : Int} {slp : Int} {late : Int} {srv : Int} {hv : Int → Int} {av : Int} {bd : Int} {sh : Int} {rule : Int} {now : Int} {st : Int} {asl : Int} {idl : Int → Int} {idn : Int} {dee : Int → Int} {w : Int → Int} (hI : LJ K pw co la vo cdee use run nC tdue tlat twk nT edue elat ewk nE len cnt tin sp pe slp late srv hv av bd sh rule now st asl idl idn dee w) {x1 : Int} (h1 : 0 ≤ x1 ∧ x1 ≤ 2) : LJ K pw co la vo cdee use run nC tdue tlat twk nT edue elat ewk nE len cnt tin sp pe slp late srv hv av bd sh x1 now st asl idl idn dee w := by
  obtain ⟨⟨hpw, hco, hla, hc0, hl0⟩, ⟨hnC1, hu0, huse, hrun, hcd, hvo, hd0, hde⟩, ⟨hrl, hhv, hid, hel⟩, hti, hsb, hw0, hw4, hw8⟩ := id hI
  exact ⟨⟨hpw, hco, hla, hc0, hl0⟩, ⟨hnC1, hu0, huse, hrun, hcd, hvo, hd0, hde⟩, ⟨h1, hhv, hid, hel⟩, hti, hsb, ⟨hw0, hw4, hw8⟩⟩
theorem lj_harv {K : Int} {pw : Int → Int} {co : Int → Int} {la : Int → Int} {vo : Int → Int} {cdee : Int → Int} {use : Int → Int} {run : Int → Int} {nC : Int} {tdue : Int → Int} {tlat : Int → Int} {twk : Int → Int} {nT : Int} {edue : Int → Int} {elat : Int → Int} {ewk : Int → Int} {nE : Int} {len : Int → Int} {cnt : Int} {tin : Int → Int} {sp : Int} {pe : Int} {slp : Int} {late : Int} {srv : Int} {hv : Int → Int} {av : Int} {bd : Int} {sh : Int} {rule : Int} {now : Int} {st : Int} {asl : Int} {idl : Int → Int} {idn : Int} {dee : Int → Int} {w : Int → Int} (hI : LJ K pw co la vo cdee use run nC tdue tlat twk nT edue elat ewk nE len cnt tin sp pe slp late srv hv av bd sh rule now st asl idl idn dee w) {x1 x2 : Int} (h2 : 0 ≤ x2 ∧ x2 ≤ 1000) : LJ K pw co la vo cdee use run nC tdue tlat twk nT edue elat ewk nE len cnt tin sp pe slp late srv (uZ hv x1 x2) av bd sh rule now st asl idl idn dee w := by
  obtain ⟨⟨hpw, hco, hla, hc0, hl0⟩, ⟨hnC1, hu0, huse, hrun, hcd, hvo, hd0, hde⟩, ⟨hrl, hhv, hid, hel⟩, hti, hsb, hw0, hw4, hw8⟩ := id hI
  exact ⟨⟨hpw, hco, hla, hc0, hl0⟩, ⟨hnC1, hu0, huse, hrun, hcd, hvo, hd0, hde⟩, ⟨hrl, rgZ_u hhv h2, hid, hel⟩, hti, hsb, ⟨hw0, hw4, hw8⟩⟩
theorem lj_sched {K : Int} {pw : Int → Int} {co : Int → Int} {la : Int → Int} {vo : Int → Int} {cdee : Int → Int} {use : Int → Int} {run : Int → Int} {nC : Int} {tdue : Int → Int} {tlat : Int → Int} {twk : Int → Int} {nT : Int} {edue : Int → Int} {elat : Int → Int} {ewk : Int → Int} {nE : Int} {len : Int → Int} {cnt : Int} {tin : Int → Int} {sp : Int} {pe : Int} {slp : Int} {late : Int} {srv : Int} {hv : Int → Int} {av : Int} {bd : Int} {sh : Int} {rule : Int} {now : Int} {st : Int} {asl : Int} {idl : Int → Int} {idn : Int} {dee : Int → Int} {w : Int → Int} (hI : LJ K pw co la vo cdee use run nC tdue tlat twk nT edue elat ewk nE len cnt tin sp pe slp late srv hv av bd sh rule now st asl idl idn dee w) {x1 x2 x3 : Int} (hK : K ≤ 110000) (h1 : now ≤ x1 ∧ x1 ≤ now + 1000) (h2 : 0 ≤ x2 ∧ x2 ≤ 500) (h3 : 1 ≤ x3 ∧ x3 ≤ 50) (h4 : nT < 12) : LJ (K + 200) pw co la vo cdee use run nC (uZ tdue nT x1) (uZ tlat nT (x1 + x2)) (uZ twk nT x3) (nT + 1) edue elat ewk nE len cnt tin sp pe slp late srv hv av bd sh rule now st asl idl idn dee w := by
  obtain ⟨⟨hpw, hco, hla, hc0, hl0⟩, ⟨hnC1, hu0, huse, hrun, hcd, hvo, hd0, hde⟩, ⟨hrl, hhv, hid, hel⟩, hti, hsb, hw0, hw4, hw8⟩ := id hI
  exact ⟨⟨hpw, hco, hla, hc0, hl0⟩, ⟨hnC1, hu0, huse, hrun, hcd, hvo, hd0, hde⟩, ⟨hrl, hhv, hid, hel⟩, ti_sched hK h1 h2 h3 h4 hti, hsb, ⟨hw0, hw4, hw8⟩⟩
theorem lj_event {K : Int} {pw : Int → Int} {co : Int → Int} {la : Int → Int} {vo : Int → Int} {cdee : Int → Int} {use : Int → Int} {run : Int → Int} {nC : Int} {tdue : Int → Int} {tlat : Int → Int} {twk : Int → Int} {nT : Int} {edue : Int → Int} {elat : Int → Int} {ewk : Int → Int} {nE : Int} {len : Int → Int} {cnt : Int} {tin : Int → Int} {sp : Int} {pe : Int} {slp : Int} {late : Int} {srv : Int} {hv : Int → Int} {av : Int} {bd : Int} {sh : Int} {rule : Int} {now : Int} {st : Int} {asl : Int} {idl : Int → Int} {idn : Int} {dee : Int → Int} {w : Int → Int} (hI : LJ K pw co la vo cdee use run nC tdue tlat twk nT edue elat ewk nE len cnt tin sp pe slp late srv hv av bd sh rule now st asl idl idn dee w) {x1 x2 : Int} (hK : K ≤ 110000) (h1 : now ≤ x1 ∧ x1 ≤ now + 1000) (h2 : 1 ≤ x2 ∧ x2 ≤ 50) (h4 : nE < 12) : LJ (K + 200) pw co la vo cdee use run nC tdue tlat twk nT (uZ edue nE x1) (uZ elat nE x1) (uZ ewk nE x2) (nE + 1) len cnt tin sp pe slp late srv hv av bd sh rule now st asl idl idn dee w := by
  obtain ⟨⟨hpw, hco, hla, hc0, hl0⟩, ⟨hnC1, hu0, huse, hrun, hcd, hvo, hd0, hde⟩, ⟨hrl, hhv, hid, hel⟩, hti, hsb, hw0, hw4, hw8⟩ := id hI
  have hn : 0 ≤ now ∧ now ≤ K := hti.2.2.1
  exact ⟨⟨hpw, hco, hla, hc0, hl0⟩, ⟨hnC1, hu0, huse, hrun, hcd, hvo, hd0, hde⟩, ⟨hrl, hhv, hid, rgZ_u hel (by omega)⟩, ti_event hK h1 h2 h4 hti, hsb, ⟨hw0, hw4, hw8⟩⟩
theorem pl_f {K : Int} {pw : Int → Int} {co : Int → Int} {la : Int → Int} {hv : Int → Int} {rule : Int} {st : Int} {asl : Int} {now : Int} {nT : Int} {tdue : Int → Int} {tlat : Int → Int} {twk : Int → Int} {nE : Int} {edue : Int → Int} {ewk : Int → Int} {sp : Int} {pe : Int} {tin : Int → Int} {slp : Int} {late : Int} {srv : Int} {av : Int} {bd : Int} {sh : Int} {idl : Int → Int} {idn : Int} {st2 : Int} {asl2 : Int} {now2 : Int} {nT2 : Int} {tdue2 : Int → Int} {tlat2 : Int → Int} {twk2 : Int → Int} {nE2 : Int} {edue2 : Int → Int} {ewk2 : Int → Int} {sp2 : Int} {pe2 : Int} {tin2 : Int → Int} {slp2 : Int} {late2 : Int} {srv2 : Int} {av2 : Int} {bd2 : Int} {sh2 : Int} {idl2 : Int → Int} {idn2 : Int} {dp : Int} (hpw : rgZ pw 4 1000) (hco : rgZ co 4 10000) (hla : rgZ la 4 100) (hhv : rgZ hv 24 1000) (hdp : 0 ≤ dp ∧ dp ≤ 3) (hi : tiB K st asl now nT tdue tlat twk nE edue ewk sp pe tin slp late srv av bd sh idl idn) (hsb : 0 ≤ slp ∧ slp ≤ now ∧ 0 ≤ late ∧ late ≤ 100 * now) (hK : K ≤ 200000) (h : (st2, asl2, now2, nT2, tdue2, tlat2, twk2, nE2, edue2, ewk2, sp2, pe2, tin2, slp2, late2, srv2, av2, bd2, sh2, idl2, idn2) = tkB pw co la hv rule dp st asl now nT tdue tlat twk nE edue ewk sp pe tin slp late srv av bd sh idl idn) :
    now2 = now + 1 ∧ (0 ≤ srv2 - srv ∧ srv2 - srv ≤ 1200) ∧ ((slp2 = slp ∧ (st2 = 0 ∨ (st2 = st ∧ st ≠ 0 ∧ nxZ tlat nT ≠ now))) ∨ (slp2 = slp + 1 ∧ 0 < st2 ∧ st2 ≤ dp)) ∧ (late2 = late ∨ (0 < st ∧ late2 = late + la st ∧ nxZ tlat nT ≠ now)) ∧
    sp2 = sp + (poZ pw la st2 (nxZ tlat2 nT2) now + pw 0 * (srv2 - srv) + (if slp < slp2 then co st2 else 0) + pw 0 * (late2 - late)) ∧ tin2 = uZ tin st2 (tin st2 + 1) ∧ (0 ≤ st2 ∧ st2 ≤ 3) ∧ (0 ≤ av2 ∧ av2 ≤ 50000) ∧ (0 ≤ bd2 ∧ bd2 ≤ 100000) ∧ av2 + bd2 ≤ av + bd + 1000 ∧ (0 ≤ slp2 ∧ slp2 ≤ now2 ∧ 0 ≤ late2 ∧ late2 ≤ 100 * now2) := by
  obtain ⟨i1, i2, i3, i4, i5, i6, i7, i8, i9, i10, i11, i12, i13, i14, i15, i16, i17⟩ := hi
  obtain ⟨⟨st1, sp1, pe1, late1, idl1, idn1⟩, hw⟩ : ∃ w, w = w1F pw la (nxZ tlat nT) (adZ edue now nE) st asl now sp pe late idl idn := ⟨_, rfl⟩
  have w1 := w1_r hpw hla i1 hw
  have w2 := w1_f hw
  have h : (st2, asl2, now2, nT2, tdue2, tlat2, twk2, nE2, edue2, ewk2, sp2, pe2, tin2, slp2, late2, srv2, av2, bd2, sh2, idl2, idn2) = tkC pw co la hv rule dp asl now nT tdue tlat twk nE edue ewk tin slp srv av bd sh (w1F pw la (nxZ tlat nT) (adZ edue now nE) st asl now sp pe late idl idn) := h
  rw [← hw] at h
  obtain ⟨⟨st9, asl9, nT9, tdue9, tlat9, twk9, nE9, edue9, ewk9, slp9, sp9, pe9, srv9⟩, hg⟩ : ∃ g, g = sgF pw co la rule dp st1 asl now nT tdue tlat twk nE edue ewk slp sp1 pe1 srv idl1 idn1 := ⟨_, rfl⟩
  have g1 := sg_r hpw hco hdp (by omega) i2 i4 i5 i6 i7 i8 i9 i10 hg
  have g2 := sg_f hpw hdp i4 i5 i6 i7 i8 i9 i10 hg
  have h : (st2, asl2, now2, nT2, tdue2, tlat2, twk2, nE2, edue2, ewk2, sp2, pe2, tin2, slp2, late2, srv2, av2, bd2, sh2, idl2, idn2) = tkD pw la hv now tin av bd sh (st1, sp1, pe1, late1, idl1, idn1) (sgF pw co la rule dp st1 asl now nT tdue tlat twk nE edue ewk slp sp1 pe1 srv idl1 idn1) := h
  rw [← hg] at h
  simp only [tkD, Prod.mk.injEq] at h
  obtain ⟨h1, h2, h3, h4, h5, h6, h7, h8, h9, h10, h11, h12, h13, h14, h15, h16, h17, h18, -, -, -⟩ := h
  rw [h13, h1, h4, h6, h14, h15, h16, h17, h18, h3, h11]
  obtain ⟨r1, r2, r3, r4, r5, r6, r7, r8, r9, r10, -⟩ := g1
  have p1 := po_r (la := la) (nx := nxZ tlat9 nT9) (now := now) hpw r1
  have hh := hhv (now / 60 % 24) (by omega) (by omega)
  generalize poZ pw la st9 (nxZ tlat9 nT9) now = po at p1 ⊢
  have a1 := av_r av (hv (now / 60 % 24)) (pe9 + po)
  have a2 : avZ av (hv (now / 60 % 24)) (pe9 + po) ≤ av + 1000 := by unfold avZ; omega
  generalize avZ av (hv (now / 60 % 24)) (pe9 + po) = a at a1 a2 ⊢
  have f1 := fl_r a1 i13
  obtain ⟨s1, s2⟩ := g2
  have hl9 := hla st i1.1 (by omega)
  have e1 : (srv9 - srv) * pw 0 = pw 0 * (srv9 - srv) := Int.mul_comm _ _
  have e2 : pw 0 * (late1 - late) = sp1 - sp := by
    rcases w2 with ⟨q1, q2, q3⟩ | ⟨q1, q2, q3, q4, q5⟩
    · rw [q1, Int.sub_self, Int.mul_zero]
      omega
    · rw [show late1 - late = la st by omega]
      omega
  refine ⟨rfl, s1, ?_, by omega, ?_, rfl, r1, f1.1, f1.2, by omega, by omega⟩
  · omega
  · rcases s2 with ⟨q1, q2, q3⟩ | ⟨q1, q2, q3, q4, q5⟩
    · rw [if_neg (by omega)]
      omega
    · rw [if_pos (by omega)]
      omega
theorem lj_tick {K : Int} {pw : Int → Int} {co : Int → Int} {la : Int → Int} {vo : Int → Int} {cdee : Int → Int} {use : Int → Int} {run : Int → Int} {nC : Int} {tdue : Int → Int} {tlat : Int → Int} {twk : Int → Int} {nT : Int} {edue : Int → Int} {elat : Int → Int} {ewk : Int → Int} {nE : Int} {len : Int → Int} {cnt : Int} {tin : Int → Int} {sp : Int} {pe : Int} {slp : Int} {late : Int} {srv : Int} {hv : Int → Int} {av : Int} {bd : Int} {sh : Int} {rule : Int} {now : Int} {st : Int} {asl : Int} {idl : Int → Int} {idn : Int} {dee : Int → Int} {w : Int → Int} {st2 : Int} {asl2 : Int} {now2 : Int} {nT2 : Int} {tdue2 : Int → Int} {tlat2 : Int → Int} {twk2 : Int → Int} {nE2 : Int} {edue2 : Int → Int} {ewk2 : Int → Int} {sp2 : Int} {pe2 : Int} {tin2 : Int → Int} {slp2 : Int} {late2 : Int} {srv2 : Int} {av2 : Int} {bd2 : Int} {sh2 : Int} {idl2 : Int → Int} {idn2 : Int} {len2 : Int → Int} {cnt2 : Int} {elat2 : Int → Int} {run2 : Int → Int} {dp : Int} (hI : LJ K pw co la vo cdee use run nC tdue tlat twk nT edue elat ewk nE len cnt tin sp pe slp late srv hv av bd sh rule now st asl idl idn dee w) (hdp : 0 ≤ dp ∧ dp ≤ 3) (hK : K ≤ 200000) (h : (st2, asl2, now2, nT2, tdue2, tlat2, twk2, nE2, edue2, ewk2, sp2, pe2, tin2, slp2, late2, srv2, av2, bd2, sh2, idl2, idn2) = tkB pw co la hv rule dp st asl now nT tdue tlat twk nE edue ewk sp pe tin slp late srv av bd sh idl idn) (h2 : idR len2 cnt2 idl2 idn2) (h3 : rgZ elat2 12 1000000) (h4 : tfZ run2) : LJ (K + 1) pw co la vo cdee use run2 nC tdue2 tlat2 twk2 nT2 edue2 elat2 ewk2 nE2 len2 cnt2 tin2 sp2 pe2 slp2 late2 srv2 hv av2 bd2 sh2 rule now2 st2 asl2 idl2 idn2 dee w := by
  obtain ⟨⟨hpw, hco, hla, hc0, hl0⟩, ⟨hnC1, hu0, huse, hrun, hcd, hvo, hd0, hde⟩, ⟨hrl, hhv, hid, hel⟩, hti, hsb, hw0, hw4, hw8⟩ := id hI
  have hf := pl_f hpw hco hla hhv hdp hti hsb hK h
  have ht := tk_i (hv := hv) (rule := rule) hpw hco hla hdp hK hti
  rw [← h] at ht
  exact ⟨⟨hpw, hco, hla, hc0, hl0⟩, ⟨hnC1, hu0, huse, h4, hcd, hvo, hd0, hde⟩, ⟨hrl, hhv, h2, h3⟩, ht, hf.2.2.2.2.2.2.2.2.2.2, ⟨hw0, hw4, hw8⟩⟩
