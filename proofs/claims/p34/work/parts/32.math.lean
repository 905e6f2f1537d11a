abbrev TT : Type := Int × Int × Int × Int × (Int → Int) × (Int → Int) × (Int → Int) × Int × (Int → Int) × (Int → Int) × Int × Int × (Int → Int) × Int × Int × Int × Int × Int × Int × (Int → Int) × Int
abbrev T13 : Type := Int × Int × Int × (Int → Int) × (Int → Int) × (Int → Int) × Int × (Int → Int) × (Int → Int) × Int × Int × Int × Int
def w1F (pw la : Int → Int) (nx ev st asl now sp pe late : Int) (idl : Int → Int) (idn : Int) : T6 := if st = 0 then (st, sp, pe, late, idl, idn) else wkF pw la nx ev st asl now sp pe late idl idn
def sgF (pw co la : Int → Int) (rule dp : Int) (st : Int) (asl : Int) (now : Int) (nT : Int) (tdue : Int → Int) (tlat : Int → Int) (twk : Int → Int) (nE : Int) (edue : Int → Int) (ewk : Int → Int) (slp : Int) (sp : Int) (pe : Int) (srv : Int) (idl : Int → Int) (idn : Int) : T13 := if st = 0 then ((faF co (chZ pw co la rule dp (nxZ (tdZ now tdue tlat twk nT).2.2.2.1 (tdZ now tdue tlat twk nT).2.1 - now) (meM idl idn)) now st asl slp (sp + ((teZ now edue ewk nE).1 + (tdZ now tdue tlat twk nT).1) * pw 0) (pe + ((teZ now edue ewk nE).1 + (tdZ now tdue tlat twk nT).1) * pw 0)).1, (faF co (chZ pw co la rule dp (nxZ (tdZ now tdue tlat twk nT).2.2.2.1 (tdZ now tdue tlat twk nT).2.1 - now) (meM idl idn)) now st asl slp (sp + ((teZ now edue ewk nE).1 + (tdZ now tdue tlat twk nT).1) * pw 0) (pe + ((teZ now edue ewk nE).1 + (tdZ now tdue tlat twk nT).1) * pw 0)).2.1, (tdZ now tdue tlat twk nT).2.1, (tdZ now tdue tlat twk nT).2.2.1, (tdZ now tdue tlat twk nT).2.2.2.1, (tdZ now tdue tlat twk nT).2.2.2.2, (teZ now edue ewk nE).2.1, (teZ now edue ewk nE).2.2.1, (teZ now edue ewk nE).2.2.2, (faF co (chZ pw co la rule dp (nxZ (tdZ now tdue tlat twk nT).2.2.2.1 (tdZ now tdue tlat twk nT).2.1 - now) (meM idl idn)) now st asl slp (sp + ((teZ now edue ewk nE).1 + (tdZ now tdue tlat twk nT).1) * pw 0) (pe + ((teZ now edue ewk nE).1 + (tdZ now tdue tlat twk nT).1) * pw 0)).2.2.1, (faF co (chZ pw co la rule dp (nxZ (tdZ now tdue tlat twk nT).2.2.2.1 (tdZ now tdue tlat twk nT).2.1 - now) (meM idl idn)) now st asl slp (sp + ((teZ now edue ewk nE).1 + (tdZ now tdue tlat twk nT).1) * pw 0) (pe + ((teZ now edue ewk nE).1 + (tdZ now tdue tlat twk nT).1) * pw 0)).2.2.2.1, (faF co (chZ pw co la rule dp (nxZ (tdZ now tdue tlat twk nT).2.2.2.1 (tdZ now tdue tlat twk nT).2.1 - now) (meM idl idn)) now st asl slp (sp + ((teZ now edue ewk nE).1 + (tdZ now tdue tlat twk nT).1) * pw 0) (pe + ((teZ now edue ewk nE).1 + (tdZ now tdue tlat twk nT).1) * pw 0)).2.2.2.2, srv + ((teZ now edue ewk nE).1 + (tdZ now tdue tlat twk nT).1)) else (st, asl, nT, tdue, tlat, twk, nE, edue, ewk, slp, sp, pe, srv)
def tkD (pw la hv : Int → Int) (now : Int) (tin : Int → Int) (av bd sh : Int) (w : T6) (g : T13) : TT := (g.1, g.2.1, now + 1, g.2.2.1, g.2.2.2.1, g.2.2.2.2.1, g.2.2.2.2.2.1, g.2.2.2.2.2.2.1, g.2.2.2.2.2.2.2.1, g.2.2.2.2.2.2.2.2.1, g.2.2.2.2.2.2.2.2.2.2.1 + poZ pw la g.1 (nxZ (g.2.2.2.2.1) (g.2.2.1)) now, 0, uZ tin g.1 (tin g.1 + 1), g.2.2.2.2.2.2.2.2.2.1, w.2.2.2.1, g.2.2.2.2.2.2.2.2.2.2.2.2, avZ av (hv (now / 60 % 24)) (g.2.2.2.2.2.2.2.2.2.2.2.1 + poZ pw la g.1 (nxZ (g.2.2.2.2.1) (g.2.2.1)) now) + flZ (avZ av (hv (now / 60 % 24)) (g.2.2.2.2.2.2.2.2.2.2.2.1 + poZ pw la g.1 (nxZ (g.2.2.2.2.1) (g.2.2.1)) now)) bd, bd - flZ (avZ av (hv (now / 60 % 24)) (g.2.2.2.2.2.2.2.2.2.2.2.1 + poZ pw la g.1 (nxZ (g.2.2.2.2.1) (g.2.2.1)) now)) bd, (if av + hv (now / 60 % 24) - (g.2.2.2.2.2.2.2.2.2.2.2.1 + poZ pw la g.1 (nxZ (g.2.2.2.2.1) (g.2.2.1)) now) < 0 then sh + 1 else sh), w.2.2.2.2.1, w.2.2.2.2.2)
def tkC (pw : Int → Int) (co : Int → Int) (la : Int → Int) (hv : Int → Int) (rule : Int) (dp : Int) (asl : Int) (now : Int) (nT : Int) (tdue : Int → Int) (tlat : Int → Int) (twk : Int → Int) (nE : Int) (edue : Int → Int) (ewk : Int → Int) (tin : Int → Int) (slp : Int) (srv : Int) (av : Int) (bd : Int) (sh : Int) (w : T6) : TT := tkD pw la hv now tin av bd sh w (sgF pw co la rule dp w.1 asl now nT tdue tlat twk nE edue ewk slp w.2.1 w.2.2.1 srv w.2.2.2.2.1 w.2.2.2.2.2)
def tkB (pw : Int → Int) (co : Int → Int) (la : Int → Int) (hv : Int → Int) (rule : Int) (dp : Int) (st : Int) (asl : Int) (now : Int) (nT : Int) (tdue : Int → Int) (tlat : Int → Int) (twk : Int → Int) (nE : Int) (edue : Int → Int) (ewk : Int → Int) (sp : Int) (pe : Int) (tin : Int → Int) (slp : Int) (late : Int) (srv : Int) (av : Int) (bd : Int) (sh : Int) (idl : Int → Int) (idn : Int) : TT := tkC pw co la hv rule dp asl now nT tdue tlat twk nE edue ewk tin slp srv av bd sh (w1F pw la (nxZ tlat nT) (adZ edue now nE) st asl now sp pe late idl idn)
def tkT (pw : Int → Int) (co : Int → Int) (la : Int → Int) (hv : Int → Int) (rule : Int) (dp : Int) (t : TT) : TT := tkB pw co la hv rule dp (t.1) (t.2.1) (t.2.2.1) (t.2.2.2.1) (t.2.2.2.2.1) (t.2.2.2.2.2.1) (t.2.2.2.2.2.2.1) (t.2.2.2.2.2.2.2.1) (t.2.2.2.2.2.2.2.2.1) (t.2.2.2.2.2.2.2.2.2.1) (t.2.2.2.2.2.2.2.2.2.2.1) (t.2.2.2.2.2.2.2.2.2.2.2.1) (t.2.2.2.2.2.2.2.2.2.2.2.2.1) (t.2.2.2.2.2.2.2.2.2.2.2.2.2.1) (t.2.2.2.2.2.2.2.2.2.2.2.2.2.2.1) (t.2.2.2.2.2.2.2.2.2.2.2.2.2.2.2.1) (t.2.2.2.2.2.2.2.2.2.2.2.2.2.2.2.2.1) (t.2.2.2.2.2.2.2.2.2.2.2.2.2.2.2.2.2.1) (t.2.2.2.2.2.2.2.2.2.2.2.2.2.2.2.2.2.2.1) (t.2.2.2.2.2.2.2.2.2.2.2.2.2.2.2.2.2.2.2.1) (t.2.2.2.2.2.2.2.2.2.2.2.2.2.2.2.2.2.2.2.2)
def itT (pw : Int → Int) (co : Int → Int) (la : Int → Int) (hv : Int → Int) (rule : Int) (dp : Int) : Nat → TT → TT
  | 0, t => t
  | n + 1, t => itT pw co la hv rule dp n (tkT pw co la hv rule dp t)
theorem itT_s {pw : Int → Int} {co : Int → Int} {la : Int → Int} {hv : Int → Int} {rule : Int} {dp : Int} (n : Nat) (t : TT) : itT pw co la hv rule dp (n + 1) t = tkT pw co la hv rule dp (itT pw co la hv rule dp n t) := by
  induction n generalizing t with
  | zero => rfl
  | succ n ih => exact ih _
def tiB (K : Int) (st : Int) (asl : Int) (now : Int) (nT : Int) (tdue : Int → Int) (tlat : Int → Int) (twk : Int → Int) (nE : Int) (edue : Int → Int) (ewk : Int → Int) (sp : Int) (pe : Int) (tin : Int → Int) (slp : Int) (late : Int) (srv : Int) (av : Int) (bd : Int) (sh : Int) (idl : Int → Int) (idn : Int) : Prop := (0 ≤ st ∧ st ≤ 3) ∧ (0 ≤ asl ∧ asl ≤ now) ∧ (0 ≤ now ∧ now ≤ K) ∧ (0 ≤ nT ∧ nT ≤ 12) ∧ (rgZ tdue 12 1000000) ∧ (rgZ tlat 12 1000000) ∧ (rgZ twk 12 50) ∧ (0 ≤ nE ∧ nE ≤ 12) ∧ (rgZ edue 12 1000000) ∧ (rgZ ewk 12 50) ∧ (0 ≤ pe ∧ pe ≤ 100000 ∧ (st ≠ 0 → pe = 0)) ∧ (0 ≤ av ∧ av ≤ 50000) ∧ (0 ≤ bd ∧ bd ≤ 100000) ∧ (∀ k : Int, 0 ≤ k → k < nT → now ≤ tlat k ∧ tdue k ≤ tlat k) ∧ (∀ k : Int, 0 ≤ k → k < nE → now ≤ edue k) ∧ (0 ≤ idn ∧ (st = 0 → idn ≤ now) ∧ (st ≠ 0 → idn + 1 ≤ now)) ∧ (rgZ idl 4 1000000)
def tiT (K : Int) (t : TT) : Prop := tiB K (t.1) (t.2.1) (t.2.2.1) (t.2.2.2.1) (t.2.2.2.2.1) (t.2.2.2.2.2.1) (t.2.2.2.2.2.2.1) (t.2.2.2.2.2.2.2.1) (t.2.2.2.2.2.2.2.2.1) (t.2.2.2.2.2.2.2.2.2.1) (t.2.2.2.2.2.2.2.2.2.2.1) (t.2.2.2.2.2.2.2.2.2.2.2.1) (t.2.2.2.2.2.2.2.2.2.2.2.2.1) (t.2.2.2.2.2.2.2.2.2.2.2.2.2.1) (t.2.2.2.2.2.2.2.2.2.2.2.2.2.2.1) (t.2.2.2.2.2.2.2.2.2.2.2.2.2.2.2.1) (t.2.2.2.2.2.2.2.2.2.2.2.2.2.2.2.2.1) (t.2.2.2.2.2.2.2.2.2.2.2.2.2.2.2.2.2.1) (t.2.2.2.2.2.2.2.2.2.2.2.2.2.2.2.2.2.2.1) (t.2.2.2.2.2.2.2.2.2.2.2.2.2.2.2.2.2.2.2.1) (t.2.2.2.2.2.2.2.2.2.2.2.2.2.2.2.2.2.2.2.2)
theorem w1_r {pw la : Int → Int} {nx ev st asl now sp pe late : Int} {idl : Int → Int} {idn : Int} (hpw : rgZ pw 4 1000) (hla : rgZ la 4 100) (hst : 0 ≤ st ∧ st ≤ 3) {st1 sp1 pe1 late1 idn1 : Int} {idl1 : Int → Int}
    (h : (st1, sp1, pe1, late1, idl1, idn1) = w1F pw la nx ev st asl now sp pe late idl idn) : (st1 = 0 ∨ (st1 = st ∧ nx ≠ now ∧ ev ≠ 1)) ∧ (pe ≤ pe1 ∧ pe1 ≤ pe + 100000) ∧ (idn1 = idn ∧ st1 = st ∨ idn1 = idn + 1 ∧ st ≠ 0 ∧ st1 = 0) ∧ (st = 0 → pe1 = pe) ∧ (st1 ≠ 0 → pe1 = pe) := by
  have h1 := mul_r (hpw 0 (by omega) (by omega)) (hla st (by omega) (by omega))
  unfold w1F wkF at h
  split at h
  · simp only [Prod.mk.injEq] at h
    omega
  · split at h
    · simp only [Prod.mk.injEq] at h
      omega
    · split at h
      · simp only [Prod.mk.injEq] at h
        omega
      · simp only [Prod.mk.injEq] at h
        omega
theorem w1_d {pw la : Int → Int} {nx ev st asl now sp pe late : Int} {idl : Int → Int} {idn : Int} (hi : rgZ idl 4 1000000) (ha : 0 ≤ asl ∧ asl ≤ now) (hn : now ≤ 1000000) {st1 sp1 pe1 late1 idn1 : Int} {idl1 : Int → Int}
    (h : (st1, sp1, pe1, late1, idl1, idn1) = w1F pw la nx ev st asl now sp pe late idl idn) : rgZ idl1 4 1000000 := by
  have h1 := rgZ_u (i := idn % 4) hi (show 0 ≤ now - asl ∧ now - asl ≤ 1000000 by omega)
  unfold w1F wkF at h
  split at h
  · simp only [Prod.mk.injEq] at h
    obtain ⟨-, -, -, -, rfl, -⟩ := h
    exact hi
  · split at h
    · simp only [Prod.mk.injEq] at h
      obtain ⟨-, -, -, -, rfl, -⟩ := h
      exact h1
    · split at h
      · simp only [Prod.mk.injEq] at h
        obtain ⟨-, -, -, -, rfl, -⟩ := h
        exact h1
      · simp only [Prod.mk.injEq] at h
        obtain ⟨-, -, -, -, rfl, -⟩ := h
        exact hi
/-- what stays is due later -/
theorem td_d {t : Int} {due lat wk : Int → Int} {n : Int} (hn : 0 ≤ n ∧ n ≤ 12) (Q : Int → Int → Prop) (hq : ∀ j : Int, 0 ≤ j → j < n → Q (due j) (lat j)) :
    (∀ j : Int, 0 ≤ j → j < (tdZ t due lat wk n).2.1 → t < (tdZ t due lat wk n).2.2.1 j ∧ Q ((tdZ t due lat wk n).2.2.1 j) ((tdZ t due lat wk n).2.2.2.1 j)) := by
  have key : (∀ j : Int, 0 ≤ j → j < (tdZ t due lat wk n).2.1 → t < (tdZ t due lat wk n).2.2.1 j ∧ Q ((tdZ t due lat wk n).2.2.1 j) ((tdZ t due lat wk n).2.2.2.1 j)) ∧ (∀ j : Int, n ≤ j → j < n → Q ((tdZ t due lat wk n).2.2.1 j) ((tdZ t due lat wk n).2.2.2.1 j)) ∧ (0 ≤ (tdZ t due lat wk n).2.1 ∧ (tdZ t due lat wk n).2.1 ≤ n) := by
    refine foZ_ib (N := n) (fun (k : Int) (s : tdT) => (∀ j : Int, 0 ≤ j → j < s.2.1 → t < s.2.2.1 j ∧ Q (s.2.2.1 j) (s.2.2.2.1 j)) ∧ (∀ j : Int, k ≤ j → j < n → Q (s.2.2.1 j) (s.2.2.2.1 j)) ∧ (0 ≤ s.2.1 ∧ s.2.1 ≤ k)) ⟨fun j h1 h2 => absurd h2 (by show ¬ j < 0; omega), fun j h1 h2 => hq j h1 h2, ⟨Int.le_refl 0, Int.le_refl 0⟩⟩ (fun k s h1 h2 h3 => ?_) hn.1 (Int.le_refl n)
    obtain ⟨q1, q2, q3⟩ := h3
    show (∀ j : Int, 0 ≤ j → j < (tdF t k s).2.1 → t < (tdF t k s).2.2.1 j ∧ Q ((tdF t k s).2.2.1 j) ((tdF t k s).2.2.2.1 j)) ∧ (∀ j : Int, k + 1 ≤ j → j < n → Q ((tdF t k s).2.2.1 j) ((tdF t k s).2.2.2.1 j)) ∧ (0 ≤ (tdF t k s).2.1 ∧ (tdF t k s).2.1 ≤ k + 1)
    unfold tdF
    by_cases q : s.2.2.1 k ≤ t
    · rw [if_pos q]
      exact ⟨q1, fun j z1 z2 => q2 j (by omega) z2, by show 0 ≤ s.2.1 ∧ s.2.1 ≤ k + 1; omega⟩
    · rw [if_neg q]
      refine ⟨fun j z1 z2 => ?_, fun j z1 z2 => ?_, ?_⟩
      · show t < uZ s.2.2.1 s.2.1 (s.2.2.1 k) j ∧ Q (uZ s.2.2.1 s.2.1 (s.2.2.1 k) j) (uZ s.2.2.2.1 s.2.1 (s.2.2.2.1 k) j)
        by_cases z : j = s.2.1
        · subst z
          rw [uZ_s, uZ_s]
          exact ⟨by omega, q2 k (Int.le_refl k) h2⟩
        · rw [uZ_n _ _ z, uZ_n _ _ z]
          exact q1 j z1 (by have : j < s.2.1 + 1 := z2; omega)
      · show Q (uZ s.2.2.1 s.2.1 (s.2.2.1 k) j) (uZ s.2.2.2.1 s.2.1 (s.2.2.2.1 k) j)
        rw [uZ_n _ _ (by omega), uZ_n _ _ (by omega)]
        exact q2 j (by omega) z2
      · show 0 ≤ s.2.1 + 1 ∧ s.2.1 + 1 ≤ k + 1
        omega
  exact key.1
theorem nx_le {lat : Int → Int} {n b : Int} (hn : 0 ≤ n) : b ≤ nxZ lat n ↔ b ≤ 1000000000 ∧ ∀ j : Int, 0 ≤ j → j < n → b ≤ lat j := fo_glb (fun j b => b ≤ lat j) (fun j x b => by unfold nxF; split <;> omega) hn b
theorem ad_n {due : Int → Int} {t n : Int} (h : adZ due t n ≠ 1) : ∀ k : Int, 0 ≤ k → k < n → t < due k := fun k h1 h2 => by
  rcases Int.lt_or_le t (due k) with q | q
  · exact q
  · exact absurd (ad_1 ⟨k, h1, h2, q⟩) h
theorem fl_r {a b : Int} (ha : 0 ≤ a ∧ a ≤ 50000) (hb : 0 ≤ b ∧ b ≤ 100000) : (0 ≤ a + flZ a b ∧ a + flZ a b ≤ 50000) ∧ (0 ≤ b - flZ a b ∧ b - flZ a b ≤ 100000) := by
  unfold flZ
  split <;> omega
theorem av_r (a h u : Int) : 0 ≤ avZ a h u ∧ avZ a h u ≤ 50000 := by unfold avZ; omega
theorem po_r {pw la : Int → Int} {st nx now : Int} (hpw : rgZ pw 4 1000) (h : 0 ≤ st ∧ st ≤ 3) : 0 ≤ poZ pw la st nx now ∧ poZ pw la st nx now ≤ 1000 := by
  unfold poZ
  split
  · exact hpw st h.1 (by omega)
  · exact hpw 0 (by omega) (by omega)
theorem sg_y {pw : Int → Int} {co : Int → Int} {la : Int → Int} {rule : Int} {dp : Int} {st : Int} {asl : Int} {now : Int} {nT : Int} {tdue : Int → Int} {tlat : Int → Int} {twk : Int → Int} {nE : Int} {edue : Int → Int} {ewk : Int → Int} {slp : Int} {sp : Int} {pe : Int} {srv : Int} {idl : Int → Int} {idn : Int} {a b c d e : Int} (q : st = 0) (h : (a, b, c, d, e) = faF co (chZ pw co la rule dp (nxZ (tdZ now tdue tlat twk nT).2.2.2.1 (tdZ now tdue tlat twk nT).2.1 - now) (meM idl idn)) now st asl slp (sp + ((teZ now edue ewk nE).1 + (tdZ now tdue tlat twk nT).1) * pw 0) (pe + ((teZ now edue ewk nE).1 + (tdZ now tdue tlat twk nT).1) * pw 0)) : (a, b, (tdZ now tdue tlat twk nT).2.1, (tdZ now tdue tlat twk nT).2.2.1, (tdZ now tdue tlat twk nT).2.2.2.1, (tdZ now tdue tlat twk nT).2.2.2.2, (teZ now edue ewk nE).2.1, (teZ now edue ewk nE).2.2.1, (teZ now edue ewk nE).2.2.2, c, d, e, srv + ((teZ now edue ewk nE).1 + (tdZ now tdue tlat twk nT).1)) = sgF pw co la rule dp st asl now nT tdue tlat twk nE edue ewk slp sp pe srv idl idn := by
  unfold sgF
  rw [if_pos q, ← h]
theorem sg_r {pw : Int → Int} {co : Int → Int} {la : Int → Int} {rule : Int} {dp : Int} {st : Int} {asl : Int} {now : Int} {nT : Int} {tdue : Int → Int} {tlat : Int → Int} {twk : Int → Int} {nE : Int} {edue : Int → Int} {ewk : Int → Int} {slp : Int} {sp : Int} {pe : Int} {srv : Int} {idl : Int → Int} {idn : Int} {st2 : Int} {asl2 : Int} {nT2 : Int} {tdue2 : Int → Int} {tlat2 : Int → Int} {twk2 : Int → Int} {nE2 : Int} {edue2 : Int → Int} {ewk2 : Int → Int} {slp2 : Int} {sp2 : Int} {pe2 : Int} {srv2 : Int} (hpw : rgZ pw 4 1000) (hco : rgZ co 4 10000) (hdp : 0 ≤ dp ∧ dp ≤ 3) (hst : 0 ≤ st ∧ st ≤ 3) (hasl : 0 ≤ asl ∧ asl ≤ now) (hnT : 0 ≤ nT ∧ nT ≤ 12) (htd : rgZ tdue 12 1000000) (htl : rgZ tlat 12 1000000) (htw : rgZ twk 12 50) (hnE : 0 ≤ nE ∧ nE ≤ 12) (hed : rgZ edue 12 1000000) (hew : rgZ ewk 12 50)
    (h : (st2, asl2, nT2, tdue2, tlat2, twk2, nE2, edue2, ewk2, slp2, sp2, pe2, srv2) = sgF pw co la rule dp st asl now nT tdue tlat twk nE edue ewk slp sp pe srv idl idn) :
    (0 ≤ st2 ∧ st2 ≤ 3) ∧ (0 ≤ asl2 ∧ asl2 ≤ now) ∧ (0 ≤ nT2 ∧ nT2 ≤ 12) ∧ rgZ tdue2 12 1000000 ∧ rgZ tlat2 12 1000000 ∧ rgZ twk2 12 50 ∧ (0 ≤ nE2 ∧ nE2 ≤ 12) ∧ rgZ edue2 12 1000000 ∧ rgZ ewk2 12 50 ∧ (pe ≤ pe2 ∧ pe2 ≤ pe + 1210000) ∧
    ((st = 0 ∧ (∀ Q : Int → Int → Prop, (∀ j : Int, 0 ≤ j → j < nT → Q (tdue j) (tlat j)) → ∀ j : Int, 0 ≤ j → j < nT2 → now < tdue2 j ∧ Q (tdue2 j) (tlat2 j)) ∧ (∀ j : Int, 0 ≤ j → j < nE2 → now < edue2 j)) ∨ (st ≠ 0 ∧ st2 = st ∧ nT2 = nT ∧ tdue2 = tdue ∧ tlat2 = tlat ∧ nE2 = nE ∧ edue2 = edue)) := by
  unfold sgF at h
  by_cases q : st = 0
  · rw [if_pos q] at h
    simp only [Prod.mk.injEq] at h
    obtain ⟨e1, e2, e3, e4, e5, e6, e7, e8, e9, e10, e11, e12, e13⟩ := h
    have h1 := td_r (t := now) (k := nT) htd htl htw hnT
    have h2 := td_r (t := now) (due := edue) (lat := fun _ => 0) (wk := ewk) (k := nE) (L := 0) hed (fun _ _ _ => ⟨Int.le_refl 0, Int.le_refl 0⟩) hew hnE
    have ht := te_td now edue (fun _ => 0) ewk hnE.1
    have hc := ch_r (pw := pw) (co := co) (la := la) (rule := rule) (k := nxZ (tdZ now tdue tlat twk nT).2.2.2.1 (tdZ now tdue tlat twk nT).2.1 - now) (mn := meM idl idn) hdp
    rw [ht] at e7 e8 e9 e12 e1 e2
    dsimp only at e7 e8 e9 e12 e1 e2
    have hm := mul_r (a := (tdZ now edue (fun _ => 0) ewk nE).1 + (tdZ now tdue tlat twk nT).1) (M := 1200) (hb := hpw 0 (by omega) (by omega)) (by omega)
    refine ⟨?_, ?_, by rw [e3]; omega, by rw [e4]; exact h1.2.2.1, by rw [e5]; exact h1.2.2.2.1, by rw [e6]; exact h1.2.2.2.2, by rw [e7]; omega, by rw [e8]; exact h2.2.2.1, by rw [e9]; exact h2.2.2.2.2, ?_, Or.inl ⟨q, fun Q hQ => ?_, ?_⟩⟩
    · rw [e1]; unfold faF; split
      · exact hst
      · exact hc
    · rw [e2]; unfold faF; split
      · exact hasl
      · show 0 ≤ now ∧ now ≤ now; omega
    · rw [e12]; unfold faF; split
      · show pe ≤ pe + _ ∧ pe + _ ≤ _; omega
      · have := hco _ hc.1 (by omega)
        show pe ≤ pe + _ + _ ∧ pe + _ + _ ≤ _; omega
    · rw [e3, e4, e5]; exact td_d hnT Q hQ
    · rw [e7, e8]
      exact fun j z1 z2 => (td_d (lat := fun _ => 0) hnE (fun _ _ => True) (fun _ _ _ => trivial) j z1 z2).1
  · rw [if_neg q] at h
    simp only [Prod.mk.injEq] at h
    obtain ⟨rfl, rfl, rfl, rfl, rfl, rfl, rfl, rfl, rfl, rfl, rfl, rfl, rfl⟩ := h
    exact ⟨hst, hasl, hnT, htd, htl, htw, hnE, hed, hew, by omega, Or.inr ⟨q, rfl, rfl, rfl, rfl, rfl, rfl⟩⟩
theorem tk_i {K : Int} {pw : Int → Int} {co : Int → Int} {la : Int → Int} {hv : Int → Int} {rule : Int} {dp : Int} {st : Int} {asl : Int} {now : Int} {nT : Int} {tdue : Int → Int} {tlat : Int → Int} {twk : Int → Int} {nE : Int} {edue : Int → Int} {ewk : Int → Int} {sp : Int} {pe : Int} {tin : Int → Int} {slp : Int} {late : Int} {srv : Int} {av : Int} {bd : Int} {sh : Int} {idl : Int → Int} {idn : Int} (hpw : rgZ pw 4 1000) (hco : rgZ co 4 10000) (hla : rgZ la 4 100) (hdp : 0 ≤ dp ∧ dp ≤ 3) (hK : K ≤ 200000) (h : tiB K st asl now nT tdue tlat twk nE edue ewk sp pe tin slp late srv av bd sh idl idn) : tiT (K + 1) (tkB pw co la hv rule dp st asl now nT tdue tlat twk nE edue ewk sp pe tin slp late srv av bd sh idl idn) := by
  obtain ⟨i1, i2, i3, i4, i5, i6, i7, i8, i9, i10, i11, i12, i13, i14, i15, i16, i17⟩ := h
  obtain ⟨⟨st1, sp1, pe1, late1, idl1, idn1⟩, hw⟩ : ∃ w, w = w1F pw la (nxZ tlat nT) (adZ edue now nE) st asl now sp pe late idl idn := ⟨_, rfl⟩
  have w1 := w1_r hpw hla i1 hw
  have w2 := w1_d i17 i2 (by omega) hw
  show tiT (K + 1) (tkC pw co la hv rule dp asl now nT tdue tlat twk nE edue ewk tin slp srv av bd sh (w1F pw la (nxZ tlat nT) (adZ edue now nE) st asl now sp pe late idl idn))
  rw [← hw]
  obtain ⟨⟨st2, asl2, nT2, tdue2, tlat2, twk2, nE2, edue2, ewk2, slp2, sp2, pe2, srv2⟩, hg⟩ : ∃ g, g = sgF pw co la rule dp st1 asl now nT tdue tlat twk nE edue ewk slp sp1 pe1 srv idl1 idn1 := ⟨_, rfl⟩
  have g1 := sg_r hpw hco hdp (by omega) i2 i4 i5 i6 i7 i8 i9 i10 hg
  show tiT (K + 1) (tkD pw la hv now tin av bd sh (st1, sp1, pe1, late1, idl1, idn1) (sgF pw co la rule dp st1 asl now nT tdue tlat twk nE edue ewk slp sp1 pe1 srv idl1 idn1))
  rw [← hg]
  obtain ⟨r1, r2, r3, r4, r5, r6, r7, r8, r9, r10, r11⟩ := g1
  have p1 := po_r (la := la) (nx := nxZ tlat2 nT2) (now := now) hpw r1
  have a1 := av_r av (hv (now / 60 % 24)) (pe2 + poZ pw la st2 (nxZ tlat2 nT2) now)
  have f1 := fl_r a1 i13
  refine ⟨r1, ⟨r2.1, by show asl2 ≤ now + 1; omega⟩, ⟨by show 0 ≤ now + 1; omega, by show now + 1 ≤ K + 1; omega⟩, r3, r4, r5, r6, r7, r8, r9, ⟨Int.le_refl 0, by show (0 : Int) ≤ 100000; omega, fun _ => rfl⟩, f1.1, f1.2, ?_, ?_, ⟨by show 0 ≤ idn1; omega, fun z => ?_, fun z => ?_⟩, w2⟩
  · intro k z1 z2
    show now + 1 ≤ tlat2 k ∧ tdue2 k ≤ tlat2 k
    rcases r11 with ⟨q1, q2, q3⟩ | ⟨q1, q2, q3, q4, q5, q6, q7⟩
    · have := q2 (fun a b => a ≤ b) (fun j y1 y2 => (i14 j y1 y2).2) k z1 z2
      omega
    · have z3 : k < nT2 := z2
      subst q5 q4 q3
      have h1 := i14 k z1 z3
      have h2 := (nx_le (lat := tlat2) (n := nT2) (b := now) i4.1).mpr ⟨by omega, fun j y1 y2 => (i14 j y1 y2).1⟩
      have h3 := ((nx_le (lat := tlat2) (n := nT2) (b := now + 1) i4.1).mp (by omega)).2 k z1 z3
      exact ⟨h3, h1.2⟩
  · intro k z1 z2
    show now + 1 ≤ edue2 k
    rcases r11 with ⟨q1, q2, q3⟩ | ⟨q1, q2, q3, q4, q5, q6, q7⟩
    · have := q3 k z1 z2
      omega
    · have z3 : k < nE2 := z2
      subst q7 q6
      have := ad_n (due := edue2) (t := now) (n := nE2) (by omega) k z1 z3
      omega
  · show idn1 ≤ now + 1
    omega
  · show idn1 + 1 ≤ now + 1
    omega
