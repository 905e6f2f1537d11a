theorem foZ_m {α : Type} (g : Int → α → α) (a : α) (m : Nat) : foZ g a ((m + 1 : Nat) : Int) = g (m : Int) (foZ g a (m : Int)) := by
  rw [show ((m + 1 : Nat) : Int) = (m : Int) + 1 by omega]
  exact foZ_s g a (by omega)
/-- the next known wakeup; 1000000000 if there is none -/
def nxF (lat : Int → Int) : Int → Int → Int := fun k x => if lat k < x then lat k else x
def nxZ (lat : Int → Int) (n : Int) : Int := foZ (nxF lat) 1000000000 n
def twZ (nx now : Int) : Int := if nx = 1000000000 then 1000000000 else nx - now
theorem nx_r {lat : Int → Int} {n : Int} (hl : rgZ lat 12 1000000) (h : 0 ≤ n ∧ n ≤ 12) : 0 ≤ nxZ lat n ∧ nxZ lat n ≤ 1000000000 ∧ (nxZ lat n ≤ 1000000 ∨ nxZ lat n = 1000000000) := by
  refine foZ_ib (N := 12) (fun _ x => 0 ≤ x ∧ x ≤ 1000000000 ∧ (x ≤ 1000000 ∨ x = 1000000000)) (by omega) (fun k x h1 h2 h3 => ?_) h.1 h.2
  have := hl k h1 h2
  unfold nxF
  split <;> omega
theorem nx_ll {due lat : Int → Int} {n : Int} (hd : rgZ due 12 1000000) (hl : rgZ lat 12 1000000) (h : 0 ≤ n ∧ n ≤ 12) :
    (llZ due lat (-1) 1000000000 n = -1 ∧ nxZ lat n = 1000000000) ∨ (0 ≤ llZ due lat (-1) 1000000000 n ∧ llZ due lat (-1) 1000000000 n ≤ 1000000 ∧ nxZ lat n = llZ due lat (-1) 1000000000 n) := by
  have key : ∀ m : Nat, (m : Int) ≤ 12 → (llZ due lat (-1) 1000000000 m = -1 ∧ nxZ lat m = 1000000000) ∨ (0 ≤ llZ due lat (-1) 1000000000 m ∧ llZ due lat (-1) 1000000000 m ≤ 1000000 ∧ nxZ lat m = llZ due lat (-1) 1000000000 m) := by
    intro m
    induction m with
    | zero => intro _; exact Or.inl ⟨rfl, rfl⟩
    | succ m ih =>
      intro hm
      have h1 := ih (by omega)
      have h2 := hd m (by omega) (by omega)
      have h3 := hl m (by omega) (by omega)
      have e1 : llZ due lat (-1) 1000000000 ((m + 1 : Nat) : Int) = llF due lat (-1) 1000000000 m (llZ due lat (-1) 1000000000 m) := foZ_m _ _ _
      have e2 : nxZ lat ((m + 1 : Nat) : Int) = nxF lat m (nxZ lat m) := foZ_m _ _ _
      rw [e1, e2]
      unfold llF nxF
      split <;> split <;> omega
  have := key n.toNat (by omega)
  rw [Int.toNat_of_nonneg h.1] at this
  exact this
/-- idle times as the reference keeps them, in a ring -/
def idR (len : Int → Int) (cnt : Int) (idl : Int → Int) (idn : Int) : Prop := 0 ≤ idn ∧ cnt = min idn 4 ∧ rgZ len 4 1000000 ∧ rgZ idl 4 1000000 ∧ ∀ j : Int, 0 ≤ j → j < cnt → len j = idl ((idn - 1 - j) % 4)
theorem re_0 (len : Int → Int) (x : Int) : reZ len x 0 = x := uZ_s _ _ _
theorem re_s (len : Int → Int) (x : Int) {j : Int} (h : 0 ≤ j ∧ j < 3) : reZ len x (j + 1) = len j := by
  have h3 : j = 0 ∨ j = 1 ∨ j = 2 := by omega
  rcases h3 with rfl | rfl | rfl <;> simp [reZ, uZ]
theorem re_r {len : Int → Int} {x M : Int} (h : rgZ len 4 M) (hx : 0 ≤ x ∧ x ≤ M) : rgZ (reZ len x) 4 M := fun k h1 h2 => by
  rcases Int.lt_or_le 0 k with h3 | h3
  · have e := re_s len x (j := k - 1) (by omega)
    rw [show k - 1 + 1 = k by omega] at e
    rw [e]
    exact h (k - 1) (by omega) (by omega)
  · rw [show k = 0 by omega, re_0]
    exact hx
theorem idR_s {len idl : Int → Int} {cnt idn x : Int} (h : idR len cnt idl idn) (hx : 0 ≤ x ∧ x ≤ 1000000) : idR (reZ len x) (min (cnt + 1) 4) (uZ idl (idn % 4) x) (idn + 1) := by
  obtain ⟨h1, h2, h3, h4, h5⟩ := h
  refine ⟨by omega, by omega, re_r h3 hx, rgZ_u h4 hx, fun j q1 q2 => ?_⟩
  rcases Int.lt_or_le 0 j with q3 | q3
  · have e := re_s len x (j := j - 1) (by omega)
    rw [show j - 1 + 1 = j by omega] at e
    rw [e, h5 (j - 1) (by omega) (by omega), uZ_n _ _ (by omega)]
    congr 1
    omega
  · obtain rfl : j = 0 := by omega
    rw [re_0, show (idn + 1 - 1 - 0) % 4 = idn % 4 by omega, uZ_s]
def meM (idl : Int → Int) (idn : Int) : Int := meZ idl (min idn 4)
theorem su_1 (f : Int → Int) : suZ f 1 = f 0 := by show 0 + f 0 = f 0; omega
theorem su_2 (f : Int → Int) : suZ f 2 = f 0 + f 1 := by show 0 + f 0 + f 1 = _; omega
theorem su_3 (f : Int → Int) : suZ f 3 = f 0 + f 1 + f 2 := by show 0 + f 0 + f 1 + f 2 = _; omega
theorem su_4 (f : Int → Int) : suZ f 4 = f 0 + f 1 + f 2 + f 3 := by show 0 + f 0 + f 1 + f 2 + f 3 = _; omega
theorem me_eq {len idl : Int → Int} {cnt idn : Int} (h : idR len cnt idl idn) : meZ len cnt = meM idl idn := by
  obtain ⟨h1, h2, h3, h4, h5⟩ := h
  unfold meM
  rw [← h2]
  unfold meZ
  have e : suZ len cnt = suZ idl cnt := by
    have hc : cnt = 0 ∨ cnt = 1 ∨ cnt = 2 ∨ cnt = 3 ∨ cnt = 4 := by omega
    rcases hc with rfl | rfl | rfl | rfl | rfl
    · rfl
    · have a0 := h5 0 (by omega) (by omega)
      rw [su_1, su_1, a0, show (idn - 1 - 0) % 4 = 0 by omega]
    · have a0 := h5 0 (by omega) (by omega)
      have a1 := h5 1 (by omega) (by omega)
      rw [show (idn - 1 - 0) % 4 = 1 by omega] at a0
      rw [show (idn - 1 - 1) % 4 = 0 by omega] at a1
      rw [su_2, su_2, a0, a1]
      omega
    · have a0 := h5 0 (by omega) (by omega)
      have a1 := h5 1 (by omega) (by omega)
      have a2 := h5 2 (by omega) (by omega)
      rw [show (idn - 1 - 0) % 4 = 2 by omega] at a0
      rw [show (idn - 1 - 1) % 4 = 1 by omega] at a1
      rw [show (idn - 1 - 2) % 4 = 0 by omega] at a2
      rw [su_3, su_3, a0, a1, a2]
      omega
    · have a0 := h5 0 (by omega) (by omega)
      have a1 := h5 1 (by omega) (by omega)
      have a2 := h5 2 (by omega) (by omega)
      have a3 := h5 3 (by omega) (by omega)
      have hm : idn % 4 = 0 ∨ idn % 4 = 1 ∨ idn % 4 = 2 ∨ idn % 4 = 3 := by omega
      rcases hm with hm | hm | hm | hm
      · rw [show (idn - 1 - 0) % 4 = 3 by omega] at a0
        rw [show (idn - 1 - 1) % 4 = 2 by omega] at a1
        rw [show (idn - 1 - 2) % 4 = 1 by omega] at a2
        rw [show (idn - 1 - 3) % 4 = 0 by omega] at a3
        rw [su_4, su_4, a0, a1, a2, a3]
        omega
      · rw [show (idn - 1 - 0) % 4 = 0 by omega] at a0
        rw [show (idn - 1 - 1) % 4 = 3 by omega] at a1
        rw [show (idn - 1 - 2) % 4 = 2 by omega] at a2
        rw [show (idn - 1 - 3) % 4 = 1 by omega] at a3
        rw [su_4, su_4, a0, a1, a2, a3]
        omega
      · rw [show (idn - 1 - 0) % 4 = 1 by omega] at a0
        rw [show (idn - 1 - 1) % 4 = 0 by omega] at a1
        rw [show (idn - 1 - 2) % 4 = 3 by omega] at a2
        rw [show (idn - 1 - 3) % 4 = 2 by omega] at a3
        rw [su_4, su_4, a0, a1, a2, a3]
        omega
      · rw [show (idn - 1 - 0) % 4 = 2 by omega] at a0
        rw [show (idn - 1 - 1) % 4 = 1 by omega] at a1
        rw [show (idn - 1 - 2) % 4 = 0 by omega] at a2
        rw [show (idn - 1 - 3) % 4 = 3 by omega] at a3
        rw [su_4, su_4, a0, a1, a2, a3]
        omega
  rw [e]
/-- waking, in a tick -/
abbrev T6 : Type := Int × Int × Int × Int × (Int → Int) × Int
def wkF (pw la : Int → Int) (nx ev st asl now sp pe late : Int) (idl : Int → Int) (idn : Int) : T6 :=
  if nx = now then (0, sp, pe, late, uZ idl (idn % 4) (now - asl), idn + 1)
  else if ev = 1 then (0, sp + pw 0 * la st, pe + pw 0 * la st, late + la st, uZ idl (idn % 4) (now - asl), idn + 1)
  else (st, sp, pe, late, idl, idn)
/-- waking, by a call -/
abbrev T5 : Type := Int × Int × Int × (Int → Int) × Int
def scF (pw la : Int → Int) (st asl now sp pe : Int) (idl : Int → Int) (idn : Int) : T5 :=
  if st = 0 then (st, sp, pe, idl, idn) else (0, sp + pw 0 * la st, pe + pw 0 * la st, uZ idl (idn % 4) (now - asl), idn + 1)
/-- events without their latest ticks -/
abbrev teT : Type := Int × Int × (Int → Int) × (Int → Int)
def teF (t : Int) : Int → teT → teT := fun j s => if s.2.2.1 j ≤ t then (s.1 + s.2.2.2 j, s.2) else (s.1, s.2.1 + 1, uZ s.2.2.1 s.2.1 (s.2.2.1 j), uZ s.2.2.2 s.2.1 (s.2.2.2 j))
def teZ (t : Int) (due wk : Int → Int) (n : Int) : teT := foZ (teF t) (0, 0, due, wk) n
theorem te_td (t : Int) (due lat wk : Int → Int) {n : Int} (h : 0 ≤ n) : teZ t due wk n = ((tdZ t due lat wk n).1, (tdZ t due lat wk n).2.1, (tdZ t due lat wk n).2.2.1, (tdZ t due lat wk n).2.2.2.2) := by
  have key : ∀ m : Nat, teZ t due wk m = ((tdZ t due lat wk m).1, (tdZ t due lat wk m).2.1, (tdZ t due lat wk m).2.2.1, (tdZ t due lat wk m).2.2.2.2) := by
    intro m
    induction m with
    | zero => rfl
    | succ m ih =>
      have e1 : teZ t due wk ((m + 1 : Nat) : Int) = teF t m (teZ t due wk m) := foZ_m _ _ _
      have e2 : tdZ t due lat wk ((m + 1 : Nat) : Int) = tdF t m (tdZ t due lat wk m) := foZ_m _ _ _
      rw [e1, e2, ih]
      unfold teF tdF
      split <;> rfl
  have := key n.toNat
  rw [Int.toNat_of_nonneg h] at this
  exact this
/-- falling asleep -/
abbrev T5i : Type := Int × Int × Int × Int × Int
def faF (co : Int → Int) (ch now st asl slp sp pe : Int) : T5i := if ch = 0 then (st, asl, slp, sp, pe) else (ch, now, slp + 1, sp + co ch, pe + co ch)
/-- the power of a tick -/
def poZ (pw la : Int → Int) (st nx now : Int) : Int := if st > 0 ∧ nx - now > la st then pw st else pw 0
/-- the governor -/
abbrev okR (pw co la : Int → Int) (rule k mn : Int) : Int → Prop := fun s => evA pw co la s ≠ -1 ∧ evA pw co la s ≤ k ∧ (rule = 1 ∨ evA pw co la s ≤ mn)
def chZ (pw co la : Int → Int) (rule dp k mn : Int) : Int := if rule = 0 then dpZ (okW la k) dp else dpZ (okR pw co la rule k mn) dp
theorem dp_c {ok ok' : Int → Prop} [DecidablePred ok] [DecidablePred ok'] {d : Int} (h : ∀ s : Int, 0 < s → s ≤ d → (ok s ↔ ok' s)) : dpZ ok d = dpZ ok' d := by
  refine foZ_c (fun j x h1 h2 => ?_)
  have := h (j + 1) (by omega) (by omega)
  unfold dpF
  by_cases q : ok (j + 1)
  · rw [if_pos q, if_pos (this.mp q)]
  · rw [if_neg q, if_neg (fun z => q (this.mpr z))]
theorem ch_r {pw co la : Int → Int} {rule dp k mn : Int} (h : 0 ≤ dp ∧ dp ≤ 3) : 0 ≤ chZ pw co la rule dp k mn ∧ chZ pw co la rule dp k mn ≤ 3 := by
  unfold chZ
  split
  · have := dp_r (okW la k) (k := dp) h.1
    omega
  · have := dp_r (okR pw co la rule k mn) (k := dp) h.1
    omega
/-- the depth -/
def mvF (vo : Int → Int) : Int → Int → Int := fun j x => if vo j < x then vo j else x
def mdF (r dee : Int → Int) : Int → Int → Int := fun j x => if r (j + 1) ≠ 0 ∧ dee (j + 1) < x then dee (j + 1) else x
def mrZ (par use : Int → Int) (nC : Int) : Int → Int := rnZ par (nC - 1) (r0Z use 8 (fun _ => 0))
def dzM (vo par dee use : Int → Int) (nC : Int) : Int := foZ (mdF (mrZ par use nC) dee) (foZ (mvF vo) 3 6) (nC - 1)
def cvF (vo : Int → Int) : Int → Int → Int := fun j x => min x (vo j)
def dzC (vo r cdee : Int → Int) (nC : Int) : Int := foZ (cvF vo) (ldZ r cdee nC) 6
theorem fo_glb {g : Int → Int → Int} {a : Int} (C : Int → Int → Prop) (hg : ∀ (j x b : Int), b ≤ g j x ↔ b ≤ x ∧ C j b) {n : Int} (hn : 0 ≤ n) (b : Int) : b ≤ foZ g a n ↔ b ≤ a ∧ ∀ j : Int, 0 ≤ j → j < n → C j b := by
  refine foZ_i (fun n x => b ≤ x ↔ b ≤ a ∧ ∀ j : Int, 0 ≤ j → j < n → C j b) ⟨fun h => ⟨h, fun j h1 h2 => absurd h2 (by omega)⟩, fun h => h.1⟩ (fun k x h1 h2 => ?_) hn
  rw [hg, h2]
  constructor
  · rintro ⟨⟨q1, q2⟩, q3⟩
    exact ⟨q1, fun j z1 z2 => by rcases Int.lt_or_le j k with z | z; exact q2 j z1 z; (obtain rfl : j = k := by omega); exact q3⟩
  · rintro ⟨q1, q2⟩
    exact ⟨⟨q1, fun j z1 z2 => q2 j z1 (by omega)⟩, q2 k h1 (by omega)⟩
theorem dzM_glb {vo par dee use : Int → Int} {nC : Int} (h : 1 ≤ nC) (b : Int) : b ≤ dzM vo par dee use nC ↔ (b ≤ 3 ∧ ∀ j : Int, 0 ≤ j → j < 6 → b ≤ vo j) ∧ ∀ j : Int, 0 ≤ j → j < nC - 1 → (mrZ par use nC (j + 1) ≠ 0 → b ≤ dee (j + 1)) := by
  unfold dzM
  rw [fo_glb (fun j b => mrZ par use nC (j + 1) ≠ 0 → b ≤ dee (j + 1)) (fun j x b => by
    unfold mdF
    by_cases q : mrZ par use nC (j + 1) ≠ 0
    · by_cases q2 : dee (j + 1) < x
      · rw [if_pos ⟨q, q2⟩]
        exact ⟨fun z => ⟨by omega, fun _ => z⟩, fun z => z.2 q⟩
      · rw [if_neg (fun z => q2 z.2)]
        exact ⟨fun z => ⟨z, fun _ => by omega⟩, fun z => z.1⟩
    · rw [if_neg (fun z => q z.1)]
      exact ⟨fun z => ⟨z, fun w => absurd w q⟩, fun z => z.1⟩) (by omega) b,
    fo_glb (fun j b => b ≤ vo j) (fun j x b => by unfold mvF; split <;> omega) (by omega) b]
theorem dzC_glb {vo r cdee : Int → Int} {nC : Int} (h : 1 ≤ nC) (b : Int) : b ≤ dzC vo r cdee nC ↔ (b ≤ 3 ∧ ∀ j : Int, 0 ≤ j → j < nC → (r j ≠ 0 → b ≤ cdee j)) ∧ ∀ j : Int, 0 ≤ j → j < 6 → b ≤ vo j := by
  unfold dzC ldZ
  rw [fo_glb (fun j b => b ≤ vo j) (fun j x b => by unfold cvF; omega) (by omega) b,
    fo_glb (fun j b => r j ≠ 0 → b ≤ cdee j) (fun j x b => by
      unfold ldF
      by_cases q : r j ≠ 0
      · rw [if_pos q]
        exact ⟨fun z => ⟨by omega, fun _ => by omega⟩, fun z => by have := z.2 q; have := z.1; omega⟩
      · rw [if_neg q]
        exact ⟨fun z => ⟨z, fun w => absurd w q⟩, fun z => z.1⟩) (by omega) b]
/-- running clocks: only the clocks that there are count -/
theorem rn_c {par par' : Int → Int} {N : Int} (hp : ∀ c : Int, 1 ≤ c → c < N → 0 ≤ par c ∧ par c < c) (hpp : ∀ c : Int, 1 ≤ c → c < N → par' c = par c) :
    ∀ (n : Nat) (r r' : Int → Int), (n : Int) < N → (∀ c : Int, 0 ≤ c → c < N → r c = r' c) → ∀ c : Int, 0 ≤ c → c < N → fd (rnF par) n r c = fd (rnF par') n r' c := by
  intro n
  induction n with
  | zero => intro r r' _ h c h1 h2; exact h c h1 h2
  | succ n ih =>
    intro r r' hn h c h1 h2
    refine ih _ _ (by omega) (fun c q1 q2 => ?_) c h1 h2
    have e := h ((n : Int) + 1) (by omega) (by omega)
    have e2 := hpp ((n : Int) + 1) (by omega) (by omega)
    unfold rnF
    rw [e]
    split
    · rw [e2]
      unfold uZ
      split
      · rfl
      · exact h c q1 q2
    · exact h c q1 q2
theorem rn_eq {par cpar use run mrun : Int → Int} {nC m : Int} (hC : 1 ≤ nC ∧ nC ≤ m) (hp : ∀ c : Int, 1 ≤ c → c < nC → 0 ≤ cpar c ∧ cpar c < c) (hpp : ∀ c : Int, 1 ≤ c → c < nC → par c = cpar c) {c : Int} (h : 0 ≤ c ∧ c < nC) :
    rnZ cpar (nC - 1) (r0Z use nC run) c = rnZ par (nC - 1) (r0Z use m mrun) c := by
  refine rn_c hp hpp (nC - 1).toNat _ _ (by omega) (fun c h1 h2 => ?_) c h.1 h.2
  unfold r0Z
  rw [if_pos (by omega), if_pos (by omega)]
theorem dz_cm {vo par dee use cpar cdee run : Int → Int} {nC : Int} (hC : 1 ≤ nC ∧ nC ≤ 8) (hp : ∀ c : Int, 1 ≤ c → c < nC → 0 ≤ cpar c ∧ cpar c < c) (hpp : ∀ c : Int, 1 ≤ c → c < nC → par c = cpar c) (hdd : ∀ c : Int, 1 ≤ c → c < nC → dee c = cdee c) (hd0 : cdee 0 = 3) :
    dzC vo (rnZ cpar (nC - 1) (r0Z use nC run)) cdee nC = dzM vo par dee use nC := by
  have key : ∀ b : Int, b ≤ dzC vo (rnZ cpar (nC - 1) (r0Z use nC run)) cdee nC ↔ b ≤ dzM vo par dee use nC := by
    intro b
    rw [dzC_glb hC.1, dzM_glb hC.1]
    constructor
    · rintro ⟨⟨q1, q2⟩, q3⟩
      refine ⟨⟨q1, q3⟩, fun j z1 z2 z3 => ?_⟩
      rw [hdd (j + 1) (by omega) (by omega)]
      refine q2 (j + 1) (by omega) (by omega) ?_
      rw [rn_eq hC hp hpp (by omega)]
      exact z3
    · rintro ⟨⟨q1, q2⟩, q3⟩
      refine ⟨⟨q1, fun j z1 z2 z3 => ?_⟩, q2⟩
      rcases Int.lt_or_le 0 j with z4 | z4
      · rw [← hdd j (by omega) (by omega)]
        have := q3 (j - 1) (by omega) (by omega)
        rw [show j - 1 + 1 = j by omega] at this
        refine this ?_
        show rnZ par (nC - 1) (r0Z use 8 (fun _ => 0)) j ≠ 0
        rw [← rn_eq (run := run) hC hp hpp (by omega)]
        exact z3
      · rw [show j = 0 by omega, hd0]
        exact q1
  have h1 := (key _).mp (Int.le_refl _)
  have h2 := (key _).mpr (Int.le_refl _)
  omega
theorem dzC_r {vo r cdee : Int → Int} {nC : Int} (hv : rgZ vo 6 3) (hd : rgZ cdee 8 3) (h : 1 ≤ nC ∧ nC ≤ 8) {k : Int} (hk : 0 ≤ k ∧ k ≤ 6) : 0 ≤ foZ (cvF vo) (ldZ r cdee nC) k ∧ foZ (cvF vo) (ldZ r cdee nC) k ≤ 3 := by
  have h0 := ld_r (r := r) hd (n := nC) (by omega)
  refine foZ_ib (N := 6) (fun _ x => 0 ≤ x ∧ x ≤ 3) h0 (fun k x h1 h2 h3 => ?_) hk.1 hk.2
  have := hv k h1 h2
  unfold cvF
  omega
theorem dzM_r {vo par dee use : Int → Int} {nC : Int} (hv : rgZ vo 6 3) (hd : rgZ dee 8 3) (h : 1 ≤ nC ∧ nC ≤ 8) : 0 ≤ dzM vo par dee use nC ∧ dzM vo par dee use nC ≤ 3 := by
  have h1 : (0 : Int) ≤ dzM vo par dee use nC := (dzM_glb h.1 0).mpr ⟨⟨by omega, fun j z1 z2 => (hv j z1 z2).1⟩, fun j z1 z2 _ => (hd (j + 1) (by omega) (by omega)).1⟩
  have h2 := ((dzM_glb (vo := vo) (par := par) (dee := dee) (use := use) h.1 _).mp (Int.le_refl _)).1.1
  exact ⟨h1, h2⟩
