/-! class and reference: the plans are the same -/
theorem ic_mc {pw co la : Int → Int} (hc : co 0 = 0) (hl : la 0 = 0) (s n : Int) : icZ pw co la s n = mcZ pw co la s n := by
  unfold mcZ
  split
  · rename_i h
    subst h
    unfold icZ
    rw [hc, hl, Int.mul_zero, Int.sub_zero, Int.zero_add, Int.add_zero, Int.mul_comm]
  · rfl
theorem pc_mp {pw co la : Int → Int} (hc : co 0 = 0) (hl : la 0 = 0) (d : Int) : pcZ pw co la d = mpZ pw co la d := by
  funext n
  exact ic_mc hc hl _ _
theorem li_lm {pw co la : Int → Int} (hc : co 0 = 0) (hl : la 0 = 0) (n d : Int) : liZ pw co la n d = lmZ pw co la n d := by
  unfold liZ lmZ
  rw [fdZ_fo (fun i j x => by unfold liF; split <;> split <;> omega), ic_mc hc hl]
  refine foZ_c (fun j x h1 h2 => ?_)
  unfold liF lmF
  rw [ic_mc hc hl]
  split
  · split <;> omega
  · rfl
theorem fo_lub {g : Int → Int → Int} {a : Int} (C : Int → Int → Prop) (hg : ∀ (j x b : Int), g j x ≤ b ↔ x ≤ b ∧ C j b) {n : Int} (hn : 0 ≤ n) (b : Int) : foZ g a n ≤ b ↔ a ≤ b ∧ ∀ j : Int, 0 ≤ j → j < n → C j b := by
  refine foZ_i (fun n x => x ≤ b ↔ a ≤ b ∧ ∀ j : Int, 0 ≤ j → j < n → C j b) ⟨fun h => ⟨h, fun j h1 h2 => absurd h2 (by omega)⟩, fun h => h.1⟩ (fun k x h1 h2 => ?_) hn
  rw [hg, h2]
  constructor
  · rintro ⟨⟨q1, q2⟩, q3⟩
    exact ⟨q1, fun j z1 z2 => by rcases Int.lt_or_le j k with z | z; exact q2 j z1 z; (obtain rfl : j = k := by omega); exact q3⟩
  · rintro ⟨q1, q2⟩
    exact ⟨⟨q1, fun j z1 z2 => q2 j z1 (by omega)⟩, q2 k h1 (by omega)⟩
theorem np_le {due lat : Int → Int} {last un n : Int} (hn : 0 ≤ n) (b : Int) : b ≤ npZ due lat last un n ↔ b ≤ un ∧ ∀ j : Int, 0 ≤ j → j < n → (due j > last → b ≤ lat j) := by
  unfold npZ
  refine fo_glb (fun j b => due j > last → b ≤ lat j) (fun j x b => ?_) hn b
  unfold npF
  by_cases h1 : due j > last
  · by_cases h2 : lat j < x
    · rw [if_pos ⟨h1, h2⟩]
      exact ⟨fun h => ⟨by omega, fun _ => h⟩, fun h => h.2 h1⟩
    · rw [if_neg (fun h => h2 h.2)]
      exact ⟨fun h => ⟨h, fun _ => by omega⟩, fun h => h.1⟩
  · rw [if_neg (fun h => h1 h.1)]
    exact ⟨fun h => ⟨h, fun h2 => absurd h2 h1⟩, fun h => h.1⟩
theorem gd_le {due lat : Int → Int} {tick n : Int} (hn : 0 ≤ n) (b : Int) : gdZ due lat tick n ≤ b ↔ -1 ≤ b ∧ ∀ j : Int, 0 ≤ j → j < n → (lat j < tick → due j ≤ b) := by
  unfold gdZ
  refine fo_lub (fun j b => lat j < tick → due j ≤ b) (fun j x b => ?_) hn b
  unfold gdF
  by_cases h1 : lat j < tick
  · rw [if_pos h1]
    exact ⟨fun h => ⟨by omega, fun _ => by omega⟩, fun h => by have := h.1; have := h.2 h1; omega⟩
  · rw [if_neg h1]
    exact ⟨fun h => ⟨h, fun h2 => absurd h2 h1⟩, fun h => h.1⟩
/-- the tick of the wakeup that lies f behind the start; none, if that is ahead of now -/
def lsP (now start f : Int) : Int := if start + f < now then -1 else start + f
/-- whether a wakeup may be followed by one that lies to behind the start: told from behind, and from ahead -/
theorem eb_np {due lat : Int → Int} {n now start f to un : Int} (hn : 0 ≤ n) (hd : ∀ j : Int, 0 ≤ j → j < n → 0 ≤ due j) (hs : now - 1 ≤ start ∧ start ≤ now) (hnow : 0 ≤ now) (hf : 0 ≤ f) (ht : start + to ≤ un) :
    max (ebZ due lat n now start (start + to)) 0 ≤ f ↔ start + to ≤ npZ due lat (lsP now start f) un n := by
  rw [np_le hn]
  have e1 := gd_le (due := due) (lat := lat) (tick := start + to) hn (lsP now start f)
  have e2 : max (ebZ due lat n now start (start + to)) 0 ≤ f ↔ gdZ due lat (start + to) n ≤ lsP now start f := by
    have h1 := (gd_le (due := due) (lat := lat) (tick := start + to) hn (gdZ due lat (start + to) n)).mp (Int.le_refl _)
    have h3 := h1.1
    unfold ebZ lsP
    by_cases q : gdZ due lat (start + to) n = -1
    · rw [if_pos q]
      split <;> omega
    · rw [if_neg q]
      split <;> omega
  rw [e2, e1]
  constructor
  · rintro ⟨h1, h2⟩
    refine ⟨ht, fun j z1 z2 z3 => ?_⟩
    rcases Int.lt_or_le (lat j) (start + to) with z | z
    · have := h2 j z1 z2 z
      omega
    · exact z
  · rintro ⟨h1, h2⟩
    refine ⟨by unfold lsP; split <;> omega, fun j z1 z2 z3 => ?_⟩
    rcases Int.lt_or_le (lsP now start f) (due j) with z | z
    · have := h2 j z1 z2 z
      omega
    · exact z
/-- the least of the sums -/
theorem ls_min {sc lt : Int → Int} {to m : Int} (hm : 0 ≤ m ∧ m < to) (hlt : ∀ f : Int, m ≤ f → f < to → lt f + sc (to - f) < 1000000000000) :
    (∃ f : Int, m ≤ f ∧ f < to ∧ lsZ sc lt to m = lt f + sc (to - f)) ∧ ∀ f : Int, m ≤ f → f < to → lsZ sc lt to m ≤ lt f + sc (to - f) := by
  have key := foZ_ib (g := lsF sc lt to m) (a := 1000000000000) (N := to - m) (fun k x => (∀ f : Int, m ≤ f → f < m + k → x ≤ lt f + sc (to - f)) ∧ (x = 1000000000000 ∨ ∃ f : Int, m ≤ f ∧ f < m + k ∧ x = lt f + sc (to - f)))
    ⟨fun f h1 h2 => absurd h2 (by omega), Or.inl rfl⟩ (fun k x h1 h2 h3 => ?_) (show 0 ≤ to - m by omega) (Int.le_refl _)
  · obtain ⟨k1, k2⟩ := key
    rw [show m + (to - m) = to by omega] at k1 k2
    refine ⟨?_, k1⟩
    rcases k2 with k2 | k2
    · have h1 := k1 m (Int.le_refl _) hm.2
      have h2 := hlt m (Int.le_refl _) hm.2
      rw [k2] at h1
      omega
    · exact k2
  · obtain ⟨q1, q2⟩ := h3
    unfold lsF
    split
    · rename_i h
      refine ⟨fun f z1 z2 => ?_, Or.inr ⟨m + k, by omega, by omega, rfl⟩⟩
      rcases Int.lt_or_le f (m + k) with z | z
      · have := q1 f z1 z
        omega
      · obtain rfl : f = m + k := by omega
        exact Int.le_refl _
    · rename_i h
      refine ⟨fun f z1 z2 => ?_, ?_⟩
      · rcases Int.lt_or_le f (m + k) with z | z
        · exact q1 f z1 z
        · obtain rfl : f = m + k := by omega
          omega
      · rcases q2 with q2 | ⟨f, z1, z2, z3⟩
        · exact Or.inl q2
        · exact Or.inr ⟨f, z1, by omega, z3⟩
/-- a table of least sums: what it says of each of its places -/
def dpT (sc ea T : Int → Int) (n : Int) : Prop := T 0 = 0 ∧ ∀ t : Int, 1 ≤ t → t ≤ n → (0 ≤ T t ∧ T t ≤ t * 1110000) ∧ (∃ f : Int, max (ea t) 0 ≤ f ∧ f < t ∧ T t = T f + sc (t - f)) ∧ ∀ f : Int, max (ea t) 0 ≤ f → f < t → T t ≤ T f + sc (t - f)
theorem lt_dp {sc ea lt : Int → Int} {n : Int} (hs : rgZ sc 402 1110000) (hn : 0 ≤ n ∧ n ≤ 401) (he : ∀ k : Int, 1 ≤ k → k ≤ n → ea k < k) : dpT sc ea (ltZ sc ea lt n) n := by
  refine foZ_ib (α := Int → Int) (N := n) (fun k T => dpT sc ea T k) ⟨uZ_s _ _ _, fun t h1 h2 => absurd h2 (by omega)⟩ (fun k T h1 h2 h3 => ?_) hn.1 (Int.le_refl _)
  obtain ⟨q0, q1⟩ := h3
  have q2 : ∀ f : Int, 0 ≤ f → f ≤ k → 0 ≤ T f ∧ T f ≤ f * 1110000 := fun f z1 z2 => by
    rcases Int.lt_or_le f 1 with z | z
    · obtain rfl : f = 0 := by omega
      rw [q0]
      omega
    · exact (q1 f z z2).1
  have e := he (k + 1) (by omega) (by omega)
  have hm := ls_min (sc := sc) (lt := T) (to := k + 1) (m := max (ea (k + 1)) 0) (by omega) (fun f z1 z2 => by
    have a1 := q2 f (by omega) (by omega)
    have a2 := hs (k + 1 - f) (by omega) (by omega)
    omega)
  obtain ⟨⟨f, m1, m2, m3⟩, m4⟩ := hm
  show dpT sc ea (uZ T (k + 1) (lsZ sc T (k + 1) (max (ea (k + 1)) 0))) (k + 1)
  refine ⟨by rw [uZ_n _ _ (by omega)]; exact q0, fun t z1 z2 => ?_⟩
  rcases Int.lt_or_le t (k + 1) with z | z
  · have h5 := q1 t z1 (by omega)
    rw [uZ_n _ _ (show t ≠ k + 1 by omega)]
    refine ⟨h5.1, ?_, fun f z3 z4 => ?_⟩
    · obtain ⟨f, z3, z4, z5⟩ := h5.2.1
      exact ⟨f, z3, z4, by rw [uZ_n _ _ (show f ≠ k + 1 by omega)]; exact z5⟩
    · rw [uZ_n _ _ (show f ≠ k + 1 by omega)]
      exact h5.2.2 f z3 z4
  · obtain rfl : t = k + 1 := by omega
    rw [uZ_s]
    refine ⟨?_, ⟨f, m1, m2, by rw [uZ_n _ _ (show f ≠ k + 1 by omega)]; exact m3⟩, fun f z3 z4 => ?_⟩
    · have a1 := q2 f (by omega) (by omega)
      have a2 := hs (k + 1 - f) (by omega) (by omega)
      have a3 := m4 k (by omega) (by omega)
      have a4 := q2 k (by omega) (by omega)
      have a5 := hs (k + 1 - k) (by omega) (by omega)
      rw [Int.add_mul]
      omega
    · rw [uZ_n _ _ (show f ≠ k + 1 by omega)]
      exact m4 f z3 z4
/-- the greedy way is the least -/
theorem sw_mono {due lat : Int → Int} {un n : Int} (hn : 0 ≤ n) : ∀ (F : Nat) (a b : Int), a ≤ b → swN due lat un n F b ≤ swN due lat un n F a := by
  intro F
  induction F with
  | zero => intro a b _; exact Int.le_refl _
  | succ F ih =>
    intro a b hab
    have h1 : npZ due lat a un n ≤ npZ due lat b un n := by
      rw [np_le hn]
      have h2 := (np_le (due := due) (lat := lat) (last := a) (un := un) hn (npZ due lat a un n)).mp (Int.le_refl _)
      exact ⟨h2.1, fun j z1 z2 z3 => h2.2 j z1 z2 (by omega)⟩
    have h3 := ih _ _ h1
    have h4 := sw_r (due := due) (lat := lat) (un := un) (n := n) F (npZ due lat a un n)
    unfold swN
    split
    · rw [if_pos (by omega)]
      omega
    · split <;> omega
theorem sw_fuel {due lat : Int → Int} {un n : Int} : ∀ (F : Nat) (a : Int), swN due lat un n F a ≤ swN due lat un n (F + 1) a := by
  intro F
  induction F with
  | zero => intro a; exact sw_r _ _
  | succ F ih =>
    intro a
    have h1 := ih (npZ due lat a un n)
    by_cases q : npZ due lat a un n < un
    · have e1 : swN due lat un n (F + 1) a = 1 + swN due lat un n F (npZ due lat a un n) := sw_y q (by omega)
      have e2 : swN due lat un n (F + 1 + 1) a = 1 + swN due lat un n (F + 1) (npZ due lat a un n) := sw_y q (by omega)
      omega
    · rw [sw_n q]
      exact sw_r _ _
theorem ls_inv {now start t : Int} (hs : now - 1 ≤ start ∧ start ≤ now) (h : now ≤ t) : lsP now start (t - start) = t := by
  unfold lsP
  rw [if_neg (by omega)]
  omega
theorem few_eq {sc lt due lat : Int → Int} {nT now un : Int} (hsc : rgZ sc 402 1110000) (hnT : 0 ≤ nT) (hd0 : ∀ j : Int, 0 ≤ j → j < nT → 0 ≤ due j) (hdl : ∀ j : Int, 0 ≤ j → j < nT → due j ≤ lat j) (hnl : ∀ j : Int, 0 ≤ j → j < nT → now ≤ lat j) (hnow : 0 ≤ now) (hun : now ≤ un ∧ un ≤ now + 400) :
    ltZ (scZ (fun _ => 1) sc 402) (fun to => ebZ due lat nT now (now - 1) (now - 1 + to)) lt (un - (now - 1)) (un - (now - 1)) - 1 = swN due lat un nT (un + 1).toNat (-1) := by
  have hsc9 : rgZ (scZ (fun _ => 1) sc 402) 402 1110000 := sc_r (fun j _ _ => by show (0 : Int) ≤ 1 ∧ (1 : Int) ≤ 1110000; omega) hsc (by omega) (Int.le_refl _)
  have hD := lt_dp (lt := lt) (ea := fun to => ebZ due lat nT now (now - 1) (now - 1 + to)) (n := un - (now - 1)) hsc9 (by omega) (fun k h1 h2 => eb_lt hnT hdl hnl h1)
  have hone : ∀ j : Int, 1 ≤ j → j ≤ 401 → scZ (fun _ => 1) sc 402 j = 1 := fun j h1 h2 => sc_at (by omega) j (by omega) (by omega)
  generalize ltZ (scZ (fun _ => 1) sc 402) (fun to => ebZ due lat nT now (now - 1) (now - 1 + to)) lt (un - (now - 1)) = T at hD ⊢
  generalize scZ (fun _ => 1) sc 402 = C at hD hone
  obtain ⟨d0, d1⟩ := hD
  have hE : ∀ f t : Int, 0 ≤ f → t ≤ un - (now - 1) → (max (ebZ due lat nT now (now - 1) (now - 1 + t)) 0 ≤ f ↔ now - 1 + t ≤ npZ due lat (lsP now (now - 1) f) un nT) := fun f t h1 h2 => eb_np hnT hd0 (by omega) hnow h1 (by omega)
  -- no more than the greedy way
  have hle : ∀ (F : Nat) (f : Int), 0 ≤ f → f < un - (now - 1) → un - lsP now (now - 1) f ≤ F → T (un - (now - 1)) ≤ T f + 1 + swN due lat un nT F (lsP now (now - 1) f) := by
    intro F
    induction F with
    | zero => intro f h1 h2 h3; exfalso; unfold lsP at h3; split at h3 <;> omega
    | succ F ih =>
      intro f h1 h2 h3
      have hl1 : lsP now (now - 1) f < un := by unfold lsP; split <;> omega
      have hg := np_gt (due := due) (lat := lat) (un := un) hnT hdl hl1
      have hq9 : (f = 0 ∧ lsP now (now - 1) f = -1) ∨ lsP now (now - 1) f = now - 1 + f := by
        unfold lsP
        split <;> omega
      by_cases q : npZ due lat (lsP now (now - 1) f) un nT < un
      · obtain ⟨k8, a1, a2, a3, a4⟩ := np_at hnT q
        have a5 := hnl k8 a1 a2
        have e1 := ls_inv (now := now) (start := now - 1) (t := npZ due lat (lsP now (now - 1) f) un nT) (by omega) (by omega)
        have hft : f < npZ due lat (lsP now (now - 1) f) un nT - (now - 1) := by rcases hq9 with h | h <;> omega
        have h5 := ih (npZ due lat (lsP now (now - 1) f) un nT - (now - 1)) (by omega) (by omega) (by rw [e1]; omega)
        rw [e1] at h5
        have h6 := (d1 (npZ due lat (lsP now (now - 1) f) un nT - (now - 1)) (by omega) (by omega)).2.2 f ((hE f _ h1 (by omega)).mpr (by omega)) hft
        rw [hone _ (by omega) (by omega)] at h6
        rw [sw_y q (by omega)]
        show _ ≤ T f + 1 + (1 + swN due lat un nT F _)
        omega
      · have h6 := (d1 (un - (now - 1)) (by omega) (Int.le_refl _)).2.2 f ((hE f _ h1 (Int.le_refl _)).mpr (by omega)) h2
        rw [hone _ (by omega) (by omega)] at h6
        rw [sw_n q]
        omega
  -- no less
  have hstep : ∀ (F : Nat) (f t : Int), now - 1 + t ≤ npZ due lat (lsP now (now - 1) f) un nT → 1 ≤ t → swN due lat un nT F (lsP now (now - 1) f) ≤ 1 + swN due lat un nT F (lsP now (now - 1) t) := by
    intro F f t h1 h2
    cases F with
    | zero => show (0 : Int) ≤ 1 + 0; omega
    | succ F =>
      have e1 : lsP now (now - 1) t = now - 1 + t := by unfold lsP; rw [if_neg (by omega)]
      have h3 := sw_mono (due := due) (lat := lat) (un := un) hnT F _ _ h1
      have h4 := sw_fuel (due := due) (lat := lat) (un := un) (n := nT) F (now - 1 + t)
      have h5 := sw_r (due := due) (lat := lat) (un := un) (n := nT) (F + 1) (now - 1 + t)
      rw [e1]
      by_cases q : npZ due lat (lsP now (now - 1) f) un nT < un
      · have e2 : swN due lat un nT (F + 1) (lsP now (now - 1) f) = 1 + swN due lat un nT F (npZ due lat (lsP now (now - 1) f) un nT) := sw_y q (by omega)
        omega
      · rw [sw_n q]
        omega
  have hge : ∀ (k : Nat) (t : Int), t ≤ k → 0 ≤ t → t < un - (now - 1) → swN due lat un nT (un + 1).toNat (-1) ≤ T t + swN due lat un nT (un + 1).toNat (lsP now (now - 1) t) := by
    intro k
    induction k with
    | zero =>
      intro t h1 h2 h3
      obtain rfl : t = 0 := by omega
      rw [d0, show lsP now (now - 1) 0 = -1 by unfold lsP; rw [if_pos (by omega)]]
      omega
    | succ k ih =>
      intro t h1 h2 h3
      rcases Int.lt_or_le t 1 with z | z
      · exact ih t (by omega) h2 h3
      · obtain ⟨f, m1, m2, m3⟩ := (d1 t z (by omega)).2.1
        have h5 := ih f (by omega) (by omega) (by omega)
        have h6 := hstep (un + 1).toNat f t ((hE f t (by omega) (by omega)).mp m1) z
        rw [hone _ (by omega) (by omega)] at m3
        omega
  have hA := hle (un + 1).toNat 0 (Int.le_refl _) (by omega) (by unfold lsP; rw [if_pos (by omega)]; omega)
  rw [d0, show lsP now (now - 1) 0 = -1 by unfold lsP; rw [if_pos (by omega)]] at hA
  obtain ⟨f, m1, m2, m3⟩ := (d1 (un - (now - 1)) (by omega) (Int.le_refl _)).2.1
  have hB := hge f.toNat f (by omega) (by omega) m2
  have hC := (hE f _ (by omega) (Int.le_refl _)).mp m1
  have hz : swN due lat un nT (un + 1).toNat (lsP now (now - 1) f) = 0 := sw_n (by omega)
  rw [hone _ (by omega) (by omega)] at m3
  omega
/-- forward and backward -/
theorem fi_at {B m : Int → Int} {f : Int} : ∀ {k : Int}, 0 ≤ k → ∀ t : Int, fiZ B f m k t = if f + 1 ≤ t ∧ t ≤ f + k then (if m t = -1 ∨ m f + B (t - f) < m t then m f + B (t - f) else m t) else m t := by
  intro k hk
  refine foZ_i (α := Int → Int) (fun k x => ∀ t : Int, x t = if f + 1 ≤ t ∧ t ≤ f + k then (if m t = -1 ∨ m f + B (t - f) < m t then m f + B (t - f) else m t) else m t) (fun t => by rw [if_neg (by omega)]) (fun k x h1 h2 t => ?_) hk
  show uZ x (f + 1 + k) _ t = _
  have e1 := h2 f
  rw [if_neg (by omega)] at e1
  by_cases q : t = f + 1 + k
  · subst q
    rw [uZ_s, e1, h2 (f + 1 + k), if_neg (show ¬ (f + 1 ≤ f + 1 + k ∧ f + 1 + k ≤ f + k) by omega), if_pos (show f + 1 ≤ f + 1 + k ∧ f + 1 + k ≤ f + (k + 1) by omega)]
  · rw [uZ_n _ _ q, h2 t]
    by_cases q2 : f + 1 ≤ t ∧ t ≤ f + k
    · rw [if_pos q2, if_pos (show f + 1 ≤ t ∧ t ≤ f + (k + 1) by omega)]
    · rw [if_neg q2, if_neg (show ¬ (f + 1 ≤ t ∧ t ≤ f + (k + 1)) by omega)]
theorem fw_dp {B C ls ea T m : Int → Int} {n : Int} (hn : 0 ≤ n) (hT : dpT C ea T n) (hB : ∀ j : Int, 0 ≤ j → j ≤ n → B j = C j) (hm0 : m 0 = 0) (hm : ∀ j : Int, 1 ≤ j → j ≤ n → m j = -1) (hls : ∀ f : Int, ls f ≤ n) (hE : ∀ f t : Int, 0 ≤ f → t ≤ n → (max (ea t) 0 ≤ f ↔ t ≤ ls f)) (hC : ∀ j : Int, 0 ≤ j → j ≤ n → 0 ≤ C j) : fwZ B ls m n n = T n := by
  obtain ⟨d0, d1⟩ := hT
  have dT : ∀ f : Int, 0 ≤ f → f ≤ n → 0 ≤ T f := fun f h1 h2 => by
    rcases Int.lt_or_le f 1 with z | z
    · obtain rfl : f = 0 := by omega
      rw [d0]; omega
    · exact (d1 f z h2).1.1
  -- what has been found when all starts below k are done
  have fin : ∀ (k : Int) (x : Int → Int), 0 ≤ k → k ≤ n → x 0 = 0 → (∀ t : Int, 1 ≤ t → t ≤ n → (x t = -1 ∧ ∀ f : Int, 0 ≤ f → f < k → f < t → ¬ t ≤ ls f) ∨ ((∃ f : Int, 0 ≤ f ∧ f < k ∧ f < t ∧ t ≤ ls f ∧ x t = T f + C (t - f)) ∧ ∀ f : Int, 0 ≤ f → f < k → f < t → t ≤ ls f → x t ≤ T f + C (t - f))) → x k = T k := by
    intro k x h1 h2 h3 h4
    rcases Int.lt_or_le k 1 with z | z
    · obtain rfl : k = 0 := by omega
      rw [h3, d0]
    · obtain ⟨-, ⟨f, m1, m2, m3⟩, m4⟩ := d1 k z h2
      have e1 := (hE f k (by omega) h2).mp m1
      rcases h4 k z h2 with ⟨-, q⟩ | ⟨⟨g, g1, g2, g3, g4, g5⟩, q⟩
      · exact absurd e1 (q f (by omega) m2 m2)
      · have a1 := q f (by omega) m2 m2 e1
        have a2 := m4 g ((hE g k g1 h2).mpr g4) g3
        omega
  have key := foZ_ib (α := Int → Int) (g := fwF B ls) (a := m) (N := n) (fun k x => x 0 = 0 ∧ ∀ t : Int, 1 ≤ t → t ≤ n → (x t = -1 ∧ ∀ f : Int, 0 ≤ f → f < k → f < t → ¬ t ≤ ls f) ∨ ((∃ f : Int, 0 ≤ f ∧ f < k ∧ f < t ∧ t ≤ ls f ∧ x t = T f + C (t - f)) ∧ ∀ f : Int, 0 ≤ f → f < k → f < t → t ≤ ls f → x t ≤ T f + C (t - f)))
    ⟨hm0, fun t h1 h2 => Or.inl ⟨hm t h1 h2, fun f q1 q2 => absurd q2 (by omega)⟩⟩ (fun k x h1 h2 h3 => ?_) hn (Int.le_refl _)
  · exact fin n _ hn (Int.le_refl _) key.1 key.2
  · obtain ⟨h3, h4⟩ := h3
    have ek := fin k x h1 (by omega) h3 h4
    have ek0 := dT k h1 (by omega)
    have hne : ¬ x k = -1 := by omega
    show fwF B ls k x 0 = 0 ∧ ∀ t : Int, 1 ≤ t → t ≤ n → (fwF B ls k x t = -1 ∧ _) ∨ ((∃ f : Int, 0 ≤ f ∧ f < k + 1 ∧ f < t ∧ t ≤ ls f ∧ fwF B ls k x t = T f + C (t - f)) ∧ ∀ f : Int, 0 ≤ f → f < k + 1 → f < t → t ≤ ls f → fwF B ls k x t ≤ T f + C (t - f))
    have ev : ∀ t : Int, fwF B ls k x t = if k + 1 ≤ t ∧ t ≤ ls k then (if x t = -1 ∨ T k + B (t - k) < x t then T k + B (t - k) else x t) else x t := by
      intro t
      unfold fwF
      rw [if_neg hne]
      rcases Int.lt_or_le (ls k) k with z | z
      · unfold fiZ
        rw [foZ_n _ _ (by omega), if_neg (by omega)]
      · rw [fi_at (show 0 ≤ ls k - k by omega), ek, show k + (ls k - k) = ls k by omega]
    refine ⟨by rw [ev, if_neg (by omega)]; exact h3, fun t z1 z2 => ?_⟩
    rw [ev]
    by_cases q : k + 1 ≤ t ∧ t ≤ ls k
    · rw [if_pos q, hB (t - k) (by omega) (by omega)]
      refine Or.inr ?_
      have hc := hC (t - k) (by omega) (by omega)
      rcases h4 t z1 z2 with ⟨p1, p2⟩ | ⟨⟨g, g1, g2, g3, g4, g5⟩, p2⟩
      · rw [if_pos (Or.inl p1)]
        refine ⟨⟨k, h1, by omega, by omega, q.2, rfl⟩, fun f y1 y2 y3 y4 => ?_⟩
        rcases Int.lt_or_le f k with y | y
        · exact absurd y4 (p2 f y1 y y3)
        · obtain rfl : f = k := by omega
          exact Int.le_refl _
      · have gg := dT g g1 (by omega)
        have gc := hC (t - g) (by omega) (by omega)
        by_cases r : T k + C (t - k) < x t
        · rw [if_pos (Or.inr r)]
          refine ⟨⟨k, h1, by omega, by omega, q.2, rfl⟩, fun f y1 y2 y3 y4 => ?_⟩
          rcases Int.lt_or_le f k with y | y
          · have := p2 f y1 y y3 y4
            omega
          · obtain rfl : f = k := by omega
            exact Int.le_refl _
        · rw [if_neg (by omega)]
          refine ⟨⟨g, g1, by omega, g3, g4, g5⟩, fun f y1 y2 y3 y4 => ?_⟩
          rcases Int.lt_or_le f k with y | y
          · exact p2 f y1 y y3 y4
          · obtain rfl : f = k := by omega
            omega
    · rw [if_neg q]
      rcases h4 t z1 z2 with ⟨p1, p2⟩ | ⟨⟨g, g1, g2, g3, g4, g5⟩, p2⟩
      · refine Or.inl ⟨p1, fun f y1 y2 y3 y4 => ?_⟩
        rcases Int.lt_or_le f k with y | y
        · exact p2 f y1 y y3 y4
        · obtain rfl : f = k := by omega
          exact q ⟨by omega, y4⟩
      · refine Or.inr ⟨⟨g, g1, by omega, g3, g4, g5⟩, fun f y1 y2 y3 y4 => ?_⟩
        rcases Int.lt_or_le f k with y | y
        · exact p2 f y1 y y3 y4
        · obtain rfl : f = k := by omega
          exact absurd ⟨by omega, y4⟩ q
theorem least_eq {pw co la sc lt mB mL due lat : Int → Int} {d nT now un : Int} (hpw : rgZ pw 4 1000) (hco : rgZ co 4 10000) (hla : rgZ la 4 100) (hc0 : co 0 = 0) (hl0 : la 0 = 0) (hd : 0 ≤ d ∧ d ≤ 3) (hsc : rgZ sc 402 1110000) (hnT : 0 ≤ nT) (hd0 : ∀ j : Int, 0 ≤ j → j < nT → 0 ≤ due j) (hdl : ∀ j : Int, 0 ≤ j → j < nT → due j ≤ lat j) (hnl : ∀ j : Int, 0 ≤ j → j < nT → now ≤ lat j) (hnow : 0 ≤ now) (hun : now ≤ un ∧ un ≤ now + 400) :
    ltZ (scZ (fun j => liZ pw co la j d) sc 402) (fun to => ebZ due lat nT now now (now + to)) lt (un - now) (un - now) = fwZ (scZ (fun n => lmZ pw co la n d) mB (un - now + 1)) (fun f => npZ due lat (now + f) un nT - now) (uZ (scZ (fun _ => -1) mL (un - now + 1)) 0 0) (un - now) (un - now) := by
  have hli : ∀ j : Int, 0 ≤ j → j < 402 → 0 ≤ liZ pw co la j d ∧ liZ pw co la j d ≤ 1110000 := fun j h1 h2 => liZ_r hpw hco hla hl0 hd (by omega)
  have hsc9 : rgZ (scZ (fun j => liZ pw co la j d) sc 402) 402 1110000 := sc_r hli hsc (by omega) (Int.le_refl _)
  have hD := lt_dp (lt := lt) (ea := fun to => ebZ due lat nT now now (now + to)) (n := un - now) hsc9 (by omega) (fun k h1 h2 => eb_lt hnT hdl hnl h1)
  refine (fw_dp (by omega) hD (fun j h1 h2 => ?_) (uZ_s _ _ _) (fun j h1 h2 => ?_) (fun f => ?_) (fun f t h1 h2 => ?_) (fun j h1 h2 => (hsc9 j h1 (by omega)).1)).symm
  · rw [sc_at (by omega) j h1 (by omega), sc_at (by omega) j h1 (by omega)]
    exact (li_lm hc0 hl0 j d).symm
  · rw [uZ_n _ _ (by omega), sc_at (by omega) j (by omega) (by omega)]
  · have h1 := (np_le (due := due) (lat := lat) (last := now + f) (un := un) hnT (npZ due lat (now + f) un nT)).mp (Int.le_refl _)
    have h2 := h1.1
    show npZ due lat (now + f) un nT - now ≤ un - now
    omega
  · have h3 := eb_np (due := due) (lat := lat) (n := nT) (now := now) (start := now) (f := f) (to := t) (un := un) hnT hd0 (by omega) hnow h1 (by omega)
    rw [show lsP now now f = now + f by unfold lsP; rw [if_neg (by omega)]] at h3
    show max (ebZ due lat nT now now (now + t)) 0 ≤ f ↔ t ≤ npZ due lat (now + f) un nT - now
    rw [h3]
    omega
