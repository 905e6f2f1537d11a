/-- class's next wakeup and the reference's -/
theorem ll_np {due lat : Int → Int} {w un n : Int} (hn : 0 ≤ n) (hl : ∀ k : Int, 0 ≤ k → k < n → 0 ≤ lat k) :
    (llZ due lat w un n = -1 ∧ npZ due lat w un n = un) ∨ (0 ≤ llZ due lat w un n ∧ llZ due lat w un n < un ∧ npZ due lat w un n = llZ due lat w un n) := by
  have key : ∀ m : Nat, (m : Int) ≤ n → (llZ due lat w un m = -1 ∧ npZ due lat w un m = un) ∨ (0 ≤ llZ due lat w un m ∧ llZ due lat w un m < un ∧ npZ due lat w un m = llZ due lat w un m) := by
    intro m
    induction m with
    | zero => intro _; exact Or.inl ⟨rfl, rfl⟩
    | succ m ih =>
      intro hm
      have h1 := ih (by omega)
      have h3 := hl m (by omega) (by omega)
      have e1 : llZ due lat w un ((m + 1 : Nat) : Int) = llF due lat w un m (llZ due lat w un m) := foZ_m _ _ _
      have e2 : npZ due lat w un ((m + 1 : Nat) : Int) = npF due lat w m (npZ due lat w un m) := foZ_m _ _ _
      rw [e1, e2]
      unfold llF npF
      split <;> split <;> omega
  have := key n.toNat (by omega)
  rw [Int.toNat_of_nonneg hn] at this
  exact this
/-- how many keep a property -/
def cnF (P : Int → Prop) [DecidablePred P] : Int → Int → Int := fun k x => if P k then x + 1 else x
def cnZ (P : Int → Prop) [DecidablePred P] (n : Int) : Int := foZ (cnF P) 0 n
theorem cn_r (P : Int → Prop) [DecidablePred P] {n : Int} (h : 0 ≤ n) : 0 ≤ cnZ P n ∧ cnZ P n ≤ n := by
  refine foZ_i (fun k x => 0 ≤ x ∧ x ≤ k) (by omega) (fun k x h1 h2 => ?_) h
  unfold cnF
  split <;> omega
theorem cn_lt {P P' : Int → Prop} [DecidablePred P] [DecidablePred P'] {n : Int} (hn : 0 ≤ n) (h : ∀ k, 0 ≤ k → k < n → P' k → P k) (he : ∃ k, 0 ≤ k ∧ k < n ∧ P k ∧ ¬ P' k) : cnZ P' n + 1 ≤ cnZ P n := by
  have key : ∀ m : Nat, (m : Int) ≤ n → cnZ P' m ≤ cnZ P m ∧ ((∃ k, 0 ≤ k ∧ k < (m : Int) ∧ P k ∧ ¬ P' k) → cnZ P' m + 1 ≤ cnZ P m) := by
    intro m
    induction m with
    | zero => intro _; exact ⟨Int.le_refl _, fun ⟨k, h1, h2, _⟩ => by omega⟩
    | succ m ih =>
      intro hm
      obtain ⟨i1, i2⟩ := ih (by omega)
      have e1 : cnZ P' ((m + 1 : Nat) : Int) = cnF P' m (cnZ P' m) := foZ_m _ _ _
      have e2 : cnZ P ((m + 1 : Nat) : Int) = cnF P m (cnZ P m) := foZ_m _ _ _
      have hh := h m (by omega) (by omega)
      rw [e1, e2]
      unfold cnF
      refine ⟨?_, fun ⟨k, h1, h2, h3, h4⟩ => ?_⟩
      · split
        · rw [if_pos (hh ‹_›)]; omega
        · split <;> omega
      · rcases Int.lt_or_le k m with h5 | h5
        · have i3 := i2 ⟨k, h1, h5, h3, h4⟩
          split
          · rw [if_pos (hh ‹_›)]; omega
          · split <;> omega
        · obtain rfl : k = (m : Int) := by omega
          rw [if_neg h4, if_pos h3]; omega
  have := key n.toNat (by omega)
  rw [Int.toNat_of_nonneg hn] at this
  exact this.2 he
theorem np_at {due lat : Int → Int} {last un n : Int} (hn : 0 ≤ n) (h : npZ due lat last un n < un) : ∃ k : Int, 0 ≤ k ∧ k < n ∧ due k > last ∧ lat k = npZ due lat last un n := by
  have : npZ due lat last un n = un ∨ ∃ k : Int, 0 ≤ k ∧ k < n ∧ due k > last ∧ lat k = npZ due lat last un n := by
    refine foZ_i (fun k x => x = un ∨ ∃ j : Int, 0 ≤ j ∧ j < k ∧ due j > last ∧ lat j = x) (Or.inl rfl) (fun k x h1 h2 => ?_) hn
    unfold npF
    split
    · exact Or.inr ⟨k, h1, by omega, by omega, rfl⟩
    · rcases h2 with h2 | ⟨j, h3, h4, h5, h6⟩
      · exact Or.inl h2
      · exact Or.inr ⟨j, h3, by omega, h5, h6⟩
  rcases this with h2 | h2
  · omega
  · exact h2
theorem sw_r {due lat : Int → Int} {un n : Int} : ∀ (f : Nat) (last : Int), 0 ≤ swN due lat un n f last := by
  intro f
  induction f with
  | zero => intro _; exact Int.le_refl _
  | succ f ih =>
    intro last
    have := ih (npZ due lat last un n)
    unfold swN
    split <;> omega
/-- a wakeup serves a timer that no wakeup before it served -/
theorem cn_np {due lat : Int → Int} {un n last : Int} (hn : 0 ≤ n) (hd : ∀ k : Int, 0 ≤ k → k < n → due k ≤ lat k) (h : npZ due lat last un n < un) :
    cnZ (fun k => due k > npZ due lat last un n) n + 1 ≤ cnZ (fun k => due k > last) n := by
  obtain ⟨k, h1, h2, h3, h4⟩ := np_at hn h
  have h5 := hd k h1 h2
  exact cn_lt hn (fun j _ _ hj => by have hj' : due j > npZ due lat last un n := hj; show due j > last; omega) ⟨k, h1, h2, h3, by show ¬ due k > npZ due lat last un n; omega⟩
theorem sw_cn {due lat : Int → Int} {un n : Int} (hn : 0 ≤ n) (hd : ∀ k : Int, 0 ≤ k → k < n → due k ≤ lat k) : ∀ (f : Nat) (last : Int), swN due lat un n f last ≤ cnZ (fun k => due k > last) n := by
  intro f
  induction f with
  | zero => intro last; exact (cn_r _ hn).1
  | succ f ih =>
    intro last
    have h1 := ih (npZ due lat last un n)
    unfold swN
    split
    · have h2 := cn_np hn hd (last := last) (un := un) ‹_›
      omega
    · exact (cn_r _ hn).1
/-- the cost of the plan -/
def plN (C : Int → Int) (due lat : Int → Int) (un n : Int) : Nat → Int → Int → Int
  | 0, _, _ => 0
  | f + 1, fr, last => C (npZ due lat last un n - fr) + if npZ due lat last un n < un then plN C due lat un n f (npZ due lat last un n) (npZ due lat last un n) else 0
theorem pl_y {C : Int → Int} {due lat : Int → Int} {un n : Int} {f : Nat} {fr last : Int} (h : npZ due lat last un n < un) (hf : 0 < f) :
    plN C due lat un n f fr last = C (npZ due lat last un n - fr) + plN C due lat un n (f - 1) (npZ due lat last un n) (npZ due lat last un n) := by
  cases f with
  | zero => omega
  | succ f => exact congrArg (C (npZ due lat last un n - fr) + ·) (if_pos h)
theorem pl_n {C : Int → Int} {due lat : Int → Int} {un n : Int} {f : Nat} {fr last : Int} (h : npZ due lat last un n = un) (hf : 0 < f) :
    plN C due lat un n f fr last = C (un - fr) := by
  cases f with
  | zero => omega
  | succ f =>
    show C (npZ due lat last un n - fr) + (if _ then _ else _) = _
    rw [h, if_neg (Int.lt_irrefl _), Int.add_zero]
/-- the cost of an idle time as it is planned -/
def pcZ (pw co la : Int → Int) (d n : Int) : Int := icZ pw co la (dpZ (okE pw co la n) d) n
theorem ev_la {pw co la : Int → Int} {s : Int} (hco : rgZ co 4 10000) (hs : 0 ≤ s ∧ s ≤ 3) : evA pw co la s = -1 ∨ la s ≤ evA pw co la s := by
  have h1 := hco s (by omega) (by omega)
  unfold evA evZ
  split
  · omega
  · split
    · omega
    · have : 0 ≤ (co s + (pw 0 - pw s) - 1) / (pw 0 - pw s) := Int.ediv_nonneg (by omega) (by omega)
      split <;> omega
theorem pc_r {pw co la : Int → Int} {d n : Int} (hpw : rgZ pw 4 1000) (hco : rgZ co 4 10000) (hla : rgZ la 4 100) (hl0 : la 0 = 0) (hd : 0 ≤ d ∧ d ≤ 3) (hn : 0 ≤ n ∧ n ≤ 1000) :
    0 ≤ icZ pw co la (dpZ (okE pw co la n) d) n ∧ icZ pw co la (dpZ (okE pw co la n) d) n ≤ 1110000 := by
  have h1 := dp_r (okE pw co la n) (k := d) hd.1
  have h2 := dp_ok (okE pw co la n) (k := d) hd.1
  refine icZ_r hpw hco hla (by omega) ⟨?_, hn.2⟩
  rcases h2 with h2 | ⟨h2, h3⟩
  · rw [h2, hl0]; exact hn.1
  · have h4 := ev_la (pw := pw) (la := la) (s := dpZ (okE pw co la n) d) hco (by omega)
    obtain ⟨h5, h6⟩ := h3
    omega
/-- the cost of an idle time as the reference plans it -/
def mpZ (pw co la : Int → Int) (d n : Int) : Int := mcZ pw co la (dpZ (okE pw co la n) d) n
theorem ch_1 (pw co la : Int → Int) (d k mn : Int) : chZ pw co la 1 d k mn = dpZ (okE pw co la k) d := by
  unfold chZ
  rw [if_neg (by omega)]
  exact dp_c (fun s _ _ => ⟨fun h => ⟨h.1, h.2.1⟩, fun h => ⟨h.1, h.2, Or.inl rfl⟩⟩)
theorem mp_ch (pw co la : Int → Int) (d n mn : Int) : mcZ pw co la (chZ pw co la 1 d n mn) n = mpZ pw co la d n := by rw [ch_1]; rfl
theorem mp_r {pw co la : Int → Int} {d n : Int} (mn : Int) (hpw : rgZ pw 4 1000) (hco : rgZ co 4 10000) (hla : rgZ la 4 100) (hl0 : la 0 = 0) (hd : 0 ≤ d ∧ d ≤ 3) (hn : 0 ≤ n ∧ n ≤ 1000) :
    0 ≤ mcZ pw co la (chZ pw co la 1 d n mn) n ∧ mcZ pw co la (chZ pw co la 1 d n mn) n ≤ 100110000 := by
  rw [ch_1]
  have h1 := dp_r (okE pw co la n) (k := d) hd.1
  have h2 := dp_ok (okE pw co la n) (k := d) hd.1
  refine mc_r hpw hco hla (by omega) ⟨?_, by omega, by omega⟩
  rcases h2 with h2 | ⟨h2, h3⟩
  · rw [h2, hl0]; exact hn.1
  · have h4 := ev_la (pw := pw) (la := la) (s := dpZ (okE pw co la n) d) hco (by omega)
    obtain ⟨h5, h6⟩ := h3
    omega
