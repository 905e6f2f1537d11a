/-- the class's table of least sums -/
def lsF (sc lt : Int → Int) (to m : Int) : Int → Int → Int := fun j x => if lt (m + j) + sc (to - (m + j)) < x then lt (m + j) + sc (to - (m + j)) else x
def lsZ (sc lt : Int → Int) (to m : Int) : Int := foZ (lsF sc lt to m) 1000000000000 (to - m)
def ltF (sc ea : Int → Int) : Int → (Int → Int) → Int → Int := fun j f => uZ f (j + 1) (lsZ sc f (j + 1) (max (ea (j + 1)) 0))
def ltZ (sc ea lt : Int → Int) (k : Int) : Int → Int := foZ (ltF sc ea) (uZ lt 0 0) k
def ebZ (due lat : Int → Int) (n now start tick : Int) : Int := if gdZ due lat tick n = -1 then 0 else max (gdZ due lat tick n) now - start
def scZ (c sc : Int → Int) (k : Int) : Int → Int := foZ (fun j f => uZ f j (c j)) sc k
theorem ls_r {sc lt : Int → Int} {to m : Int} (hs : rgZ sc 402 1110000) (hl : rgZ lt 402 1000000000000) (hm : 0 ≤ m) (ht : to ≤ 401) {k : Int} (h0 : 0 ≤ k) (hk : k ≤ to - m) :
    0 ≤ foZ (lsF sc lt to m) 1000000000000 k ∧ foZ (lsF sc lt to m) 1000000000000 k ≤ 1000000000000 := by
  refine foZ_ib (N := to - m) (fun _ x => 0 ≤ x ∧ x ≤ 1000000000000) (by omega) (fun k x h1 h2 h3 => ?_) h0 hk
  have := hl (m + k) (by omega) (by omega)
  have := hs (to - (m + k)) (by omega) (by omega)
  unfold lsF
  split <;> omega
theorem ls_r2 {sc lt : Int → Int} {to m : Int} (hs : rgZ sc 402 1110000) (hl : rgZ lt 402 1000000000000) (hm : 0 ≤ m) (ht : to ≤ 401) : 0 ≤ lsZ sc lt to m ∧ lsZ sc lt to m ≤ 1000000000000 := by
  unfold lsZ
  rcases Int.lt_or_le (to - m) 0 with h | h
  · rw [foZ_n _ _ (by omega)]; omega
  · exact ls_r hs hl hm ht h (Int.le_refl _)
theorem ltz_s {sc ea lt : Int → Int} {k : Int} (h : 1 ≤ k) : ltZ sc ea lt (k + 1 - 1) = uZ (ltZ sc ea lt (k - 1)) k (lsZ sc (ltZ sc ea lt (k - 1)) k (max (ea k) 0)) := by
  rw [show k + 1 - 1 = k - 1 + 1 by omega]
  unfold ltZ
  rw [foZ_s _ _ (by omega)]
  show uZ _ (k - 1 + 1) _ = _
  rw [show k - 1 + 1 = k by omega]
theorem ltz_r {sc ea lt : Int → Int} {k : Int} (hs : rgZ sc 402 1110000) (hl : rgZ lt 402 1000000000000) (h0 : 0 ≤ k) (hk : k ≤ 401) : rgZ (ltZ sc ea lt k) 402 1000000000000 := by
  refine foZ_ib (α := Int → Int) (N := 401) (fun _ f => rgZ f 402 1000000000000) (rgZ_u hl (by omega)) (fun j f h1 h2 h3 => ?_) h0 hk
  exact rgZ_u h3 (ls_r2 hs h3 (by omega) (by omega))
theorem sc_s (c sc : Int → Int) {k : Int} (h : 0 ≤ k) : scZ c sc (k + 1) = uZ (scZ c sc k) k (c k) := foZ_s _ _ h
theorem sc_r {c sc : Int → Int} {k : Int} (hc : rgZ c 402 1110000) (hs : rgZ sc 402 1110000) (h0 : 0 ≤ k) (hk : k ≤ 402) : rgZ (scZ c sc k) 402 1110000 := by
  refine foZ_ib (α := Int → Int) (N := 402) (fun _ f => rgZ f 402 1110000) hs (fun j f h1 h2 h3 => ?_) h0 hk
  exact rgZ_u h3 (hc j h1 h2)
theorem sc_at {c sc : Int → Int} {k : Int} (h0 : 0 ≤ k) : ∀ j : Int, 0 ≤ j → j < k → scZ c sc k j = c j := by
  refine foZ_i (α := Int → Int) (fun k f => ∀ j : Int, 0 ≤ j → j < k → f j = c j) (fun j h1 h2 => by omega) (fun k f h1 h2 j h3 h4 => ?_) h0
  unfold uZ
  split
  · rename_i h; rw [h]
  · exact h2 j h3 (by omega)
/-- all is reached where the last step may come from one tick before -/
theorem ltz_at {sc ea lt : Int → Int} {B n : Int} (h1 : sc 1 ≤ B) (hB : 0 ≤ B ∧ B ≤ 1110000) (hn : n ≤ 401) (he : ∀ k : Int, 1 ≤ k → k ≤ n → ea k < k) {k : Int} (h0 : 0 ≤ k) (hk : k ≤ n) : ltZ sc ea lt k k ≤ k * B := by
  refine foZ_ib (α := Int → Int) (N := n) (fun k f => f k ≤ k * B) (by show uZ lt 0 0 0 ≤ _; rw [uZ_s]; omega) (fun j f h2 h3 h4 => ?_) h0 hk
  show uZ f (j + 1) _ (j + 1) ≤ _
  rw [uZ_s]
  have h5 := he (j + 1) (by omega) (by omega)
  have h8 : lsZ sc f (j + 1) (max (ea (j + 1)) 0) ≤ f j + sc 1 := by
    unfold lsZ
    rw [foZ_p _ _ (by omega)]
    unfold lsF
    rw [show max (ea (j + 1)) 0 + (j + 1 - max (ea (j + 1)) 0 - 1) = j by omega, show j + 1 - j = 1 by omega]
    split <;> omega
  rw [Int.add_mul]
  omega
theorem eb_r {due lat : Int → Int} {n now start tick : Int} (hd : rgZ due 12 1000000) (hn : 0 ≤ n ∧ n ≤ 12) (h1 : 0 ≤ now) (h2 : (-1 ≤ start ∧ start ≤ 1000000) ∧ now ≤ 1000000) :
    -2000000 ≤ ebZ due lat n now start tick ∧ ebZ due lat n now start tick ≤ 2000000 := by
  have h3 := gd_r (lat := lat) (un := tick) (k := n) hd (by omega) hn
  unfold ebZ
  split <;> omega
theorem gd_at {due lat : Int → Int} {n tick : Int} (hn : 0 ≤ n) : gdZ due lat tick n = -1 ∨ ∃ j : Int, 0 ≤ j ∧ j < n ∧ lat j < tick ∧ due j = gdZ due lat tick n := by
  refine foZ_i (fun k x => x = -1 ∨ ∃ j : Int, 0 ≤ j ∧ j < k ∧ lat j < tick ∧ due j = x) (Or.inl rfl) (fun k x h1 h2 => ?_) hn
  unfold gdF
  split
  · rcases Int.lt_or_le x (due k) with h3 | h3
    · exact Or.inr ⟨k, h1, by omega, by omega, by omega⟩
    · rw [show max x (due k) = x by omega]
      rcases h2 with h2 | ⟨j, h4, h5, h6, h7⟩
      · exact Or.inl h2
      · exact Or.inr ⟨j, h4, by omega, h6, h7⟩
  · rcases h2 with h2 | ⟨j, h4, h5, h6, h7⟩
    · exact Or.inl h2
    · exact Or.inr ⟨j, h4, by omega, h6, h7⟩
theorem eb_lt {due lat : Int → Int} {n now start k : Int} (hn : 0 ≤ n) (hd : ∀ j : Int, 0 ≤ j → j < n → due j ≤ lat j) (hl : ∀ j : Int, 0 ≤ j → j < n → now ≤ lat j) (hk : 1 ≤ k) : ebZ due lat n now start (start + k) < k := by
  unfold ebZ
  split
  · omega
  · rcases gd_at (due := due) (lat := lat) (tick := start + k) hn with h | ⟨j, h1, h2, h3, h4⟩
    · exact absurd h ‹_›
    · have := hd j h1 h2
      have := hl j h1 h2
      omega
theorem liZ_r {pw co la : Int → Int} {d n : Int} (hpw : rgZ pw 4 1000) (hco : rgZ co 4 10000) (hla : rgZ la 4 100) (hl0 : la 0 = 0) (hd : 0 ≤ d ∧ d ≤ 3) (hn : 0 ≤ n ∧ n ≤ 1000) : 0 ≤ liZ pw co la n d ∧ liZ pw co la n d ≤ 1110000 := by
  refine fdZ_i (fun x => 0 ≤ x ∧ x ≤ 1110000) (fun k x h1 h2 h3 => ?_) (icZ_r hpw hco hla (by omega) (by rw [hl0]; exact hn))
  unfold liF
  split
  · have := icZ_r (s := k) (n := n) hpw hco hla (by omega) (by omega)
    omega
  · exact h3
