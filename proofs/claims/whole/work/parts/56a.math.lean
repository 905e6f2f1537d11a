/-- the reference's least costs -/
theorem uZ_u2 (f : Int → Int) (i v w : Int) : uZ (uZ f i v) i w = uZ f i w := by
  funext j
  unfold uZ
  split <;> rfl
def lmF (pw co la : Int → Int) (n : Int) : Int → Int → Int := fun j x => if la (j + 1) ≤ n then (if mcZ pw co la (j + 1) n < x then mcZ pw co la (j + 1) n else x) else x
def lmZ (pw co la : Int → Int) (n d : Int) : Int := foZ (lmF pw co la n) (mcZ pw co la 0 n) d
theorem lm_r {pw co la : Int → Int} {d n : Int} (hpw : rgZ pw 4 1000) (hco : rgZ co 4 10000) (hla : rgZ la 4 100) (hl0 : la 0 = 0) (hd : 0 ≤ d ∧ d ≤ 3) (hn : 0 ≤ n ∧ n ≤ 1000) : 0 ≤ lmZ pw co la n d ∧ lmZ pw co la n d ≤ 100110000 := by
  refine foZ_ib (N := 3) (fun _ x => 0 ≤ x ∧ x ≤ 100110000) (mc_r hpw hco hla (by omega) (by omega)) (fun k x h1 h2 h3 => ?_) hd.1 hd.2
  unfold lmF
  split
  · have := mc_r (s := k + 1) (n := n) hpw hco hla (by omega) (by omega)
    split <;> omega
  · exact h3
theorem lm_s {pw co la : Int → Int} {n s : Int} (h : 1 ≤ s) : foZ (lmF pw co la n) (mcZ pw co la 0 n) (s + 1 - 1) = lmF pw co la n (s - 1) (foZ (lmF pw co la n) (mcZ pw co la 0 n) (s - 1)) := by
  rw [show s + 1 - 1 = s - 1 + 1 by omega, foZ_s _ _ (by omega)]
theorem sc_rN {c sc : Int → Int} {k N M : Int} (hc : ∀ j, 0 ≤ j → j < N → 0 ≤ c j ∧ c j ≤ M) (hs : rgZ sc N M) (h0 : 0 ≤ k) (hk : k ≤ N) : rgZ (scZ c sc k) N M := by
  refine foZ_ib (α := Int → Int) (N := N) (fun _ f => rgZ f N M) hs (fun j f h1 h2 h3 => ?_) h0 hk
  exact rgZ_u h3 (hc j h1 h2)
/-- forward: one start -/
def fiF (B : Int → Int) (f : Int) : Int → (Int → Int) → Int → Int := fun j m => uZ m (f + 1 + j) (if m (f + 1 + j) = -1 ∨ m f + B (f + 1 + j - f) < m (f + 1 + j) then m f + B (f + 1 + j - f) else m (f + 1 + j))
def fiZ (B : Int → Int) (f : Int) (m : Int → Int) (k : Int) : Int → Int := foZ (fiF B f) m k
def fwF (B ls : Int → Int) : Int → (Int → Int) → Int → Int := fun f m => if m f = -1 then m else fiZ B f m (ls f - f)
def fwZ (B ls : Int → Int) (m : Int → Int) (k : Int) : Int → Int := foZ (fwF B ls) m k
def mRg (n : Int) (m : Int → Int) : Prop := ∀ j : Int, 0 ≤ j → j ≤ n → -1 ≤ m j ∧ m j ≤ j * 100110000
theorem fi_s {B m : Int → Int} {f t : Int} (h : f + 1 ≤ t) : fiZ B f m (t + 1 - (f + 1)) = uZ (fiZ B f m (t - (f + 1))) t (if fiZ B f m (t - (f + 1)) t = -1 ∨ fiZ B f m (t - (f + 1)) f + B (t - f) < fiZ B f m (t - (f + 1)) t then fiZ B f m (t - (f + 1)) f + B (t - f) else fiZ B f m (t - (f + 1)) t) := by
  rw [show t + 1 - (f + 1) = t - (f + 1) + 1 by omega]
  unfold fiZ
  rw [foZ_s _ _ (by omega)]
  show uZ _ (f + 1 + (t - (f + 1))) _ = _
  rw [show f + 1 + (t - (f + 1)) = t by omega]
theorem fi_lo {B m : Int → Int} {f k : Int} (h : 0 ≤ k) : ∀ j : Int, j ≤ f → fiZ B f m k j = m j := by
  refine foZ_i (α := Int → Int) (fun _ x => ∀ j : Int, j ≤ f → x j = m j) (fun j _ => rfl) (fun k x h1 h2 j h3 => ?_) h
  show uZ _ _ _ j = _
  rw [uZ_n _ _ (by omega)]
  exact h2 j h3
theorem fi_r {B m : Int → Int} {f k n : Int} (hB : rgZ B 401 100110000) (hm : mRg n m) (hn : n ≤ 400) (hf : 0 ≤ f) (hne : k ≤ 0 ∨ m f ≠ -1) (hk : k ≤ n - f) : mRg n (fiZ B f m k) := by
  rcases Int.lt_or_le 0 k with h0 | h0
  · have hne : m f ≠ -1 := by omega
    have h := foZ_ib (α := Int → Int) (g := fiF B f) (a := m) (N := n - f) (fun _ x => mRg n x ∧ x f = m f) ⟨hm, rfl⟩ (fun j x h1 h2 h3 => ?_) (show 0 ≤ k by omega) hk
    · exact h.1
    · obtain ⟨h3, h4⟩ := h3
      refine ⟨fun i h5 h6 => ?_, ?_⟩
      · show -1 ≤ uZ _ _ _ i ∧ uZ _ _ _ i ≤ _
        unfold uZ
        split
        · have q1 := h3 f hf (by omega)
          have q2 := hB (f + 1 + j - f) (by omega) (by omega)
          have q3 := h3 (f + 1 + j) (by omega) (by omega)
          rename_i hi
          rw [hi]
          split <;> omega
        · exact h3 i h5 h6
      · show uZ _ _ _ f = _
        rw [uZ_n _ _ (by omega)]
        exact h4
  · unfold fiZ
    rw [foZ_n _ _ h0]
    exact hm
theorem fw_r {B ls m : Int → Int} {k n : Int} (hB : rgZ B 401 100110000) (hm : mRg n m) (hn : n ≤ 400) (hl : ∀ f, ls f ≤ n) (h0 : 0 ≤ k) (hk : k ≤ n) : mRg n (fwZ B ls m k) := by
  refine foZ_ib (α := Int → Int) (N := n) (fun _ x => mRg n x) hm (fun j x h1 h2 h3 => ?_) h0 hk
  show mRg n (if _ then _ else _)
  split
  · exact h3
  · have := hl j
    exact fi_r hB h3 hn h1 (Or.inr ‹_›) (by omega)
theorem fw_s {B ls m : Int → Int} {f t : Int} (h0 : 0 ≤ f) (h : t = f + 1 ∨ fwZ B ls m f f ≠ -1) (ht : f + 1 ≤ t ∧ (t ≤ ls f + 1 ∨ t = f + 1)) (he : ls f < t ∨ fwZ B ls m f f = -1) : fwZ B ls m (f + 1) = fiZ B f (fwZ B ls m f) (t - (f + 1)) := by
  have e : fwZ B ls m (f + 1) = fwF B ls f (fwZ B ls m f) := foZ_s _ _ h0
  rw [e]
  unfold fwF
  split
  · obtain rfl : t = f + 1 := by omega
    rw [Int.sub_self]
    rfl
  · rcases Int.lt_or_le (ls f) (f + 1) with h1 | h1
    · unfold fiZ
      rw [foZ_n _ _ (by omega), foZ_n _ _ (by omega)]
    · rw [show t - (f + 1) = ls f - f by omega]
theorem m0_r {mL : Int → Int} {n : Int} (hn : 0 ≤ n) : mRg n (uZ (scZ (fun _ => -1) mL (n + 1)) 0 0) := fun j h1 h2 => by
  unfold uZ
  split
  · omega
  · rw [sc_at (by omega) j h1 (by omega)]
    omega
theorem lm_a {pw co la : Int → Int} {n s x : Int} (h : ¬ la s ≤ n) : lmF pw co la n (s - 1) x = x := by
  unfold lmF
  rw [show s - 1 + 1 = s by omega, if_neg h]
theorem lm_b {pw co la : Int → Int} {n s x : Int} (h : la s ≤ n) (h2 : mcZ pw co la s n < x) : lmF pw co la n (s - 1) x = mcZ pw co la s n := by
  unfold lmF
  rw [show s - 1 + 1 = s by omega, if_pos h, if_pos h2]
theorem lm_c {pw co la : Int → Int} {n s x : Int} (h : la s ≤ n) (h2 : ¬ mcZ pw co la s n < x) : lmF pw co la n (s - 1) x = x := by
  unfold lmF
  rw [show s - 1 + 1 = s by omega, if_pos h, if_neg h2]
theorem fi_0 (B : Int → Int) (f : Int) (m : Int → Int) : fiZ B f m 0 = m := rfl
theorem fw_0 (B ls m : Int → Int) : fwZ B ls m 0 = m := rfl
