/-- the reference's own words for the same values -/
def mcZ (pw co la : Int → Int) (s n : Int) : Int := if s = 0 then n * pw 0 else icZ pw co la s n
theorem mc_le {pw co la : Int → Int} {s n : Int} (hs : 1 ≤ s) : mcZ pw co la s n ≤ mcZ pw co la 0 n ↔ co s ≤ (pw 0 - pw s) * (n - la s) := by
  unfold mcZ icZ
  rw [if_neg (by omega), if_pos rfl]
  have e1 : (pw 0 - pw s) * (n - la s) = pw 0 * (n - la s) - pw s * (n - la s) := Int.sub_mul _ _ _
  have e2 : pw 0 * (n - la s) = pw 0 * n - pw 0 * la s := Int.mul_sub _ _ _
  have e3 : n * pw 0 = pw 0 * n := Int.mul_comm _ _
  omega
theorem ev_1 {p0 ps c l n : Int} (hc : 0 ≤ c) (hn : l ≤ n ∧ n ≤ 5000) (h : c ≤ (p0 - ps) * (n - l)) (hj : ∀ j : Int, l ≤ j → j < n → ¬ c ≤ (p0 - ps) * (j - l)) : evZ p0 ps c l = n := by
  unfold evZ
  by_cases h0 : c = 0
  · rw [if_pos h0]
    rcases Int.lt_or_le l n with q | q
    · exact absurd (by rw [Int.sub_self, Int.mul_zero]; omega) (hj l (Int.le_refl l) q)
    · omega
  · rw [if_neg h0]
    by_cases hd : p0 - ps ≤ 0
    · have : (p0 - ps) * (n - l) ≤ 0 := Int.mul_nonpos_of_nonpos_of_nonneg hd (by omega)
      omega
    · rw [if_neg hd]
      generalize p0 - ps = d at *
      have k1 := Int.mul_ediv_add_emod (c + d - 1) d
      have k2 := Int.emod_nonneg (c + d - 1) (show d ≠ 0 by omega)
      have k3 := Int.emod_lt_of_pos (c + d - 1) (show 0 < d by omega)
      generalize (c + d - 1) / d = q at *
      generalize (c + d - 1) % d = r at *
      have k4 : q ≤ n - l := by
        rcases Int.lt_or_le (n - l) q with z | z
        · have : d * (n - l) ≤ d * (q - 1) := Int.mul_le_mul_of_nonneg_left (by omega) (by omega)
          have e : d * (q - 1) = d * q - d := by rw [Int.mul_sub, Int.mul_one]
          omega
        · exact z
      have k0 : 0 ≤ q := by
        rcases Int.lt_or_le q 0 with z | z
        · have : d * q ≤ d * (-1) := Int.mul_le_mul_of_nonneg_left (by omega) (by omega)
          have e : d * (-1) = -d := by omega
          omega
        · exact z
      have k5 : ¬ l + q < n := fun z => hj (l + q) (by omega) z (by rw [show l + q - l = q by omega]; omega)
      rw [if_pos (by omega)]
      omega
theorem ev_2 {p0 ps c l : Int} (hl : 0 ≤ l ∧ l ≤ 5000) (hj : ∀ j : Int, l ≤ j → j ≤ 5000 → ¬ c ≤ (p0 - ps) * (j - l)) : evZ p0 ps c l = -1 := by
  unfold evZ
  have h0 := hj l (Int.le_refl l) hl.2
  rw [Int.sub_self, Int.mul_zero] at h0
  rw [if_neg (by omega)]
  by_cases hd : p0 - ps ≤ 0
  · rw [if_pos hd]
  · rw [if_neg hd]
    generalize p0 - ps = d at *
    have k1 := Int.mul_ediv_add_emod (c + d - 1) d
    have k2 := Int.emod_nonneg (c + d - 1) (show d ≠ 0 by omega)
    have k3 := Int.emod_lt_of_pos (c + d - 1) (show 0 < d by omega)
    generalize (c + d - 1) / d = q at *
    generalize (c + d - 1) % d = r at *
    have k0 : 0 ≤ q := by
      rcases Int.lt_or_le q 0 with z | z
      · have : d * q ≤ d * (-1) := Int.mul_le_mul_of_nonneg_left (by omega) (by omega)
        have e : d * (-1) = -d := by omega
        omega
      · exact z
    rw [if_neg (fun z => hj (l + q) (by omega) z (by rw [show l + q - l = q by omega]; omega))]
theorem mc_r {pw co la : Int → Int} {s n : Int} (hpw : rgZ pw 4 1000) (hco : rgZ co 4 10000) (hla : rgZ la 4 100) (hs : 0 ≤ s ∧ s ≤ 3) (hn : la s ≤ n ∧ n ≤ 100000 ∧ 0 ≤ n) : 0 ≤ mcZ pw co la s n ∧ mcZ pw co la s n ≤ 100110000 := by
  have h1 := hpw s (by omega) (by omega)
  have h2 := hco s (by omega) (by omega)
  have h3 := hla s (by omega) (by omega)
  have h4 := hpw 0 (by omega) (by omega)
  have h5 := mul_r h1 (show 0 ≤ n - la s ∧ n - la s ≤ 100000 by omega)
  have h6 := mul_r h4 h3
  have h7 := mul_r (show 0 ≤ n ∧ n ≤ 100000 by omega) h4
  unfold mcZ icZ
  split <;> omega
theorem uZ_id (f : Int → Int) (i : Int) : uZ f i (f i) = f := by
  funext j
  unfold uZ
  split
  · rename_i h
    rw [h]
  · rfl
theorem mvF_r {vo : Int → Int} (hv : rgZ vo 6 3) {k : Int} (hk : 0 ≤ k ∧ k ≤ 6) : 0 ≤ foZ (mvF vo) 3 k ∧ foZ (mvF vo) 3 k ≤ 3 := by
  refine foZ_ib (N := 6) (fun _ x => 0 ≤ x ∧ x ≤ 3) (by omega) (fun k x h1 h2 h3 => ?_) hk.1 hk.2
  have := hv k h1 h2
  unfold mvF
  split <;> omega
theorem mdF_r {vo r dee : Int → Int} (hv : rgZ vo 6 3) (hd : rgZ dee 8 3) {k : Int} (hk : 0 ≤ k ∧ k ≤ 7) : 0 ≤ foZ (mdF r dee) (foZ (mvF vo) 3 6) k ∧ foZ (mdF r dee) (foZ (mvF vo) 3 6) k ≤ 3 := by
  have h0 := mvF_r hv (k := 6) (by omega)
  refine foZ_ib (N := 7) (fun _ x => 0 ≤ x ∧ x ≤ 3) h0 (fun k x h1 h2 h3 => ?_) hk.1 hk.2
  have := hd (k + 1) (by omega) (by omega)
  unfold mdF
  split <;> omega
theorem dzM_run {vo par dee use mrun : Int → Int} {nC : Int} (hC : 1 ≤ nC ∧ nC ≤ 8) (hp : ∀ c : Int, 1 ≤ c → c < nC → 0 ≤ par c ∧ par c < c) : foZ (mdF (rnZ par (nC - 1) (r0Z use 8 mrun)) dee) (foZ (mvF vo) 3 6) (nC - 1) = dzM vo par dee use nC := by
  unfold dzM
  refine foZ_c (fun j x h1 h2 => ?_)
  unfold mdF mrZ
  have h3 : ∀ c : Int, 0 ≤ c → c < nC → r0Z use 8 mrun c = r0Z use 8 (fun _ => 0) c := fun c q1 q2 => by
    unfold r0Z
    rw [if_pos (by omega), if_pos (by omega)]
  have h4 : rnZ par (nC - 1) (r0Z use 8 mrun) (j + 1) = rnZ par (nC - 1) (r0Z use 8 (fun _ => 0)) (j + 1) := rn_c hp (fun _ _ _ => rfl) (nC - 1).toNat _ _ (by omega) h3 (j + 1) (by omega) (by omega)
  rw [h4]
theorem ad_01 (due : Int → Int) (t : Int) {n : Int} (h : 0 ≤ n) : adZ due t n = 0 ∨ adZ due t n = 1 := by
  refine foZ_i (fun _ x => x = 0 ∨ x = 1) (Or.inl rfl) (fun k x h1 h2 => ?_) h
  unfold adF
  split
  · exact Or.inr rfl
  · exact h2
theorem te_lo {t b : Int} {due wk : Int → Int} {n k : Int} (hq : ∀ j : Int, 0 ≤ j → j < n → b ≤ due j) (hk : 0 ≤ k ∧ k ≤ n) : ∀ j : Int, 0 ≤ j → j < n → b ≤ (teZ t due wk k).2.2.1 j := by
  refine foZ_ib (N := n) (fun (k : Int) (s : teT) => ∀ j : Int, 0 ≤ j → j < n → b ≤ s.2.2.1 j) hq (fun k s h1 h2 h3 => ?_) hk.1 hk.2
  show ∀ j : Int, 0 ≤ j → j < n → b ≤ (teF t k s).2.2.1 j
  unfold teF
  split
  · exact h3
  · intro j z1 z2
    show b ≤ uZ s.2.2.1 s.2.1 (s.2.2.1 k) j
    unfold uZ
    split
    · exact h3 k h1 h2
    · exact h3 j z1 z2
theorem te_r {t : Int} {due wk : Int → Int} {k : Int} {M V : Int} (hd : rgZ due 12 M) (hw : rgZ wk 12 V) (h : 0 ≤ k ∧ k ≤ 12) :
    (0 ≤ (teZ t due wk k).2.1 ∧ (teZ t due wk k).2.1 ≤ k) ∧ (0 ≤ (teZ t due wk k).1 ∧ (teZ t due wk k).1 ≤ k * V) ∧ rgZ (teZ t due wk k).2.2.1 12 M ∧ rgZ (teZ t due wk k).2.2.2 12 V := by
  have h1 := td_r (t := t) (k := k) (lat := fun _ => 0) (L := 0) hd (fun _ _ _ => ⟨Int.le_refl 0, Int.le_refl 0⟩) hw h
  rw [te_td t due (fun _ => 0) wk h.1]
  exact ⟨h1.1, h1.2.1, h1.2.2.1, h1.2.2.2.2⟩
theorem te_y {t : Int} {due wk : Int → Int} {k : Int} (h : 0 ≤ k) (h2 : (teZ t due wk k).2.2.1 k ≤ t) : teZ t due wk (k + 1) = ((teZ t due wk k).1 + (teZ t due wk k).2.2.2 k, (teZ t due wk k).2) := by
  unfold teZ at *
  rw [foZ_s _ _ h]
  exact if_pos h2
theorem te_n {t : Int} {due wk : Int → Int} {k : Int} (h : 0 ≤ k) (h2 : ¬ (teZ t due wk k).2.2.1 k ≤ t) : teZ t due wk (k + 1) = ((teZ t due wk k).1, (teZ t due wk k).2.1 + 1, uZ (teZ t due wk k).2.2.1 (teZ t due wk k).2.1 ((teZ t due wk k).2.2.1 k), uZ (teZ t due wk k).2.2.2 (teZ t due wk k).2.1 ((teZ t due wk k).2.2.2 k)) := by
  unfold teZ at *
  rw [foZ_s _ _ h]
  exact if_neg h2
theorem ch_y {pw co la : Int → Int} {way d k mn : Int} (h : 0 < d) (h2 : if way = 0 then la d ≤ k else evA pw co la d ≠ -1 ∧ evA pw co la d ≤ k ∧ (way = 1 ∨ evA pw co la d ≤ mn)) : chZ pw co la way d k mn = d := by
  unfold chZ
  split at h2
  · rename_i q
    rw [if_pos q]
    exact dp_y h h2
  · rename_i q
    rw [if_neg q]
    exact dp_y h h2
theorem ch_n {pw co la : Int → Int} {way d k mn : Int} (h : 0 < d) (h2 : ¬ (if way = 0 then la d ≤ k else evA pw co la d ≠ -1 ∧ evA pw co la d ≤ k ∧ (way = 1 ∨ evA pw co la d ≤ mn))) : chZ pw co la way d k mn = chZ pw co la way (d - 1) k mn := by
  unfold chZ
  split at h2
  · rename_i q
    rw [if_pos q, if_pos q]
    exact dp_n h h2
  · rename_i q
    rw [if_neg q, if_neg q]
    exact dp_n h h2
theorem ch_0 {pw co la : Int → Int} {way d k mn : Int} (h : d ≤ 0) : chZ pw co la way d k mn = 0 := by
  unfold chZ
  split <;> exact dp_0 h
theorem ad_y {due : Int → Int} {t k : Int} (h : 0 ≤ k) (h2 : due k ≤ t) : adZ due t (k + 1) = 1 := by
  unfold adZ
  rw [foZ_s _ _ h]
  exact if_pos h2
theorem ad_z {due : Int → Int} {t k : Int} (h : 0 ≤ k) (h2 : ¬ due k ≤ t) : adZ due t (k + 1) = adZ due t k := by
  unfold adZ
  rw [foZ_s _ _ h]
  exact if_neg h2
theorem ad_o {due : Int → Int} {t k : Int} (h : 0 ≤ k) (h2 : adZ due t k = 1) : adZ due t (k + 1) = 1 := by
  by_cases q : due k ≤ t
  · exact ad_y h q
  · rw [ad_z h q, h2]
