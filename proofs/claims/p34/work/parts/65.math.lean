/-! pure rows for changes and times -/
theorem ev_up {pw co la : Int → Int} {s p c l : Int} (h : 1 ≤ s ∧ s ≤ 3) : evA (uZ pw s p) (uZ co s c) (uZ la s l) s = evZ (pw 0) p c l := by
  unfold evA
  rw [uZ_n _ _ (by omega), uZ_s, uZ_s, uZ_s]
theorem ev_f {p0 ps c l : Int} (h0 : 0 ≤ p0 ∧ p0 ≤ 1000) (hs : 0 ≤ ps ∧ ps ≤ 1000) (hc : 0 ≤ c ∧ c ≤ 10000) (hl : 0 ≤ l ∧ l ≤ 100) :
    evZ p0 ps c l = -1 ∨ ((l ≤ evZ p0 ps c l ∧ evZ p0 ps c l ≤ 5000) ∧ c + ps * (evZ p0 ps c l - l) + p0 * l ≤ p0 * evZ p0 ps c l ∧ (evZ p0 ps c l = l ∨ (c + ps * (evZ p0 ps c l - 1 - l) + p0 * l > p0 * (evZ p0 ps c l - 1) ∧ 0 ≤ ps * (evZ p0 ps c l - 1 - l) ∧ 0 ≤ p0 * (evZ p0 ps c l - 1) ∧ p0 * (evZ p0 ps c l - 1) ≤ 5000000 ∧ ps * (evZ p0 ps c l - 1 - l) ≤ 5000000)) ∧
      0 ≤ ps * (evZ p0 ps c l - l) ∧ ps * (evZ p0 ps c l - l) ≤ 5000000 ∧ 0 ≤ p0 * l ∧ p0 * l ≤ 100000 ∧ 0 ≤ p0 * evZ p0 ps c l ∧ p0 * evZ p0 ps c l ≤ 5000000) := by
  have hpl := mul_r h0 hl
  by_cases z : c = 0
  · have e : evZ p0 ps c l = l := by unfold evZ; rw [if_pos z]
    rw [e, Int.sub_self, Int.mul_zero]
    exact Or.inr ⟨by omega, by omega, Or.inl rfl, by omega⟩
  · by_cases hd : p0 - ps ≤ 0
    · exact Or.inl (by unfold evZ; rw [if_neg z, if_pos hd])
    · by_cases h5 : l + (c + (p0 - ps) - 1) / (p0 - ps) ≤ 5000
      · have e : evZ p0 ps c l = l + (c + (p0 - ps) - 1) / (p0 - ps) := by unfold evZ; rw [if_neg z, if_neg hd, if_pos h5]
        rw [e]
        have k1 := Int.mul_ediv_add_emod (c + (p0 - ps) - 1) (p0 - ps)
        have k2 := Int.emod_nonneg (c + (p0 - ps) - 1) (show p0 - ps ≠ 0 by omega)
        have k3 := Int.emod_lt_of_pos (c + (p0 - ps) - 1) (show 0 < p0 - ps by omega)
        have k4 : 1 ≤ (c + (p0 - ps) - 1) / (p0 - ps) := (Int.le_ediv_iff_mul_le (by omega)).mpr (by omega)
        generalize (c + (p0 - ps) - 1) / (p0 - ps) = n at *
        generalize (c + (p0 - ps) - 1) % (p0 - ps) = r at *
        have e1 : (p0 - ps) * n = p0 * n - ps * n := Int.sub_mul _ _ _
        have e2 : ps * (l + n - l) = ps * n := by rw [show l + n - l = n by omega]
        have e3 : p0 * (l + n) = p0 * l + p0 * n := Int.mul_add _ _ _
        have e4 : ps * (l + n - 1 - l) = ps * n - ps := by rw [show l + n - 1 - l = n - 1 by omega, Int.mul_sub, Int.mul_one]
        have e5 : p0 * (l + n - 1) = p0 * l + p0 * n - p0 := by rw [show l + n - 1 = l + n - 1 from rfl, Int.mul_sub, Int.mul_add, Int.mul_one]
        have b1 := mul_r hs (show 0 ≤ n - 1 ∧ n - 1 ≤ 5000 by omega)
        have b2 := mul_r hs (show 0 ≤ n ∧ n ≤ 5000 by omega)
        have b3 := mul_r h0 (show 0 ≤ l + n - 1 ∧ l + n - 1 ≤ 5000 by omega)
        have b4 := mul_r h0 (show 0 ≤ l + n ∧ l + n ≤ 5000 by omega)
        have b5 : ps * (n - 1) = ps * n - ps := by rw [Int.mul_sub, Int.mul_one]
        refine Or.inr ⟨by omega, by omega, Or.inr ?_, by omega⟩
        omega
      · exact Or.inl (by unfold evZ; rw [if_neg z, if_neg hd, if_neg h5])
theorem rn_one {cpar use run : Int → Int} {nC c : Int} (h1 : nC = 1) (hc : 0 ≤ c ∧ c < nC) (hu : 0 < use c) : rnZ cpar (nC - 1) (r0Z use nC run) c ≠ 0 := by
  have e : rnZ cpar (nC - 1) (r0Z use nC run) = r0Z use nC run := fdZ_n _ (by omega) _
  rw [e]
  unfold r0Z
  rw [if_pos hc, b2i_t hu]
  decide
theorem ll_sched {due lat : Int → Int} {n d x : Int} (hn : 0 ≤ n ∧ n ≤ 12) (hd : 0 ≤ d) (hx : x < 1000000000) : llZ (uZ due n d) (uZ lat n x) (-1) 1000000000 (n + 1) = if llZ due lat (-1) 1000000000 n = -1 ∨ x < llZ due lat (-1) 1000000000 n then x else llZ due lat (-1) 1000000000 n := by
  have e : llZ (uZ due n d) (uZ lat n x) (-1) 1000000000 n = llZ due lat (-1) 1000000000 n := by
    refine foZ_c (fun j y h1 h2 => ?_)
    unfold llF
    rw [uZ_n _ _ (by omega), uZ_n _ _ (by omega)]
  by_cases q : llZ due lat (-1) 1000000000 n = -1 ∨ x < llZ due lat (-1) 1000000000 n
  · rw [if_pos q, ll_y hn.1 (by rw [uZ_s, uZ_s, e]; exact ⟨by omega, q⟩), uZ_s]
  · rw [if_neg q, ll_n hn.1 (by rw [uZ_s, uZ_s, e]; exact fun z => q z.2), e]
