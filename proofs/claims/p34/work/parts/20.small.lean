def rdZ (f : Int → Int) (n : Nat) (i : Int) : Int := if 0 ≤ i ∧ i < n then f i else 0
def exZ (f : Int → Int) (n : Nat) (i x : Int) : Int → Int := if 0 ≤ i ∧ i < n then uZ f i x else f
theorem rdZ_i {f : Int → Int} {n : Nat} {i : Int} (h : 0 ≤ i ∧ i < n) : rdZ f n i = f i := if_pos h
theorem exZ_i {f : Int → Int} {n : Nat} {i x : Int} (h : 0 ≤ i ∧ i < n) : exZ f n i x = uZ f i x := if_pos h
/-- the break-even -/
def evZ (p0 ps c l : Int) : Int := if c = 0 then l else if p0 - ps ≤ 0 then -1 else if l + (c + (p0 - ps) - 1) / (p0 - ps) ≤ 5000 then l + (c + (p0 - ps) - 1) / (p0 - ps) else -1
theorem evZ_r {p0 ps c l : Int} (hc : 0 ≤ c) (hl : 0 ≤ l ∧ l ≤ 5000) : -1 ≤ evZ p0 ps c l ∧ evZ p0 ps c l ≤ 5000 := by
  unfold evZ
  split
  · omega
  · split
    · omega
    · have : 0 ≤ (c + (p0 - ps) - 1) / (p0 - ps) := Int.ediv_nonneg (by omega) (by omega)
      split <;> omega
def evA (pw co la : Int → Int) (s : Int) : Int := evZ (pw 0) (pw s) (co s) (la s)
theorem evA_r {pw co la : Int → Int} {s : Int} (hco : rgZ co 4 10000) (hla : rgZ la 4 100) (h : 0 ≤ s ∧ s ≤ 3) : -1 ≤ evA pw co la s ∧ evA pw co la s ≤ 5000 := by
  have h1 := hco s (by omega) (by omega)
  have h2 := hla s (by omega) (by omega)
  exact evZ_r (by omega) (by omega)
theorem dv_r {a b : Int} (ha : 0 ≤ a) (hb : 0 < b) : 0 ≤ a / b ∧ a / b ≤ a := ⟨Int.ediv_nonneg ha (by omega), Int.ediv_le_self b ha⟩
/-- the deepest state that is taken -/
def dpF (ok : Int → Prop) [DecidablePred ok] : Int → Int → Int := fun j x => if ok (j + 1) then j + 1 else x
def dpZ (ok : Int → Prop) [DecidablePred ok] (d : Int) : Int := foZ (dpF ok) 0 d
theorem dp_y {ok : Int → Prop} [DecidablePred ok] {k : Int} (h : 0 < k) (h2 : ok k) : dpZ ok k = k := by
  unfold dpZ
  rw [foZ_p _ _ h]
  unfold dpF
  rw [show k - 1 + 1 = k by omega]
  exact if_pos h2
theorem dp_n {ok : Int → Prop} [DecidablePred ok] {k : Int} (h : 0 < k) (h2 : ¬ ok k) : dpZ ok k = dpZ ok (k + (-1)) := by
  unfold dpZ
  rw [foZ_p _ _ h]
  show (if ok (k - 1 + 1) then _ else _) = _
  rw [show k - 1 + 1 = k by omega, if_neg h2]
  rfl
theorem dp_0 {ok : Int → Prop} [DecidablePred ok] {k : Int} (h : k ≤ 0) : dpZ ok k = 0 := foZ_n _ _ h
theorem dp_r (ok : Int → Prop) [DecidablePred ok] {k : Int} (h : 0 ≤ k) : 0 ≤ dpZ ok k ∧ dpZ ok k ≤ k := by
  refine foZ_i (fun k x => 0 ≤ x ∧ x ≤ k) (by omega) (fun k x h0 hx => ?_) h
  unfold dpF
  split <;> omega
theorem dp_ok (ok : Int → Prop) [DecidablePred ok] {k : Int} (h : 0 ≤ k) : dpZ ok k = 0 ∨ (0 < dpZ ok k ∧ ok (dpZ ok k)) := by
  refine foZ_i (fun k x => x = 0 ∨ (0 < x ∧ ok x)) (Or.inl rfl) (fun k x h0 hx => ?_) h
  unfold dpF
  split
  · exact Or.inr ⟨by omega, by assumption⟩
  · exact hx
abbrev okW (la : Int → Int) (tk : Int) : Int → Prop := fun s => la s ≤ tk
abbrev okE (pw co la : Int → Int) (tk : Int) : Int → Prop := fun s => evA pw co la s ≠ -1 ∧ evA pw co la s ≤ tk
/-- the cost of an idle time -/
def icZ (pw co la : Int → Int) (s n : Int) : Int := co s + pw s * (n - la s) + pw 0 * la s
theorem mul_r {a b M N : Int} (ha : 0 ≤ a ∧ a ≤ M) (hb : 0 ≤ b ∧ b ≤ N) : 0 ≤ a * b ∧ a * b ≤ M * N := ⟨Int.mul_nonneg ha.1 hb.1, Int.mul_le_mul ha.2 hb.2 hb.1 (by omega)⟩
theorem icZ_r {pw co la : Int → Int} {s n : Int} (hpw : rgZ pw 4 1000) (hco : rgZ co 4 10000) (hla : rgZ la 4 100) (hs : 0 ≤ s ∧ s ≤ 3) (hn : la s ≤ n ∧ n ≤ 1000) : 0 ≤ icZ pw co la s n ∧ icZ pw co la s n ≤ 1110000 := by
  have h1 := hpw s (by omega) (by omega)
  have h2 := hco s (by omega) (by omega)
  have h3 := hla s (by omega) (by omega)
  have h4 := hpw 0 (by omega) (by omega)
  have h5 := mul_r h1 (show 0 ≤ n - la s ∧ n - la s ≤ 1000 by omega)
  have h6 := mul_r h4 h3
  unfold icZ
  omega
def liF (pw co la : Int → Int) (n : Int) : Int → Int → Int := fun s x => if la s ≤ n then min x (icZ pw co la s n) else x
def liZ (pw co la : Int → Int) (n d : Int) : Int := fdZ (liF pw co la n) d (icZ pw co la 0 n)
/-- which clocks run -/
def r0Z (use : Int → Int) (n : Int) (r : Int → Int) : Int → Int := fun j => if 0 ≤ j ∧ j < n then b2i (0 < use j) else r j
theorem r0Z_s {use r : Int → Int} {k : Int} {v : Int} (h : 0 ≤ k) (hv : v = b2i (0 < use k)) : r0Z use (k + 1) r = uZ (r0Z use k r) k v := by
  funext j
  show (if 0 ≤ j ∧ j < k + 1 then b2i (0 < use j) else r j) = if j = k then v else (if 0 ≤ j ∧ j < k then b2i (0 < use j) else r j)
  by_cases e : j = k
  · subst e
    rw [if_pos (by omega), if_pos rfl, hv]
  · rw [if_neg e]
    by_cases e2 : 0 ≤ j ∧ j < k
    · rw [if_pos (by omega), if_pos e2]
    · rw [if_neg (by omega), if_neg e2]
theorem r0Z_0 {use r : Int → Int} : r0Z use 0 r = r := by
  funext j
  unfold r0Z
  exact if_neg (by omega)
def rnF (par : Int → Int) : Int → (Int → Int) → Int → Int := fun c r => if r c ≠ 0 then uZ r (par c) 1 else r
def rnZ (par : Int → Int) (n : Int) (r : Int → Int) : Int → Int := fdZ (rnF par) n r
/-- all values are truths -/
def tfZ (r : Int → Int) : Prop := ∀ k : Int, 0 ≤ k → k < 8 → r k = 0 ∨ r k = 1
theorem tf_u {r : Int → Int} {i v : Int} (h : tfZ r) (hv : v = 0 ∨ v = 1) : tfZ (uZ r i v) := fun k h1 h2 => by
  unfold uZ
  split
  · exact hv
  · exact h k h1 h2
theorem rn_t {par r : Int → Int} {n : Int} (h : tfZ r) : tfZ (rnZ par n r) := fdZ_i tfZ (N := n) (fun c x _ _ hx => by unfold rnF; split; exact tf_u hx (Or.inr rfl); exact hx) h
theorem r0_t {use r : Int → Int} {n : Int} (h : tfZ r) : tfZ (r0Z use n r) := fun k h1 h2 => by
  unfold r0Z
  split
  · exact b2i_01 _
  · exact h k h1 h2
/-- the clocks' depth -/
def ldF (r dee : Int → Int) : Int → Int → Int := fun c x => if r c ≠ 0 then min x (dee c) else x
def ldZ (r dee : Int → Int) (n : Int) : Int := foZ (ldF r dee) 3 n
theorem ld_r {r dee : Int → Int} {n : Int} (hd : rgZ dee 8 3) (h : 0 ≤ n ∧ n ≤ 8) : 0 ≤ ldZ r dee n ∧ ldZ r dee n ≤ 3 := by
  refine foZ_ib (N := 8) (fun _ x => 0 ≤ x ∧ x ≤ 3) (by omega) (fun k x h1 h2 h3 => ?_) h.1 h.2
  have := hd k h1 h2
  unfold ldF
  split <;> omega
/-- jobs -/
def adF (due : Int → Int) (t : Int) : Int → Int → Int := fun j x => if due j ≤ t then 1 else x
def adZ (due : Int → Int) (t n : Int) : Int := foZ (adF due t) 0 n
theorem ad_1 {due : Int → Int} {t n : Int} (h : ∃ k : Int, 0 ≤ k ∧ k < n ∧ due k ≤ t) : adZ due t n = 1 := by
  obtain ⟨k, h1, h2, h3⟩ := h
  exact (foZ_i (k := n) (fun j x => k < j → x = 1) (fun q => by omega) (fun j x q1 q2 q3 => by
    unfold adF
    by_cases e : due j ≤ t
    · rw [if_pos e]
    · rw [if_neg e]
      rcases Int.lt_or_le k j with q | q
      · exact q2 q
      · have : j = k := by omega
        subst this
        exact absurd h3 e) (by omega)) h2
theorem ad_0 {due : Int → Int} {t n : Int} (h : ∀ k : Int, 0 ≤ k → k < n → ¬ due k ≤ t) : adZ due t n = 0 := by
  rcases Int.lt_or_le 0 n with h0 | h0
  · refine foZ_ib (N := n) (fun j x => x = 0) rfl (fun j x q1 q2 q3 => ?_) (by omega) (Int.le_refl _)
    unfold adF
    rw [if_neg (h j q1 q2), q3]
  · exact foZ_n _ _ h0
abbrev tdT : Type := Int × Int × (Int → Int) × (Int → Int) × (Int → Int)
def tdF (t : Int) : Int → tdT → tdT := fun j s => if s.2.2.1 j ≤ t then (s.1 + s.2.2.2.2 j, s.2) else (s.1, s.2.1 + 1, uZ s.2.2.1 s.2.1 (s.2.2.1 j), uZ s.2.2.2.1 s.2.1 (s.2.2.2.1 j), uZ s.2.2.2.2 s.2.1 (s.2.2.2.2 j))
def tdZ (t : Int) (due lat wk : Int → Int) (n : Int) : tdT := foZ (tdF t) (0, 0, due, lat, wk) n
theorem td_y {t : Int} {due lat wk : Int → Int} {k : Int} (h : 0 ≤ k) (h2 : (tdZ t due lat wk k).2.2.1 k ≤ t) : tdZ t due lat wk (k + 1) = ((tdZ t due lat wk k).1 + (tdZ t due lat wk k).2.2.2.2 k, (tdZ t due lat wk k).2) := by
  unfold tdZ at *
  rw [foZ_s _ _ h]
  exact if_pos h2
theorem td_n {t : Int} {due lat wk : Int → Int} {k : Int} (h : 0 ≤ k) (h2 : ¬ (tdZ t due lat wk k).2.2.1 k ≤ t) : tdZ t due lat wk (k + 1) = ((tdZ t due lat wk k).1, (tdZ t due lat wk k).2.1 + 1, uZ (tdZ t due lat wk k).2.2.1 (tdZ t due lat wk k).2.1 ((tdZ t due lat wk k).2.2.1 k), uZ (tdZ t due lat wk k).2.2.2.1 (tdZ t due lat wk k).2.1 ((tdZ t due lat wk k).2.2.2.1 k), uZ (tdZ t due lat wk k).2.2.2.2 (tdZ t due lat wk k).2.1 ((tdZ t due lat wk k).2.2.2.2 k)) := by
  unfold tdZ at *
  rw [foZ_s _ _ h]
  exact if_neg h2
/-- what stays of the jobs: how many, and within which bounds -/
theorem td_r {t : Int} {due lat wk : Int → Int} {k : Int} {M L V : Int} (hd : rgZ due 12 M) (hl : rgZ lat 12 L) (hw : rgZ wk 12 V) (h : 0 ≤ k ∧ k ≤ 12) :
    (0 ≤ (tdZ t due lat wk k).2.1 ∧ (tdZ t due lat wk k).2.1 ≤ k) ∧ (0 ≤ (tdZ t due lat wk k).1 ∧ (tdZ t due lat wk k).1 ≤ k * V) ∧ rgZ (tdZ t due lat wk k).2.2.1 12 M ∧ rgZ (tdZ t due lat wk k).2.2.2.1 12 L ∧ rgZ (tdZ t due lat wk k).2.2.2.2 12 V := by
  refine foZ_ib (N := 12) (fun (k : Int) (s : tdT) => (0 ≤ s.2.1 ∧ s.2.1 ≤ k) ∧ (0 ≤ s.1 ∧ s.1 ≤ k * V) ∧ rgZ s.2.2.1 12 M ∧ rgZ s.2.2.2.1 12 L ∧ rgZ s.2.2.2.2 12 V) ⟨⟨Int.le_refl 0, Int.le_refl 0⟩, ⟨Int.le_refl 0, by show (0 : Int) ≤ 0 * V; omega⟩, hd, hl, hw⟩ (fun k s h1 h2 h3 => ?_) h.1 h.2
  obtain ⟨q1, q2, q3, q4, q5⟩ := h3
  have e1 := q5 k h1 h2
  have e2 : (k + 1) * V = k * V + V := by rw [Int.add_mul, Int.one_mul]
  show (0 ≤ (tdF t k s).2.1 ∧ (tdF t k s).2.1 ≤ k + 1) ∧ (0 ≤ (tdF t k s).1 ∧ (tdF t k s).1 ≤ (k + 1) * V) ∧ rgZ (tdF t k s).2.2.1 12 M ∧ rgZ (tdF t k s).2.2.2.1 12 L ∧ rgZ (tdF t k s).2.2.2.2 12 V
  unfold tdF
  split
  · exact ⟨⟨q1.1, by show s.2.1 ≤ k + 1; omega⟩, ⟨by show 0 ≤ s.1 + _; omega, by show s.1 + _ ≤ _; omega⟩, q3, q4, q5⟩
  · exact ⟨⟨by show 0 ≤ s.2.1 + 1; omega, by show s.2.1 + 1 ≤ k + 1; omega⟩, ⟨q2.1, by show s.1 ≤ _; omega⟩, rgZ_u q3 (q3 k h1 h2), rgZ_u q4 (q4 k h1 h2), rgZ_u q5 e1⟩
def llF (due lat : Int → Int) (wu un : Int) : Int → Int → Int := fun j x => if (due j > wu ∧ lat j < un) ∧ (x = -1 ∨ lat j < x) then lat j else x
def llZ (due lat : Int → Int) (wu un n : Int) : Int := foZ (llF due lat wu un) (-1) n
theorem ll_y {due lat : Int → Int} {wu un k : Int} (h : 0 ≤ k) (h2 : (due k > wu ∧ lat k < un) ∧ (llZ due lat wu un k = -1 ∨ lat k < llZ due lat wu un k)) : llZ due lat wu un (k + 1) = lat k := by
  unfold llZ at *
  rw [foZ_s _ _ h]
  exact if_pos h2
theorem ll_n {due lat : Int → Int} {wu un k : Int} (h : 0 ≤ k) (h2 : ¬ ((due k > wu ∧ lat k < un) ∧ (llZ due lat wu un k = -1 ∨ lat k < llZ due lat wu un k))) : llZ due lat wu un (k + 1) = llZ due lat wu un k := by
  unfold llZ at *
  rw [foZ_s _ _ h]
  exact if_neg h2
theorem ll_r {due lat : Int → Int} {wu un k L : Int} (hl : rgZ lat 12 L) (hL : 0 ≤ L) (h : 0 ≤ k ∧ k ≤ 12) : -1 ≤ llZ due lat wu un k ∧ llZ due lat wu un k ≤ L := by
  refine foZ_ib (N := 12) (fun _ x => -1 ≤ x ∧ x ≤ L) (by omega) (fun k x h1 h2 h3 => ?_) h.1 h.2
  have := hl k h1 h2
  unfold llF
  split <;> omega
def gdF (due lat : Int → Int) (un : Int) : Int → Int → Int := fun j x => if lat j < un then max x (due j) else x
def gdZ (due lat : Int → Int) (un n : Int) : Int := foZ (gdF due lat un) (-1) n
theorem gd_r {due lat : Int → Int} {un k M : Int} (hd : rgZ due 12 M) (hM : 0 ≤ M) (h : 0 ≤ k ∧ k ≤ 12) : -1 ≤ gdZ due lat un k ∧ gdZ due lat un k ≤ M := by
  refine foZ_ib (N := 12) (fun _ x => -1 ≤ x ∧ x ≤ M) (by omega) (fun k x h1 h2 h3 => ?_) h.1 h.2
  have := hd k h1 h2
  unfold gdF
  split <;> omega
/-- idle times -/
def idF (len : Int → Int) : Int → Int → Int := fun j x => x + len j
def suZ (len : Int → Int) (n : Int) : Int := foZ (idF len) 0 n
def meZ (len : Int → Int) (n : Int) : Int := if n ≤ 0 then 1000000000 else suZ len n / n
theorem su_r {len : Int → Int} {n M : Int} (hM : 0 ≤ M) (hl : rgZ len 4 M) (h : 0 ≤ n ∧ n ≤ 4) : 0 ≤ suZ len n ∧ suZ len n ≤ n * M := by
  refine foZ_ib (N := 4) (fun k x => 0 ≤ x ∧ x ≤ k * M) (by omega) (fun k x h1 h2 h3 => ?_) h.1 h.2
  have := hl k h1 h2
  have e : (k + 1) * M = k * M + M := by rw [Int.add_mul, Int.one_mul]
  show 0 ≤ x + len k ∧ x + len k ≤ _
  omega
theorem me_r {len : Int → Int} {n : Int} (hl : rgZ len 4 1000000) (h : 0 ≤ n ∧ n ≤ 4) : 0 ≤ meZ len n ∧ meZ len n ≤ 1000000000 := by
  have h1 := su_r (by omega) hl h
  unfold meZ
  split
  · omega
  · have h2 := dv_r h1.1 (show 0 < n by omega)
    omega
def reZ (len : Int → Int) (x : Int) : Int → Int := uZ (uZ (uZ (uZ len 3 (len 2)) 2 (uZ len 3 (len 2) 1)) 1 (uZ (uZ len 3 (len 2)) 2 (uZ len 3 (len 2) 1) 0)) 0 x
/-- the battery -/
def flZ (av bd : Int) : Int := if (bd / 2 - av) / 16 < 0 then -(min (-((bd / 2 - av) / 16)) (min av (100000 - bd))) else min ((bd / 2 - av) / 16) (min bd (50000 - av))
def avZ (av h used : Int) : Int := max 0 (min (av + h - used) 50000)

def rmX7_isWithin : Room := { frames := 0, cells := 0, slots := 0, locals := 0 }
set_option maxRecDepth 100000 in
set_option maxHeartbeats 4000000 in
theorem kX7_isWithin (l : Launch) (dC : Nat → ClassId) (dI : Nat → Nat → Nat) (cI cJ cZ : ClassId)   (a0 a1 a2 : Int) (h0 : zR a0) (h1 : zR a1) (h2 : zR a2) : zPi l yX7_isWithin wsX7_isWithin rmX7_isWithin (dC, dI) (zT cI cJ cZ) (wNO cI cJ cZ ) [.int (iI a0), .int (iI a1), .int (iI a2)] (b2i (a1 ≤ a0 ∧ a0 ≤ a2)) := by
  refine zent_pi (cc := cX7_isWithin) (maxL := 3) (ret := (some .boolean)) (by decide +kernel) rfl (Nat.le_of_ble_eq_true rfl) ?_
  intro p e s m below meth c ls hE hP hK hl
  obtain ⟨hx, hb, hr, hml, hown, hts, hlocks, hmn⟩ := hE
  have hl : lv_has ls 3 [(0, .int (iI a0)), (1, .int (iI a1)), (2, .int (iI a2))] := hl
  refine z_gen (fun Q hQ => ?_)
  refine lv_iload_n hx hb dX7_isWithin_0 rfl (lv_at hl 0 rfl) ?_
  refine lv_iload_n hx hb dX7_isWithin_1 rfl (lv_at hl 1 rfl) ?_
  refine zi_clt (tgt := 14) hx hb (by omega) (by omega) dX7_isWithin_2 (by decide) (fun c_1 => ?_) (fun c_1 => ?_)
  · skip
    refine lv_iconst (v := iI 0) hx hb dX7_isWithin_14 rfl ?_
    subst hQ
    exact zret_pz hx hb hr hlocks dX7_isWithin_15 (by first | decide | omega) (by first | exact (b2i_t ⟨by omega, by omega⟩).symm | exact (b2i_f (by omega)).symm)
  · skip
    refine lv_iload_n hx hb dX7_isWithin_5 rfl (lv_at hl 0 rfl) ?_
    refine lv_iload_n hx hb dX7_isWithin_6 rfl (lv_at hl 2 rfl) ?_
    refine zi_cgt (tgt := 14) hx hb (by omega) (by omega) dX7_isWithin_7 (by decide) (fun c_2 => ?_) (fun c_2 => ?_)
    · skip
      refine lv_iconst (v := iI 0) hx hb dX7_isWithin_14 rfl ?_
      subst hQ
      exact zret_pz hx hb hr hlocks dX7_isWithin_15 (by first | decide | omega) (by first | exact (b2i_t ⟨by omega, by omega⟩).symm | exact (b2i_f (by omega)).symm)
    · skip
      refine lv_iconst (v := iI 1) hx hb dX7_isWithin_10 rfl ?_
      refine lv_goto (tgt := 15) hx hb dX7_isWithin_11 (by decide) ?_
      subst hQ
      exact zret_pz hx hb hr hlocks dX7_isWithin_15 (by first | decide | omega) (by first | exact (b2i_t ⟨by omega, by omega⟩).symm | exact (b2i_f (by omega)).symm)
def rmX7_read : Room := { frames := 0, cells := 0, slots := 0, locals := 0 }
set_option maxRecDepth 100000 in
set_option maxHeartbeats 4000000 in
theorem kX7_read (l : Launch) (dC : Nat → ClassId) (dI : Nat → Nat → Nat) (cI cJ cZ : ClassId) (h0 : Nat) (n : Nat) (f : Int → Int) (i : Int) (hi : zR i) (hn : n ≤ 1000) : zPi l yX7_read wsX7_read rmX7_read (dC, dI) (zT cI cJ cZ) (wRD cI cJ cZ h0 n f) [.ref h0, .int (iI i)] (rdZ f n i) := by
  refine zent_pi (cc := cX7_read) (maxL := 2) (ret := (some .int)) (by decide +kernel) rfl (Nat.le_of_ble_eq_true rfl) ?_
  intro p e s m below meth c ls hE hP hK hl
  obtain ⟨hx, hb, hr, hml, hown, hts, hlocks, hmn⟩ := hE
  have hl : lv_has ls 2 [(0, .ref h0), (1, .int (iI i))] := hl
  refine z_gen (fun Q hQ => ?_)
  refine lv_iload_n hx hb dX7_read_0 rfl (lv_at hl 1 rfl) ?_
  refine zi_flt (tgt := 16) hx hb (by omega) dX7_read_1 (by decide) (fun c_1 => ?_) (fun c_1 => ?_)
  · skip
    refine lv_iconst (v := iI 0) hx hb dX7_read_16 rfl ?_
    subst hQ
    exact zret_pi hx hb hr hlocks dX7_read_17 (by first | exact (if_pos (by omega)).symm | exact (if_neg (by omega)).symm)
  · skip
    refine lv_iload_n hx hb dX7_read_4 rfl (lv_at hl 1 rfl) ?_
    refine lv_aload_n hx hb dX7_read_5 rfl (lv_at hl 0 rfl) ?_
    refine za_len hx hb hK hP 0 0 rfl rfl dX7_read_6 ?_
    refine zi_cge (tgt := 16) hx hb (by omega) (by omega) dX7_read_7 (by decide) (fun c_2 => ?_) (fun c_2 => ?_)
    · skip
      refine lv_iconst (v := iI 0) hx hb dX7_read_16 rfl ?_
      subst hQ
      exact zret_pi hx hb hr hlocks dX7_read_17 (by first | exact (if_pos (by omega)).symm | exact (if_neg (by omega)).symm)
    · skip
      refine lv_aload_n hx hb dX7_read_10 rfl (lv_at hl 0 rfl) ?_
      refine lv_iload_n hx hb dX7_read_11 rfl (lv_at hl 1 rfl) ?_
      refine za_ld hx hb hK hP 0 0 rfl rfl (by omega) (by omega) dX7_read_12 ?_
      refine lv_goto (tgt := 17) hx hb dX7_read_13 (by decide) ?_
      subst hQ
      exact zret_pi hx hb hr hlocks dX7_read_17 (by first | exact (if_pos (by omega)).symm | exact (if_neg (by omega)).symm)
def rmX7_exchange : Room := { frames := 0, cells := 0, slots := 0, locals := 0 }
set_option maxRecDepth 100000 in
set_option maxHeartbeats 4000000 in
theorem kX7_exchange (l : Launch) (dC : Nat → ClassId) (dI : Nat → Nat → Nat) (cI cJ cZ : ClassId) (h0 : Nat) (n : Nat) (f : Int → Int) (i x : Int) (hi : zR i) (hn : n ≤ 1000) : zMi l yX7_exchange wsX7_exchange rmX7_exchange (dC, dI) (zT cI cJ cZ) (wRD cI cJ cZ h0 n f) [.ref h0, .int (iI i), .int (iI x)] (fun (r9 : Int) (_ : Unit) => r9 = rdZ f n i) (fun _ : Unit => wRD cI cJ cZ h0 n (exZ f n i x)) 0 0 := by
  refine zent_i (cc := cX7_exchange) (maxL := 4) (ret := (some .int)) (by decide +kernel) rfl (Nat.le_of_ble_eq_true rfl) ?_
  intro p e s m below meth c A ls hE hP hK hA hD hS hl
  obtain ⟨hx, hb, hr, hml, hown, hts, hlocks, hmn⟩ := hE
  have hl : lv_has ls 4 [(0, .ref h0), (1, .int (iI i)), (2, .int (iI x))] := hl
  refine z_gen (fun Q hQ => ?_)
  refine lv_iload_n hx hb dX7_exchange_0 rfl (lv_at hl 1 rfl) ?_
  refine zi_flt (tgt := 10) hx hb (by omega) dX7_exchange_1 (by decide) (fun c_1 => ?_) (fun c_1 => ?_)
  · skip
    refine lv_iconst (v := iI 0) hx hb dX7_exchange_10 rfl ?_
    subst hQ
    have w_2 : (exZ f n i x) = f := by first | exact if_pos (by omega) | exact if_neg (by omega)
    have hP : va_P (dC, dI) vwCl (wRD cI cJ cZ h0 n (exZ f n i x)) s.heap := by rw [w_2]; exact hP
    have hD : va_D A (wRD cI cJ cZ h0 n (exZ f n i x)) := by rw [w_2]; exact hD
    exact zret_i (W1 := fun _ : Unit => wRD cI cJ cZ h0 n (exZ f n i x)) () hx hb hr hP hD hS hlocks dX7_exchange_11 (by first | exact (if_pos (by omega)).symm | exact (if_neg (by omega)).symm)
  · skip
    refine lv_iload_n hx hb dX7_exchange_4 rfl (lv_at hl 1 rfl) ?_
    refine lv_aload_n hx hb dX7_exchange_5 rfl (lv_at hl 0 rfl) ?_
    refine za_len hx hb hK hP 0 0 rfl rfl dX7_exchange_6 ?_
    refine zi_clt (tgt := 12) hx hb (by omega) (by omega) dX7_exchange_7 (by decide) (fun c_3 => ?_) (fun c_3 => ?_)
    · skip
      refine lv_aload_n hx hb dX7_exchange_12 rfl (lv_at hl 0 rfl) ?_
      refine lv_iload_n hx hb dX7_exchange_13 rfl (lv_at hl 1 rfl) ?_
      refine za_ld hx hb hK hP 0 0 rfl rfl (by omega) (by omega) dX7_exchange_14 ?_
      refine lv_istore_n (lv' := [(3, .int (iI (f i))), (0, .ref h0), (1, .int (iI i)), (2, .int (iI x))]) hx hb dX7_exchange_15 rfl hl (by decide) rfl (fun ls hl => ?_)
      refine lv_aload_n hx hb dX7_exchange_16 rfl (lv_at hl 1 rfl) ?_
      refine lv_iload_n hx hb dX7_exchange_17 rfl (lv_at hl 2 rfl) ?_
      refine lv_iload_n hx hb dX7_exchange_18 rfl (lv_at hl 3 rfl) ?_
      refine za_st hx hb hK hP hD hS 0 0 rfl rfl (by omega) (by omega) dX7_exchange_19 (fun H locs hP hD hS => ?_)
      have hP : va_P (dC, dI) vwCl (wRD cI cJ cZ h0 n (uZ f i x)) H := hP
      have hD : va_D A (wRD cI cJ cZ h0 n (uZ f i x)) := hD
      refine lv_iload_n hx hb dX7_exchange_20 rfl (lv_at hl 0 rfl) ?_
      subst hQ
      have w_4 : (exZ f n i x) = (uZ f i x) := by first | exact if_pos (by omega) | exact if_neg (by omega)
      have hP : va_P (dC, dI) vwCl (wRD cI cJ cZ h0 n (exZ f n i x)) H := by rw [w_4]; exact hP
      have hD : va_D A (wRD cI cJ cZ h0 n (exZ f n i x)) := by rw [w_4]; exact hD
      exact zret_i (W1 := fun _ : Unit => wRD cI cJ cZ h0 n (exZ f n i x)) () hx hb hr hP hD hS hlocks dX7_exchange_21 (by first | exact (if_pos (by omega)).symm | exact (if_neg (by omega)).symm)
    · skip
      refine lv_iconst (v := iI 0) hx hb dX7_exchange_10 rfl ?_
      subst hQ
      have w_5 : (exZ f n i x) = f := by first | exact if_pos (by omega) | exact if_neg (by omega)
      have hP : va_P (dC, dI) vwCl (wRD cI cJ cZ h0 n (exZ f n i x)) s.heap := by rw [w_5]; exact hP
      have hD : va_D A (wRD cI cJ cZ h0 n (exZ f n i x)) := by rw [w_5]; exact hD
      exact zret_i (W1 := fun _ : Unit => wRD cI cJ cZ h0 n (exZ f n i x)) () hx hb hr hP hD hS hlocks dX7_exchange_11 (by first | exact (if_pos (by omega)).symm | exact (if_neg (by omega)).symm)
def rmJ9_floorDiv_7cf53 : Room := { frames := 0, cells := 0, slots := 0, locals := 0 }
set_option maxRecDepth 100000 in
set_option maxHeartbeats 4000000 in
theorem kJ9_floorDiv_7cf53 (l : Launch) (dC : Nat → ClassId) (dI : Nat → Nat → Nat) (cI cJ cZ : ClassId)   (x y : Int) (hx0 : zR x) (hy : 0 < y ∧ y ≤ 1000) : zPi l yJ9_floorDiv_7cf53 wsJ9_floorDiv_7cf53 rmJ9_floorDiv_7cf53 (dC, dI) (zT cI cJ cZ) (wNO cI cJ cZ ) [.int (iI x), .int (iI y)] (x / y) := by
  refine zent_pi (cc := cJ9_floorDiv_7cf53) (maxL := 3) (ret := (some .int)) (by decide +kernel) rfl (Nat.le_of_ble_eq_true rfl) ?_
  intro p e s m below meth c ls hE hP hK hl
  obtain ⟨hx, hb, hr, hml, hown, hts, hlocks, hmn⟩ := hE
  have hl : lv_has ls 3 [(0, .int (iI x)), (1, .int (iI y))] := hl
  refine z_gen (fun Q hQ => ?_)
  refine lv_iload_n hx hb dJ9_floorDiv_7cf53_0 rfl (lv_at hl 0 rfl) ?_
  refine lv_iload_n hx hb dJ9_floorDiv_7cf53_1 rfl (lv_at hl 1 rfl) ?_
  refine zi_tdiv hx hb (by omega) (by omega) (by omega) (by omega) dJ9_floorDiv_7cf53_2 ?_
  refine lv_istore_n (lv' := [(2, .int (iI (x.tdiv y))), (0, .int (iI x)), (1, .int (iI y))]) hx hb dJ9_floorDiv_7cf53_3 rfl hl (by decide) rfl (fun ls hl => ?_)
  refine lv_iload_n hx hb dJ9_floorDiv_7cf53_4 rfl (lv_at hl 1 rfl) ?_
  refine lv_iload_n hx hb dJ9_floorDiv_7cf53_5 rfl (lv_at hl 2 rfl) ?_
  refine zi_xge (tgt := 21) hx hb (by omega) (by omega) dJ9_floorDiv_7cf53_6 dJ9_floorDiv_7cf53_7 (by decide) (fun c_1 => ?_) (fun c_1 => ?_)
  · skip
    refine lv_iload_n hx hb dJ9_floorDiv_7cf53_21 rfl (lv_at hl 0 rfl) ?_
    subst hQ
    exact zret_pi hx hb hr hlocks dJ9_floorDiv_7cf53_22 (by first | exact Int.tdiv_eq_ediv_of_nonneg (by assumption) | exact z_fd2 hy.1 (by assumption))
  · skip
    refine lv_iload_n hx hb dJ9_floorDiv_7cf53_10 rfl (lv_at hl 0 rfl) ?_
    refine lv_iload_n hx hb dJ9_floorDiv_7cf53_11 rfl (lv_at hl 2 rfl) ?_
    refine zi_mul hx hb dJ9_floorDiv_7cf53_12 ?_
    have hq : -2147483648 ≤ ((x.tdiv y) * y) ∧ ((x.tdiv y) * y) ≤ 0 := by have := z_tm (x := x) (y := y) hy.1 (by assumption); omega
    refine lv_iload_n hx hb dJ9_floorDiv_7cf53_13 rfl (lv_at hl 1 rfl) ?_
    refine zi_ceq (tgt := 21) hx hb (by omega) (by omega) dJ9_floorDiv_7cf53_14 (by decide) (fun c_2 => ?_) (fun c_2 => ?_)
    · skip
      refine lv_iload_n hx hb dJ9_floorDiv_7cf53_21 rfl (lv_at hl 0 rfl) ?_
      subst hQ
      exact zret_pi hx hb hr hlocks dJ9_floorDiv_7cf53_22 (by first | exact Int.tdiv_eq_ediv_of_nonneg (by assumption) | exact z_fd2 hy.1 (by assumption))
    · skip
      refine lv_iload_n hx hb dJ9_floorDiv_7cf53_17 rfl (lv_at hl 0 rfl) ?_
      refine lv_iconst (v := iI 1) hx hb dJ9_floorDiv_7cf53_18 rfl ?_
      refine zi_sub hx hb dJ9_floorDiv_7cf53_19 ?_
      subst hQ
      exact zret_pi hx hb hr hlocks dJ9_floorDiv_7cf53_20 (by exact z_fd1 hy.1 (by assumption) (by omega))
def rmJ9_floorMod_7cf53 : Room := { frames := 0, cells := 0, slots := 0, locals := 0 }
set_option maxRecDepth 100000 in
set_option maxHeartbeats 4000000 in
theorem kJ9_floorMod_7cf53 (l : Launch) (dC : Nat → ClassId) (dI : Nat → Nat → Nat) (cI cJ cZ : ClassId)   (x y : Int) (hx0 : 0 ≤ x ∧ x ≤ 2147483647) (hy : 0 < y ∧ y ≤ 1000) : zPi l yJ9_floorMod_7cf53 wsJ9_floorMod_7cf53 rmJ9_floorMod_7cf53 (dC, dI) (zT cI cJ cZ) (wNO cI cJ cZ ) [.int (iI x), .int (iI y)] (x % y) := by
  refine zent_pi (cc := cJ9_floorMod_7cf53) (maxL := 3) (ret := (some .int)) (by decide +kernel) rfl (Nat.le_of_ble_eq_true rfl) ?_
  intro p e s m below meth c ls hE hP hK hl
  obtain ⟨hx, hb, hr, hml, hown, hts, hlocks, hmn⟩ := hE
  have hl : lv_has ls 3 [(0, .int (iI x)), (1, .int (iI y))] := hl
  refine z_gen (fun Q hQ => ?_)
  refine lv_iload_n hx hb dJ9_floorMod_7cf53_0 rfl (lv_at hl 0 rfl) ?_
  refine lv_iload_n hx hb dJ9_floorMod_7cf53_1 rfl (lv_at hl 1 rfl) ?_
  refine zi_rem hx hb (by omega) (by omega) dJ9_floorMod_7cf53_2 ?_
  refine lv_istore_n (lv' := [(2, .int (iI (x % y))), (0, .int (iI x)), (1, .int (iI y))]) hx hb dJ9_floorMod_7cf53_3 rfl hl (by decide) rfl (fun ls hl => ?_)
  refine lv_iload_n hx hb dJ9_floorMod_7cf53_4 rfl (lv_at hl 1 rfl) ?_
  refine lv_iload_n hx hb dJ9_floorMod_7cf53_5 rfl (lv_at hl 2 rfl) ?_
  refine zi_xge (tgt := 18) hx hb (by omega) (by omega) dJ9_floorMod_7cf53_6 dJ9_floorMod_7cf53_7 (by decide) (fun c_1 => ?_) (fun c_1 => ?_)
  · skip
    refine lv_iload_n hx hb dJ9_floorMod_7cf53_18 rfl (lv_at hl 0 rfl) ?_
    subst hQ
    exact zret_pi hx hb hr hlocks dJ9_floorMod_7cf53_19 (by rfl)
  · skip
    exact absurd c_1 (by omega)
def rmX6_powerOf : Room := { frames := 1, cells := 0, slots := 0, locals := 21 }
set_option maxRecDepth 100000 in
set_option maxHeartbeats 4000000 in
theorem kX6_powerOf (l : Launch) (dC : Nat → ClassId) (dI : Nat → Nat → Nat) (cI cJ cZ : ClassId) (h0 h1 h2 h3 : Nat)  (pw : Int → Int) (co : Int → Int) (la : Int → Int) (st : Int) (hst : 0 ≤ st ∧ st ≤ 3) : zPi l yX6_powerOf wsX6_powerOf rmX6_powerOf (dC, dI) (zT cI cJ cZ) (wSt cI cJ cZ h0 h1 h2 h3 pw co la) [.ref h0, .int (iI st)] (pw st) := by
  refine zent_pi (cc := cX6_powerOf) (maxL := 2) (ret := (some .int)) (by decide +kernel) rfl (Nat.le_of_ble_eq_true rfl) ?_
  intro p e s m below meth c ls hE hP hK hl
  obtain ⟨hx, hb, hr, hml, hown, hts, hlocks, hmn⟩ := hE
  have hinX6 : ∀ w ∈ u_ws RX6 TX6 3, w ∈ wsX6_powerOf := by decide +kernel
  have hl : lv_has ls 2 [(0, .ref h0), (1, .int (iI st))] := hl
  refine z_gen (fun Q hQ => ?_)
  refine lv_aload_n hx hb dX6_powerOf_0 rfl (lv_at hl 0 rfl) ?_
  refine va_get (D := (dC, dI)) (ci := 6) (v := .ref h1) (C := RX6) (T := TX6) (N := 3) hx hb hts hinX6 hown hK.1 hP 0 rfl rfl 0 (by decide) (hts _ (List.mem_of_getElem? (i := 1) rfl)) (fun _ h9 => h9) rfl dX6_powerOf_1 ?_
  refine lv_iload_n hx hb dX6_powerOf_4 rfl (lv_at hl 1 rfl) ?_
  refine zc_pi (va_runSN (As := [.ref h1, .int (iI st)]) (rest := []) ⟨hx, hb, hml, hown, hts⟩ (kX7_read l dC dI cI cJ cZ h1 4 pw st (by first | assumption | omega | exact b2i_01 _) (by first | assumption | omega | exact b2i_01 _)) ⟨va_cnB 2 hts gX6_powerOf_X7_read_n25 rfl rfl rfl (hK.2.2 _ (List.mem_of_getElem? (i := 6) rfl)) (hts _ (List.mem_of_getElem? (i := 3) rfl)) (by decide +kernel) ⟨Nat.le_of_ble_eq_true rfl, Nat.le_of_ble_eq_true rfl⟩, (hts _ (List.mem_of_getElem? (i := 2) rfl)), trivial⟩ (zqS hK hP [1] rfl) rfl rfl hl.1 rfl (lv_room (Nat.le_of_ble_eq_true rfl)) dX6_powerOf_5 ⟨Nat.le_of_ble_eq_true rfl, Nat.le_of_ble_eq_true rfl⟩) ?_
  subst hQ
  exact zret_pi hx hb hr hlocks dX6_powerOf_8 (by exact if_pos (by omega))
def rmX6_costOf : Room := { frames := 1, cells := 0, slots := 0, locals := 21 }
set_option maxRecDepth 100000 in
set_option maxHeartbeats 4000000 in
theorem kX6_costOf (l : Launch) (dC : Nat → ClassId) (dI : Nat → Nat → Nat) (cI cJ cZ : ClassId) (h0 h1 h2 h3 : Nat)  (pw : Int → Int) (co : Int → Int) (la : Int → Int) (st : Int) (hst : 0 ≤ st ∧ st ≤ 3) : zPi l yX6_costOf wsX6_costOf rmX6_costOf (dC, dI) (zT cI cJ cZ) (wSt cI cJ cZ h0 h1 h2 h3 pw co la) [.ref h0, .int (iI st)] (co st) := by
  refine zent_pi (cc := cX6_costOf) (maxL := 2) (ret := (some .int)) (by decide +kernel) rfl (Nat.le_of_ble_eq_true rfl) ?_
  intro p e s m below meth c ls hE hP hK hl
  obtain ⟨hx, hb, hr, hml, hown, hts, hlocks, hmn⟩ := hE
  have hinX6 : ∀ w ∈ u_ws RX6 TX6 3, w ∈ wsX6_costOf := by decide +kernel
  have hl : lv_has ls 2 [(0, .ref h0), (1, .int (iI st))] := hl
  refine z_gen (fun Q hQ => ?_)
  refine lv_aload_n hx hb dX6_costOf_0 rfl (lv_at hl 0 rfl) ?_
  refine va_get (D := (dC, dI)) (ci := 6) (v := .ref h2) (C := RX6) (T := TX6) (N := 3) hx hb hts hinX6 hown hK.1 hP 0 rfl rfl 1 (by decide) (hts _ (List.mem_of_getElem? (i := 1) rfl)) (fun _ h9 => h9) rfl dX6_costOf_1 ?_
  refine lv_iload_n hx hb dX6_costOf_4 rfl (lv_at hl 1 rfl) ?_
  refine zc_pi (va_runSN (As := [.ref h2, .int (iI st)]) (rest := []) ⟨hx, hb, hml, hown, hts⟩ (kX7_read l dC dI cI cJ cZ h2 4 co st (by first | assumption | omega | exact b2i_01 _) (by first | assumption | omega | exact b2i_01 _)) ⟨va_cnB 2 hts gX6_costOf_X7_read_n25 rfl rfl rfl (hK.2.2 _ (List.mem_of_getElem? (i := 6) rfl)) (hts _ (List.mem_of_getElem? (i := 3) rfl)) (by decide +kernel) ⟨Nat.le_of_ble_eq_true rfl, Nat.le_of_ble_eq_true rfl⟩, (hts _ (List.mem_of_getElem? (i := 2) rfl)), trivial⟩ (zqS hK hP [2] rfl) rfl rfl hl.1 rfl (lv_room (Nat.le_of_ble_eq_true rfl)) dX6_costOf_5 ⟨Nat.le_of_ble_eq_true rfl, Nat.le_of_ble_eq_true rfl⟩) ?_
  subst hQ
  exact zret_pi hx hb hr hlocks dX6_costOf_8 (by exact if_pos (by omega))
def rmX6_latencyOf : Room := { frames := 1, cells := 0, slots := 0, locals := 21 }
set_option maxRecDepth 100000 in
set_option maxHeartbeats 4000000 in
theorem kX6_latencyOf (l : Launch) (dC : Nat → ClassId) (dI : Nat → Nat → Nat) (cI cJ cZ : ClassId) (h0 h1 h2 h3 : Nat)  (pw : Int → Int) (co : Int → Int) (la : Int → Int) (st : Int) (hst : 0 ≤ st ∧ st ≤ 3) : zPi l yX6_latencyOf wsX6_latencyOf rmX6_latencyOf (dC, dI) (zT cI cJ cZ) (wSt cI cJ cZ h0 h1 h2 h3 pw co la) [.ref h0, .int (iI st)] (la st) := by
  refine zent_pi (cc := cX6_latencyOf) (maxL := 2) (ret := (some .int)) (by decide +kernel) rfl (Nat.le_of_ble_eq_true rfl) ?_
  intro p e s m below meth c ls hE hP hK hl
  obtain ⟨hx, hb, hr, hml, hown, hts, hlocks, hmn⟩ := hE
  have hinX6 : ∀ w ∈ u_ws RX6 TX6 3, w ∈ wsX6_latencyOf := by decide +kernel
  have hl : lv_has ls 2 [(0, .ref h0), (1, .int (iI st))] := hl
  refine z_gen (fun Q hQ => ?_)
  refine lv_aload_n hx hb dX6_latencyOf_0 rfl (lv_at hl 0 rfl) ?_
  refine va_get (D := (dC, dI)) (ci := 6) (v := .ref h3) (C := RX6) (T := TX6) (N := 3) hx hb hts hinX6 hown hK.1 hP 0 rfl rfl 2 (by decide) (hts _ (List.mem_of_getElem? (i := 1) rfl)) (fun _ h9 => h9) rfl dX6_latencyOf_1 ?_
  refine lv_iload_n hx hb dX6_latencyOf_4 rfl (lv_at hl 1 rfl) ?_
  refine zc_pi (va_runSN (As := [.ref h3, .int (iI st)]) (rest := []) ⟨hx, hb, hml, hown, hts⟩ (kX7_read l dC dI cI cJ cZ h3 4 la st (by first | assumption | omega | exact b2i_01 _) (by first | assumption | omega | exact b2i_01 _)) ⟨va_cnB 2 hts gX6_latencyOf_X7_read_n25 rfl rfl rfl (hK.2.2 _ (List.mem_of_getElem? (i := 6) rfl)) (hts _ (List.mem_of_getElem? (i := 3) rfl)) (by decide +kernel) ⟨Nat.le_of_ble_eq_true rfl, Nat.le_of_ble_eq_true rfl⟩, (hts _ (List.mem_of_getElem? (i := 2) rfl)), trivial⟩ (zqS hK hP [3] rfl) rfl rfl hl.1 rfl (lv_room (Nat.le_of_ble_eq_true rfl)) dX6_latencyOf_5 ⟨Nat.le_of_ble_eq_true rfl, Nat.le_of_ble_eq_true rfl⟩) ?_
  subst hQ
  exact zret_pi hx hb hr hlocks dX6_latencyOf_8 (by exact if_pos (by omega))
def rmX6_wakingCost : Room := { frames := 2, cells := 0, slots := 0, locals := 42 }
set_option maxRecDepth 100000 in
set_option maxHeartbeats 4000000 in
theorem kX6_wakingCost (l : Launch) (dC : Nat → ClassId) (dI : Nat → Nat → Nat) (cI cJ cZ : ClassId) (h0 h1 h2 h3 : Nat)  (pw : Int → Int) (co : Int → Int) (la : Int → Int) (st : Int) (hst : 0 ≤ st ∧ st ≤ 3) : zPi l yX6_wakingCost wsX6_wakingCost rmX6_wakingCost (dC, dI) (zT cI cJ cZ) (wSt cI cJ cZ h0 h1 h2 h3 pw co la) [.ref h0, .int (iI st)] (pw 0 * la st) := by
  refine zent_pi (cc := cX6_wakingCost) (maxL := 2) (ret := (some .int)) (by decide +kernel) rfl (Nat.le_of_ble_eq_true rfl) ?_
  intro p e s m below meth c ls hE hP hK hl
  obtain ⟨hx, hb, hr, hml, hown, hts, hlocks, hmn⟩ := hE
  have hinX6 : ∀ w ∈ u_ws RX6 TX6 3, w ∈ wsX6_wakingCost := by decide +kernel
  have hl : lv_has ls 2 [(0, .ref h0), (1, .int (iI st))] := hl
  refine z_gen (fun Q hQ => ?_)
  refine lv_aload_n hx hb dX6_wakingCost_0 rfl (lv_at hl 0 rfl) ?_
  refine lv_iconst (v := iI 0) hx hb dX6_wakingCost_1 rfl ?_
  refine zc_pi (va_runV (As := [.int (iI 0)]) (rest := []) ⟨hx, hb, hml, hown, hts⟩ (kX6_powerOf l dC dI cI cJ cZ h0 h1 h2 h3 pw co la 0 (by first | assumption | omega | exact b2i_01 _)) (cwV 1 hts gX6_wakingCost_X6_powerOf rfl rfl rfl (by decide +kernel) ⟨Nat.le_of_ble_eq_true rfl, Nat.le_of_ble_eq_true rfl⟩) (zqV hK hP [0, 1, 2, 3] rfl 0 rfl rfl) rfl rfl hl.1 rfl (lv_room (Nat.le_of_ble_eq_true rfl)) dX6_wakingCost_2 ⟨Nat.le_of_ble_eq_true rfl, Nat.le_of_ble_eq_true rfl⟩) ?_
  refine lv_aload_n hx hb dX6_wakingCost_5 rfl (lv_at hl 0 rfl) ?_
  refine lv_iload_n hx hb dX6_wakingCost_6 rfl (lv_at hl 1 rfl) ?_
  refine zc_pi (va_runV (As := [.int (iI st)]) (rest := [.int (iI (pw 0))]) ⟨hx, hb, hml, hown, hts⟩ (kX6_latencyOf l dC dI cI cJ cZ h0 h1 h2 h3 pw co la st (by first | assumption | omega | exact b2i_01 _)) (cwV 1 hts gX6_wakingCost_X6_latencyOf rfl rfl rfl (by decide +kernel) ⟨Nat.le_of_ble_eq_true rfl, Nat.le_of_ble_eq_true rfl⟩) (zqV hK hP [0, 1, 2, 3] rfl 0 rfl rfl) rfl rfl hl.1 rfl (lv_room (Nat.le_of_ble_eq_true rfl)) dX6_wakingCost_7 ⟨Nat.le_of_ble_eq_true rfl, Nat.le_of_ble_eq_true rfl⟩) ?_
  refine zi_mul hx hb dX6_wakingCost_10 ?_
  subst hQ
  exact zret_pi hx hb hr hlocks dX6_wakingCost_11 (by rfl)
def rmX6_idleCost : Room := { frames := 3, cells := 0, slots := 0, locals := 63 }
set_option maxRecDepth 100000 in
set_option maxHeartbeats 4000000 in
theorem kX6_idleCost (l : Launch) (dC : Nat → ClassId) (dI : Nat → Nat → Nat) (cI cJ cZ : ClassId) (h0 h1 h2 h3 : Nat)  (pw : Int → Int) (co : Int → Int) (la : Int → Int) (st n : Int) (hst : 0 ≤ st ∧ st ≤ 3) : zPi l yX6_idleCost wsX6_idleCost rmX6_idleCost (dC, dI) (zT cI cJ cZ) (wSt cI cJ cZ h0 h1 h2 h3 pw co la) [.ref h0, .int (iI st), .int (iI n)] (icZ pw co la st n) := by
  refine zent_pi (cc := cX6_idleCost) (maxL := 3) (ret := (some .int)) (by decide +kernel) rfl (Nat.le_of_ble_eq_true rfl) ?_
  intro p e s m below meth c ls hE hP hK hl
  obtain ⟨hx, hb, hr, hml, hown, hts, hlocks, hmn⟩ := hE
  have hinX6 : ∀ w ∈ u_ws RX6 TX6 3, w ∈ wsX6_idleCost := by decide +kernel
  have hl : lv_has ls 3 [(0, .ref h0), (1, .int (iI st)), (2, .int (iI n))] := hl
  refine z_gen (fun Q hQ => ?_)
  refine lv_aload_n hx hb dX6_idleCost_0 rfl (lv_at hl 0 rfl) ?_
  refine lv_iload_n hx hb dX6_idleCost_1 rfl (lv_at hl 1 rfl) ?_
  refine zc_pi (va_runV (As := [.int (iI st)]) (rest := []) ⟨hx, hb, hml, hown, hts⟩ (kX6_costOf l dC dI cI cJ cZ h0 h1 h2 h3 pw co la st (by first | assumption | omega | exact b2i_01 _)) (cwV 1 hts gX6_idleCost_X6_costOf rfl rfl rfl (by decide +kernel) ⟨Nat.le_of_ble_eq_true rfl, Nat.le_of_ble_eq_true rfl⟩) (zqV hK hP [0, 1, 2, 3] rfl 0 rfl rfl) rfl rfl hl.1 rfl (lv_room (Nat.le_of_ble_eq_true rfl)) dX6_idleCost_2 ⟨Nat.le_of_ble_eq_true rfl, Nat.le_of_ble_eq_true rfl⟩) ?_
  refine lv_aload_n hx hb dX6_idleCost_5 rfl (lv_at hl 0 rfl) ?_
  refine lv_iload_n hx hb dX6_idleCost_6 rfl (lv_at hl 1 rfl) ?_
  refine zc_pi (va_runV (As := [.int (iI st)]) (rest := [.int (iI (co st))]) ⟨hx, hb, hml, hown, hts⟩ (kX6_powerOf l dC dI cI cJ cZ h0 h1 h2 h3 pw co la st (by first | assumption | omega | exact b2i_01 _)) (cwV 1 hts gX6_idleCost_X6_powerOf rfl rfl rfl (by decide +kernel) ⟨Nat.le_of_ble_eq_true rfl, Nat.le_of_ble_eq_true rfl⟩) (zqV hK hP [0, 1, 2, 3] rfl 0 rfl rfl) rfl rfl hl.1 rfl (lv_room (Nat.le_of_ble_eq_true rfl)) dX6_idleCost_7 ⟨Nat.le_of_ble_eq_true rfl, Nat.le_of_ble_eq_true rfl⟩) ?_
  refine lv_iload_n hx hb dX6_idleCost_10 rfl (lv_at hl 2 rfl) ?_
  refine lv_aload_n hx hb dX6_idleCost_11 rfl (lv_at hl 0 rfl) ?_
  refine lv_iload_n hx hb dX6_idleCost_12 rfl (lv_at hl 1 rfl) ?_
  refine zc_pi (va_runV (As := [.int (iI st)]) (rest := [.int (iI n), .int (iI (pw st)), .int (iI (co st))]) ⟨hx, hb, hml, hown, hts⟩ (kX6_latencyOf l dC dI cI cJ cZ h0 h1 h2 h3 pw co la st (by first | assumption | omega | exact b2i_01 _)) (cwV 1 hts gX6_idleCost_X6_latencyOf rfl rfl rfl (by decide +kernel) ⟨Nat.le_of_ble_eq_true rfl, Nat.le_of_ble_eq_true rfl⟩) (zqV hK hP [0, 1, 2, 3] rfl 0 rfl rfl) rfl rfl hl.1 rfl (lv_room (Nat.le_of_ble_eq_true rfl)) dX6_idleCost_13 ⟨Nat.le_of_ble_eq_true rfl, Nat.le_of_ble_eq_true rfl⟩) ?_
  refine zi_sub hx hb dX6_idleCost_16 ?_
  refine zi_mul hx hb dX6_idleCost_17 ?_
  refine zi_add hx hb dX6_idleCost_18 ?_
  refine lv_aload_n hx hb dX6_idleCost_19 rfl (lv_at hl 0 rfl) ?_
  refine lv_iload_n hx hb dX6_idleCost_20 rfl (lv_at hl 1 rfl) ?_
  refine zc_pi (va_runV (As := [.int (iI st)]) (rest := [.int (iI ((co st) + ((pw st) * (n - (la st)))))]) ⟨hx, hb, hml, hown, hts⟩ (kX6_wakingCost l dC dI cI cJ cZ h0 h1 h2 h3 pw co la st (by first | assumption | omega | exact b2i_01 _)) (cwV 1 hts gX6_idleCost_X6_wakingCost rfl rfl rfl (by decide +kernel) ⟨Nat.le_of_ble_eq_true rfl, Nat.le_of_ble_eq_true rfl⟩) (zqV hK hP [0, 1, 2, 3] rfl 0 rfl rfl) rfl rfl hl.1 rfl (lv_room (Nat.le_of_ble_eq_true rfl)) dX6_idleCost_21 ⟨Nat.le_of_ble_eq_true rfl, Nat.le_of_ble_eq_true rfl⟩) ?_
  refine zi_add hx hb dX6_idleCost_24 ?_
  subst hQ
  exact zret_pi hx hb hr hlocks dX6_idleCost_25 (by rfl)
def rmX6_change : Room := { frames := 1, cells := 0, slots := 0, locals := 23 }
set_option maxRecDepth 100000 in
set_option maxHeartbeats 4000000 in
theorem kX6_change (l : Launch) (dC : Nat → ClassId) (dI : Nat → Nat → Nat) (cI cJ cZ : ClassId) (h0 h1 h2 h3 : Nat)  (pw : Int → Int) (co : Int → Int) (la : Int → Int) (st np nc nl : Int) (hst : 0 ≤ st ∧ st ≤ 3) : zMv l yX6_change wsX6_change rmX6_change (dC, dI) (zT cI cJ cZ) (wSt cI cJ cZ h0 h1 h2 h3 pw co la) [.ref h0, .int (iI st), .int (iI np), .int (iI nc), .int (iI nl)] (fun (_ : Unit) => True) (fun _ : Unit => wSt cI cJ cZ h0 h1 h2 h3 (uZ pw st np) (uZ co st nc) (uZ la st nl)) 0 0 := by
  refine zent_v (cc := cX6_change) (maxL := 5) (ret := none) (by decide +kernel) rfl (Nat.le_of_ble_eq_true rfl) ?_
  intro p e s m below meth c A ls hE hP hK hA hD hS hl
  obtain ⟨hx, hb, hr, hml, hown, hts, hlocks, hmn⟩ := hE
  have hinX6 : ∀ w ∈ u_ws RX6 TX6 3, w ∈ wsX6_change := by decide +kernel
  have hl : lv_has ls 5 [(0, .ref h0), (1, .int (iI st)), (2, .int (iI np)), (3, .int (iI nc)), (4, .int (iI nl))] := hl
  refine z_gen (fun Q hQ => ?_)
  refine lv_aload_n hx hb dX6_change_0 rfl (lv_at hl 0 rfl) ?_
  refine va_get (D := (dC, dI)) (ci := 6) (v := .ref h1) (C := RX6) (T := TX6) (N := 3) hx hb hts hinX6 hown hK.1 hP 0 rfl rfl 0 (by decide) (hts _ (List.mem_of_getElem? (i := 1) rfl)) (fun _ h9 => h9) rfl dX6_change_1 ?_
  refine lv_iload_n hx hb dX6_change_4 rfl (lv_at hl 1 rfl) ?_
  refine lv_iload_n hx hb dX6_change_5 rfl (lv_at hl 2 rfl) ?_
  refine zc_i (va_runSN (As := [.ref h1, .int (iI st), .int (iI np)]) (rest := []) ⟨hx, hb, hml, hown, hts⟩ (kX7_exchange l dC dI cI cJ cZ h1 4 pw st np (by first | assumption | omega | exact b2i_01 _) (by first | assumption | omega | exact b2i_01 _) s.heap.size) ⟨va_cnB 3 hts gX6_change_X7_exchange_n21 rfl rfl rfl (hK.2.2 _ (List.mem_of_getElem? (i := 5) rfl)) (hts _ (List.mem_of_getElem? (i := 5) rfl)) (by decide +kernel) ⟨Nat.le_of_ble_eq_true rfl, Nat.le_of_ble_eq_true rfl⟩, (hts _ (List.mem_of_getElem? (i := 4) rfl)), trivial⟩ (zpS hK hP hD [1] rfl rfl) rfl rfl hl.1 rfl (lv_room (Nat.le_of_ble_eq_true rfl)) dX6_change_6 ⟨Nat.le_of_ble_eq_true rfl, Nat.le_of_ble_eq_true rfl⟩) hP hD hS hA [1] [0, 2, 3] rfl rfl rfl (by decide) (fun v_3 u_2 H locs r_1 hP hD hS => ?_)
  refine ze_i r_1 ?_
  have hP : va_P (dC, dI) vwCl (wSt cI cJ cZ h0 h1 h2 h3 (exZ pw 4 st np) co la) H := hP.sub [0, 3, 1, 2] (z_fm rfl)
  have hD : va_D A (wSt cI cJ cZ h0 h1 h2 h3 (exZ pw 4 st np) co la) := hD.sub [0, 3, 1, 2] (by decide) rfl
  refine lv_pop hx hb dX6_change_9 rfl ?_
  refine lv_aload_n hx hb dX6_change_10 rfl (lv_at hl 0 rfl) ?_
  refine va_get (D := (dC, dI)) (ci := 6) (v := .ref h2) (C := RX6) (T := TX6) (N := 3) hx hb hts hinX6 hown hK.1 hP 0 rfl rfl 1 (by decide) (hts _ (List.mem_of_getElem? (i := 2) rfl)) (fun _ h9 => h9) rfl dX6_change_11 ?_
  refine lv_iload_n hx hb dX6_change_14 rfl (lv_at hl 1 rfl) ?_
  refine lv_iload_n hx hb dX6_change_15 rfl (lv_at hl 3 rfl) ?_
  refine zc_i (va_runSN (As := [.ref h2, .int (iI st), .int (iI nc)]) (rest := []) ⟨hx, hb, hml, hown, hts⟩ (kX7_exchange l dC dI cI cJ cZ h2 4 co st nc (by first | assumption | omega | exact b2i_01 _) (by first | assumption | omega | exact b2i_01 _) H.size) ⟨va_cnB 3 hts gX6_change_X7_exchange_n21 rfl rfl rfl (hK.2.2 _ (List.mem_of_getElem? (i := 5) rfl)) (hts _ (List.mem_of_getElem? (i := 5) rfl)) (by decide +kernel) ⟨Nat.le_of_ble_eq_true rfl, Nat.le_of_ble_eq_true rfl⟩, (hts _ (List.mem_of_getElem? (i := 4) rfl)), trivial⟩ (zpS hK hP hD [2] rfl rfl) rfl rfl hl.1 rfl (lv_room (Nat.le_of_ble_eq_true rfl)) dX6_change_16 ⟨Nat.le_of_ble_eq_true rfl, Nat.le_of_ble_eq_true rfl⟩) hP hD hS hA [2] [0, 1, 3] rfl rfl rfl (by decide) (fun v_6 u_5 H locs r_4 hP hD hS => ?_)
  refine ze_i r_4 ?_
  have hP : va_P (dC, dI) vwCl (wSt cI cJ cZ h0 h1 h2 h3 (exZ pw 4 st np) (exZ co 4 st nc) la) H := hP.sub [0, 1, 3, 2] (z_fm rfl)
  have hD : va_D A (wSt cI cJ cZ h0 h1 h2 h3 (exZ pw 4 st np) (exZ co 4 st nc) la) := hD.sub [0, 1, 3, 2] (by decide) rfl
  refine lv_pop hx hb dX6_change_19 rfl ?_
  refine lv_aload_n hx hb dX6_change_20 rfl (lv_at hl 0 rfl) ?_
  refine va_get (D := (dC, dI)) (ci := 6) (v := .ref h3) (C := RX6) (T := TX6) (N := 3) hx hb hts hinX6 hown hK.1 hP 0 rfl rfl 2 (by decide) (hts _ (List.mem_of_getElem? (i := 3) rfl)) (fun _ h9 => h9) rfl dX6_change_21 ?_
  refine lv_iload_n hx hb dX6_change_24 rfl (lv_at hl 1 rfl) ?_
  refine lv_iload hx hb dX6_change_25 (lv_at hl 4 rfl) ?_
  refine zc_i (va_runSN (As := [.ref h3, .int (iI st), .int (iI nl)]) (rest := []) ⟨hx, hb, hml, hown, hts⟩ (kX7_exchange l dC dI cI cJ cZ h3 4 la st nl (by first | assumption | omega | exact b2i_01 _) (by first | assumption | omega | exact b2i_01 _) H.size) ⟨va_cnB 3 hts gX6_change_X7_exchange_n21 rfl rfl rfl (hK.2.2 _ (List.mem_of_getElem? (i := 5) rfl)) (hts _ (List.mem_of_getElem? (i := 5) rfl)) (by decide +kernel) ⟨Nat.le_of_ble_eq_true rfl, Nat.le_of_ble_eq_true rfl⟩, (hts _ (List.mem_of_getElem? (i := 4) rfl)), trivial⟩ (zpS hK hP hD [3] rfl rfl) rfl rfl hl.1 rfl (lv_room (Nat.le_of_ble_eq_true rfl)) dX6_change_27 ⟨Nat.le_of_ble_eq_true rfl, Nat.le_of_ble_eq_true rfl⟩) hP hD hS hA [3] [0, 1, 2] rfl rfl rfl (by decide) (fun v_9 u_8 H locs r_7 hP hD hS => ?_)
  refine ze_i r_7 ?_
  have hP : va_P (dC, dI) vwCl (wSt cI cJ cZ h0 h1 h2 h3 (exZ pw 4 st np) (exZ co 4 st nc) (exZ la 4 st nl)) H := hP
  have hD : va_D A (wSt cI cJ cZ h0 h1 h2 h3 (exZ pw 4 st np) (exZ co 4 st nc) (exZ la 4 st nl)) := hD
  refine lv_pop hx hb dX6_change_30 rfl ?_
  subst hQ
  have w_10 : (uZ pw st np) = (exZ pw 4 st np) := by exact (if_pos (by omega)).symm
  have w_11 : (uZ co st nc) = (exZ co 4 st nc) := by exact (if_pos (by omega)).symm
  have w_12 : (uZ la st nl) = (exZ la 4 st nl) := by exact (if_pos (by omega)).symm
  have hP : va_P (dC, dI) vwCl (wSt cI cJ cZ h0 h1 h2 h3 (uZ pw st np) (uZ co st nc) (uZ la st nl)) H := by rw [w_10, w_11, w_12]; exact hP
  have hD : va_D A (wSt cI cJ cZ h0 h1 h2 h3 (uZ pw st np) (uZ co st nc) (uZ la st nl)) := by rw [w_10, w_11, w_12]; exact hD
  exact zret_v (W1 := fun _ : Unit => wSt cI cJ cZ h0 h1 h2 h3 (uZ pw st np) (uZ co st nc) (uZ la st nl)) () hx hb hr hP hD hS hlocks dX6_change_31 (by trivial)
def rmX6_leastWorthwhile : Room := { frames := 2, cells := 0, slots := 0, locals := 42 }
set_option maxRecDepth 100000 in
set_option maxHeartbeats 4000000 in
theorem kX6_leastWorthwhile (l : Launch) (dC : Nat → ClassId) (dI : Nat → Nat → Nat) (cI cJ cZ : ClassId) (h0 h1 h2 h3 : Nat)  (pw : Int → Int) (co : Int → Int) (la : Int → Int) (st : Int) (hst : 0 ≤ st ∧ st ≤ 3) (hpw : rgZ pw 4 1000) (hco : rgZ co 4 10000) (hla : rgZ la 4 100) : zPi l yX6_leastWorthwhile wsX6_leastWorthwhile rmX6_leastWorthwhile (dC, dI) (zT cI cJ cZ) (wSt cI cJ cZ h0 h1 h2 h3 pw co la) [.ref h0, .int (iI st)] (evA pw co la st) := by
  refine zent_pi (cc := cX6_leastWorthwhile) (maxL := 4) (ret := (some .int)) (by decide +kernel) rfl (Nat.le_of_ble_eq_true rfl) ?_
  intro p e s m below meth c ls hE hP hK hl
  obtain ⟨hx, hb, hr, hml, hown, hts, hlocks, hmn⟩ := hE
  have hinX6 : ∀ w ∈ u_ws RX6 TX6 3, w ∈ wsX6_leastWorthwhile := by decide +kernel
  have hl : lv_has ls 4 [(0, .ref h0), (1, .int (iI st))] := hl
  refine z_gen (fun Q hQ => ?_)
  refine lv_aload_n hx hb dX6_leastWorthwhile_0 rfl (lv_at hl 0 rfl) ?_
  refine lv_iload_n hx hb dX6_leastWorthwhile_1 rfl (lv_at hl 1 rfl) ?_
  refine zc_pi (va_runV (As := [.int (iI st)]) (rest := []) ⟨hx, hb, hml, hown, hts⟩ (kX6_costOf l dC dI cI cJ cZ h0 h1 h2 h3 pw co la st (by first | assumption | omega | exact b2i_01 _)) (cwV 1 hts gX6_leastWorthwhile_X6_costOf rfl rfl rfl (by decide +kernel) ⟨Nat.le_of_ble_eq_true rfl, Nat.le_of_ble_eq_true rfl⟩) (zqV hK hP [0, 1, 2, 3] rfl 0 rfl rfl) rfl rfl hl.1 rfl (lv_room (Nat.le_of_ble_eq_true rfl)) dX6_leastWorthwhile_2 ⟨Nat.le_of_ble_eq_true rfl, Nat.le_of_ble_eq_true rfl⟩) ?_
  have e_1 := hco st (by omega) (by omega)
  refine zi_fne (tgt := 14) hx hb (by omega) dX6_leastWorthwhile_5 (by decide) (fun c_2 => ?_) (fun c_2 => ?_)
  · skip
    refine lv_aload_n hx hb dX6_leastWorthwhile_14 rfl (lv_at hl 0 rfl) ?_
    refine lv_iconst (v := iI 0) hx hb dX6_leastWorthwhile_15 rfl ?_
    refine zc_pi (va_runV (As := [.int (iI 0)]) (rest := []) ⟨hx, hb, hml, hown, hts⟩ (kX6_powerOf l dC dI cI cJ cZ h0 h1 h2 h3 pw co la 0 (by first | assumption | omega | exact b2i_01 _)) (cwV 1 hts gX6_leastWorthwhile_X6_powerOf rfl rfl rfl (by decide +kernel) ⟨Nat.le_of_ble_eq_true rfl, Nat.le_of_ble_eq_true rfl⟩) (zqV hK hP [0, 1, 2, 3] rfl 0 rfl rfl) rfl rfl hl.1 rfl (lv_room (Nat.le_of_ble_eq_true rfl)) dX6_leastWorthwhile_16 ⟨Nat.le_of_ble_eq_true rfl, Nat.le_of_ble_eq_true rfl⟩) ?_
    have e_3 := hpw 0 (by omega) (by omega)
    refine lv_aload_n hx hb dX6_leastWorthwhile_19 rfl (lv_at hl 0 rfl) ?_
    refine lv_iload_n hx hb dX6_leastWorthwhile_20 rfl (lv_at hl 1 rfl) ?_
    refine zc_pi (va_runV (As := [.int (iI st)]) (rest := [.int (iI (pw 0))]) ⟨hx, hb, hml, hown, hts⟩ (kX6_powerOf l dC dI cI cJ cZ h0 h1 h2 h3 pw co la st (by first | assumption | omega | exact b2i_01 _)) (cwV 1 hts gX6_leastWorthwhile_X6_powerOf rfl rfl rfl (by decide +kernel) ⟨Nat.le_of_ble_eq_true rfl, Nat.le_of_ble_eq_true rfl⟩) (zqV hK hP [0, 1, 2, 3] rfl 0 rfl rfl) rfl rfl hl.1 rfl (lv_room (Nat.le_of_ble_eq_true rfl)) dX6_leastWorthwhile_21 ⟨Nat.le_of_ble_eq_true rfl, Nat.le_of_ble_eq_true rfl⟩) ?_
    have e_4 := hpw st (by omega) (by omega)
    refine zi_sub hx hb dX6_leastWorthwhile_24 ?_
    refine lv_istore_n (lv' := [(2, .int (iI ((pw 0) - (pw st)))), (0, .ref h0), (1, .int (iI st))]) hx hb dX6_leastWorthwhile_25 rfl hl (by decide) rfl (fun ls hl => ?_)
    refine lv_iload_n hx hb dX6_leastWorthwhile_26 rfl (lv_at hl 0 rfl) ?_
    refine zi_fgt (tgt := 32) hx hb (by omega) dX6_leastWorthwhile_27 (by decide) (fun c_5 => ?_) (fun c_5 => ?_)
    · skip
      refine lv_aload_n hx hb dX6_leastWorthwhile_32 rfl (lv_at hl 1 rfl) ?_
      refine lv_iload_n hx hb dX6_leastWorthwhile_33 rfl (lv_at hl 2 rfl) ?_
      refine zc_pi (va_runV (As := [.int (iI st)]) (rest := []) ⟨hx, hb, hml, hown, hts⟩ (kX6_latencyOf l dC dI cI cJ cZ h0 h1 h2 h3 pw co la st (by first | assumption | omega | exact b2i_01 _)) (cwV 1 hts gX6_leastWorthwhile_X6_latencyOf rfl rfl rfl (by decide +kernel) ⟨Nat.le_of_ble_eq_true rfl, Nat.le_of_ble_eq_true rfl⟩) (zqV hK hP [0, 1, 2, 3] rfl 0 rfl rfl) rfl rfl hl.1 rfl (lv_room (Nat.le_of_ble_eq_true rfl)) dX6_leastWorthwhile_34 ⟨Nat.le_of_ble_eq_true rfl, Nat.le_of_ble_eq_true rfl⟩) ?_
      have e_6 := hla st (by omega) (by omega)
      refine lv_aload_n hx hb dX6_leastWorthwhile_37 rfl (lv_at hl 1 rfl) ?_
      refine lv_iload_n hx hb dX6_leastWorthwhile_38 rfl (lv_at hl 2 rfl) ?_
      refine zc_pi (va_runV (As := [.int (iI st)]) (rest := [.int (iI (la st))]) ⟨hx, hb, hml, hown, hts⟩ (kX6_costOf l dC dI cI cJ cZ h0 h1 h2 h3 pw co la st (by first | assumption | omega | exact b2i_01 _)) (cwV 1 hts gX6_leastWorthwhile_X6_costOf rfl rfl rfl (by decide +kernel) ⟨Nat.le_of_ble_eq_true rfl, Nat.le_of_ble_eq_true rfl⟩) (zqV hK hP [0, 1, 2, 3] rfl 0 rfl rfl) rfl rfl hl.1 rfl (lv_room (Nat.le_of_ble_eq_true rfl)) dX6_leastWorthwhile_39 ⟨Nat.le_of_ble_eq_true rfl, Nat.le_of_ble_eq_true rfl⟩) ?_
      have e_7 := hco st (by omega) (by omega)
      refine lv_iload_n hx hb dX6_leastWorthwhile_42 rfl (lv_at hl 0 rfl) ?_
      refine zi_add hx hb dX6_leastWorthwhile_43 ?_
      refine lv_iconst (v := iI 1) hx hb dX6_leastWorthwhile_44 rfl ?_
      refine zi_sub hx hb dX6_leastWorthwhile_45 ?_
      refine lv_iload_n hx hb dX6_leastWorthwhile_46 rfl (lv_at hl 0 rfl) ?_
      refine zi_div hx hb (by omega) (by omega) dX6_leastWorthwhile_47 ?_
      have hq := dv_r (a := co st + (pw 0 - pw st) - 1) (b := pw 0 - pw st) (by omega) (by omega)
      refine zi_add hx hb dX6_leastWorthwhile_48 ?_
      refine lv_istore_n (lv' := [(3, .int (iI ((la st) + ((((co st) + ((pw 0) - (pw st))) - 1) / ((pw 0) - (pw st)))))), (2, .int (iI ((pw 0) - (pw st)))), (0, .ref h0), (1, .int (iI st))]) hx hb dX6_leastWorthwhile_49 rfl hl (by decide) rfl (fun ls hl => ?_)
      refine lv_iload_n hx hb dX6_leastWorthwhile_50 rfl (lv_at hl 0 rfl) ?_
      refine lv_sipush (v := iI 5000) hx hb dX6_leastWorthwhile_51 (by decide) ?_
      refine zi_cgt (tgt := 61) hx hb (by omega) (by decide) dX6_leastWorthwhile_54 (by decide) (fun c_8 => ?_) (fun c_8 => ?_)
      · skip
        refine lv_iconst (v := iI (-1)) hx hb dX6_leastWorthwhile_61 rfl ?_
        subst hQ
        exact zret_pi hx hb hr hlocks dX6_leastWorthwhile_62 (by (unfold evA evZ; (repeat (first | rw [if_pos (by omega)] | rw [if_neg (by omega)])); try omega))
      · skip
        refine lv_iload_n hx hb dX6_leastWorthwhile_57 rfl (lv_at hl 0 rfl) ?_
        refine lv_goto (tgt := 62) hx hb dX6_leastWorthwhile_58 (by decide) ?_
        subst hQ
        exact zret_pi hx hb hr hlocks dX6_leastWorthwhile_62 (by (unfold evA evZ; (repeat (first | rw [if_pos (by omega)] | rw [if_neg (by omega)])); try omega))
    · skip
      refine lv_iconst (v := iI (-1)) hx hb dX6_leastWorthwhile_30 rfl ?_
      subst hQ
      exact zret_pi hx hb hr hlocks dX6_leastWorthwhile_31 (by (unfold evA evZ; (repeat (first | rw [if_pos (by omega)] | rw [if_neg (by omega)])); try omega))
  · skip
    refine lv_aload_n hx hb dX6_leastWorthwhile_8 rfl (lv_at hl 0 rfl) ?_
    refine lv_iload_n hx hb dX6_leastWorthwhile_9 rfl (lv_at hl 1 rfl) ?_
    refine zc_pi (va_runV (As := [.int (iI st)]) (rest := []) ⟨hx, hb, hml, hown, hts⟩ (kX6_latencyOf l dC dI cI cJ cZ h0 h1 h2 h3 pw co la st (by first | assumption | omega | exact b2i_01 _)) (cwV 1 hts gX6_leastWorthwhile_X6_latencyOf rfl rfl rfl (by decide +kernel) ⟨Nat.le_of_ble_eq_true rfl, Nat.le_of_ble_eq_true rfl⟩) (zqV hK hP [0, 1, 2, 3] rfl 0 rfl rfl) rfl rfl hl.1 rfl (lv_room (Nat.le_of_ble_eq_true rfl)) dX6_leastWorthwhile_10 ⟨Nat.le_of_ble_eq_true rfl, Nat.le_of_ble_eq_true rfl⟩) ?_
    have e_9 := hla st (by omega) (by omega)
    subst hQ
    exact zret_pi hx hb hr hlocks dX6_leastWorthwhile_13 (by (unfold evA evZ; (repeat (first | rw [if_pos (by omega)] | rw [if_neg (by omega)])); try omega))
def rmX6_deepestThatWakes : Room := { frames := 2, cells := 0, slots := 0, locals := 42 }
set_option maxRecDepth 100000 in
set_option maxHeartbeats 4000000 in
theorem kX6_deepestThatWakes (l : Launch) (dC : Nat → ClassId) (dI : Nat → Nat → Nat) (cI cJ cZ : ClassId) (h0 h1 h2 h3 : Nat)  (pw : Int → Int) (co : Int → Int) (la : Int → Int) (d tk : Int) (hd : 0 ≤ d ∧ d ≤ 3) (htk : zR tk) (hpw : rgZ pw 4 1000) (hco : rgZ co 4 10000) (hla : rgZ la 4 100) : zPi l yX6_deepestThatWakes wsX6_deepestThatWakes rmX6_deepestThatWakes (dC, dI) (zT cI cJ cZ) (wSt cI cJ cZ h0 h1 h2 h3 pw co la) [.ref h0, .int (iI d), .int (iI tk)] (dpZ (okW la tk) d) := by
  refine zent_pi (cc := cX6_deepestThatWakes) (maxL := 4) (ret := (some .int)) (by decide +kernel) rfl (Nat.le_of_ble_eq_true rfl) ?_
  intro p e s m below meth c ls hE hP hK hl
  obtain ⟨hx, hb, hr, hml, hown, hts, hlocks, hmn⟩ := hE
  have hinX6 : ∀ w ∈ u_ws RX6 TX6 3, w ∈ wsX6_deepestThatWakes := by decide +kernel
  have hl : lv_has ls 4 [(0, .ref h0), (1, .int (iI d)), (2, .int (iI tk))] := hl
  refine z_gen (fun Q hQ => ?_)
  refine lv_iload_n hx hb dX6_deepestThatWakes_0 rfl (lv_at hl 1 rfl) ?_
  refine lv_istore_n (lv' := [(3, .int (iI d)), (0, .ref h0), (1, .int (iI d)), (2, .int (iI tk))]) hx hb dX6_deepestThatWakes_1 rfl hl (by decide) rfl (fun ls hl => ?_)
  have L2 : ∀ (fuel : Nat) (k : Int), (0 ≤ k ∧ k ≤ 3) → (dpZ (okW la tk) d = dpZ (okW la tk) k) → (k.toNat) < fuel → ∀ ls : Array Slot, lv_has ls 4 [(3, .int (iI k)), (0, .ref h0), (1, .int (iI d)), (2, .int (iI tk))] → W p l e rmX6_deepestThatWakes s m ([.ref h0, .int (iI d), .int (iI tk)] : List Value).toArray below meth c s.heap [] 0 0 Q (F0 m 2 ls []) := by
    intro fuel
    induction fuel with
    | zero =>
      intro k hk hI hmeas ls hl
      exact absurd hmeas (by omega)
    | succ fuel ih =>
      intro k hk hI hmeas ls hl
      refine lv_iload_n hx hb dX6_deepestThatWakes_2 rfl (lv_at hl 0 rfl) ?_
      refine zi_fle (tgt := 23) hx hb (by omega) dX6_deepestThatWakes_3 (by decide) (fun c_1 => ?_) (fun c_1 => ?_)
      · skip
        refine lv_iconst (v := iI 0) hx hb dX6_deepestThatWakes_23 rfl ?_
        subst hQ
        exact zret_pi hx hb hr hlocks dX6_deepestThatWakes_24 (by rw [hI]; exact (dp_0 (by omega)).symm)
      · skip
        refine lv_aload_n hx hb dX6_deepestThatWakes_6 rfl (lv_at hl 1 rfl) ?_
        refine lv_iload_n hx hb dX6_deepestThatWakes_7 rfl (lv_at hl 0 rfl) ?_
        refine zc_pi (va_runV (As := [.int (iI k)]) (rest := []) ⟨hx, hb, hml, hown, hts⟩ (kX6_latencyOf l dC dI cI cJ cZ h0 h1 h2 h3 pw co la k (by first | assumption | omega | exact b2i_01 _)) (cwV 1 hts gX6_deepestThatWakes_X6_latencyOf rfl rfl rfl (by decide +kernel) ⟨Nat.le_of_ble_eq_true rfl, Nat.le_of_ble_eq_true rfl⟩) (zqV hK hP [0, 1, 2, 3] rfl 0 rfl rfl) rfl rfl hl.1 rfl (lv_room (Nat.le_of_ble_eq_true rfl)) dX6_deepestThatWakes_8 ⟨Nat.le_of_ble_eq_true rfl, Nat.le_of_ble_eq_true rfl⟩) ?_
        have e_2 := hla k (by omega) (by omega)
        refine lv_iload_n hx hb dX6_deepestThatWakes_11 rfl (lv_at hl 3 rfl) ?_
        refine zi_cgt (tgt := 17) hx hb (by omega) (by omega) dX6_deepestThatWakes_12 (by decide) (fun c_3 => ?_) (fun c_3 => ?_)
        · skip
          refine lv_iinc (v := iI (k + (-1))) (lv' := [(3, .int (iI (k + (-1)))), (0, .ref h0), (1, .int (iI d)), (2, .int (iI tk))]) hx hb dX6_deepestThatWakes_17 hl (k := 0) rfl (iI_add _ _) (by decide) rfl (fun ls hl => ?_)
          refine lv_goto (tgt := 2) hx hb dX6_deepestThatWakes_20 (by decide) ?_
          exact ih (k + (-1)) (by omega) (by rw [hI]; exact dp_n (by omega) (by show ¬ la k ≤ tk; omega)) (by omega) ls (lv_sub hl [0, 1, 2, 3] rfl)
        · skip
          refine lv_iload_n hx hb dX6_deepestThatWakes_15 rfl (lv_at hl 0 rfl) ?_
          subst hQ
          exact zret_pi hx hb hr hlocks dX6_deepestThatWakes_16 (by rw [hI]; exact (dp_y (by omega) (by show la k ≤ tk; omega)).symm)
  exact L2 (_ + 1) d (by omega) (rfl) (Nat.lt_succ_self _) ls (lv_sub hl [0, 1, 2, 3] rfl)
def rmX6_deepestWorthwhile : Room := { frames := 3, cells := 0, slots := 0, locals := 65 }
set_option maxRecDepth 100000 in
set_option maxHeartbeats 4000000 in
theorem kX6_deepestWorthwhile (l : Launch) (dC : Nat → ClassId) (dI : Nat → Nat → Nat) (cI cJ cZ : ClassId) (h0 h1 h2 h3 : Nat)  (pw : Int → Int) (co : Int → Int) (la : Int → Int) (d tk : Int) (hd : 0 ≤ d ∧ d ≤ 3) (htk : zR tk) (hpw : rgZ pw 4 1000) (hco : rgZ co 4 10000) (hla : rgZ la 4 100) : zPi l yX6_deepestWorthwhile wsX6_deepestWorthwhile rmX6_deepestWorthwhile (dC, dI) (zT cI cJ cZ) (wSt cI cJ cZ h0 h1 h2 h3 pw co la) [.ref h0, .int (iI d), .int (iI tk)] (dpZ (okE pw co la tk) d) := by
  refine zent_pi (cc := cX6_deepestWorthwhile) (maxL := 5) (ret := (some .int)) (by decide +kernel) rfl (Nat.le_of_ble_eq_true rfl) ?_
  intro p e s m below meth c ls hE hP hK hl
  obtain ⟨hx, hb, hr, hml, hown, hts, hlocks, hmn⟩ := hE
  have hinX6 : ∀ w ∈ u_ws RX6 TX6 3, w ∈ wsX6_deepestWorthwhile := by decide +kernel
  have hl : lv_has ls 5 [(0, .ref h0), (1, .int (iI d)), (2, .int (iI tk))] := hl
  refine z_gen (fun Q hQ => ?_)
  refine lv_iload_n hx hb dX6_deepestWorthwhile_0 rfl (lv_at hl 1 rfl) ?_
  refine lv_istore_n (lv' := [(3, .int (iI d)), (0, .ref h0), (1, .int (iI d)), (2, .int (iI tk))]) hx hb dX6_deepestWorthwhile_1 rfl hl (by decide) rfl (fun ls hl => ?_)
  have L2 : ∀ (fuel : Nat) (k : Int), (0 ≤ k ∧ k ≤ 3) → (dpZ (okE pw co la tk) d = dpZ (okE pw co la tk) k) → (k.toNat) < fuel → ∀ ls : Array Slot, lv_has ls 5 [(3, .int (iI k)), (0, .ref h0), (1, .int (iI d)), (2, .int (iI tk))] → W p l e rmX6_deepestWorthwhile s m ([.ref h0, .int (iI d), .int (iI tk)] : List Value).toArray below meth c s.heap [] 0 0 Q (F0 m 2 ls []) := by
    intro fuel
    induction fuel with
    | zero =>
      intro k hk hI hmeas ls hl
      exact absurd hmeas (by omega)
    | succ fuel ih =>
      intro k hk hI hmeas ls hl
      refine lv_iload_n hx hb dX6_deepestWorthwhile_2 rfl (lv_at hl 0 rfl) ?_
      refine zi_fle (tgt := 33) hx hb (by omega) dX6_deepestWorthwhile_3 (by decide) (fun c_1 => ?_) (fun c_1 => ?_)
      · skip
        refine lv_iconst (v := iI 0) hx hb dX6_deepestWorthwhile_33 rfl ?_
        subst hQ
        exact zret_pi hx hb hr hlocks dX6_deepestWorthwhile_34 (by rw [hI]; exact (dp_0 (by omega)).symm)
      · skip
        refine lv_aload_n hx hb dX6_deepestWorthwhile_6 rfl (lv_at hl 1 rfl) ?_
        refine lv_iload_n hx hb dX6_deepestWorthwhile_7 rfl (lv_at hl 0 rfl) ?_
        refine zc_pi (va_runV (As := [.int (iI k)]) (rest := []) ⟨hx, hb, hml, hown, hts⟩ (kX6_leastWorthwhile l dC dI cI cJ cZ h0 h1 h2 h3 pw co la k (by first | assumption | omega | exact b2i_01 _) (by first | assumption | omega | exact b2i_01 _) (by first | assumption | omega | exact b2i_01 _) (by first | assumption | omega | exact b2i_01 _)) (cwV 1 hts gX6_deepestWorthwhile_X6_leastWorthwhile rfl rfl rfl (by decide +kernel) ⟨Nat.le_of_ble_eq_true rfl, Nat.le_of_ble_eq_true rfl⟩) (zqV hK hP [0, 1, 2, 3] rfl 0 rfl rfl) rfl rfl hl.1 rfl (lv_room (Nat.le_of_ble_eq_true rfl)) dX6_deepestWorthwhile_8 ⟨Nat.le_of_ble_eq_true rfl, Nat.le_of_ble_eq_true rfl⟩) ?_
        have e_2 := evA_r (pw := pw) (s := k) hco hla (by omega)
        refine lv_istore (lv' := [(4, .int (iI (evA pw co la k))), (3, .int (iI k)), (0, .ref h0), (1, .int (iI d)), (2, .int (iI tk))]) hx hb dX6_deepestWorthwhile_11 hl (by decide) rfl (fun ls hl => ?_)
        refine lv_iload hx hb dX6_deepestWorthwhile_13 (lv_at hl 0 rfl) ?_
        refine lv_iconst (v := iI (-1)) hx hb dX6_deepestWorthwhile_15 rfl ?_
        refine zi_ceq (tgt := 27) hx hb (by omega) (by decide) dX6_deepestWorthwhile_16 (by decide) (fun c_3 => ?_) (fun c_3 => ?_)
        · skip
          refine lv_iinc (v := iI (k + (-1))) (lv' := [(3, .int (iI (k + (-1)))), (4, .int (iI (evA pw co la k))), (0, .ref h0), (1, .int (iI d)), (2, .int (iI tk))]) hx hb dX6_deepestWorthwhile_27 hl (k := 1) rfl (iI_add _ _) (by decide) rfl (fun ls hl => ?_)
          refine lv_goto (tgt := 2) hx hb dX6_deepestWorthwhile_30 (by decide) ?_
          exact ih (k + (-1)) (by omega) (by rw [hI]; exact dp_n (by omega) (by show ¬ (evA pw co la k ≠ -1 ∧ evA pw co la k ≤ tk); omega)) (by omega) ls (lv_sub hl [0, 2, 3, 4] rfl)
        · skip
          refine lv_iload hx hb dX6_deepestWorthwhile_19 (lv_at hl 0 rfl) ?_
          refine lv_iload_n hx hb dX6_deepestWorthwhile_21 rfl (lv_at hl 4 rfl) ?_
          refine zi_cgt (tgt := 27) hx hb (by omega) (by omega) dX6_deepestWorthwhile_22 (by decide) (fun c_4 => ?_) (fun c_4 => ?_)
          · skip
            refine lv_iinc (v := iI (k + (-1))) (lv' := [(3, .int (iI (k + (-1)))), (4, .int (iI (evA pw co la k))), (0, .ref h0), (1, .int (iI d)), (2, .int (iI tk))]) hx hb dX6_deepestWorthwhile_27 hl (k := 1) rfl (iI_add _ _) (by decide) rfl (fun ls hl => ?_)
            refine lv_goto (tgt := 2) hx hb dX6_deepestWorthwhile_30 (by decide) ?_
            exact ih (k + (-1)) (by omega) (by rw [hI]; exact dp_n (by omega) (by show ¬ (evA pw co la k ≠ -1 ∧ evA pw co la k ≤ tk); omega)) (by omega) ls (lv_sub hl [0, 2, 3, 4] rfl)
          · skip
            refine lv_iload_n hx hb dX6_deepestWorthwhile_25 rfl (lv_at hl 1 rfl) ?_
            subst hQ
            exact zret_pi hx hb hr hlocks dX6_deepestWorthwhile_26 (by rw [hI]; exact (dp_y (by omega) (by show evA pw co la k ≠ -1 ∧ evA pw co la k ≤ tk; omega)).symm)
  exact L2 (_ + 1) d (by omega) (rfl) (Nat.lt_succ_self _) ls (lv_sub hl [0, 1, 2, 3] rfl)
def rmX6_plannedIdleCost : Room := { frames := 4, cells := 0, slots := 0, locals := 89 }
set_option maxRecDepth 100000 in
set_option maxHeartbeats 4000000 in
theorem kX6_plannedIdleCost (l : Launch) (dC : Nat → ClassId) (dI : Nat → Nat → Nat) (cI cJ cZ : ClassId) (h0 h1 h2 h3 : Nat)  (pw : Int → Int) (co : Int → Int) (la : Int → Int) (d tk : Int) (hd : 0 ≤ d ∧ d ≤ 3) (htk : zR tk) (hpw : rgZ pw 4 1000) (hco : rgZ co 4 10000) (hla : rgZ la 4 100) : zPi l yX6_plannedIdleCost wsX6_plannedIdleCost rmX6_plannedIdleCost (dC, dI) (zT cI cJ cZ) (wSt cI cJ cZ h0 h1 h2 h3 pw co la) [.ref h0, .int (iI d), .int (iI tk)] (icZ pw co la (dpZ (okE pw co la tk) d) tk) := by
  refine zent_pi (cc := cX6_plannedIdleCost) (maxL := 3) (ret := (some .int)) (by decide +kernel) rfl (Nat.le_of_ble_eq_true rfl) ?_
  intro p e s m below meth c ls hE hP hK hl
  obtain ⟨hx, hb, hr, hml, hown, hts, hlocks, hmn⟩ := hE
  have hinX6 : ∀ w ∈ u_ws RX6 TX6 3, w ∈ wsX6_plannedIdleCost := by decide +kernel
  have hl : lv_has ls 3 [(0, .ref h0), (1, .int (iI d)), (2, .int (iI tk))] := hl
  refine z_gen (fun Q hQ => ?_)
  refine lv_aload_n hx hb dX6_plannedIdleCost_0 rfl (lv_at hl 0 rfl) ?_
  refine lv_aload_n hx hb dX6_plannedIdleCost_1 rfl (lv_at hl 0 rfl) ?_
  refine lv_iload_n hx hb dX6_plannedIdleCost_2 rfl (lv_at hl 1 rfl) ?_
  refine lv_iload_n hx hb dX6_plannedIdleCost_3 rfl (lv_at hl 2 rfl) ?_
  refine zc_pi (va_runV (As := [.int (iI d), .int (iI tk)]) (rest := [.ref h0]) ⟨hx, hb, hml, hown, hts⟩ (kX6_deepestWorthwhile l dC dI cI cJ cZ h0 h1 h2 h3 pw co la d tk (by first | assumption | omega | exact b2i_01 _) (by first | assumption | omega | exact b2i_01 _) (by first | assumption | omega | exact b2i_01 _) (by first | assumption | omega | exact b2i_01 _) (by first | assumption | omega | exact b2i_01 _)) (cwV 2 hts gX6_plannedIdleCost_X6_deepestWorthwhile rfl rfl rfl (by decide +kernel) ⟨Nat.le_of_ble_eq_true rfl, Nat.le_of_ble_eq_true rfl⟩) (zqV hK hP [0, 1, 2, 3] rfl 0 rfl rfl) rfl rfl hl.1 rfl (lv_room (Nat.le_of_ble_eq_true rfl)) dX6_plannedIdleCost_4 ⟨Nat.le_of_ble_eq_true rfl, Nat.le_of_ble_eq_true rfl⟩) ?_
  have e_1 := dp_r (okE pw co la tk) (k := d) (by omega)
  refine lv_iload_n hx hb dX6_plannedIdleCost_7 rfl (lv_at hl 2 rfl) ?_
  refine zc_pi (va_runV (As := [.int (iI (dpZ (okE pw co la tk) d)), .int (iI tk)]) (rest := []) ⟨hx, hb, hml, hown, hts⟩ (kX6_idleCost l dC dI cI cJ cZ h0 h1 h2 h3 pw co la (dpZ (okE pw co la tk) d) tk (by first | assumption | omega | exact b2i_01 _)) (cwV 2 hts gX6_plannedIdleCost_X6_idleCost rfl rfl rfl (by decide +kernel) ⟨Nat.le_of_ble_eq_true rfl, Nat.le_of_ble_eq_true rfl⟩) (zqV hK hP [0, 1, 2, 3] rfl 0 rfl rfl) rfl rfl hl.1 rfl (lv_room (Nat.le_of_ble_eq_true rfl)) dX6_plannedIdleCost_8 ⟨Nat.le_of_ble_eq_true rfl, Nat.le_of_ble_eq_true rfl⟩) ?_
  subst hQ
  exact zret_pi hx hb hr hlocks dX6_plannedIdleCost_11 (by rfl)
def rmX1_has : Room := { frames := 0, cells := 0, slots := 0, locals := 0 }
set_option maxRecDepth 100000 in
set_option maxHeartbeats 4000000 in
theorem kX1_has (l : Launch) (dC : Nat → ClassId) (dI : Nat → Nat → Nat) (cI cJ cZ : ClassId) (h0 h1 h2 h3 h4 h5 : Nat)  (cpar : Int → Int) (fr : Int → Int) (cdee : Int → Int) (use : Int → Int) (run : Int → Int) (nC : Int) (k : Int) (hnC : 1 ≤ nC ∧ nC ≤ 8) (hk : zR k) : zPi l yX1_has wsX1_has rmX1_has (dC, dI) (zT cI cJ cZ) (wCl cI cJ cZ h0 h1 h2 h3 h4 h5 cpar fr cdee use run nC) [.ref h0, .int (iI k)] (b2i (0 ≤ k ∧ k < nC)) := by
  refine zent_pi (cc := cX1_has) (maxL := 2) (ret := (some .boolean)) (by decide +kernel) rfl (Nat.le_of_ble_eq_true rfl) ?_
  intro p e s m below meth c ls hE hP hK hl
  obtain ⟨hx, hb, hr, hml, hown, hts, hlocks, hmn⟩ := hE
  have hinX1 : ∀ w ∈ u_ws RX1 TX1 6, w ∈ wsX1_has := by decide +kernel
  have hl : lv_has ls 2 [(0, .ref h0), (1, .int (iI k))] := hl
  refine z_gen (fun Q hQ => ?_)
  refine lv_iload_n hx hb dX1_has_0 rfl (lv_at hl 1 rfl) ?_
  refine zi_flt (tgt := 16) hx hb (by omega) dX1_has_1 (by decide) (fun c_1 => ?_) (fun c_1 => ?_)
  · skip
    refine lv_iconst (v := iI 0) hx hb dX1_has_16 rfl ?_
    subst hQ
    exact zret_pz hx hb hr hlocks dX1_has_17 (by first | decide | omega) (by first | exact (b2i_t ⟨by omega, by omega⟩).symm | exact (b2i_f (by omega)).symm)
  · skip
    refine lv_iload_n hx hb dX1_has_4 rfl (lv_at hl 1 rfl) ?_
    refine lv_aload_n hx hb dX1_has_5 rfl (lv_at hl 0 rfl) ?_
    refine va_get (D := (dC, dI)) (ci := 1) (v := .int (iI nC)) (C := RX1) (T := TX1) (N := 6) hx hb hts hinX1 hown hK.1 hP 0 rfl rfl 5 (by decide) (hts _ (List.mem_of_getElem? (i := 1) rfl)) (fun _ h9 => h9) rfl dX1_has_6 ?_
    refine zi_cge (tgt := 16) hx hb (by omega) (by omega) dX1_has_9 (by decide) (fun c_2 => ?_) (fun c_2 => ?_)
    · skip
      refine lv_iconst (v := iI 0) hx hb dX1_has_16 rfl ?_
      subst hQ
      exact zret_pz hx hb hr hlocks dX1_has_17 (by first | decide | omega) (by first | exact (b2i_t ⟨by omega, by omega⟩).symm | exact (b2i_f (by omega)).symm)
    · skip
      refine lv_iconst (v := iI 1) hx hb dX1_has_12 rfl ?_
      refine lv_goto (tgt := 17) hx hb dX1_has_13 (by decide) ?_
      subst hQ
      exact zret_pz hx hb hr hlocks dX1_has_17 (by first | decide | omega) (by first | exact (b2i_t ⟨by omega, by omega⟩).symm | exact (b2i_f (by omega)).symm)
def rmX1_isFull : Room := { frames := 0, cells := 0, slots := 0, locals := 0 }
set_option maxRecDepth 100000 in
set_option maxHeartbeats 4000000 in
theorem kX1_isFull (l : Launch) (dC : Nat → ClassId) (dI : Nat → Nat → Nat) (cI cJ cZ : ClassId) (h0 h1 h2 h3 h4 h5 : Nat)  (cpar : Int → Int) (fr : Int → Int) (cdee : Int → Int) (use : Int → Int) (run : Int → Int) (nC : Int) (hnC : 1 ≤ nC ∧ nC ≤ 8) : zPi l yX1_isFull wsX1_isFull rmX1_isFull (dC, dI) (zT cI cJ cZ) (wCl cI cJ cZ h0 h1 h2 h3 h4 h5 cpar fr cdee use run nC) [.ref h0] (b2i (8 ≤ nC)) := by
  refine zent_pi (cc := cX1_isFull) (maxL := 1) (ret := (some .boolean)) (by decide +kernel) rfl (Nat.le_of_ble_eq_true rfl) ?_
  intro p e s m below meth c ls hE hP hK hl
  obtain ⟨hx, hb, hr, hml, hown, hts, hlocks, hmn⟩ := hE
  have hinX1 : ∀ w ∈ u_ws RX1 TX1 6, w ∈ wsX1_isFull := by decide +kernel
  have hl : lv_has ls 1 [(0, .ref h0)] := hl
  refine z_gen (fun Q hQ => ?_)
  refine lv_aload_n hx hb dX1_isFull_0 rfl (lv_at hl 0 rfl) ?_
  refine va_get (D := (dC, dI)) (ci := 1) (v := .int (iI nC)) (C := RX1) (T := TX1) (N := 6) hx hb hts hinX1 hown hK.1 hP 0 rfl rfl 5 (by decide) (hts _ (List.mem_of_getElem? (i := 1) rfl)) (fun _ h9 => h9) rfl dX1_isFull_1 ?_
  refine lv_bipush (v := iI 8) hx hb dX1_isFull_4 (by decide) ?_
  refine zi_clt (tgt := 13) hx hb (by omega) (by decide) dX1_isFull_6 (by decide) (fun c_1 => ?_) (fun c_1 => ?_)
  · skip
    refine lv_iconst (v := iI 0) hx hb dX1_isFull_13 rfl ?_
    subst hQ
    exact zret_pz hx hb hr hlocks dX1_isFull_14 (by first | decide | omega) (by first | exact (b2i_t (by omega)).symm | exact (b2i_f (by omega)).symm)
  · skip
    refine lv_iconst (v := iI 1) hx hb dX1_isFull_9 rfl ?_
    refine lv_goto (tgt := 14) hx hb dX1_isFull_10 (by decide) ?_
    subst hQ
    exact zret_pz hx hb hr hlocks dX1_isFull_14 (by first | decide | omega) (by first | exact (b2i_t (by omega)).symm | exact (b2i_f (by omega)).symm)
def rmX1_usesOf : Room := { frames := 1, cells := 0, slots := 0, locals := 21 }
set_option maxRecDepth 100000 in
set_option maxHeartbeats 4000000 in
theorem kX1_usesOf (l : Launch) (dC : Nat → ClassId) (dI : Nat → Nat → Nat) (cI cJ cZ : ClassId) (h0 h1 h2 h3 h4 h5 : Nat)  (cpar : Int → Int) (fr : Int → Int) (cdee : Int → Int) (use : Int → Int) (run : Int → Int) (nC : Int) (k : Int) (hk : 0 ≤ k ∧ k < 8) : zPi l yX1_usesOf wsX1_usesOf rmX1_usesOf (dC, dI) (zT cI cJ cZ) (wCl cI cJ cZ h0 h1 h2 h3 h4 h5 cpar fr cdee use run nC) [.ref h0, .int (iI k)] (use k) := by
  refine zent_pi (cc := cX1_usesOf) (maxL := 2) (ret := (some .int)) (by decide +kernel) rfl (Nat.le_of_ble_eq_true rfl) ?_
  intro p e s m below meth c ls hE hP hK hl
  obtain ⟨hx, hb, hr, hml, hown, hts, hlocks, hmn⟩ := hE
  have hinX1 : ∀ w ∈ u_ws RX1 TX1 6, w ∈ wsX1_usesOf := by decide +kernel
  have hl : lv_has ls 2 [(0, .ref h0), (1, .int (iI k))] := hl
  refine z_gen (fun Q hQ => ?_)
  refine lv_aload_n hx hb dX1_usesOf_0 rfl (lv_at hl 0 rfl) ?_
  refine va_get (D := (dC, dI)) (ci := 1) (v := .ref h4) (C := RX1) (T := TX1) (N := 6) hx hb hts hinX1 hown hK.1 hP 0 rfl rfl 3 (by decide) (hts _ (List.mem_of_getElem? (i := 1) rfl)) (fun _ h9 => h9) rfl dX1_usesOf_1 ?_
  refine lv_iload_n hx hb dX1_usesOf_4 rfl (lv_at hl 1 rfl) ?_
  refine zc_pi (va_runSN (As := [.ref h4, .int (iI k)]) (rest := []) ⟨hx, hb, hml, hown, hts⟩ (kX7_read l dC dI cI cJ cZ h4 8 use k (by first | assumption | omega | exact b2i_01 _) (by first | assumption | omega | exact b2i_01 _)) ⟨va_cnB 2 hts gX1_usesOf_X7_read_n36 rfl rfl rfl (hK.2.2 _ (List.mem_of_getElem? (i := 1) rfl)) (hts _ (List.mem_of_getElem? (i := 3) rfl)) (by decide +kernel) ⟨Nat.le_of_ble_eq_true rfl, Nat.le_of_ble_eq_true rfl⟩, (hts _ (List.mem_of_getElem? (i := 2) rfl)), trivial⟩ (zqS hK hP [4] rfl) rfl rfl hl.1 rfl (lv_room (Nat.le_of_ble_eq_true rfl)) dX1_usesOf_5 ⟨Nat.le_of_ble_eq_true rfl, Nat.le_of_ble_eq_true rfl⟩) ?_
  subst hQ
  exact zret_pi hx hb hr hlocks dX1_usesOf_8 (by exact if_pos (by omega))
def rmX1_changeUses : Room := { frames := 2, cells := 0, slots := 0, locals := 42 }
set_option maxRecDepth 100000 in
set_option maxHeartbeats 4000000 in
theorem kX1_changeUses (l : Launch) (dC : Nat → ClassId) (dI : Nat → Nat → Nat) (cI cJ cZ : ClassId) (h0 h1 h2 h3 h4 h5 : Nat)  (cpar : Int → Int) (fr : Int → Int) (cdee : Int → Int) (use : Int → Int) (run : Int → Int) (nC : Int) (k dv : Int) (hk : 0 ≤ k ∧ k < 8) : zMi l yX1_changeUses wsX1_changeUses rmX1_changeUses (dC, dI) (zT cI cJ cZ) (wCl cI cJ cZ h0 h1 h2 h3 h4 h5 cpar fr cdee use run nC) [.ref h0, .int (iI k), .int (iI dv)] (fun (r9 : Int) (_ : Unit) => r9 = use k + dv) (fun _ : Unit => wCl cI cJ cZ h0 h1 h2 h3 h4 h5 cpar fr cdee (uZ use k (use k + dv)) run nC) 0 0 := by
  refine zent_i (cc := cX1_changeUses) (maxL := 3) (ret := (some .int)) (by decide +kernel) rfl (Nat.le_of_ble_eq_true rfl) ?_
  intro p e s m below meth c A ls hE hP hK hA hD hS hl
  obtain ⟨hx, hb, hr, hml, hown, hts, hlocks, hmn⟩ := hE
  have hinX1 : ∀ w ∈ u_ws RX1 TX1 6, w ∈ wsX1_changeUses := by decide +kernel
  have hl : lv_has ls 3 [(0, .ref h0), (1, .int (iI k)), (2, .int (iI dv))] := hl
  refine z_gen (fun Q hQ => ?_)
  refine lv_aload_n hx hb dX1_changeUses_0 rfl (lv_at hl 0 rfl) ?_
  refine va_get (D := (dC, dI)) (ci := 1) (v := .ref h4) (C := RX1) (T := TX1) (N := 6) hx hb hts hinX1 hown hK.1 hP 0 rfl rfl 3 (by decide) (hts _ (List.mem_of_getElem? (i := 1) rfl)) (fun _ h9 => h9) rfl dX1_changeUses_1 ?_
  refine lv_iload_n hx hb dX1_changeUses_4 rfl (lv_at hl 1 rfl) ?_
  refine lv_aload_n hx hb dX1_changeUses_5 rfl (lv_at hl 0 rfl) ?_
  refine lv_iload_n hx hb dX1_changeUses_6 rfl (lv_at hl 1 rfl) ?_
  refine zc_pi (va_runV (As := [.int (iI k)]) (rest := [.int (iI k), .ref h4]) ⟨hx, hb, hml, hown, hts⟩ (kX1_usesOf l dC dI cI cJ cZ h0 h1 h2 h3 h4 h5 cpar fr cdee use run nC k (by first | assumption | omega | exact b2i_01 _)) (cwV 1 hts gX1_changeUses_X1_usesOf rfl rfl rfl (by decide +kernel) ⟨Nat.le_of_ble_eq_true rfl, Nat.le_of_ble_eq_true rfl⟩) (zqV hK hP [0, 1, 2, 3, 4, 5] rfl 0 rfl rfl) rfl rfl hl.1 rfl (lv_room (Nat.le_of_ble_eq_true rfl)) dX1_changeUses_7 ⟨Nat.le_of_ble_eq_true rfl, Nat.le_of_ble_eq_true rfl⟩) ?_
  refine lv_iload_n hx hb dX1_changeUses_10 rfl (lv_at hl 2 rfl) ?_
  refine zi_add hx hb dX1_changeUses_11 ?_
  refine zc_i (va_runSN (As := [.ref h4, .int (iI k), .int (iI ((use k) + dv))]) (rest := []) ⟨hx, hb, hml, hown, hts⟩ (kX7_exchange l dC dI cI cJ cZ h4 8 use k ((use k) + dv) (by first | assumption | omega | exact b2i_01 _) (by first | assumption | omega | exact b2i_01 _) s.heap.size) ⟨va_cnB 3 hts gX1_changeUses_X7_exchange_n44 rfl rfl rfl (hK.2.2 _ (List.mem_of_getElem? (i := 2) rfl)) (hts _ (List.mem_of_getElem? (i := 8) rfl)) (by decide +kernel) ⟨Nat.le_of_ble_eq_true rfl, Nat.le_of_ble_eq_true rfl⟩, (hts _ (List.mem_of_getElem? (i := 10) rfl)), trivial⟩ (zpS hK hP hD [4] rfl rfl) rfl rfl hl.1 rfl (lv_room (Nat.le_of_ble_eq_true rfl)) dX1_changeUses_12 ⟨Nat.le_of_ble_eq_true rfl, Nat.le_of_ble_eq_true rfl⟩) hP hD hS hA [4] [0, 1, 2, 3, 5] rfl rfl rfl (by decide) (fun v_3 u_2 H locs r_1 hP hD hS => ?_)
  refine ze_i r_1 ?_
  have hP : va_P (dC, dI) vwCl (wCl cI cJ cZ h0 h1 h2 h3 h4 h5 cpar fr cdee (exZ use 8 k ((use k) + dv)) run nC) H := hP.sub [0, 1, 2, 3, 5, 4] (z_fm rfl)
  have hD : va_D A (wCl cI cJ cZ h0 h1 h2 h3 h4 h5 cpar fr cdee (exZ use 8 k ((use k) + dv)) run nC) := hD.sub [0, 1, 2, 3, 5, 4] (by decide) rfl
  refine lv_pop hx hb dX1_changeUses_15 rfl ?_
  refine lv_aload_n hx hb dX1_changeUses_16 rfl (lv_at hl 0 rfl) ?_
  refine lv_iload_n hx hb dX1_changeUses_17 rfl (lv_at hl 1 rfl) ?_
  refine zc_pi (va_runV (As := [.int (iI k)]) (rest := []) ⟨hx, hb, hml, hown, hts⟩ (kX1_usesOf l dC dI cI cJ cZ h0 h1 h2 h3 h4 h5 cpar fr cdee (exZ use 8 k ((use k) + dv)) run nC k (by first | assumption | omega | exact b2i_01 _)) (cwV 1 hts gX1_changeUses_X1_usesOf rfl rfl rfl (by decide +kernel) ⟨Nat.le_of_ble_eq_true rfl, Nat.le_of_ble_eq_true rfl⟩) (zqV hK hP [0, 1, 2, 3, 4, 5] rfl 0 rfl rfl) rfl rfl hl.1 rfl (lv_room (Nat.le_of_ble_eq_true rfl)) dX1_changeUses_18 ⟨Nat.le_of_ble_eq_true rfl, Nat.le_of_ble_eq_true rfl⟩) ?_
  subst hQ
  have w_4 : (uZ use k (use k + dv)) = (exZ use 8 k ((use k) + dv)) := by exact (if_pos (by omega)).symm
  have hP : va_P (dC, dI) vwCl (wCl cI cJ cZ h0 h1 h2 h3 h4 h5 cpar fr cdee (uZ use k (use k + dv)) run nC) H := by rw [w_4]; exact hP
  have hD : va_D A (wCl cI cJ cZ h0 h1 h2 h3 h4 h5 cpar fr cdee (uZ use k (use k + dv)) run nC) := by rw [w_4]; exact hD
  exact zret_i (W1 := fun _ : Unit => wCl cI cJ cZ h0 h1 h2 h3 h4 h5 cpar fr cdee (uZ use k (use k + dv)) run nC) () hx hb hr hP hD hS hlocks dX1_changeUses_21 (by rw [exZ_i (by omega), uZ_s])
def rmX1_add : Room := { frames := 1, cells := 0, slots := 0, locals := 21 }
set_option maxRecDepth 100000 in
set_option maxHeartbeats 4000000 in
theorem kX1_add (l : Launch) (dC : Nat → ClassId) (dI : Nat → Nat → Nat) (cI cJ cZ : ClassId) (h0 h1 h2 h3 h4 h5 : Nat)  (cpar : Int → Int) (fr : Int → Int) (cdee : Int → Int) (use : Int → Int) (run : Int → Int) (nC : Int) (k dv dp : Int) (hnC : 1 ≤ nC ∧ nC < 8) (hk : 0 ≤ k ∧ k < nC) (hdv : 1 ≤ dv ∧ dv ≤ 64) (hfr : 0 ≤ fr k ∧ fr k ≤ 4800) : zMi l yX1_add wsX1_add rmX1_add (dC, dI) (zT cI cJ cZ) (wCl cI cJ cZ h0 h1 h2 h3 h4 h5 cpar fr cdee use run nC) [.ref h0, .int (iI k), .int (iI dv), .int (iI dp)] (fun (r9 : Int) (_ : Unit) => r9 = nC) (fun _ : Unit => wCl cI cJ cZ h0 h1 h2 h3 h4 h5 (uZ cpar nC k) (uZ fr nC (fr k / dv)) (uZ cdee nC dp) (uZ use nC 0) run (nC + 1)) 0 0 := by
  refine zent_i (cc := cX1_add) (maxL := 4) (ret := (some .int)) (by decide +kernel) rfl (Nat.le_of_ble_eq_true rfl) ?_
  intro p e s m below meth c A ls hE hP hK hA hD hS hl
  obtain ⟨hx, hb, hr, hml, hown, hts, hlocks, hmn⟩ := hE
  have hinX1 : ∀ w ∈ u_ws RX1 TX1 6, w ∈ wsX1_add := by decide +kernel
  have hl : lv_has ls 4 [(0, .ref h0), (1, .int (iI k)), (2, .int (iI dv)), (3, .int (iI dp))] := hl
  refine z_gen (fun Q hQ => ?_)
  refine lv_aload_n hx hb dX1_add_0 rfl (lv_at hl 0 rfl) ?_
  refine zc_pi (va_runV (As := []) (rest := []) ⟨hx, hb, hml, hown, hts⟩ (kX1_isFull l dC dI cI cJ cZ h0 h1 h2 h3 h4 h5 cpar fr cdee use run nC (by first | assumption | omega | exact b2i_01 _)) (cwV 0 hts gX1_add_X1_isFull rfl rfl rfl (by decide +kernel) ⟨Nat.le_of_ble_eq_true rfl, Nat.le_of_ble_eq_true rfl⟩) (zqV hK hP [0, 1, 2, 3, 4, 5] rfl 0 rfl rfl) rfl rfl hl.1 rfl (lv_room (Nat.le_of_ble_eq_true rfl)) dX1_add_1 ⟨Nat.le_of_ble_eq_true rfl, Nat.le_of_ble_eq_true rfl⟩) ?_
  refine zb_fne (tgt := 11) hx hb dX1_add_4 (by decide) (fun c_1 => ?_) (fun c_1 => ?_)
  · skip
    exact absurd c_1 (by omega)
  · skip
    refine lv_iload_n hx hb dX1_add_7 rfl (lv_at hl 2 rfl) ?_
    refine zi_fgt (tgt := 13) hx hb (by omega) dX1_add_8 (by decide) (fun c_2 => ?_) (fun c_2 => ?_)
    · skip
      refine lv_aload_n hx hb dX1_add_13 rfl (lv_at hl 0 rfl) ?_
      refine va_get (D := (dC, dI)) (ci := 1) (v := .ref h1) (C := RX1) (T := TX1) (N := 6) hx hb hts hinX1 hown hK.1 hP 0 rfl rfl 0 (by decide) (hts _ (List.mem_of_getElem? (i := 1) rfl)) (fun _ h9 => h9) rfl dX1_add_14 ?_
      refine lv_aload_n hx hb dX1_add_17 rfl (lv_at hl 0 rfl) ?_
      refine va_get (D := (dC, dI)) (ci := 1) (v := .int (iI nC)) (C := RX1) (T := TX1) (N := 6) hx hb hts hinX1 hown hK.1 hP 0 rfl rfl 5 (by decide) (hts _ (List.mem_of_getElem? (i := 2) rfl)) (fun _ h9 => h9) rfl dX1_add_18 ?_
      refine lv_iload_n hx hb dX1_add_21 rfl (lv_at hl 1 rfl) ?_
      refine za_st hx hb hK hP hD hS 1 0 rfl rfl (by omega) (by omega) dX1_add_22 (fun H locs hP hD hS => ?_)
      have hP : va_P (dC, dI) vwCl (wCl cI cJ cZ h0 h1 h2 h3 h4 h5 (uZ cpar nC k) fr cdee use run nC) H := hP
      have hD : va_D A (wCl cI cJ cZ h0 h1 h2 h3 h4 h5 (uZ cpar nC k) fr cdee use run nC) := hD
      refine lv_aload_n hx hb dX1_add_23 rfl (lv_at hl 0 rfl) ?_
      refine va_get (D := (dC, dI)) (ci := 1) (v := .ref h2) (C := RX1) (T := TX1) (N := 6) hx hb hts hinX1 hown hK.1 hP 0 rfl rfl 1 (by decide) (hts _ (List.mem_of_getElem? (i := 3) rfl)) (fun _ h9 => h9) rfl dX1_add_24 ?_
      refine lv_aload_n hx hb dX1_add_27 rfl (lv_at hl 0 rfl) ?_
      refine va_get (D := (dC, dI)) (ci := 1) (v := .int (iI nC)) (C := RX1) (T := TX1) (N := 6) hx hb hts hinX1 hown hK.1 hP 0 rfl rfl 5 (by decide) (hts _ (List.mem_of_getElem? (i := 2) rfl)) (fun _ h9 => h9) rfl dX1_add_28 ?_
      refine lv_aload_n hx hb dX1_add_31 rfl (lv_at hl 0 rfl) ?_
      refine va_get (D := (dC, dI)) (ci := 1) (v := .ref h2) (C := RX1) (T := TX1) (N := 6) hx hb hts hinX1 hown hK.1 hP 0 rfl rfl 1 (by decide) (hts _ (List.mem_of_getElem? (i := 3) rfl)) (fun _ h9 => h9) rfl dX1_add_32 ?_
      refine lv_iload_n hx hb dX1_add_35 rfl (lv_at hl 1 rfl) ?_
      refine zc_pi (va_runSN (As := [.ref h2, .int (iI k)]) (rest := [.int (iI nC), .ref h2]) ⟨hx, hb, hml, hown, hts⟩ (kX7_read l dC dI cI cJ cZ h2 8 fr k (by first | assumption | omega | exact b2i_01 _) (by first | assumption | omega | exact b2i_01 _)) ⟨va_cnB 2 hts gX1_add_X7_read_n36 rfl rfl rfl (hK.2.2 _ (List.mem_of_getElem? (i := 1) rfl)) (hts _ (List.mem_of_getElem? (i := 12) rfl)) (by decide +kernel) ⟨Nat.le_of_ble_eq_true rfl, Nat.le_of_ble_eq_true rfl⟩, (hts _ (List.mem_of_getElem? (i := 11) rfl)), trivial⟩ (zqS hK hP [2] rfl) rfl rfl hl.1 rfl (lv_room (Nat.le_of_ble_eq_true rfl)) dX1_add_36 ⟨Nat.le_of_ble_eq_true rfl, Nat.le_of_ble_eq_true rfl⟩) ?_
      have er : rdZ fr 8 k = fr k := if_pos (by omega)
      refine lv_iload_n hx hb dX1_add_39 rfl (lv_at hl 2 rfl) ?_
      refine zi_div hx hb (by omega) (by omega) dX1_add_40 ?_
      refine za_st hx hb hK hP hD hS 2 0 rfl rfl (by omega) (by omega) dX1_add_41 (fun H locs hP hD hS => ?_)
      have hP : va_P (dC, dI) vwCl (wCl cI cJ cZ h0 h1 h2 h3 h4 h5 (uZ cpar nC k) (uZ fr nC ((rdZ fr 8 k) / dv)) cdee use run nC) H := hP
      have hD : va_D A (wCl cI cJ cZ h0 h1 h2 h3 h4 h5 (uZ cpar nC k) (uZ fr nC ((rdZ fr 8 k) / dv)) cdee use run nC) := hD
      refine lv_aload_n hx hb dX1_add_42 rfl (lv_at hl 0 rfl) ?_
      refine va_get (D := (dC, dI)) (ci := 1) (v := .ref h3) (C := RX1) (T := TX1) (N := 6) hx hb hts hinX1 hown hK.1 hP 0 rfl rfl 2 (by decide) (hts _ (List.mem_of_getElem? (i := 4) rfl)) (fun _ h9 => h9) rfl dX1_add_43 ?_
      refine lv_aload_n hx hb dX1_add_46 rfl (lv_at hl 0 rfl) ?_
      refine va_get (D := (dC, dI)) (ci := 1) (v := .int (iI nC)) (C := RX1) (T := TX1) (N := 6) hx hb hts hinX1 hown hK.1 hP 0 rfl rfl 5 (by decide) (hts _ (List.mem_of_getElem? (i := 2) rfl)) (fun _ h9 => h9) rfl dX1_add_47 ?_
      refine lv_iload_n hx hb dX1_add_50 rfl (lv_at hl 3 rfl) ?_
      refine za_st hx hb hK hP hD hS 3 0 rfl rfl (by omega) (by omega) dX1_add_51 (fun H locs hP hD hS => ?_)
      have hP : va_P (dC, dI) vwCl (wCl cI cJ cZ h0 h1 h2 h3 h4 h5 (uZ cpar nC k) (uZ fr nC ((rdZ fr 8 k) / dv)) (uZ cdee nC dp) use run nC) H := hP
      have hD : va_D A (wCl cI cJ cZ h0 h1 h2 h3 h4 h5 (uZ cpar nC k) (uZ fr nC ((rdZ fr 8 k) / dv)) (uZ cdee nC dp) use run nC) := hD
      refine lv_aload_n hx hb dX1_add_52 rfl (lv_at hl 0 rfl) ?_
      refine va_get (D := (dC, dI)) (ci := 1) (v := .ref h4) (C := RX1) (T := TX1) (N := 6) hx hb hts hinX1 hown hK.1 hP 0 rfl rfl 3 (by decide) (hts _ (List.mem_of_getElem? (i := 5) rfl)) (fun _ h9 => h9) rfl dX1_add_53 ?_
      refine lv_aload_n hx hb dX1_add_56 rfl (lv_at hl 0 rfl) ?_
      refine va_get (D := (dC, dI)) (ci := 1) (v := .int (iI nC)) (C := RX1) (T := TX1) (N := 6) hx hb hts hinX1 hown hK.1 hP 0 rfl rfl 5 (by decide) (hts _ (List.mem_of_getElem? (i := 2) rfl)) (fun _ h9 => h9) rfl dX1_add_57 ?_
      refine lv_iconst (v := iI 0) hx hb dX1_add_60 rfl ?_
      refine za_st hx hb hK hP hD hS 4 0 rfl rfl (by omega) (by omega) dX1_add_61 (fun H locs hP hD hS => ?_)
      have hP : va_P (dC, dI) vwCl (wCl cI cJ cZ h0 h1 h2 h3 h4 h5 (uZ cpar nC k) (uZ fr nC ((rdZ fr 8 k) / dv)) (uZ cdee nC dp) (uZ use nC 0) run nC) H := hP
      have hD : va_D A (wCl cI cJ cZ h0 h1 h2 h3 h4 h5 (uZ cpar nC k) (uZ fr nC ((rdZ fr 8 k) / dv)) (uZ cdee nC dp) (uZ use nC 0) run nC) := hD
      refine lv_aload_n hx hb dX1_add_62 rfl (lv_at hl 0 rfl) ?_
      refine lv_dup hx hb dX1_add_63 rfl ?_
      refine va_get (D := (dC, dI)) (ci := 1) (v := .int (iI nC)) (C := RX1) (T := TX1) (N := 6) hx hb hts hinX1 hown hK.1 hP 0 rfl rfl 5 (by decide) (hts _ (List.mem_of_getElem? (i := 2) rfl)) (fun _ h9 => h9) rfl dX1_add_64 ?_
      refine lv_iconst (v := iI 1) hx hb dX1_add_67 rfl ?_
      refine zi_add hx hb dX1_add_68 ?_
      refine va_put (D := (dC, dI)) (ci := 1) (v := .int (iI (nC + 1))) (ty := .int) (C := RX1) (T := TX1) (N := 6) hx hb hts hinX1 tyX1 tyX1_ok nmX1 hown hK.1 hP hD hS 0 rfl rfl 5 (by decide) (hts _ (List.mem_of_getElem? (i := 2) rfl)) (fun _ h9 => h9) rfl (by decide +kernel) rfl rfl (Nat.le_of_ble_eq_true rfl) dX1_add_69 (fun H locs hP hD hS => ?_)
      have hP : va_P (dC, dI) vwCl (wCl cI cJ cZ h0 h1 h2 h3 h4 h5 (uZ cpar nC k) (uZ fr nC ((rdZ fr 8 k) / dv)) (uZ cdee nC dp) (uZ use nC 0) run (nC + 1)) H := hP
      have hD : va_D A (wCl cI cJ cZ h0 h1 h2 h3 h4 h5 (uZ cpar nC k) (uZ fr nC ((rdZ fr 8 k) / dv)) (uZ cdee nC dp) (uZ use nC 0) run (nC + 1)) := hD
      refine lv_aload_n hx hb dX1_add_72 rfl (lv_at hl 0 rfl) ?_
      refine va_get (D := (dC, dI)) (ci := 1) (v := .int (iI (nC + 1))) (C := RX1) (T := TX1) (N := 6) hx hb hts hinX1 hown hK.1 hP 0 rfl rfl 5 (by decide) (hts _ (List.mem_of_getElem? (i := 2) rfl)) (fun _ h9 => h9) rfl dX1_add_73 ?_
      refine lv_iconst (v := iI 1) hx hb dX1_add_76 rfl ?_
      refine zi_sub hx hb dX1_add_77 ?_
      subst hQ
      have w_3 : (uZ fr nC (fr k / dv)) = (uZ fr nC ((rdZ fr 8 k) / dv)) := by rw [er]
      have hP : va_P (dC, dI) vwCl (wCl cI cJ cZ h0 h1 h2 h3 h4 h5 (uZ cpar nC k) (uZ fr nC (fr k / dv)) (uZ cdee nC dp) (uZ use nC 0) run (nC + 1)) H := by rw [w_3]; exact hP
      have hD : va_D A (wCl cI cJ cZ h0 h1 h2 h3 h4 h5 (uZ cpar nC k) (uZ fr nC (fr k / dv)) (uZ cdee nC dp) (uZ use nC 0) run (nC + 1)) := by rw [w_3]; exact hD
      exact zret_i (W1 := fun _ : Unit => wCl cI cJ cZ h0 h1 h2 h3 h4 h5 (uZ cpar nC k) (uZ fr nC (fr k / dv)) (uZ cdee nC dp) (uZ use nC 0) run (nC + 1)) () hx hb hr hP hD hS hlocks dX1_add_78 (by omega)
    · skip
      exact absurd c_2 (by omega)
def rmX1_markRunning : Room := { frames := 1, cells := 0, slots := 0, locals := 21 }
set_option maxRecDepth 100000 in
set_option maxHeartbeats 4000000 in
theorem kX1_markRunning (l : Launch) (dC : Nat → ClassId) (dI : Nat → Nat → Nat) (cI cJ cZ : ClassId) (h0 h1 h2 h3 h4 h5 : Nat)  (cpar : Int → Int) (fr : Int → Int) (cdee : Int → Int) (use : Int → Int) (run : Int → Int) (nC : Int) (hnC : 1 ≤ nC ∧ nC ≤ 8) (hpar : ∀ c : Int, 1 ≤ c → c < nC → 0 ≤ cpar c ∧ cpar c < c) (huse : rgZ use 8 9) (hrun : tfZ run) : zMv l yX1_markRunning wsX1_markRunning rmX1_markRunning (dC, dI) (zT cI cJ cZ) (wCl cI cJ cZ h0 h1 h2 h3 h4 h5 cpar fr cdee use run nC) [.ref h0] (fun (_ : Unit) => True) (fun _ : Unit => wCl cI cJ cZ h0 h1 h2 h3 h4 h5 cpar fr cdee use (rnZ cpar (nC - 1) (r0Z use nC run)) nC) 0 0 := by
  refine zent_v (cc := cX1_markRunning) (maxL := 2) (ret := none) (by decide +kernel) rfl (Nat.le_of_ble_eq_true rfl) ?_
  intro p e s m below meth c A ls hE hP hK hA hD hS hl
  obtain ⟨hx, hb, hr, hml, hown, hts, hlocks, hmn⟩ := hE
  have hinX1 : ∀ w ∈ u_ws RX1 TX1 6, w ∈ wsX1_markRunning := by decide +kernel
  have hl : lv_has ls 2 [(0, .ref h0)] := hl
  refine z_gen (fun Q hQ => ?_)
  refine lv_iconst (v := iI 0) hx hb dX1_markRunning_0 rfl ?_
  refine lv_istore_n (lv' := [(1, .int (iI 0)), (0, .ref h0)]) hx hb dX1_markRunning_1 rfl hl (by decide) rfl (fun ls hl => ?_)
  have L2 : ∀ (fuel : Nat) (k : Int), (0 ≤ k ∧ k ≤ nC) → ((nC - k).toNat) < fuel → ∀ (H : Heap) (locs : List Loc), va_P (dC, dI) vwCl (wCl cI cJ cZ h0 h1 h2 h3 h4 h5 cpar fr cdee use (r0Z use k run) nC) H → va_D A (wCl cI cJ cZ h0 h1 h2 h3 h4 h5 cpar fr cdee use (r0Z use k run) nC) → va_S A s.heap H locs → ∀ ls : Array Slot, lv_has ls 2 [(1, .int (iI k)), (0, .ref h0)] → W p l e rmX1_markRunning s m ([.ref h0] : List Value).toArray below meth c H locs 0 0 Q (F0 m 2 ls []) := by
    intro fuel
    induction fuel with
    | zero =>
      intro k hk hmeas H locs hP hD hS ls hl
      exact absurd hmeas (by omega)
    | succ fuel ih =>
      intro k hk hmeas H locs hP hD hS ls hl
      refine lv_iload_n hx hb dX1_markRunning_2 rfl (lv_at hl 0 rfl) ?_
      refine lv_aload_n hx hb dX1_markRunning_3 rfl (lv_at hl 1 rfl) ?_
      refine va_get (D := (dC, dI)) (ci := 1) (v := .int (iI nC)) (C := RX1) (T := TX1) (N := 6) hx hb hts hinX1 hown hK.1 hP 0 rfl rfl 5 (by decide) (hts _ (List.mem_of_getElem? (i := 1) rfl)) (fun _ h9 => h9) rfl dX1_markRunning_4 ?_
      refine zi_cge (tgt := 36) hx hb (by omega) (by omega) dX1_markRunning_7 (by decide) (fun c_1 => ?_) (fun c_1 => ?_)
      · skip
        refine lv_aload_n hx hb dX1_markRunning_36 rfl (lv_at hl 1 rfl) ?_
        refine va_get (D := (dC, dI)) (ci := 1) (v := .int (iI nC)) (C := RX1) (T := TX1) (N := 6) hx hb hts hinX1 hown hK.1 hP 0 rfl rfl 5 (by decide) (hts _ (List.mem_of_getElem? (i := 1) rfl)) (fun _ h9 => h9) rfl dX1_markRunning_37 ?_
        refine lv_iconst (v := iI 1) hx hb dX1_markRunning_40 rfl ?_
        refine zi_sub hx hb dX1_markRunning_41 ?_
        refine lv_istore_n (lv' := [(1, .int (iI (nC - 1))), (0, .ref h0)]) hx hb dX1_markRunning_42 rfl hl (by decide) rfl (fun ls hl => ?_)
        have L43 : ∀ (fuel : Nat) (k2 : Int) (r : Int → Int), (0 ≤ k2 ∧ k2 < nC) → (tfZ r) → (rnZ cpar (nC - 1) (r0Z use nC run) = rnZ cpar k2 r) → (k2.toNat) < fuel → ∀ (H : Heap) (locs : List Loc), va_P (dC, dI) vwCl (wCl cI cJ cZ h0 h1 h2 h3 h4 h5 cpar fr cdee use r nC) H → va_D A (wCl cI cJ cZ h0 h1 h2 h3 h4 h5 cpar fr cdee use r nC) → va_S A s.heap H locs → ∀ ls : Array Slot, lv_has ls 2 [(1, .int (iI k2)), (0, .ref h0)] → W p l e rmX1_markRunning s m ([.ref h0] : List Value).toArray below meth c H locs 0 0 Q (F0 m 43 ls []) := by
          intro fuel
          induction fuel with
          | zero =>
            intro k2 r hk2 hr2 hI hmeas H locs hP hD hS ls hl
            exact absurd hmeas (by omega)
          | succ fuel ih =>
            intro k2 r hk2 hr2 hI hmeas H locs hP hD hS ls hl
            refine lv_iload_n hx hb dX1_markRunning_43 rfl (lv_at hl 0 rfl) ?_
            refine zi_fle (tgt := 87) hx hb (by omega) dX1_markRunning_44 (by decide) (fun c_2 => ?_) (fun c_2 => ?_)
            · skip
              subst hQ
              have w_3 : (rnZ cpar (nC - 1) (r0Z use nC run)) = r := by rw [hI]; exact fdZ_n _ (by omega) _
              have hP : va_P (dC, dI) vwCl (wCl cI cJ cZ h0 h1 h2 h3 h4 h5 cpar fr cdee use (rnZ cpar (nC - 1) (r0Z use nC run)) nC) H := by rw [w_3]; exact hP
              have hD : va_D A (wCl cI cJ cZ h0 h1 h2 h3 h4 h5 cpar fr cdee use (rnZ cpar (nC - 1) (r0Z use nC run)) nC) := by rw [w_3]; exact hD
              exact zret_v (W1 := fun _ : Unit => wCl cI cJ cZ h0 h1 h2 h3 h4 h5 cpar fr cdee use (rnZ cpar (nC - 1) (r0Z use nC run)) nC) () hx hb hr hP hD hS hlocks dX1_markRunning_87 (by trivial)
            · skip
              refine lv_aload_n hx hb dX1_markRunning_47 rfl (lv_at hl 1 rfl) ?_
              refine va_get (D := (dC, dI)) (ci := 1) (v := .ref h5) (C := RX1) (T := TX1) (N := 6) hx hb hts hinX1 hown hK.1 hP 0 rfl rfl 4 (by decide) (hts _ (List.mem_of_getElem? (i := 2) rfl)) (fun _ h9 => h9) rfl dX1_markRunning_48 ?_
              refine lv_iload_n hx hb dX1_markRunning_51 rfl (lv_at hl 0 rfl) ?_
              refine za_zld hx hb hK hP 5 2 rfl rfl (by omega) (by omega) dX1_markRunning_52 ?_
              have hz := hr2 k2 (by omega) (by omega)
              refine zi_feq (tgt := 81) hx hb (by omega) dX1_markRunning_53 (by decide) (fun c_4 => ?_) (fun c_4 => ?_)
              · skip
                refine lv_iinc (v := iI (k2 + (-1))) (lv' := [(1, .int (iI (k2 + (-1)))), (0, .ref h0)]) hx hb dX1_markRunning_81 hl (k := 0) rfl (iI_add _ _) (by decide) rfl (fun ls hl => ?_)
                refine lv_goto (tgt := 43) hx hb dX1_markRunning_84 (by decide) ?_
                exact ih (k2 + (-1)) r (by omega) (by first | exact tf_u hr2 (Or.inr rfl) | exact hr2) (by rw [hI]; unfold rnZ; rw [fdZ_s _ (by omega)]; unfold rnF; first | rw [if_pos (by assumption)]; rfl | rw [if_neg (by omega)]; rfl) (by omega) H locs hP hD hS ls (lv_sub hl [0, 1] rfl)
              · skip
                refine lv_aload_n hx hb dX1_markRunning_56 rfl (lv_at hl 1 rfl) ?_
                refine lv_aload_n hx hb dX1_markRunning_57 rfl (lv_at hl 1 rfl) ?_
                refine va_get (D := (dC, dI)) (ci := 1) (v := .ref h1) (C := RX1) (T := TX1) (N := 6) hx hb hts hinX1 hown hK.1 hP 0 rfl rfl 0 (by decide) (hts _ (List.mem_of_getElem? (i := 4) rfl)) (fun _ h9 => h9) rfl dX1_markRunning_58 ?_
                refine lv_iload_n hx hb dX1_markRunning_61 rfl (lv_at hl 0 rfl) ?_
                refine za_ld hx hb hK hP 1 0 rfl rfl (by omega) (by omega) dX1_markRunning_62 ?_
                have e_5 := hpar k2 (by omega) (by omega)
                refine zc_pi (va_runV (As := [.int (iI (cpar k2))]) (rest := []) ⟨hx, hb, hml, hown, hts⟩ (kX1_has l dC dI cI cJ cZ h0 h1 h2 h3 h4 h5 cpar fr cdee use r nC (cpar k2) (by first | assumption | omega | exact b2i_01 _) (by first | assumption | omega | exact b2i_01 _)) (cwV 1 hts gX1_markRunning_X1_has rfl rfl rfl (by decide +kernel) ⟨Nat.le_of_ble_eq_true rfl, Nat.le_of_ble_eq_true rfl⟩) (zqV hK hP [0, 1, 2, 3, 4, 5] rfl 0 rfl rfl) rfl rfl hl.1 rfl (lv_room (Nat.le_of_ble_eq_true rfl)) dX1_markRunning_63 ⟨Nat.le_of_ble_eq_true rfl, Nat.le_of_ble_eq_true rfl⟩) ?_
                refine zb_feq (tgt := 81) hx hb dX1_markRunning_66 (by decide) (fun c_6 => ?_) (fun c_6 => ?_)
                · skip
                  exact absurd c_6 (by omega)
                · skip
                  refine lv_aload_n hx hb dX1_markRunning_69 rfl (lv_at hl 1 rfl) ?_
                  refine va_get (D := (dC, dI)) (ci := 1) (v := .ref h5) (C := RX1) (T := TX1) (N := 6) hx hb hts hinX1 hown hK.1 hP 0 rfl rfl 4 (by decide) (hts _ (List.mem_of_getElem? (i := 2) rfl)) (fun _ h9 => h9) rfl dX1_markRunning_70 ?_
                  refine lv_aload_n hx hb dX1_markRunning_73 rfl (lv_at hl 1 rfl) ?_
                  refine va_get (D := (dC, dI)) (ci := 1) (v := .ref h1) (C := RX1) (T := TX1) (N := 6) hx hb hts hinX1 hown hK.1 hP 0 rfl rfl 0 (by decide) (hts _ (List.mem_of_getElem? (i := 4) rfl)) (fun _ h9 => h9) rfl dX1_markRunning_74 ?_
                  refine lv_iload_n hx hb dX1_markRunning_77 rfl (lv_at hl 0 rfl) ?_
                  refine za_ld hx hb hK hP 1 0 rfl rfl (by omega) (by omega) dX1_markRunning_78 ?_
                  have e_7 := hpar k2 (by omega) (by omega)
                  refine lv_iconst (v := iI 1) hx hb dX1_markRunning_79 rfl ?_
                  refine za_zst hx hb hK hP hD hS 5 2 rfl rfl (by omega) (by omega) (by first | decide | omega) dX1_markRunning_80 (fun H locs hP hD hS => ?_)
                  have hP : va_P (dC, dI) vwCl (wCl cI cJ cZ h0 h1 h2 h3 h4 h5 cpar fr cdee use (uZ r (cpar k2) 1) nC) H := hP
                  have hD : va_D A (wCl cI cJ cZ h0 h1 h2 h3 h4 h5 cpar fr cdee use (uZ r (cpar k2) 1) nC) := hD
                  refine lv_iinc (v := iI (k2 + (-1))) (lv' := [(1, .int (iI (k2 + (-1)))), (0, .ref h0)]) hx hb dX1_markRunning_81 hl (k := 0) rfl (iI_add _ _) (by decide) rfl (fun ls hl => ?_)
                  refine lv_goto (tgt := 43) hx hb dX1_markRunning_84 (by decide) ?_
                  exact ih (k2 + (-1)) (uZ r (cpar k2) 1) (by omega) (by first | exact tf_u hr2 (Or.inr rfl) | exact hr2) (by rw [hI]; unfold rnZ; rw [fdZ_s _ (by omega)]; unfold rnF; first | rw [if_pos (by assumption)]; rfl | rw [if_neg (by omega)]; rfl) (by omega) H locs hP hD hS ls (lv_sub hl [0, 1] rfl)
        exact L43 (_ + 1) (nC - 1) (r0Z use k run) (by omega) (r0_t hrun) (by rw [show k = nC by omega]) (Nat.lt_succ_self _) H locs hP hD hS ls (lv_sub hl [0, 1] rfl)
      · skip
        refine lv_aload_n hx hb dX1_markRunning_10 rfl (lv_at hl 1 rfl) ?_
        refine va_get (D := (dC, dI)) (ci := 1) (v := .ref h5) (C := RX1) (T := TX1) (N := 6) hx hb hts hinX1 hown hK.1 hP 0 rfl rfl 4 (by decide) (hts _ (List.mem_of_getElem? (i := 2) rfl)) (fun _ h9 => h9) rfl dX1_markRunning_11 ?_
        refine lv_iload_n hx hb dX1_markRunning_14 rfl (lv_at hl 0 rfl) ?_
        refine lv_aload_n hx hb dX1_markRunning_15 rfl (lv_at hl 1 rfl) ?_
        refine va_get (D := (dC, dI)) (ci := 1) (v := .ref h4) (C := RX1) (T := TX1) (N := 6) hx hb hts hinX1 hown hK.1 hP 0 rfl rfl 3 (by decide) (hts _ (List.mem_of_getElem? (i := 3) rfl)) (fun _ h9 => h9) rfl dX1_markRunning_16 ?_
        refine lv_iload_n hx hb dX1_markRunning_19 rfl (lv_at hl 0 rfl) ?_
        refine za_ld hx hb hK hP 4 0 rfl rfl (by omega) (by omega) dX1_markRunning_20 ?_
        have e_8 := huse k (by omega) (by omega)
        refine zi_fle (tgt := 28) hx hb (by omega) dX1_markRunning_21 (by decide) (fun c_9 => ?_) (fun c_9 => ?_)
        · skip
          refine lv_iconst (v := iI 0) hx hb dX1_markRunning_28 rfl ?_
          refine za_zst hx hb hK hP hD hS 5 2 rfl rfl (by omega) (by omega) (by first | decide | omega) dX1_markRunning_29 (fun H locs hP hD hS => ?_)
          have hP : va_P (dC, dI) vwCl (wCl cI cJ cZ h0 h1 h2 h3 h4 h5 cpar fr cdee use (uZ (r0Z use k run) k 0) nC) H := hP
          have hD : va_D A (wCl cI cJ cZ h0 h1 h2 h3 h4 h5 cpar fr cdee use (uZ (r0Z use k run) k 0) nC) := hD
          refine lv_iinc (v := iI (k + 1)) (lv' := [(1, .int (iI (k + 1))), (0, .ref h0)]) hx hb dX1_markRunning_30 hl (k := 0) rfl (iI_add _ _) (by decide) rfl (fun ls hl => ?_)
          refine lv_goto (tgt := 2) hx hb dX1_markRunning_33 (by decide) ?_
          have w_10 : (r0Z use (k + 1) run) = (uZ (r0Z use k run) k 0) := by first | exact r0Z_s (by omega) (b2i_t (by omega)).symm | exact r0Z_s (by omega) (b2i_f (by omega)).symm
          have hP : va_P (dC, dI) vwCl (wCl cI cJ cZ h0 h1 h2 h3 h4 h5 cpar fr cdee use (r0Z use (k + 1) run) nC) H := by rw [w_10]; exact hP
          have hD : va_D A (wCl cI cJ cZ h0 h1 h2 h3 h4 h5 cpar fr cdee use (r0Z use (k + 1) run) nC) := by rw [w_10]; exact hD
          exact ih (k + 1) (by omega) (by omega) H locs hP hD hS ls (lv_sub hl [0, 1] rfl)
        · skip
          refine lv_iconst (v := iI 1) hx hb dX1_markRunning_24 rfl ?_
          refine lv_goto (tgt := 29) hx hb dX1_markRunning_25 (by decide) ?_
          refine za_zst hx hb hK hP hD hS 5 2 rfl rfl (by omega) (by omega) (by first | decide | omega) dX1_markRunning_29 (fun H locs hP hD hS => ?_)
          have hP : va_P (dC, dI) vwCl (wCl cI cJ cZ h0 h1 h2 h3 h4 h5 cpar fr cdee use (uZ (r0Z use k run) k 1) nC) H := hP
          have hD : va_D A (wCl cI cJ cZ h0 h1 h2 h3 h4 h5 cpar fr cdee use (uZ (r0Z use k run) k 1) nC) := hD
          refine lv_iinc (v := iI (k + 1)) (lv' := [(1, .int (iI (k + 1))), (0, .ref h0)]) hx hb dX1_markRunning_30 hl (k := 0) rfl (iI_add _ _) (by decide) rfl (fun ls hl => ?_)
          refine lv_goto (tgt := 2) hx hb dX1_markRunning_33 (by decide) ?_
          have w_11 : (r0Z use (k + 1) run) = (uZ (r0Z use k run) k 1) := by first | exact r0Z_s (by omega) (b2i_t (by omega)).symm | exact r0Z_s (by omega) (b2i_f (by omega)).symm
          have hP : va_P (dC, dI) vwCl (wCl cI cJ cZ h0 h1 h2 h3 h4 h5 cpar fr cdee use (r0Z use (k + 1) run) nC) H := by rw [w_11]; exact hP
          have hD : va_D A (wCl cI cJ cZ h0 h1 h2 h3 h4 h5 cpar fr cdee use (r0Z use (k + 1) run) nC) := by rw [w_11]; exact hD
          exact ih (k + 1) (by omega) (by omega) H locs hP hD hS ls (lv_sub hl [0, 1] rfl)
  have w_12 : (r0Z use 0 run) = run := by exact r0Z_0
  have hP : va_P (dC, dI) vwCl (wCl cI cJ cZ h0 h1 h2 h3 h4 h5 cpar fr cdee use (r0Z use 0 run) nC) s.heap := by rw [w_12]; exact hP
  have hD : va_D A (wCl cI cJ cZ h0 h1 h2 h3 h4 h5 cpar fr cdee use (r0Z use 0 run) nC) := by rw [w_12]; exact hD
  exact L2 (_ + 1) 0 (by omega) (Nat.lt_succ_self _) s.heap [] hP hD hS ls (lv_sub hl [0, 1] rfl)
def rmX1_isRunning : Room := { frames := 2, cells := 0, slots := 0, locals := 42 }
set_option maxRecDepth 100000 in
set_option maxHeartbeats 4000000 in
theorem kX1_isRunning (l : Launch) (dC : Nat → ClassId) (dI : Nat → Nat → Nat) (cI cJ cZ : ClassId) (h0 h1 h2 h3 h4 h5 : Nat)  (cpar : Int → Int) (fr : Int → Int) (cdee : Int → Int) (use : Int → Int) (run : Int → Int) (nC : Int) (k : Int) (hnC : 1 ≤ nC ∧ nC ≤ 8) (hpar : ∀ c : Int, 1 ≤ c → c < nC → 0 ≤ cpar c ∧ cpar c < c) (huse : rgZ use 8 9) (hrun : tfZ run) (hk : 0 ≤ k ∧ k < nC) : zMi l yX1_isRunning wsX1_isRunning rmX1_isRunning (dC, dI) (zT cI cJ cZ) (wCl cI cJ cZ h0 h1 h2 h3 h4 h5 cpar fr cdee use run nC) [.ref h0, .int (iI k)] (fun (r9 : Int) (_ : Unit) => r9 = b2i (rnZ cpar (nC - 1) (r0Z use nC run) k ≠ 0)) (fun _ : Unit => wCl cI cJ cZ h0 h1 h2 h3 h4 h5 cpar fr cdee use (rnZ cpar (nC - 1) (r0Z use nC run)) nC) 0 0 := by
  refine zent_i (cc := cX1_isRunning) (maxL := 2) (ret := (some .boolean)) (by decide +kernel) rfl (Nat.le_of_ble_eq_true rfl) ?_
  intro p e s m below meth c A ls hE hP hK hA hD hS hl
  obtain ⟨hx, hb, hr, hml, hown, hts, hlocks, hmn⟩ := hE
  have hinX1 : ∀ w ∈ u_ws RX1 TX1 6, w ∈ wsX1_isRunning := by decide +kernel
  have hl : lv_has ls 2 [(0, .ref h0), (1, .int (iI k))] := hl
  refine z_gen (fun Q hQ => ?_)
  refine lv_aload_n hx hb dX1_isRunning_0 rfl (lv_at hl 0 rfl) ?_
  refine zc_v (va_runV (As := []) (rest := []) ⟨hx, hb, hml, hown, hts⟩ (kX1_markRunning l dC dI cI cJ cZ h0 h1 h2 h3 h4 h5 cpar fr cdee use run nC (by first | assumption | omega | exact b2i_01 _) (by first | assumption | omega | exact b2i_01 _) (by first | assumption | omega | exact b2i_01 _) (by first | assumption | omega | exact b2i_01 _) s.heap.size) (cwV 0 hts gX1_isRunning_X1_markRunning rfl rfl rfl (by decide +kernel) ⟨Nat.le_of_ble_eq_true rfl, Nat.le_of_ble_eq_true rfl⟩) (zpV hK hP hD [0, 1, 2, 3, 4, 5] rfl rfl 0 rfl rfl) rfl rfl hl.1 rfl (lv_room (Nat.le_of_ble_eq_true rfl)) dX1_isRunning_1 ⟨Nat.le_of_ble_eq_true rfl, Nat.le_of_ble_eq_true rfl⟩) hP hD hS hA [0, 1, 2, 3, 4, 5] [] rfl rfl rfl (by decide) (fun u_2 H locs r_1 hP hD hS => ?_)
  have hP : va_P (dC, dI) vwCl (wCl cI cJ cZ h0 h1 h2 h3 h4 h5 cpar fr cdee use (rnZ cpar (nC - 1) (r0Z use nC run)) nC) H := hP
  have hD : va_D A (wCl cI cJ cZ h0 h1 h2 h3 h4 h5 cpar fr cdee use (rnZ cpar (nC - 1) (r0Z use nC run)) nC) := hD
  refine lv_aload_n hx hb dX1_isRunning_4 rfl (lv_at hl 0 rfl) ?_
  refine lv_iload_n hx hb dX1_isRunning_5 rfl (lv_at hl 1 rfl) ?_
  refine zc_pi (va_runV (As := [.int (iI k)]) (rest := []) ⟨hx, hb, hml, hown, hts⟩ (kX1_has l dC dI cI cJ cZ h0 h1 h2 h3 h4 h5 cpar fr cdee use (rnZ cpar (nC - 1) (r0Z use nC run)) nC k (by first | assumption | omega | exact b2i_01 _) (by first | assumption | omega | exact b2i_01 _)) (cwV 1 hts gX1_isRunning_X1_has rfl rfl rfl (by decide +kernel) ⟨Nat.le_of_ble_eq_true rfl, Nat.le_of_ble_eq_true rfl⟩) (zqV hK hP [0, 1, 2, 3, 4, 5] rfl 0 rfl rfl) rfl rfl hl.1 rfl (lv_room (Nat.le_of_ble_eq_true rfl)) dX1_isRunning_6 ⟨Nat.le_of_ble_eq_true rfl, Nat.le_of_ble_eq_true rfl⟩) ?_
  refine zb_feq (tgt := 25) hx hb dX1_isRunning_9 (by decide) (fun c_4 => ?_) (fun c_4 => ?_)
  · skip
    exact absurd c_4 (by omega)
  · skip
    refine lv_aload_n hx hb dX1_isRunning_12 rfl (lv_at hl 0 rfl) ?_
    refine va_get (D := (dC, dI)) (ci := 1) (v := .ref h5) (C := RX1) (T := TX1) (N := 6) hx hb hts hinX1 hown hK.1 hP 0 rfl rfl 4 (by decide) (hts _ (List.mem_of_getElem? (i := 1) rfl)) (fun _ h9 => h9) rfl dX1_isRunning_13 ?_
    refine lv_iload_n hx hb dX1_isRunning_16 rfl (lv_at hl 1 rfl) ?_
    refine za_zld hx hb hK hP 5 2 rfl rfl (by omega) (by omega) dX1_isRunning_17 ?_
    have hz : tfZ (rnZ cpar (nC - 1) (r0Z use nC run)) := rn_t (r0_t hrun)
    have hz2 := hz k (by omega) (by omega)
    refine zi_feq (tgt := 25) hx hb (by omega) dX1_isRunning_18 (by decide) (fun c_5 => ?_) (fun c_5 => ?_)
    · skip
      refine lv_iconst (v := iI 0) hx hb dX1_isRunning_25 rfl ?_
      subst hQ
      exact zret_z (W1 := fun _ : Unit => wCl cI cJ cZ h0 h1 h2 h3 h4 h5 cpar fr cdee use (rnZ cpar (nC - 1) (r0Z use nC run)) nC) () hx hb hr hP hD hS hlocks dX1_isRunning_26 (by first | decide | omega) (by first | exact (b2i_t (by omega)).symm | exact (b2i_f (by omega)).symm)
    · skip
      refine lv_iconst (v := iI 1) hx hb dX1_isRunning_21 rfl ?_
      refine lv_goto (tgt := 26) hx hb dX1_isRunning_22 (by decide) ?_
      subst hQ
      exact zret_z (W1 := fun _ : Unit => wCl cI cJ cZ h0 h1 h2 h3 h4 h5 cpar fr cdee use (rnZ cpar (nC - 1) (r0Z use nC run)) nC) () hx hb hr hP hD hS hlocks dX1_isRunning_26 (by first | decide | omega) (by first | exact (b2i_t (by omega)).symm | exact (b2i_f (by omega)).symm)
def rmX1_leastDeepest : Room := { frames := 2, cells := 0, slots := 0, locals := 42 }
set_option maxRecDepth 100000 in
set_option maxHeartbeats 4000000 in
theorem kX1_leastDeepest (l : Launch) (dC : Nat → ClassId) (dI : Nat → Nat → Nat) (cI cJ cZ : ClassId) (h0 h1 h2 h3 h4 h5 : Nat)  (cpar : Int → Int) (fr : Int → Int) (cdee : Int → Int) (use : Int → Int) (run : Int → Int) (nC : Int) (hnC : 1 ≤ nC ∧ nC ≤ 8) (hpar : ∀ c : Int, 1 ≤ c → c < nC → 0 ≤ cpar c ∧ cpar c < c) (huse : rgZ use 8 9) (hrun : tfZ run) (hcd : rgZ cdee 8 3) : zMi l yX1_leastDeepest wsX1_leastDeepest rmX1_leastDeepest (dC, dI) (zT cI cJ cZ) (wCl cI cJ cZ h0 h1 h2 h3 h4 h5 cpar fr cdee use run nC) [.ref h0] (fun (r9 : Int) (_ : Unit) => r9 = ldZ (rnZ cpar (nC - 1) (r0Z use nC run)) cdee nC) (fun _ : Unit => wCl cI cJ cZ h0 h1 h2 h3 h4 h5 cpar fr cdee use (rnZ cpar (nC - 1) (r0Z use nC run)) nC) 0 0 := by
  refine zent_i (cc := cX1_leastDeepest) (maxL := 3) (ret := (some .int)) (by decide +kernel) rfl (Nat.le_of_ble_eq_true rfl) ?_
  intro p e s m below meth c A ls hE hP hK hA hD hS hl
  obtain ⟨hx, hb, hr, hml, hown, hts, hlocks, hmn⟩ := hE
  have hinX1 : ∀ w ∈ u_ws RX1 TX1 6, w ∈ wsX1_leastDeepest := by decide +kernel
  have hl : lv_has ls 3 [(0, .ref h0)] := hl
  refine z_gen (fun Q hQ => ?_)
  refine lv_aload_n hx hb dX1_leastDeepest_0 rfl (lv_at hl 0 rfl) ?_
  refine zc_v (va_runV (As := []) (rest := []) ⟨hx, hb, hml, hown, hts⟩ (kX1_markRunning l dC dI cI cJ cZ h0 h1 h2 h3 h4 h5 cpar fr cdee use run nC (by first | assumption | omega | exact b2i_01 _) (by first | assumption | omega | exact b2i_01 _) (by first | assumption | omega | exact b2i_01 _) (by first | assumption | omega | exact b2i_01 _) s.heap.size) (cwV 0 hts gX1_leastDeepest_X1_markRunning rfl rfl rfl (by decide +kernel) ⟨Nat.le_of_ble_eq_true rfl, Nat.le_of_ble_eq_true rfl⟩) (zpV hK hP hD [0, 1, 2, 3, 4, 5] rfl rfl 0 rfl rfl) rfl rfl hl.1 rfl (lv_room (Nat.le_of_ble_eq_true rfl)) dX1_leastDeepest_1 ⟨Nat.le_of_ble_eq_true rfl, Nat.le_of_ble_eq_true rfl⟩) hP hD hS hA [0, 1, 2, 3, 4, 5] [] rfl rfl rfl (by decide) (fun u_2 H locs r_1 hP hD hS => ?_)
  have hP : va_P (dC, dI) vwCl (wCl cI cJ cZ h0 h1 h2 h3 h4 h5 cpar fr cdee use (rnZ cpar (nC - 1) (r0Z use nC run)) nC) H := hP
  have hD : va_D A (wCl cI cJ cZ h0 h1 h2 h3 h4 h5 cpar fr cdee use (rnZ cpar (nC - 1) (r0Z use nC run)) nC) := hD
  refine lv_iconst (v := iI 3) hx hb dX1_leastDeepest_4 rfl ?_
  refine lv_istore_n (lv' := [(1, .int (iI 3)), (0, .ref h0)]) hx hb dX1_leastDeepest_5 rfl hl (by decide) rfl (fun ls hl => ?_)
  refine lv_iconst (v := iI 0) hx hb dX1_leastDeepest_6 rfl ?_
  refine lv_istore_n (lv' := [(2, .int (iI 0)), (1, .int (iI 3)), (0, .ref h0)]) hx hb dX1_leastDeepest_7 rfl hl (by decide) rfl (fun ls hl => ?_)
  have L8 : ∀ (fuel : Nat) (k : Int) (x : Int), (0 ≤ k ∧ k ≤ nC) → (0 ≤ x ∧ x ≤ 3) → (x = ldZ (rnZ cpar (nC - 1) (r0Z use nC run)) cdee k) → ((nC - k).toNat) < fuel → ∀ (H : Heap) (locs : List Loc), va_P (dC, dI) vwCl (wCl cI cJ cZ h0 h1 h2 h3 h4 h5 cpar fr cdee use (rnZ cpar (nC - 1) (r0Z use nC run)) nC) H → va_D A (wCl cI cJ cZ h0 h1 h2 h3 h4 h5 cpar fr cdee use (rnZ cpar (nC - 1) (r0Z use nC run)) nC) → va_S A s.heap H locs → ∀ ls : Array Slot, lv_has ls 3 [(2, .int (iI k)), (1, .int (iI x)), (0, .ref h0)] → W p l e rmX1_leastDeepest s m ([.ref h0] : List Value).toArray below meth c H locs 0 0 Q (F0 m 8 ls []) := by
    intro fuel
    induction fuel with
    | zero =>
      intro k x hk hxr hI hmeas H locs hP hD hS ls hl
      exact absurd hmeas (by omega)
    | succ fuel ih =>
      intro k x hk hxr hI hmeas H locs hP hD hS ls hl
      refine lv_iload_n hx hb dX1_leastDeepest_8 rfl (lv_at hl 0 rfl) ?_
      refine lv_aload_n hx hb dX1_leastDeepest_9 rfl (lv_at hl 2 rfl) ?_
      refine va_get (D := (dC, dI)) (ci := 1) (v := .int (iI nC)) (C := RX1) (T := TX1) (N := 6) hx hb hts hinX1 hown hK.1 hP 0 rfl rfl 5 (by decide) (hts _ (List.mem_of_getElem? (i := 1) rfl)) (fun _ h9 => h9) rfl dX1_leastDeepest_10 ?_
      refine zi_cge (tgt := 42) hx hb (by omega) (by omega) dX1_leastDeepest_13 (by decide) (fun c_4 => ?_) (fun c_4 => ?_)
      · skip
        refine lv_iload_n hx hb dX1_leastDeepest_42 rfl (lv_at hl 1 rfl) ?_
        subst hQ
        exact zret_i (W1 := fun _ : Unit => wCl cI cJ cZ h0 h1 h2 h3 h4 h5 cpar fr cdee use (rnZ cpar (nC - 1) (r0Z use nC run)) nC) () hx hb hr hP hD hS hlocks dX1_leastDeepest_43 (by (obtain rfl : k = nC := by omega); exact hI)
      · skip
        refine lv_aload_n hx hb dX1_leastDeepest_16 rfl (lv_at hl 2 rfl) ?_
        refine va_get (D := (dC, dI)) (ci := 1) (v := .ref h5) (C := RX1) (T := TX1) (N := 6) hx hb hts hinX1 hown hK.1 hP 0 rfl rfl 4 (by decide) (hts _ (List.mem_of_getElem? (i := 2) rfl)) (fun _ h9 => h9) rfl dX1_leastDeepest_17 ?_
        refine lv_iload_n hx hb dX1_leastDeepest_20 rfl (lv_at hl 0 rfl) ?_
        refine za_zld hx hb hK hP 5 2 rfl rfl (by omega) (by omega) dX1_leastDeepest_21 ?_
        have hz2 := (rn_t (par := cpar) (n := nC - 1) (r0_t (use := use) (n := nC) hrun)) k (by omega) (by omega)
        refine zi_feq (tgt := 36) hx hb (by omega) dX1_leastDeepest_22 (by decide) (fun c_5 => ?_) (fun c_5 => ?_)
        · skip
          refine lv_iinc (v := iI (k + 1)) (lv' := [(2, .int (iI (k + 1))), (1, .int (iI x)), (0, .ref h0)]) hx hb dX1_leastDeepest_36 hl (k := 0) rfl (iI_add _ _) (by decide) rfl (fun ls hl => ?_)
          refine lv_goto (tgt := 8) hx hb dX1_leastDeepest_39 (by decide) ?_
          exact ih (k + 1) x (by omega) (by omega) (by unfold ldZ; rw [foZ_s _ _ (by omega)]; unfold ldF; first | rw [if_pos (by omega), hI]; rfl | rw [if_neg (by omega), hI]; rfl) (by omega) H locs hP hD hS ls (lv_sub hl [0, 1, 2] rfl)
        · skip
          refine lv_iload_n hx hb dX1_leastDeepest_25 rfl (lv_at hl 1 rfl) ?_
          refine lv_aload_n hx hb dX1_leastDeepest_26 rfl (lv_at hl 2 rfl) ?_
          refine va_get (D := (dC, dI)) (ci := 1) (v := .ref h3) (C := RX1) (T := TX1) (N := 6) hx hb hts hinX1 hown hK.1 hP 0 rfl rfl 2 (by decide) (hts _ (List.mem_of_getElem? (i := 3) rfl)) (fun _ h9 => h9) rfl dX1_leastDeepest_27 ?_
          refine lv_iload_n hx hb dX1_leastDeepest_30 rfl (lv_at hl 0 rfl) ?_
          refine za_ld hx hb hK hP 3 0 rfl rfl (by omega) (by omega) dX1_leastDeepest_31 ?_
          have e_6 := hcd k (by omega) (by omega)
          refine zi_min hx hb (by rw [hml]; exact hl.1.symm) hown (hts _ (List.mem_of_getElem? (i := 4) rfl)) (hts _ (List.mem_of_getElem? (i := 5) rfl)) (hts _ (List.mem_of_getElem? (i := 6) rfl)) (hts _ (List.mem_of_getElem? (i := 7) rfl)) (Nat.le_of_ble_eq_true rfl) (Nat.le_of_ble_eq_true rfl) (Nat.le_of_ble_eq_true rfl) (Nat.le_of_ble_eq_true rfl) (by omega) (by omega) dX1_leastDeepest_32 ?_
          refine lv_istore_n (lv' := [(1, .int (iI (min x (cdee k)))), (2, .int (iI k)), (0, .ref h0)]) hx hb dX1_leastDeepest_35 rfl hl (by decide) rfl (fun ls hl => ?_)
          refine lv_iinc (v := iI (k + 1)) (lv' := [(2, .int (iI (k + 1))), (1, .int (iI (min x (cdee k)))), (0, .ref h0)]) hx hb dX1_leastDeepest_36 hl (k := 1) rfl (iI_add _ _) (by decide) rfl (fun ls hl => ?_)
          refine lv_goto (tgt := 8) hx hb dX1_leastDeepest_39 (by decide) ?_
          exact ih (k + 1) (min x (cdee k)) (by omega) (by omega) (by unfold ldZ; rw [foZ_s _ _ (by omega)]; unfold ldF; first | rw [if_pos (by omega), hI]; rfl | rw [if_neg (by omega), hI]; rfl) (by omega) H locs hP hD hS ls (lv_sub hl [0, 1, 2] rfl)
  exact L8 (_ + 1) 0 3 (by omega) (by omega) (rfl) (Nat.lt_succ_self _) H locs hP hD hS ls (lv_sub hl [0, 1, 2] rfl)
