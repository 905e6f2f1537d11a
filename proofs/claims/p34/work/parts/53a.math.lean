/-- the reference's frequency -/
def cpF (x : Int) : Int := if x > 4800 then 4801 else x
def fqN (par div : Int → Int) : Nat → Int → Int → Int
  | 0, _, a => a
  | n + 1, c, a => if c ≤ 0 then a else fqN par div n (par c) (cpF (a * div c))
theorem fq_0 {par div : Int → Int} {n : Nat} {c a : Int} (h : c ≤ 0) : fqN par div n c a = a := by
  cases n with
  | zero => rfl
  | succ n => exact if_pos h
theorem fq_s {par div : Int → Int} {n : Nat} {c a : Int} (h : 0 < c) (hn : c ≤ n) : fqN par div n c a = fqN par div (n - 1) (par c) (cpF (a * div c)) := by
  cases n with
  | zero => omega
  | succ n => exact if_neg (by omega)
theorem cp_r {x : Int} (h : 1 ≤ x) : 1 ≤ cpF x ∧ cpF x ≤ 4801 := by unfold cpF; split <;> omega
/-- planned wakeups, as the reference goes -/
def npF (due lat : Int → Int) (last : Int) : Int → Int → Int := fun k x => if due k > last ∧ lat k < x then lat k else x
def npZ (due lat : Int → Int) (last un n : Int) : Int := foZ (npF due lat last) un n
def swN (due lat : Int → Int) (un n : Int) : Nat → Int → Int
  | 0, _ => 0
  | f + 1, last => if npZ due lat last un n < un then 1 + swN due lat un n f (npZ due lat last un n) else 0
theorem np_r {due lat : Int → Int} {last un n : Int} (hn : 0 ≤ n) (h : ∀ k : Int, 0 ≤ k → k < n → 0 ≤ lat k) : npZ due lat last un n ≤ un ∧ (0 ≤ un → 0 ≤ npZ due lat last un n) := by
  refine foZ_ib (N := n) (fun _ x => x ≤ un ∧ (0 ≤ un → 0 ≤ x)) ⟨Int.le_refl _, fun z => z⟩ (fun k x h1 h2 h3 => ?_) hn (Int.le_refl _)
  have := h k h1 h2
  unfold npF
  split <;> omega
/-- the next wakeup comes behind the last one -/
theorem np_gt {due lat : Int → Int} {last un n : Int} (hn : 0 ≤ n) (hd : ∀ k : Int, 0 ≤ k → k < n → due k ≤ lat k) (hl : last < un) : last < npZ due lat last un n := by
  refine foZ_ib (N := n) (fun _ x => last < x) hl (fun k x h1 h2 h3 => ?_) hn (Int.le_refl _)
  have := hd k h1 h2
  unfold npF
  split <;> omega
theorem sw_y {due lat : Int → Int} {un n : Int} {f : Nat} {last : Int} (h : npZ due lat last un n < un) (hf : 0 < f) : swN due lat un n f last = 1 + swN due lat un n (f - 1) (npZ due lat last un n) := by
  cases f with
  | zero => omega
  | succ f => exact if_pos h
theorem sw_n {due lat : Int → Int} {un n : Int} {f : Nat} {last : Int} (h : ¬ npZ due lat last un n < un) : swN due lat un n f last = 0 := by
  cases f with
  | zero => rfl
  | succ f => exact if_neg h
