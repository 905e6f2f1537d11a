theorem goodIn_c1 {big a : List Cond} {w : Cond} (hm : w ∈ big) (hg : goodWord w = true) (ha : GoodIn big a) : GoodIn big (w :: a) := fun v h => (List.mem_cons.mp h).elim (fun e => by subst e; exact ⟨hm, good_of_word hg⟩) (fun h => ha v h)
theorem goodIn_0 {big : List Cond} : GoodIn big [] := fun _ h => absurd h List.not_mem_nil
