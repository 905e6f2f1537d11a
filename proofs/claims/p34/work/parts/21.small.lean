def rmX3_isFull : Room := { frames := 0, cells := 0, slots := 0, locals := 0 }
set_option maxRecDepth 100000 in
set_option maxHeartbeats 4000000 in
theorem kX3_isFull (l : Launch) (dC : Nat → ClassId) (dI : Nat → Nat → Nat) (cI cJ cZ : ClassId) (h0 h1 h2 h3 : Nat)  (due : Int → Int) (lat : Int → Int) (wk : Int → Int) (nJ : Int) (hnJ : 0 ≤ nJ ∧ nJ ≤ 12) : zPi l yX3_isFull wsX3_isFull rmX3_isFull (dC, dI) (zT cI cJ cZ) (wJb cI cJ cZ h0 h1 h2 h3 due lat wk nJ) [.ref h0] (b2i (12 ≤ nJ)) := by
  refine zent_pi (cc := cX3_isFull) (maxL := 1) (ret := (some .boolean)) (by decide +kernel) rfl (Nat.le_of_ble_eq_true rfl) ?_
  intro p e s m below meth c ls hE hP hK hl
  obtain ⟨hx, hb, hr, hml, hown, hts, hlocks, hmn⟩ := hE
  have hinX3 : ∀ w ∈ u_ws RX3 TX3 4, w ∈ wsX3_isFull := by decide +kernel
  have hl : lv_has ls 1 [(0, .ref h0)] := hl
  refine z_gen (fun Q hQ => ?_)
  refine lv_aload_n hx hb dX3_isFull_0 rfl (lv_at hl 0 rfl) ?_
  refine va_get (D := (dC, dI)) (ci := 3) (v := .int (iI nJ)) (C := RX3) (T := TX3) (N := 4) hx hb hts hinX3 hown hK.1 hP 0 rfl rfl 3 (by decide) (hts _ (List.mem_of_getElem? (i := 1) rfl)) (fun _ h9 => h9) rfl dX3_isFull_1 ?_
  refine lv_bipush (v := iI 12) hx hb dX3_isFull_4 (by decide) ?_
  refine zi_clt (tgt := 13) hx hb (by omega) (by decide) dX3_isFull_6 (by decide) (fun c_1 => ?_) (fun c_1 => ?_)
  · skip
    refine lv_iconst (v := iI 0) hx hb dX3_isFull_13 rfl ?_
    subst hQ
    exact zret_pz hx hb hr hlocks dX3_isFull_14 (by first | decide | omega) (by first | exact (b2i_t (by omega)).symm | exact (b2i_f (by omega)).symm)
  · skip
    refine lv_iconst (v := iI 1) hx hb dX3_isFull_9 rfl ?_
    refine lv_goto (tgt := 14) hx hb dX3_isFull_10 (by decide) ?_
    subst hQ
    exact zret_pz hx hb hr hlocks dX3_isFull_14 (by first | decide | omega) (by first | exact (b2i_t (by omega)).symm | exact (b2i_f (by omega)).symm)
def rmX3_add : Room := { frames := 1, cells := 0, slots := 0, locals := 20 }
set_option maxRecDepth 100000 in
set_option maxHeartbeats 4000000 in
theorem kX3_add (l : Launch) (dC : Nat → ClassId) (dI : Nat → Nat → Nat) (cI cJ cZ : ClassId) (h0 h1 h2 h3 : Nat)  (due : Int → Int) (lat : Int → Int) (wk : Int → Int) (nJ : Int) (nd nl nw : Int) (hnJ : 0 ≤ nJ ∧ nJ < 12) : zMi l yX3_add wsX3_add rmX3_add (dC, dI) (zT cI cJ cZ) (wJb cI cJ cZ h0 h1 h2 h3 due lat wk nJ) [.ref h0, .int (iI nd), .int (iI nl), .int (iI nw)] (fun (r9 : Int) (_ : Unit) => r9 = nJ + 1) (fun _ : Unit => wJb cI cJ cZ h0 h1 h2 h3 (uZ due nJ nd) (uZ lat nJ nl) (uZ wk nJ nw) (nJ + 1)) 0 0 := by
  refine zent_i (cc := cX3_add) (maxL := 4) (ret := (some .int)) (by decide +kernel) rfl (Nat.le_of_ble_eq_true rfl) ?_
  intro p e s m below meth c A ls hE hP hK hA hD hS hl
  obtain ⟨hx, hb, hr, hml, hown, hts, hlocks, hmn⟩ := hE
  have hinX3 : ∀ w ∈ u_ws RX3 TX3 4, w ∈ wsX3_add := by decide +kernel
  have hl : lv_has ls 4 [(0, .ref h0), (1, .int (iI nd)), (2, .int (iI nl)), (3, .int (iI nw))] := hl
  refine z_gen (fun Q hQ => ?_)
  refine lv_aload_n hx hb dX3_add_0 rfl (lv_at hl 0 rfl) ?_
  refine zc_pi (va_runV (As := []) (rest := []) ⟨hx, hb, hml, hown, hts⟩ (kX3_isFull l dC dI cI cJ cZ h0 h1 h2 h3 due lat wk nJ (by first | assumption | omega | exact b2i_01 _)) (cwV 0 hts gX3_add_X3_isFull rfl rfl rfl (by decide +kernel) ⟨Nat.le_of_ble_eq_true rfl, Nat.le_of_ble_eq_true rfl⟩) (zqV hK hP [0, 1, 2, 3] rfl 0 rfl rfl) rfl rfl hl.1 rfl (lv_room (Nat.le_of_ble_eq_true rfl)) dX3_add_1 ⟨Nat.le_of_ble_eq_true rfl, Nat.le_of_ble_eq_true rfl⟩) ?_
  refine zb_feq (tgt := 12) hx hb dX3_add_4 (by decide) (fun c_1 => ?_) (fun c_1 => ?_)
  · skip
    refine lv_aload_n hx hb dX3_add_12 rfl (lv_at hl 0 rfl) ?_
    refine va_get (D := (dC, dI)) (ci := 3) (v := .ref h1) (C := RX3) (T := TX3) (N := 4) hx hb hts hinX3 hown hK.1 hP 0 rfl rfl 0 (by decide) (hts _ (List.mem_of_getElem? (i := 2) rfl)) (fun _ h9 => h9) rfl dX3_add_13 ?_
    refine lv_aload_n hx hb dX3_add_16 rfl (lv_at hl 0 rfl) ?_
    refine va_get (D := (dC, dI)) (ci := 3) (v := .int (iI nJ)) (C := RX3) (T := TX3) (N := 4) hx hb hts hinX3 hown hK.1 hP 0 rfl rfl 3 (by decide) (hts _ (List.mem_of_getElem? (i := 1) rfl)) (fun _ h9 => h9) rfl dX3_add_17 ?_
    refine lv_iload_n hx hb dX3_add_20 rfl (lv_at hl 1 rfl) ?_
    refine za_st hx hb hK hP hD hS 1 0 rfl rfl (by omega) (by omega) dX3_add_21 (fun H locs hP hD hS => ?_)
    have hP : va_P (dC, dI) vwCl (wJb cI cJ cZ h0 h1 h2 h3 (uZ due nJ nd) lat wk nJ) H := hP
    have hD : va_D A (wJb cI cJ cZ h0 h1 h2 h3 (uZ due nJ nd) lat wk nJ) := hD
    refine lv_aload_n hx hb dX3_add_22 rfl (lv_at hl 0 rfl) ?_
    refine va_get (D := (dC, dI)) (ci := 3) (v := .ref h2) (C := RX3) (T := TX3) (N := 4) hx hb hts hinX3 hown hK.1 hP 0 rfl rfl 1 (by decide) (hts _ (List.mem_of_getElem? (i := 3) rfl)) (fun _ h9 => h9) rfl dX3_add_23 ?_
    refine lv_aload_n hx hb dX3_add_26 rfl (lv_at hl 0 rfl) ?_
    refine va_get (D := (dC, dI)) (ci := 3) (v := .int (iI nJ)) (C := RX3) (T := TX3) (N := 4) hx hb hts hinX3 hown hK.1 hP 0 rfl rfl 3 (by decide) (hts _ (List.mem_of_getElem? (i := 1) rfl)) (fun _ h9 => h9) rfl dX3_add_27 ?_
    refine lv_iload_n hx hb dX3_add_30 rfl (lv_at hl 2 rfl) ?_
    refine za_st hx hb hK hP hD hS 2 0 rfl rfl (by omega) (by omega) dX3_add_31 (fun H locs hP hD hS => ?_)
    have hP : va_P (dC, dI) vwCl (wJb cI cJ cZ h0 h1 h2 h3 (uZ due nJ nd) (uZ lat nJ nl) wk nJ) H := hP
    have hD : va_D A (wJb cI cJ cZ h0 h1 h2 h3 (uZ due nJ nd) (uZ lat nJ nl) wk nJ) := hD
    refine lv_aload_n hx hb dX3_add_32 rfl (lv_at hl 0 rfl) ?_
    refine va_get (D := (dC, dI)) (ci := 3) (v := .ref h3) (C := RX3) (T := TX3) (N := 4) hx hb hts hinX3 hown hK.1 hP 0 rfl rfl 2 (by decide) (hts _ (List.mem_of_getElem? (i := 4) rfl)) (fun _ h9 => h9) rfl dX3_add_33 ?_
    refine lv_aload_n hx hb dX3_add_36 rfl (lv_at hl 0 rfl) ?_
    refine va_get (D := (dC, dI)) (ci := 3) (v := .int (iI nJ)) (C := RX3) (T := TX3) (N := 4) hx hb hts hinX3 hown hK.1 hP 0 rfl rfl 3 (by decide) (hts _ (List.mem_of_getElem? (i := 1) rfl)) (fun _ h9 => h9) rfl dX3_add_37 ?_
    refine lv_iload_n hx hb dX3_add_40 rfl (lv_at hl 3 rfl) ?_
    refine za_st hx hb hK hP hD hS 3 0 rfl rfl (by omega) (by omega) dX3_add_41 (fun H locs hP hD hS => ?_)
    have hP : va_P (dC, dI) vwCl (wJb cI cJ cZ h0 h1 h2 h3 (uZ due nJ nd) (uZ lat nJ nl) (uZ wk nJ nw) nJ) H := hP
    have hD : va_D A (wJb cI cJ cZ h0 h1 h2 h3 (uZ due nJ nd) (uZ lat nJ nl) (uZ wk nJ nw) nJ) := hD
    refine lv_aload_n hx hb dX3_add_42 rfl (lv_at hl 0 rfl) ?_
    refine lv_dup hx hb dX3_add_43 rfl ?_
    refine va_get (D := (dC, dI)) (ci := 3) (v := .int (iI nJ)) (C := RX3) (T := TX3) (N := 4) hx hb hts hinX3 hown hK.1 hP 0 rfl rfl 3 (by decide) (hts _ (List.mem_of_getElem? (i := 1) rfl)) (fun _ h9 => h9) rfl dX3_add_44 ?_
    refine lv_iconst (v := iI 1) hx hb dX3_add_47 rfl ?_
    refine zi_add hx hb dX3_add_48 ?_
    refine va_put (D := (dC, dI)) (ci := 3) (v := .int (iI (nJ + 1))) (ty := .int) (C := RX3) (T := TX3) (N := 4) hx hb hts hinX3 tyX3 tyX3_ok nmX3 hown hK.1 hP hD hS 0 rfl rfl 3 (by decide) (hts _ (List.mem_of_getElem? (i := 1) rfl)) (fun _ h9 => h9) rfl (by decide +kernel) rfl rfl (Nat.le_of_ble_eq_true rfl) dX3_add_49 (fun H locs hP hD hS => ?_)
    have hP : va_P (dC, dI) vwCl (wJb cI cJ cZ h0 h1 h2 h3 (uZ due nJ nd) (uZ lat nJ nl) (uZ wk nJ nw) (nJ + 1)) H := hP
    have hD : va_D A (wJb cI cJ cZ h0 h1 h2 h3 (uZ due nJ nd) (uZ lat nJ nl) (uZ wk nJ nw) (nJ + 1)) := hD
    refine lv_aload_n hx hb dX3_add_52 rfl (lv_at hl 0 rfl) ?_
    refine va_get (D := (dC, dI)) (ci := 3) (v := .int (iI (nJ + 1))) (C := RX3) (T := TX3) (N := 4) hx hb hts hinX3 hown hK.1 hP 0 rfl rfl 3 (by decide) (hts _ (List.mem_of_getElem? (i := 1) rfl)) (fun _ h9 => h9) rfl dX3_add_53 ?_
    subst hQ
    exact zret_i (W1 := fun _ : Unit => wJb cI cJ cZ h0 h1 h2 h3 (uZ due nJ nd) (uZ lat nJ nl) (uZ wk nJ nw) (nJ + 1)) () hx hb hr hP hD hS hlocks dX3_add_56 (by rfl)
  · skip
    exact absurd c_1 (by omega)
def rmX3_isAnyDue : Room := { frames := 0, cells := 0, slots := 0, locals := 0 }
set_option maxRecDepth 100000 in
set_option maxHeartbeats 4000000 in
theorem kX3_isAnyDue (l : Launch) (dC : Nat → ClassId) (dI : Nat → Nat → Nat) (cI cJ cZ : ClassId) (h0 h1 h2 h3 : Nat)  (due : Int → Int) (lat : Int → Int) (wk : Int → Int) (nJ : Int) (tk : Int) (hnJ : 0 ≤ nJ ∧ nJ ≤ 12) (htk : zR tk) (hdue : rgZ due 12 1000000) (hlat : rgZ lat 12 1000000) (hwk : rgZ wk 12 50) : zPi l yX3_isAnyDue wsX3_isAnyDue rmX3_isAnyDue (dC, dI) (zT cI cJ cZ) (wJb cI cJ cZ h0 h1 h2 h3 due lat wk nJ) [.ref h0, .int (iI tk)] (b2i (adZ due tk nJ = 1)) := by
  refine zent_pi (cc := cX3_isAnyDue) (maxL := 3) (ret := (some .boolean)) (by decide +kernel) rfl (Nat.le_of_ble_eq_true rfl) ?_
  intro p e s m below meth c ls hE hP hK hl
  obtain ⟨hx, hb, hr, hml, hown, hts, hlocks, hmn⟩ := hE
  have hinX3 : ∀ w ∈ u_ws RX3 TX3 4, w ∈ wsX3_isAnyDue := by decide +kernel
  have hl : lv_has ls 3 [(0, .ref h0), (1, .int (iI tk))] := hl
  refine z_gen (fun Q hQ => ?_)
  refine lv_iconst (v := iI 0) hx hb dX3_isAnyDue_0 rfl ?_
  refine lv_istore_n (lv' := [(2, .int (iI 0)), (0, .ref h0), (1, .int (iI tk))]) hx hb dX3_isAnyDue_1 rfl hl (by decide) rfl (fun ls hl => ?_)
  have L2 : ∀ (fuel : Nat) (k : Int), (0 ≤ k ∧ k ≤ nJ) → (∀ j : Int, 0 ≤ j → j < k → ¬ due j ≤ tk) → ((nJ - k).toNat) < fuel → ∀ ls : Array Slot, lv_has ls 3 [(2, .int (iI k)), (0, .ref h0), (1, .int (iI tk))] → W p l e rmX3_isAnyDue s m ([.ref h0, .int (iI tk)] : List Value).toArray below meth c s.heap [] 0 0 Q (F0 m 2 ls []) := by
    intro fuel
    induction fuel with
    | zero =>
      intro k hk hI hmeas ls hl
      exact absurd hmeas (by omega)
    | succ fuel ih =>
      intro k hk hI hmeas ls hl
      refine lv_iload_n hx hb dX3_isAnyDue_2 rfl (lv_at hl 0 rfl) ?_
      refine lv_aload_n hx hb dX3_isAnyDue_3 rfl (lv_at hl 1 rfl) ?_
      refine va_get (D := (dC, dI)) (ci := 3) (v := .int (iI nJ)) (C := RX3) (T := TX3) (N := 4) hx hb hts hinX3 hown hK.1 hP 0 rfl rfl 3 (by decide) (hts _ (List.mem_of_getElem? (i := 1) rfl)) (fun _ h9 => h9) rfl dX3_isAnyDue_4 ?_
      refine zi_cge (tgt := 28) hx hb (by omega) (by omega) dX3_isAnyDue_7 (by decide) (fun c_1 => ?_) (fun c_1 => ?_)
      · skip
        refine lv_iconst (v := iI 0) hx hb dX3_isAnyDue_28 rfl ?_
        subst hQ
        exact zret_pz hx hb hr hlocks dX3_isAnyDue_29 (by first | decide | omega) (by exact (b2i_f (by rw [ad_0 (fun j h1 h2 => hI j h1 (by omega))]; decide)).symm)
      · skip
        refine lv_aload_n hx hb dX3_isAnyDue_10 rfl (lv_at hl 1 rfl) ?_
        refine va_get (D := (dC, dI)) (ci := 3) (v := .ref h1) (C := RX3) (T := TX3) (N := 4) hx hb hts hinX3 hown hK.1 hP 0 rfl rfl 0 (by decide) (hts _ (List.mem_of_getElem? (i := 2) rfl)) (fun _ h9 => h9) rfl dX3_isAnyDue_11 ?_
        refine lv_iload_n hx hb dX3_isAnyDue_14 rfl (lv_at hl 0 rfl) ?_
        refine za_ld hx hb hK hP 1 0 rfl rfl (by omega) (by omega) dX3_isAnyDue_15 ?_
        have e_2 := hdue k (by omega) (by omega)
        refine lv_iload_n hx hb dX3_isAnyDue_16 rfl (lv_at hl 2 rfl) ?_
        refine zi_cgt (tgt := 22) hx hb (by omega) (by omega) dX3_isAnyDue_17 (by decide) (fun c_3 => ?_) (fun c_3 => ?_)
        · skip
          refine lv_iinc (v := iI (k + 1)) (lv' := [(2, .int (iI (k + 1))), (0, .ref h0), (1, .int (iI tk))]) hx hb dX3_isAnyDue_22 hl (k := 0) rfl (iI_add _ _) (by decide) rfl (fun ls hl => ?_)
          refine lv_goto (tgt := 2) hx hb dX3_isAnyDue_25 (by decide) ?_
          exact ih (k + 1) (by omega) (fun j h1 h2 => by rcases Int.lt_or_le j k with h3 | h3; exact hI j h1 h3; (obtain rfl : j = k := by omega); omega) (by omega) ls (lv_sub hl [0, 1, 2] rfl)
        · skip
          refine lv_iconst (v := iI 1) hx hb dX3_isAnyDue_20 rfl ?_
          subst hQ
          exact zret_pz hx hb hr hlocks dX3_isAnyDue_21 (by first | decide | omega) (by exact (b2i_t (ad_1 ⟨k, by omega, by omega, by omega⟩)).symm)
  exact L2 (_ + 1) 0 (by omega) (fun j h1 h2 => absurd h2 (by omega)) (Nat.lt_succ_self _) ls (lv_sub hl [0, 1, 2] rfl)
def rmX3_takeDue : Room := { frames := 0, cells := 0, slots := 0, locals := 0 }
set_option maxRecDepth 100000 in
set_option maxHeartbeats 4000000 in
theorem kX3_takeDue (l : Launch) (dC : Nat → ClassId) (dI : Nat → Nat → Nat) (cI cJ cZ : ClassId) (h0 h1 h2 h3 : Nat)  (due : Int → Int) (lat : Int → Int) (wk : Int → Int) (nJ : Int) (tk : Int) (hnJ : 0 ≤ nJ ∧ nJ ≤ 12) (htk : zR tk) (hdue : rgZ due 12 1000000) (hlat : rgZ lat 12 1000000) (hwk : rgZ wk 12 50) : zMi l yX3_takeDue wsX3_takeDue rmX3_takeDue (dC, dI) (zT cI cJ cZ) (wJb cI cJ cZ h0 h1 h2 h3 due lat wk nJ) [.ref h0, .int (iI tk)] (fun (r9 : Int) (_ : Unit) => r9 = (tdZ tk due lat wk nJ).1) (fun _ : Unit => wJb cI cJ cZ h0 h1 h2 h3 ((tdZ tk due lat wk nJ).2.2.1) ((tdZ tk due lat wk nJ).2.2.2.1) ((tdZ tk due lat wk nJ).2.2.2.2) ((tdZ tk due lat wk nJ).2.1)) 0 0 := by
  refine zent_i (cc := cX3_takeDue) (maxL := 5) (ret := (some .int)) (by decide +kernel) rfl (Nat.le_of_ble_eq_true rfl) ?_
  intro p e s m below meth c A ls hE hP hK hA hD hS hl
  obtain ⟨hx, hb, hr, hml, hown, hts, hlocks, hmn⟩ := hE
  have hinX3 : ∀ w ∈ u_ws RX3 TX3 4, w ∈ wsX3_takeDue := by decide +kernel
  have hl : lv_has ls 5 [(0, .ref h0), (1, .int (iI tk))] := hl
  refine z_gen (fun Q hQ => ?_)
  refine lv_iconst (v := iI 0) hx hb dX3_takeDue_0 rfl ?_
  refine lv_istore_n (lv' := [(2, .int (iI 0)), (0, .ref h0), (1, .int (iI tk))]) hx hb dX3_takeDue_1 rfl hl (by decide) rfl (fun ls hl => ?_)
  refine lv_iconst (v := iI 0) hx hb dX3_takeDue_2 rfl ?_
  refine lv_istore_n (lv' := [(3, .int (iI 0)), (2, .int (iI 0)), (0, .ref h0), (1, .int (iI tk))]) hx hb dX3_takeDue_3 rfl hl (by decide) rfl (fun ls hl => ?_)
  refine lv_iconst (v := iI 0) hx hb dX3_takeDue_4 rfl ?_
  refine lv_istore (lv' := [(4, .int (iI 0)), (3, .int (iI 0)), (2, .int (iI 0)), (0, .ref h0), (1, .int (iI tk))]) hx hb dX3_takeDue_5 hl (by decide) rfl (fun ls hl => ?_)
  have L7 : ∀ (fuel : Nat) (k : Int), (0 ≤ k ∧ k ≤ nJ) → ((nJ - k).toNat) < fuel → ∀ (H : Heap) (locs : List Loc), va_P (dC, dI) vwCl (wJb cI cJ cZ h0 h1 h2 h3 ((tdZ tk due lat wk k).2.2.1) ((tdZ tk due lat wk k).2.2.2.1) ((tdZ tk due lat wk k).2.2.2.2) nJ) H → va_D A (wJb cI cJ cZ h0 h1 h2 h3 ((tdZ tk due lat wk k).2.2.1) ((tdZ tk due lat wk k).2.2.2.1) ((tdZ tk due lat wk k).2.2.2.2) nJ) → va_S A s.heap H locs → ∀ ls : Array Slot, lv_has ls 5 [(4, .int (iI k)), (3, .int (iI ((tdZ tk due lat wk k).2.1))), (2, .int (iI ((tdZ tk due lat wk k).1))), (0, .ref h0), (1, .int (iI tk))] → W p l e rmX3_takeDue s m ([.ref h0, .int (iI tk)] : List Value).toArray below meth c H locs 0 0 Q (F0 m 7 ls []) := by
    intro fuel
    induction fuel with
    | zero =>
      intro k hk hmeas H locs hP hD hS ls hl
      exact absurd hmeas (by omega)
    | succ fuel ih =>
      intro k hk hmeas H locs hP hD hS ls hl
      have hr9 := td_r (t := tk) (k := k) hdue hlat hwk (by omega)
      refine lv_iload hx hb dX3_takeDue_7 (lv_at hl 0 rfl) ?_
      refine lv_aload_n hx hb dX3_takeDue_9 rfl (lv_at hl 3 rfl) ?_
      refine va_get (D := (dC, dI)) (ci := 3) (v := .int (iI nJ)) (C := RX3) (T := TX3) (N := 4) hx hb hts hinX3 hown hK.1 hP 0 rfl rfl 3 (by decide) (hts _ (List.mem_of_getElem? (i := 1) rfl)) (fun _ h9 => h9) rfl dX3_takeDue_10 ?_
      refine zi_cge (tgt := 88) hx hb (by omega) (by omega) dX3_takeDue_13 (by decide) (fun c_1 => ?_) (fun c_1 => ?_)
      · skip
        refine lv_aload_n hx hb dX3_takeDue_88 rfl (lv_at hl 3 rfl) ?_
        refine lv_iload_n hx hb dX3_takeDue_89 rfl (lv_at hl 1 rfl) ?_
        refine va_put (D := (dC, dI)) (ci := 3) (v := .int (iI ((tdZ tk due lat wk k).2.1))) (ty := .int) (C := RX3) (T := TX3) (N := 4) hx hb hts hinX3 tyX3 tyX3_ok nmX3 hown hK.1 hP hD hS 0 rfl rfl 3 (by decide) (hts _ (List.mem_of_getElem? (i := 1) rfl)) (fun _ h9 => h9) rfl (by decide +kernel) rfl rfl (Nat.le_of_ble_eq_true rfl) dX3_takeDue_90 (fun H locs hP hD hS => ?_)
        have hP : va_P (dC, dI) vwCl (wJb cI cJ cZ h0 h1 h2 h3 ((tdZ tk due lat wk k).2.2.1) ((tdZ tk due lat wk k).2.2.2.1) ((tdZ tk due lat wk k).2.2.2.2) ((tdZ tk due lat wk k).2.1)) H := hP
        have hD : va_D A (wJb cI cJ cZ h0 h1 h2 h3 ((tdZ tk due lat wk k).2.2.1) ((tdZ tk due lat wk k).2.2.2.1) ((tdZ tk due lat wk k).2.2.2.2) ((tdZ tk due lat wk k).2.1)) := hD
        refine lv_iload_n hx hb dX3_takeDue_93 rfl (lv_at hl 2 rfl) ?_
        subst hQ
        have w_2 : ((tdZ tk due lat wk nJ).2.2.1) = ((tdZ tk due lat wk k).2.2.1) := by (obtain rfl : k = nJ := by omega); rfl
        have w_3 : ((tdZ tk due lat wk nJ).2.2.2.1) = ((tdZ tk due lat wk k).2.2.2.1) := by (obtain rfl : k = nJ := by omega); rfl
        have w_4 : ((tdZ tk due lat wk nJ).2.2.2.2) = ((tdZ tk due lat wk k).2.2.2.2) := by (obtain rfl : k = nJ := by omega); rfl
        have w_5 : ((tdZ tk due lat wk nJ).2.1) = ((tdZ tk due lat wk k).2.1) := by (obtain rfl : k = nJ := by omega); rfl
        have hP : va_P (dC, dI) vwCl (wJb cI cJ cZ h0 h1 h2 h3 ((tdZ tk due lat wk nJ).2.2.1) ((tdZ tk due lat wk nJ).2.2.2.1) ((tdZ tk due lat wk nJ).2.2.2.2) ((tdZ tk due lat wk nJ).2.1)) H := by rw [w_2, w_3, w_4, w_5]; exact hP
        have hD : va_D A (wJb cI cJ cZ h0 h1 h2 h3 ((tdZ tk due lat wk nJ).2.2.1) ((tdZ tk due lat wk nJ).2.2.2.1) ((tdZ tk due lat wk nJ).2.2.2.2) ((tdZ tk due lat wk nJ).2.1)) := by rw [w_2, w_3, w_4, w_5]; exact hD
        exact zret_i (W1 := fun _ : Unit => wJb cI cJ cZ h0 h1 h2 h3 ((tdZ tk due lat wk nJ).2.2.1) ((tdZ tk due lat wk nJ).2.2.2.1) ((tdZ tk due lat wk nJ).2.2.2.2) ((tdZ tk due lat wk nJ).2.1)) () hx hb hr hP hD hS hlocks dX3_takeDue_94 (by (obtain rfl : k = nJ := by omega); rfl)
      · skip
        refine lv_aload_n hx hb dX3_takeDue_16 rfl (lv_at hl 3 rfl) ?_
        refine va_get (D := (dC, dI)) (ci := 3) (v := .ref h1) (C := RX3) (T := TX3) (N := 4) hx hb hts hinX3 hown hK.1 hP 0 rfl rfl 0 (by decide) (hts _ (List.mem_of_getElem? (i := 2) rfl)) (fun _ h9 => h9) rfl dX3_takeDue_17 ?_
        refine lv_iload hx hb dX3_takeDue_20 (lv_at hl 0 rfl) ?_
        refine za_ld hx hb hK hP 1 0 rfl rfl (by omega) (by omega) dX3_takeDue_22 ?_
        have e_6 := hr9.2.2.1 k (by omega) (by omega)
        refine lv_iload_n hx hb dX3_takeDue_23 rfl (lv_at hl 4 rfl) ?_
        refine zi_cgt (tgt := 40) hx hb (by omega) (by omega) dX3_takeDue_24 (by decide) (fun c_7 => ?_) (fun c_7 => ?_)
        · skip
          refine lv_aload_n hx hb dX3_takeDue_40 rfl (lv_at hl 3 rfl) ?_
          refine va_get (D := (dC, dI)) (ci := 3) (v := .ref h1) (C := RX3) (T := TX3) (N := 4) hx hb hts hinX3 hown hK.1 hP 0 rfl rfl 0 (by decide) (hts _ (List.mem_of_getElem? (i := 2) rfl)) (fun _ h9 => h9) rfl dX3_takeDue_41 ?_
          refine lv_iload_n hx hb dX3_takeDue_44 rfl (lv_at hl 1 rfl) ?_
          refine lv_aload_n hx hb dX3_takeDue_45 rfl (lv_at hl 3 rfl) ?_
          refine va_get (D := (dC, dI)) (ci := 3) (v := .ref h1) (C := RX3) (T := TX3) (N := 4) hx hb hts hinX3 hown hK.1 hP 0 rfl rfl 0 (by decide) (hts _ (List.mem_of_getElem? (i := 2) rfl)) (fun _ h9 => h9) rfl dX3_takeDue_46 ?_
          refine lv_iload hx hb dX3_takeDue_49 (lv_at hl 0 rfl) ?_
          refine za_ld hx hb hK hP 1 0 rfl rfl (by omega) (by omega) dX3_takeDue_51 ?_
          have e_8 := hr9.2.2.1 k (by omega) (by omega)
          refine za_st hx hb hK hP hD hS 1 0 rfl rfl (by omega) (by omega) dX3_takeDue_52 (fun H locs hP hD hS => ?_)
          have hP : va_P (dC, dI) vwCl (wJb cI cJ cZ h0 h1 h2 h3 (uZ ((tdZ tk due lat wk k).2.2.1) ((tdZ tk due lat wk k).2.1) (((tdZ tk due lat wk k).2.2.1) k)) ((tdZ tk due lat wk k).2.2.2.1) ((tdZ tk due lat wk k).2.2.2.2) nJ) H := hP
          have hD : va_D A (wJb cI cJ cZ h0 h1 h2 h3 (uZ ((tdZ tk due lat wk k).2.2.1) ((tdZ tk due lat wk k).2.1) (((tdZ tk due lat wk k).2.2.1) k)) ((tdZ tk due lat wk k).2.2.2.1) ((tdZ tk due lat wk k).2.2.2.2) nJ) := hD
          refine lv_aload_n hx hb dX3_takeDue_53 rfl (lv_at hl 3 rfl) ?_
          refine va_get (D := (dC, dI)) (ci := 3) (v := .ref h2) (C := RX3) (T := TX3) (N := 4) hx hb hts hinX3 hown hK.1 hP 0 rfl rfl 1 (by decide) (hts _ (List.mem_of_getElem? (i := 4) rfl)) (fun _ h9 => h9) rfl dX3_takeDue_54 ?_
          refine lv_iload_n hx hb dX3_takeDue_57 rfl (lv_at hl 1 rfl) ?_
          refine lv_aload_n hx hb dX3_takeDue_58 rfl (lv_at hl 3 rfl) ?_
          refine va_get (D := (dC, dI)) (ci := 3) (v := .ref h2) (C := RX3) (T := TX3) (N := 4) hx hb hts hinX3 hown hK.1 hP 0 rfl rfl 1 (by decide) (hts _ (List.mem_of_getElem? (i := 4) rfl)) (fun _ h9 => h9) rfl dX3_takeDue_59 ?_
          refine lv_iload hx hb dX3_takeDue_62 (lv_at hl 0 rfl) ?_
          refine za_ld hx hb hK hP 2 0 rfl rfl (by omega) (by omega) dX3_takeDue_64 ?_
          refine za_st hx hb hK hP hD hS 2 0 rfl rfl (by omega) (by omega) dX3_takeDue_65 (fun H locs hP hD hS => ?_)
          have hP : va_P (dC, dI) vwCl (wJb cI cJ cZ h0 h1 h2 h3 (uZ ((tdZ tk due lat wk k).2.2.1) ((tdZ tk due lat wk k).2.1) (((tdZ tk due lat wk k).2.2.1) k)) (uZ ((tdZ tk due lat wk k).2.2.2.1) ((tdZ tk due lat wk k).2.1) (((tdZ tk due lat wk k).2.2.2.1) k)) ((tdZ tk due lat wk k).2.2.2.2) nJ) H := hP
          have hD : va_D A (wJb cI cJ cZ h0 h1 h2 h3 (uZ ((tdZ tk due lat wk k).2.2.1) ((tdZ tk due lat wk k).2.1) (((tdZ tk due lat wk k).2.2.1) k)) (uZ ((tdZ tk due lat wk k).2.2.2.1) ((tdZ tk due lat wk k).2.1) (((tdZ tk due lat wk k).2.2.2.1) k)) ((tdZ tk due lat wk k).2.2.2.2) nJ) := hD
          refine lv_aload_n hx hb dX3_takeDue_66 rfl (lv_at hl 3 rfl) ?_
          refine va_get (D := (dC, dI)) (ci := 3) (v := .ref h3) (C := RX3) (T := TX3) (N := 4) hx hb hts hinX3 hown hK.1 hP 0 rfl rfl 2 (by decide) (hts _ (List.mem_of_getElem? (i := 3) rfl)) (fun _ h9 => h9) rfl dX3_takeDue_67 ?_
          refine lv_iload_n hx hb dX3_takeDue_70 rfl (lv_at hl 1 rfl) ?_
          refine lv_aload_n hx hb dX3_takeDue_71 rfl (lv_at hl 3 rfl) ?_
          refine va_get (D := (dC, dI)) (ci := 3) (v := .ref h3) (C := RX3) (T := TX3) (N := 4) hx hb hts hinX3 hown hK.1 hP 0 rfl rfl 2 (by decide) (hts _ (List.mem_of_getElem? (i := 3) rfl)) (fun _ h9 => h9) rfl dX3_takeDue_72 ?_
          refine lv_iload hx hb dX3_takeDue_75 (lv_at hl 0 rfl) ?_
          refine za_ld hx hb hK hP 3 0 rfl rfl (by omega) (by omega) dX3_takeDue_77 ?_
          refine za_st hx hb hK hP hD hS 3 0 rfl rfl (by omega) (by omega) dX3_takeDue_78 (fun H locs hP hD hS => ?_)
          have hP : va_P (dC, dI) vwCl (wJb cI cJ cZ h0 h1 h2 h3 (uZ ((tdZ tk due lat wk k).2.2.1) ((tdZ tk due lat wk k).2.1) (((tdZ tk due lat wk k).2.2.1) k)) (uZ ((tdZ tk due lat wk k).2.2.2.1) ((tdZ tk due lat wk k).2.1) (((tdZ tk due lat wk k).2.2.2.1) k)) (uZ ((tdZ tk due lat wk k).2.2.2.2) ((tdZ tk due lat wk k).2.1) (((tdZ tk due lat wk k).2.2.2.2) k)) nJ) H := hP
          have hD : va_D A (wJb cI cJ cZ h0 h1 h2 h3 (uZ ((tdZ tk due lat wk k).2.2.1) ((tdZ tk due lat wk k).2.1) (((tdZ tk due lat wk k).2.2.1) k)) (uZ ((tdZ tk due lat wk k).2.2.2.1) ((tdZ tk due lat wk k).2.1) (((tdZ tk due lat wk k).2.2.2.1) k)) (uZ ((tdZ tk due lat wk k).2.2.2.2) ((tdZ tk due lat wk k).2.1) (((tdZ tk due lat wk k).2.2.2.2) k)) nJ) := hD
          refine lv_iinc (v := iI (((tdZ tk due lat wk k).2.1) + 1)) (lv' := [(3, .int (iI (((tdZ tk due lat wk k).2.1) + 1))), (4, .int (iI k)), (2, .int (iI ((tdZ tk due lat wk k).1))), (0, .ref h0), (1, .int (iI tk))]) hx hb dX3_takeDue_79 hl (k := 1) rfl (iI_add _ _) (by decide) rfl (fun ls hl => ?_)
          refine lv_iinc (v := iI (k + 1)) (lv' := [(4, .int (iI (k + 1))), (3, .int (iI (((tdZ tk due lat wk k).2.1) + 1))), (2, .int (iI ((tdZ tk due lat wk k).1))), (0, .ref h0), (1, .int (iI tk))]) hx hb dX3_takeDue_82 hl (k := 1) rfl (iI_add _ _) (by decide) rfl (fun ls hl => ?_)
          refine lv_goto (tgt := 7) hx hb dX3_takeDue_85 (by decide) ?_
          have w_9 : ((tdZ tk due lat wk (k + 1)).2.2.1) = (uZ ((tdZ tk due lat wk k).2.2.1) ((tdZ tk due lat wk k).2.1) (((tdZ tk due lat wk k).2.2.1) k)) := by first | rfl | (rw [td_y (by omega) (by omega)]; done) | (rw [td_n (by omega) (by omega)]; done)
          have w_10 : ((tdZ tk due lat wk (k + 1)).2.2.2.1) = (uZ ((tdZ tk due lat wk k).2.2.2.1) ((tdZ tk due lat wk k).2.1) (((tdZ tk due lat wk k).2.2.2.1) k)) := by first | rfl | (rw [td_y (by omega) (by omega)]; done) | (rw [td_n (by omega) (by omega)]; done)
          have w_11 : ((tdZ tk due lat wk (k + 1)).2.2.2.2) = (uZ ((tdZ tk due lat wk k).2.2.2.2) ((tdZ tk due lat wk k).2.1) (((tdZ tk due lat wk k).2.2.2.2) k)) := by first | rfl | (rw [td_y (by omega) (by omega)]; done) | (rw [td_n (by omega) (by omega)]; done)
          have hP : va_P (dC, dI) vwCl (wJb cI cJ cZ h0 h1 h2 h3 ((tdZ tk due lat wk (k + 1)).2.2.1) ((tdZ tk due lat wk (k + 1)).2.2.2.1) ((tdZ tk due lat wk (k + 1)).2.2.2.2) nJ) H := by rw [w_9, w_10, w_11]; exact hP
          have hD : va_D A (wJb cI cJ cZ h0 h1 h2 h3 ((tdZ tk due lat wk (k + 1)).2.2.1) ((tdZ tk due lat wk (k + 1)).2.2.2.1) ((tdZ tk due lat wk (k + 1)).2.2.2.2) nJ) := by rw [w_9, w_10, w_11]; exact hD
          have w_12 : ((tdZ tk due lat wk (k + 1)).2.1) = (((tdZ tk due lat wk k).2.1) + 1) := by first | rfl | (rw [td_y (by omega) (by omega)]; done) | (rw [td_n (by omega) (by omega)]; done)
          have w_13 : ((tdZ tk due lat wk (k + 1)).1) = ((tdZ tk due lat wk k).1) := by first | rfl | (rw [td_y (by omega) (by omega)]; done) | (rw [td_n (by omega) (by omega)]; done)
          have hl : lv_has ls 5 [(4, .int (iI (k + 1))), (3, .int (iI ((tdZ tk due lat wk (k + 1)).2.1))), (2, .int (iI ((tdZ tk due lat wk (k + 1)).1))), (0, .ref h0), (1, .int (iI tk))] := by rw [w_12, w_13]; exact hl
          exact ih (k + 1) (by omega) (by omega) H locs hP hD hS ls (lv_sub hl [0, 1, 2, 3, 4] rfl)
        · skip
          refine lv_iload_n hx hb dX3_takeDue_27 rfl (lv_at hl 2 rfl) ?_
          refine lv_aload_n hx hb dX3_takeDue_28 rfl (lv_at hl 3 rfl) ?_
          refine va_get (D := (dC, dI)) (ci := 3) (v := .ref h3) (C := RX3) (T := TX3) (N := 4) hx hb hts hinX3 hown hK.1 hP 0 rfl rfl 2 (by decide) (hts _ (List.mem_of_getElem? (i := 3) rfl)) (fun _ h9 => h9) rfl dX3_takeDue_29 ?_
          refine lv_iload hx hb dX3_takeDue_32 (lv_at hl 0 rfl) ?_
          refine za_ld hx hb hK hP 3 0 rfl rfl (by omega) (by omega) dX3_takeDue_34 ?_
          refine zi_add hx hb dX3_takeDue_35 ?_
          refine lv_istore_n (lv' := [(2, .int (iI (((tdZ tk due lat wk k).1) + (((tdZ tk due lat wk k).2.2.2.2) k)))), (4, .int (iI k)), (3, .int (iI ((tdZ tk due lat wk k).2.1))), (0, .ref h0), (1, .int (iI tk))]) hx hb dX3_takeDue_36 rfl hl (by decide) rfl (fun ls hl => ?_)
          refine lv_goto (tgt := 82) hx hb dX3_takeDue_37 (by decide) ?_
          refine lv_iinc (v := iI (k + 1)) (lv' := [(4, .int (iI (k + 1))), (2, .int (iI (((tdZ tk due lat wk k).1) + (((tdZ tk due lat wk k).2.2.2.2) k)))), (3, .int (iI ((tdZ tk due lat wk k).2.1))), (0, .ref h0), (1, .int (iI tk))]) hx hb dX3_takeDue_82 hl (k := 1) rfl (iI_add _ _) (by decide) rfl (fun ls hl => ?_)
          refine lv_goto (tgt := 7) hx hb dX3_takeDue_85 (by decide) ?_
          have w_14 : ((tdZ tk due lat wk (k + 1)).2.2.1) = ((tdZ tk due lat wk k).2.2.1) := by first | rfl | (rw [td_y (by omega) (by omega)]; done) | (rw [td_n (by omega) (by omega)]; done)
          have w_15 : ((tdZ tk due lat wk (k + 1)).2.2.2.1) = ((tdZ tk due lat wk k).2.2.2.1) := by first | rfl | (rw [td_y (by omega) (by omega)]; done) | (rw [td_n (by omega) (by omega)]; done)
          have w_16 : ((tdZ tk due lat wk (k + 1)).2.2.2.2) = ((tdZ tk due lat wk k).2.2.2.2) := by first | rfl | (rw [td_y (by omega) (by omega)]; done) | (rw [td_n (by omega) (by omega)]; done)
          have hP : va_P (dC, dI) vwCl (wJb cI cJ cZ h0 h1 h2 h3 ((tdZ tk due lat wk (k + 1)).2.2.1) ((tdZ tk due lat wk (k + 1)).2.2.2.1) ((tdZ tk due lat wk (k + 1)).2.2.2.2) nJ) H := by rw [w_14, w_15, w_16]; exact hP
          have hD : va_D A (wJb cI cJ cZ h0 h1 h2 h3 ((tdZ tk due lat wk (k + 1)).2.2.1) ((tdZ tk due lat wk (k + 1)).2.2.2.1) ((tdZ tk due lat wk (k + 1)).2.2.2.2) nJ) := by rw [w_14, w_15, w_16]; exact hD
          have w_17 : ((tdZ tk due lat wk (k + 1)).1) = (((tdZ tk due lat wk k).1) + (((tdZ tk due lat wk k).2.2.2.2) k)) := by first | rfl | (rw [td_y (by omega) (by omega)]; done) | (rw [td_n (by omega) (by omega)]; done)
          have w_18 : ((tdZ tk due lat wk (k + 1)).2.1) = ((tdZ tk due lat wk k).2.1) := by first | rfl | (rw [td_y (by omega) (by omega)]; done) | (rw [td_n (by omega) (by omega)]; done)
          have hl : lv_has ls 5 [(4, .int (iI (k + 1))), (2, .int (iI ((tdZ tk due lat wk (k + 1)).1))), (3, .int (iI ((tdZ tk due lat wk (k + 1)).2.1))), (0, .ref h0), (1, .int (iI tk))] := by rw [w_17, w_18]; exact hl
          exact ih (k + 1) (by omega) (by omega) H locs hP hD hS ls (lv_sub hl [0, 2, 1, 3, 4] rfl)
  have w_19 : ((tdZ tk due lat wk 0).2.2.1) = due := by first | rfl | (rw [td_y (by omega) (by omega)]; done) | (rw [td_n (by omega) (by omega)]; done)
  have w_20 : ((tdZ tk due lat wk 0).2.2.2.1) = lat := by first | rfl | (rw [td_y (by omega) (by omega)]; done) | (rw [td_n (by omega) (by omega)]; done)
  have w_21 : ((tdZ tk due lat wk 0).2.2.2.2) = wk := by first | rfl | (rw [td_y (by omega) (by omega)]; done) | (rw [td_n (by omega) (by omega)]; done)
  have hP : va_P (dC, dI) vwCl (wJb cI cJ cZ h0 h1 h2 h3 ((tdZ tk due lat wk 0).2.2.1) ((tdZ tk due lat wk 0).2.2.2.1) ((tdZ tk due lat wk 0).2.2.2.2) nJ) s.heap := by rw [w_19, w_20, w_21]; exact hP
  have hD : va_D A (wJb cI cJ cZ h0 h1 h2 h3 ((tdZ tk due lat wk 0).2.2.1) ((tdZ tk due lat wk 0).2.2.2.1) ((tdZ tk due lat wk 0).2.2.2.2) nJ) := by rw [w_19, w_20, w_21]; exact hD
  have w_22 : ((tdZ tk due lat wk 0).2.1) = 0 := by first | rfl | (rw [td_y (by omega) (by omega)]; done) | (rw [td_n (by omega) (by omega)]; done)
  have w_23 : ((tdZ tk due lat wk 0).1) = 0 := by first | rfl | (rw [td_y (by omega) (by omega)]; done) | (rw [td_n (by omega) (by omega)]; done)
  have hl : lv_has ls 5 [(4, .int (iI 0)), (3, .int (iI ((tdZ tk due lat wk 0).2.1))), (2, .int (iI ((tdZ tk due lat wk 0).1))), (0, .ref h0), (1, .int (iI tk))] := by rw [w_22, w_23]; exact hl
  exact L7 (_ + 1) 0 (by omega) (Nat.lt_succ_self _) s.heap [] hP hD hS ls (lv_sub hl [0, 1, 2, 3, 4] rfl)
def rmX3_leastLatest : Room := { frames := 0, cells := 0, slots := 0, locals := 0 }
set_option maxRecDepth 100000 in
set_option maxHeartbeats 4000000 in
theorem kX3_leastLatest (l : Launch) (dC : Nat → ClassId) (dI : Nat → Nat → Nat) (cI cJ cZ : ClassId) (h0 h1 h2 h3 : Nat)  (due : Int → Int) (lat : Int → Int) (wk : Int → Int) (nJ : Int) (wu un : Int) (hnJ : 0 ≤ nJ ∧ nJ ≤ 12) (hwu : zR wu) (hun : zR un) (hdue : rgZ due 12 1000000) (hlat : rgZ lat 12 1000000) (hwk : rgZ wk 12 50) : zPi l yX3_leastLatest wsX3_leastLatest rmX3_leastLatest (dC, dI) (zT cI cJ cZ) (wJb cI cJ cZ h0 h1 h2 h3 due lat wk nJ) [.ref h0, .int (iI wu), .int (iI un)] (llZ due lat wu un nJ) := by
  refine zent_pi (cc := cX3_leastLatest) (maxL := 6) (ret := (some .int)) (by decide +kernel) rfl (Nat.le_of_ble_eq_true rfl) ?_
  intro p e s m below meth c ls hE hP hK hl
  obtain ⟨hx, hb, hr, hml, hown, hts, hlocks, hmn⟩ := hE
  have hinX3 : ∀ w ∈ u_ws RX3 TX3 4, w ∈ wsX3_leastLatest := by decide +kernel
  have hl : lv_has ls 6 [(0, .ref h0), (1, .int (iI wu)), (2, .int (iI un))] := hl
  refine z_gen (fun Q hQ => ?_)
  refine lv_iconst (v := iI (-1)) hx hb dX3_leastLatest_0 rfl ?_
  refine lv_istore_n (lv' := [(3, .int (iI (-1))), (0, .ref h0), (1, .int (iI wu)), (2, .int (iI un))]) hx hb dX3_leastLatest_1 rfl hl (by decide) rfl (fun ls hl => ?_)
  refine lv_iconst (v := iI 0) hx hb dX3_leastLatest_2 rfl ?_
  refine lv_istore (lv' := [(4, .int (iI 0)), (3, .int (iI (-1))), (0, .ref h0), (1, .int (iI wu)), (2, .int (iI un))]) hx hb dX3_leastLatest_3 hl (by decide) rfl (fun ls hl => ?_)
  have L5 : ∀ (fuel : Nat) (k : Int) (x : Int), (0 ≤ k ∧ k ≤ nJ) → (x = llZ due lat wu un k) → ((nJ - k).toNat) < fuel → ∀ ls : Array Slot, lv_has ls 6 [(4, .int (iI k)), (3, .int (iI x)), (0, .ref h0), (1, .int (iI wu)), (2, .int (iI un))] → W p l e rmX3_leastLatest s m ([.ref h0, .int (iI wu), .int (iI un)] : List Value).toArray below meth c s.heap [] 0 0 Q (F0 m 5 ls []) := by
    intro fuel
    induction fuel with
    | zero =>
      intro k x hk hI hmeas ls hl
      exact absurd hmeas (by omega)
    | succ fuel ih =>
      intro k x hk hI hmeas ls hl
      have hr9 := ll_r (due := due) (wu := wu) (un := un) (k := k) hlat (by omega) (by omega)
      refine lv_iload hx hb dX3_leastLatest_5 (lv_at hl 0 rfl) ?_
      refine lv_aload_n hx hb dX3_leastLatest_7 rfl (lv_at hl 2 rfl) ?_
      refine va_get (D := (dC, dI)) (ci := 3) (v := .int (iI nJ)) (C := RX3) (T := TX3) (N := 4) hx hb hts hinX3 hown hK.1 hP 0 rfl rfl 3 (by decide) (hts _ (List.mem_of_getElem? (i := 1) rfl)) (fun _ h9 => h9) rfl dX3_leastLatest_8 ?_
      refine zi_cge (tgt := 78) hx hb (by omega) (by omega) dX3_leastLatest_11 (by decide) (fun c_1 => ?_) (fun c_1 => ?_)
      · skip
        refine lv_iload_n hx hb dX3_leastLatest_78 rfl (lv_at hl 1 rfl) ?_
        subst hQ
        exact zret_pi hx hb hr hlocks dX3_leastLatest_79 (by (obtain rfl : k = nJ := by omega); exact hI)
      · skip
        refine lv_aload_n hx hb dX3_leastLatest_14 rfl (lv_at hl 2 rfl) ?_
        refine va_get (D := (dC, dI)) (ci := 3) (v := .ref h1) (C := RX3) (T := TX3) (N := 4) hx hb hts hinX3 hown hK.1 hP 0 rfl rfl 0 (by decide) (hts _ (List.mem_of_getElem? (i := 2) rfl)) (fun _ h9 => h9) rfl dX3_leastLatest_15 ?_
        refine lv_iload hx hb dX3_leastLatest_18 (lv_at hl 0 rfl) ?_
        refine za_ld hx hb hK hP 1 0 rfl rfl (by omega) (by omega) dX3_leastLatest_20 ?_
        have e_2 := hdue k (by omega) (by omega)
        refine lv_iload_n hx hb dX3_leastLatest_21 rfl (lv_at hl 3 rfl) ?_
        refine zi_cle (tgt := 40) hx hb (by omega) (by omega) dX3_leastLatest_22 (by decide) (fun c_3 => ?_) (fun c_3 => ?_)
        · skip
          refine lv_iconst (v := iI 0) hx hb dX3_leastLatest_40 rfl ?_
          refine lv_istore (lv' := [(5, .int (iI 0)), (4, .int (iI k)), (3, .int (iI x)), (0, .ref h0), (1, .int (iI wu)), (2, .int (iI un))]) hx hb dX3_leastLatest_41 hl (by decide) rfl (fun ls hl => ?_)
          refine lv_iload hx hb dX3_leastLatest_43 (lv_at hl 0 rfl) ?_
          refine zi_feq (tgt := 72) hx hb (by decide) dX3_leastLatest_45 (by decide) (fun c_4 => ?_) (fun c_4 => ?_)
          · skip
            refine lv_iinc (v := iI (k + 1)) (lv' := [(4, .int (iI (k + 1))), (5, .int (iI 0)), (3, .int (iI x)), (0, .ref h0), (1, .int (iI wu)), (2, .int (iI un))]) hx hb dX3_leastLatest_72 hl (k := 1) rfl (iI_add _ _) (by decide) rfl (fun ls hl => ?_)
            refine lv_goto (tgt := 5) hx hb dX3_leastLatest_75 (by decide) ?_
            exact ih (k + 1) x (by omega) (by first | (rw [ll_y (by omega) (by omega)]; done) | (rw [ll_n (by omega) (by omega)]; exact hI)) (by omega) ls (lv_sub hl [0, 2, 3, 4, 5] rfl)
          · skip
            exact absurd c_4 (by decide)
        · skip
          refine lv_aload_n hx hb dX3_leastLatest_25 rfl (lv_at hl 2 rfl) ?_
          refine va_get (D := (dC, dI)) (ci := 3) (v := .ref h2) (C := RX3) (T := TX3) (N := 4) hx hb hts hinX3 hown hK.1 hP 0 rfl rfl 1 (by decide) (hts _ (List.mem_of_getElem? (i := 3) rfl)) (fun _ h9 => h9) rfl dX3_leastLatest_26 ?_
          refine lv_iload hx hb dX3_leastLatest_29 (lv_at hl 0 rfl) ?_
          refine za_ld hx hb hK hP 2 0 rfl rfl (by omega) (by omega) dX3_leastLatest_31 ?_
          have e_5 := hlat k (by omega) (by omega)
          refine lv_iload_n hx hb dX3_leastLatest_32 rfl (lv_at hl 4 rfl) ?_
          refine zi_cge (tgt := 40) hx hb (by omega) (by omega) dX3_leastLatest_33 (by decide) (fun c_6 => ?_) (fun c_6 => ?_)
          · skip
            refine lv_iconst (v := iI 0) hx hb dX3_leastLatest_40 rfl ?_
            refine lv_istore (lv' := [(5, .int (iI 0)), (4, .int (iI k)), (3, .int (iI x)), (0, .ref h0), (1, .int (iI wu)), (2, .int (iI un))]) hx hb dX3_leastLatest_41 hl (by decide) rfl (fun ls hl => ?_)
            refine lv_iload hx hb dX3_leastLatest_43 (lv_at hl 0 rfl) ?_
            refine zi_feq (tgt := 72) hx hb (by decide) dX3_leastLatest_45 (by decide) (fun c_7 => ?_) (fun c_7 => ?_)
            · skip
              refine lv_iinc (v := iI (k + 1)) (lv' := [(4, .int (iI (k + 1))), (5, .int (iI 0)), (3, .int (iI x)), (0, .ref h0), (1, .int (iI wu)), (2, .int (iI un))]) hx hb dX3_leastLatest_72 hl (k := 1) rfl (iI_add _ _) (by decide) rfl (fun ls hl => ?_)
              refine lv_goto (tgt := 5) hx hb dX3_leastLatest_75 (by decide) ?_
              exact ih (k + 1) x (by omega) (by first | (rw [ll_y (by omega) (by omega)]; done) | (rw [ll_n (by omega) (by omega)]; exact hI)) (by omega) ls (lv_sub hl [0, 2, 3, 4, 5] rfl)
            · skip
              exact absurd c_7 (by decide)
          · skip
            refine lv_iconst (v := iI 1) hx hb dX3_leastLatest_36 rfl ?_
            refine lv_goto (tgt := 41) hx hb dX3_leastLatest_37 (by decide) ?_
            refine lv_istore (lv' := [(5, .int (iI 1)), (4, .int (iI k)), (3, .int (iI x)), (0, .ref h0), (1, .int (iI wu)), (2, .int (iI un))]) hx hb dX3_leastLatest_41 hl (by decide) rfl (fun ls hl => ?_)
            refine lv_iload hx hb dX3_leastLatest_43 (lv_at hl 0 rfl) ?_
            refine zi_feq (tgt := 72) hx hb (by decide) dX3_leastLatest_45 (by decide) (fun c_8 => ?_) (fun c_8 => ?_)
            · skip
              exact absurd c_8 (by decide)
            · skip
              refine lv_iload_n hx hb dX3_leastLatest_48 rfl (lv_at hl 2 rfl) ?_
              refine lv_iconst (v := iI (-1)) hx hb dX3_leastLatest_49 rfl ?_
              refine zi_ceq (tgt := 64) hx hb (by omega) (by decide) dX3_leastLatest_50 (by decide) (fun c_9 => ?_) (fun c_9 => ?_)
              · skip
                refine lv_aload_n hx hb dX3_leastLatest_64 rfl (lv_at hl 3 rfl) ?_
                refine va_get (D := (dC, dI)) (ci := 3) (v := .ref h2) (C := RX3) (T := TX3) (N := 4) hx hb hts hinX3 hown hK.1 hP 0 rfl rfl 1 (by decide) (hts _ (List.mem_of_getElem? (i := 3) rfl)) (fun _ h9 => h9) rfl dX3_leastLatest_65 ?_
                refine lv_iload hx hb dX3_leastLatest_68 (lv_at hl 1 rfl) ?_
                refine za_ld hx hb hK hP 2 0 rfl rfl (by omega) (by omega) dX3_leastLatest_70 ?_
                have e_10 := hlat k (by omega) (by omega)
                refine lv_istore_n (lv' := [(3, .int (iI (lat k))), (5, .int (iI 1)), (4, .int (iI k)), (0, .ref h0), (1, .int (iI wu)), (2, .int (iI un))]) hx hb dX3_leastLatest_71 rfl hl (by decide) rfl (fun ls hl => ?_)
                refine lv_iinc (v := iI (k + 1)) (lv' := [(4, .int (iI (k + 1))), (3, .int (iI (lat k))), (5, .int (iI 1)), (0, .ref h0), (1, .int (iI wu)), (2, .int (iI un))]) hx hb dX3_leastLatest_72 hl (k := 2) rfl (iI_add _ _) (by decide) rfl (fun ls hl => ?_)
                refine lv_goto (tgt := 5) hx hb dX3_leastLatest_75 (by decide) ?_
                exact ih (k + 1) (lat k) (by omega) (by first | (rw [ll_y (by omega) (by omega)]; done) | (rw [ll_n (by omega) (by omega)]; exact hI)) (by omega) ls (lv_sub hl [0, 1, 3, 4, 5] rfl)
              · skip
                refine lv_aload_n hx hb dX3_leastLatest_53 rfl (lv_at hl 3 rfl) ?_
                refine va_get (D := (dC, dI)) (ci := 3) (v := .ref h2) (C := RX3) (T := TX3) (N := 4) hx hb hts hinX3 hown hK.1 hP 0 rfl rfl 1 (by decide) (hts _ (List.mem_of_getElem? (i := 3) rfl)) (fun _ h9 => h9) rfl dX3_leastLatest_54 ?_
                refine lv_iload hx hb dX3_leastLatest_57 (lv_at hl 1 rfl) ?_
                refine za_ld hx hb hK hP 2 0 rfl rfl (by omega) (by omega) dX3_leastLatest_59 ?_
                have e_11 := hlat k (by omega) (by omega)
                refine lv_iload_n hx hb dX3_leastLatest_60 rfl (lv_at hl 2 rfl) ?_
                refine zi_cge (tgt := 72) hx hb (by omega) (by omega) dX3_leastLatest_61 (by decide) (fun c_12 => ?_) (fun c_12 => ?_)
                · skip
                  refine lv_iinc (v := iI (k + 1)) (lv' := [(4, .int (iI (k + 1))), (5, .int (iI 1)), (3, .int (iI x)), (0, .ref h0), (1, .int (iI wu)), (2, .int (iI un))]) hx hb dX3_leastLatest_72 hl (k := 1) rfl (iI_add _ _) (by decide) rfl (fun ls hl => ?_)
                  refine lv_goto (tgt := 5) hx hb dX3_leastLatest_75 (by decide) ?_
                  exact ih (k + 1) x (by omega) (by first | (rw [ll_y (by omega) (by omega)]; done) | (rw [ll_n (by omega) (by omega)]; exact hI)) (by omega) ls (lv_sub hl [0, 2, 3, 4, 5] rfl)
                · skip
                  refine lv_aload_n hx hb dX3_leastLatest_64 rfl (lv_at hl 3 rfl) ?_
                  refine va_get (D := (dC, dI)) (ci := 3) (v := .ref h2) (C := RX3) (T := TX3) (N := 4) hx hb hts hinX3 hown hK.1 hP 0 rfl rfl 1 (by decide) (hts _ (List.mem_of_getElem? (i := 3) rfl)) (fun _ h9 => h9) rfl dX3_leastLatest_65 ?_
                  refine lv_iload hx hb dX3_leastLatest_68 (lv_at hl 1 rfl) ?_
                  refine za_ld hx hb hK hP 2 0 rfl rfl (by omega) (by omega) dX3_leastLatest_70 ?_
                  have e_13 := hlat k (by omega) (by omega)
                  refine lv_istore_n (lv' := [(3, .int (iI (lat k))), (5, .int (iI 1)), (4, .int (iI k)), (0, .ref h0), (1, .int (iI wu)), (2, .int (iI un))]) hx hb dX3_leastLatest_71 rfl hl (by decide) rfl (fun ls hl => ?_)
                  refine lv_iinc (v := iI (k + 1)) (lv' := [(4, .int (iI (k + 1))), (3, .int (iI (lat k))), (5, .int (iI 1)), (0, .ref h0), (1, .int (iI wu)), (2, .int (iI un))]) hx hb dX3_leastLatest_72 hl (k := 2) rfl (iI_add _ _) (by decide) rfl (fun ls hl => ?_)
                  refine lv_goto (tgt := 5) hx hb dX3_leastLatest_75 (by decide) ?_
                  exact ih (k + 1) (lat k) (by omega) (by first | (rw [ll_y (by omega) (by omega)]; done) | (rw [ll_n (by omega) (by omega)]; exact hI)) (by omega) ls (lv_sub hl [0, 1, 3, 4, 5] rfl)
  exact L5 (_ + 1) 0 (-1) (by omega) (rfl) (Nat.lt_succ_self _) ls (lv_sub hl [0, 1, 2, 3, 4] rfl)
def rmX2_remember : Room := { frames := 1, cells := 0, slots := 0, locals := 21 }
set_option maxRecDepth 100000 in
set_option maxHeartbeats 4000000 in
theorem kX2_remember (l : Launch) (dC : Nat → ClassId) (dI : Nat → Nat → Nat) (cI cJ cZ : ClassId) (h0 h1 : Nat)  (len : Int → Int) (cnt : Int) (x : Int) (hcnt : 0 ≤ cnt ∧ cnt ≤ 4) : zMv l yX2_remember wsX2_remember rmX2_remember (dC, dI) (zT cI cJ cZ) (wId cI cJ cZ h0 h1 len cnt) [.ref h0, .int (iI x)] (fun (_ : Unit) => True) (fun _ : Unit => wId cI cJ cZ h0 h1 (reZ len x) (min (cnt + 1) 4)) 0 0 := by
  refine zent_v (cc := cX2_remember) (maxL := 3) (ret := none) (by decide +kernel) rfl (Nat.le_of_ble_eq_true rfl) ?_
  intro p e s m below meth c A ls hE hP hK hA hD hS hl
  obtain ⟨hx, hb, hr, hml, hown, hts, hlocks, hmn⟩ := hE
  have hinX2 : ∀ w ∈ u_ws RX2 TX2 2, w ∈ wsX2_remember := by decide +kernel
  have hl : lv_has ls 3 [(0, .ref h0), (1, .int (iI x))] := hl
  refine z_gen (fun Q hQ => ?_)
  refine lv_iconst (v := iI 3) hx hb dX2_remember_0 rfl ?_
  refine lv_istore_n (lv' := [(2, .int (iI 3)), (0, .ref h0), (1, .int (iI x))]) hx hb dX2_remember_1 rfl hl (by decide) rfl (fun ls hl => ?_)
  refine lv_iload_n hx hb dX2_remember_2 rfl (lv_at hl 0 rfl) ?_
  refine zi_fle (tgt := 26) hx hb (by decide) dX2_remember_3 (by decide) (fun c_1 => ?_) (fun c_1 => ?_)
  · skip
    exact absurd c_1 (by decide)
  · skip
    refine lv_aload_n hx hb dX2_remember_6 rfl (lv_at hl 1 rfl) ?_
    refine va_get (D := (dC, dI)) (ci := 2) (v := .ref h1) (C := RX2) (T := TX2) (N := 2) hx hb hts hinX2 hown hK.1 hP 0 rfl rfl 0 (by decide) (hts _ (List.mem_of_getElem? (i := 1) rfl)) (fun _ h9 => h9) rfl dX2_remember_7 ?_
    refine lv_iload_n hx hb dX2_remember_10 rfl (lv_at hl 0 rfl) ?_
    refine lv_aload_n hx hb dX2_remember_11 rfl (lv_at hl 1 rfl) ?_
    refine va_get (D := (dC, dI)) (ci := 2) (v := .ref h1) (C := RX2) (T := TX2) (N := 2) hx hb hts hinX2 hown hK.1 hP 0 rfl rfl 0 (by decide) (hts _ (List.mem_of_getElem? (i := 1) rfl)) (fun _ h9 => h9) rfl dX2_remember_12 ?_
    refine lv_iload_n hx hb dX2_remember_15 rfl (lv_at hl 0 rfl) ?_
    refine lv_iconst (v := iI 1) hx hb dX2_remember_16 rfl ?_
    refine zi_sub hx hb dX2_remember_17 ?_
    refine ze_i (y := 2) (by decide) ?_
    refine za_ld hx hb hK hP 1 0 rfl rfl (by omega) (by omega) dX2_remember_18 ?_
    refine za_st hx hb hK hP hD hS 1 0 rfl rfl (by omega) (by omega) dX2_remember_19 (fun H locs hP hD hS => ?_)
    have hP : va_P (dC, dI) vwCl (wId cI cJ cZ h0 h1 (uZ len 3 (len 2)) cnt) H := hP
    have hD : va_D A (wId cI cJ cZ h0 h1 (uZ len 3 (len 2)) cnt) := hD
    refine lv_iinc (v := iI 2) (lv' := [(2, .int (iI 2)), (0, .ref h0), (1, .int (iI x))]) hx hb dX2_remember_20 hl (k := 0) rfl (by decide) (by decide) rfl (fun ls hl => ?_)
    refine lv_goto (tgt := 2) hx hb dX2_remember_23 (by decide) ?_
    refine lv_iload_n hx hb dX2_remember_2 rfl (lv_at hl 0 rfl) ?_
    refine zi_fle (tgt := 26) hx hb (by decide) dX2_remember_3 (by decide) (fun c_2 => ?_) (fun c_2 => ?_)
    · skip
      exact absurd c_2 (by decide)
    · skip
      refine lv_aload_n hx hb dX2_remember_6 rfl (lv_at hl 1 rfl) ?_
      refine va_get (D := (dC, dI)) (ci := 2) (v := .ref h1) (C := RX2) (T := TX2) (N := 2) hx hb hts hinX2 hown hK.1 hP 0 rfl rfl 0 (by decide) (hts _ (List.mem_of_getElem? (i := 1) rfl)) (fun _ h9 => h9) rfl dX2_remember_7 ?_
      refine lv_iload_n hx hb dX2_remember_10 rfl (lv_at hl 0 rfl) ?_
      refine lv_aload_n hx hb dX2_remember_11 rfl (lv_at hl 1 rfl) ?_
      refine va_get (D := (dC, dI)) (ci := 2) (v := .ref h1) (C := RX2) (T := TX2) (N := 2) hx hb hts hinX2 hown hK.1 hP 0 rfl rfl 0 (by decide) (hts _ (List.mem_of_getElem? (i := 1) rfl)) (fun _ h9 => h9) rfl dX2_remember_12 ?_
      refine lv_iload_n hx hb dX2_remember_15 rfl (lv_at hl 0 rfl) ?_
      refine lv_iconst (v := iI 1) hx hb dX2_remember_16 rfl ?_
      refine zi_sub hx hb dX2_remember_17 ?_
      refine ze_i (y := 1) (by decide) ?_
      refine za_ld hx hb hK hP 1 0 rfl rfl (by omega) (by omega) dX2_remember_18 ?_
      refine za_st hx hb hK hP hD hS 1 0 rfl rfl (by omega) (by omega) dX2_remember_19 (fun H locs hP hD hS => ?_)
      have hP : va_P (dC, dI) vwCl (wId cI cJ cZ h0 h1 (uZ (uZ len 3 (len 2)) 2 ((uZ len 3 (len 2)) 1)) cnt) H := hP
      have hD : va_D A (wId cI cJ cZ h0 h1 (uZ (uZ len 3 (len 2)) 2 ((uZ len 3 (len 2)) 1)) cnt) := hD
      refine lv_iinc (v := iI 1) (lv' := [(2, .int (iI 1)), (0, .ref h0), (1, .int (iI x))]) hx hb dX2_remember_20 hl (k := 0) rfl (by decide) (by decide) rfl (fun ls hl => ?_)
      refine lv_goto (tgt := 2) hx hb dX2_remember_23 (by decide) ?_
      refine lv_iload_n hx hb dX2_remember_2 rfl (lv_at hl 0 rfl) ?_
      refine zi_fle (tgt := 26) hx hb (by decide) dX2_remember_3 (by decide) (fun c_3 => ?_) (fun c_3 => ?_)
      · skip
        exact absurd c_3 (by decide)
      · skip
        refine lv_aload_n hx hb dX2_remember_6 rfl (lv_at hl 1 rfl) ?_
        refine va_get (D := (dC, dI)) (ci := 2) (v := .ref h1) (C := RX2) (T := TX2) (N := 2) hx hb hts hinX2 hown hK.1 hP 0 rfl rfl 0 (by decide) (hts _ (List.mem_of_getElem? (i := 1) rfl)) (fun _ h9 => h9) rfl dX2_remember_7 ?_
        refine lv_iload_n hx hb dX2_remember_10 rfl (lv_at hl 0 rfl) ?_
        refine lv_aload_n hx hb dX2_remember_11 rfl (lv_at hl 1 rfl) ?_
        refine va_get (D := (dC, dI)) (ci := 2) (v := .ref h1) (C := RX2) (T := TX2) (N := 2) hx hb hts hinX2 hown hK.1 hP 0 rfl rfl 0 (by decide) (hts _ (List.mem_of_getElem? (i := 1) rfl)) (fun _ h9 => h9) rfl dX2_remember_12 ?_
        refine lv_iload_n hx hb dX2_remember_15 rfl (lv_at hl 0 rfl) ?_
        refine lv_iconst (v := iI 1) hx hb dX2_remember_16 rfl ?_
        refine zi_sub hx hb dX2_remember_17 ?_
        refine ze_i (y := 0) (by decide) ?_
        refine za_ld hx hb hK hP 1 0 rfl rfl (by omega) (by omega) dX2_remember_18 ?_
        refine za_st hx hb hK hP hD hS 1 0 rfl rfl (by omega) (by omega) dX2_remember_19 (fun H locs hP hD hS => ?_)
        have hP : va_P (dC, dI) vwCl (wId cI cJ cZ h0 h1 (uZ (uZ (uZ len 3 (len 2)) 2 ((uZ len 3 (len 2)) 1)) 1 ((uZ (uZ len 3 (len 2)) 2 ((uZ len 3 (len 2)) 1)) 0)) cnt) H := hP
        have hD : va_D A (wId cI cJ cZ h0 h1 (uZ (uZ (uZ len 3 (len 2)) 2 ((uZ len 3 (len 2)) 1)) 1 ((uZ (uZ len 3 (len 2)) 2 ((uZ len 3 (len 2)) 1)) 0)) cnt) := hD
        refine lv_iinc (v := iI 0) (lv' := [(2, .int (iI 0)), (0, .ref h0), (1, .int (iI x))]) hx hb dX2_remember_20 hl (k := 0) rfl (by decide) (by decide) rfl (fun ls hl => ?_)
        refine lv_goto (tgt := 2) hx hb dX2_remember_23 (by decide) ?_
        refine lv_iload_n hx hb dX2_remember_2 rfl (lv_at hl 0 rfl) ?_
        refine zi_fle (tgt := 26) hx hb (by decide) dX2_remember_3 (by decide) (fun c_4 => ?_) (fun c_4 => ?_)
        · skip
          refine lv_aload_n hx hb dX2_remember_26 rfl (lv_at hl 1 rfl) ?_
          refine va_get (D := (dC, dI)) (ci := 2) (v := .ref h1) (C := RX2) (T := TX2) (N := 2) hx hb hts hinX2 hown hK.1 hP 0 rfl rfl 0 (by decide) (hts _ (List.mem_of_getElem? (i := 1) rfl)) (fun _ h9 => h9) rfl dX2_remember_27 ?_
          refine lv_iconst (v := iI 0) hx hb dX2_remember_30 rfl ?_
          refine lv_iload_n hx hb dX2_remember_31 rfl (lv_at hl 2 rfl) ?_
          refine za_st hx hb hK hP hD hS 1 0 rfl rfl (by omega) (by omega) dX2_remember_32 (fun H locs hP hD hS => ?_)
          have hP : va_P (dC, dI) vwCl (wId cI cJ cZ h0 h1 (uZ (uZ (uZ (uZ len 3 (len 2)) 2 ((uZ len 3 (len 2)) 1)) 1 ((uZ (uZ len 3 (len 2)) 2 ((uZ len 3 (len 2)) 1)) 0)) 0 x) cnt) H := hP
          have hD : va_D A (wId cI cJ cZ h0 h1 (uZ (uZ (uZ (uZ len 3 (len 2)) 2 ((uZ len 3 (len 2)) 1)) 1 ((uZ (uZ len 3 (len 2)) 2 ((uZ len 3 (len 2)) 1)) 0)) 0 x) cnt) := hD
          refine lv_aload_n hx hb dX2_remember_33 rfl (lv_at hl 1 rfl) ?_
          refine lv_aload_n hx hb dX2_remember_34 rfl (lv_at hl 1 rfl) ?_
          refine va_get (D := (dC, dI)) (ci := 2) (v := .int (iI cnt)) (C := RX2) (T := TX2) (N := 2) hx hb hts hinX2 hown hK.1 hP 0 rfl rfl 1 (by decide) (hts _ (List.mem_of_getElem? (i := 2) rfl)) (fun _ h9 => h9) rfl dX2_remember_35 ?_
          refine lv_iconst (v := iI 1) hx hb dX2_remember_38 rfl ?_
          refine zi_add hx hb dX2_remember_39 ?_
          refine lv_iconst (v := iI 4) hx hb dX2_remember_40 rfl ?_
          refine zi_min hx hb (by rw [hml]; exact hl.1.symm) hown (hts _ (List.mem_of_getElem? (i := 3) rfl)) (hts _ (List.mem_of_getElem? (i := 4) rfl)) (hts _ (List.mem_of_getElem? (i := 5) rfl)) (hts _ (List.mem_of_getElem? (i := 6) rfl)) (Nat.le_of_ble_eq_true rfl) (Nat.le_of_ble_eq_true rfl) (Nat.le_of_ble_eq_true rfl) (Nat.le_of_ble_eq_true rfl) (by omega) (by decide) dX2_remember_41 ?_
          refine va_put (D := (dC, dI)) (ci := 2) (v := .int (iI (min (cnt + 1) 4))) (ty := .int) (C := RX2) (T := TX2) (N := 2) hx hb hts hinX2 tyX2 tyX2_ok nmX2 hown hK.1 hP hD hS 0 rfl rfl 1 (by decide) (hts _ (List.mem_of_getElem? (i := 2) rfl)) (fun _ h9 => h9) rfl (by decide +kernel) rfl rfl (Nat.le_of_ble_eq_true rfl) dX2_remember_44 (fun H locs hP hD hS => ?_)
          have hP : va_P (dC, dI) vwCl (wId cI cJ cZ h0 h1 (uZ (uZ (uZ (uZ len 3 (len 2)) 2 ((uZ len 3 (len 2)) 1)) 1 ((uZ (uZ len 3 (len 2)) 2 ((uZ len 3 (len 2)) 1)) 0)) 0 x) (min (cnt + 1) 4)) H := hP
          have hD : va_D A (wId cI cJ cZ h0 h1 (uZ (uZ (uZ (uZ len 3 (len 2)) 2 ((uZ len 3 (len 2)) 1)) 1 ((uZ (uZ len 3 (len 2)) 2 ((uZ len 3 (len 2)) 1)) 0)) 0 x) (min (cnt + 1) 4)) := hD
          subst hQ
          have w_5 : (reZ len x) = (uZ (uZ (uZ (uZ len 3 (len 2)) 2 ((uZ len 3 (len 2)) 1)) 1 ((uZ (uZ len 3 (len 2)) 2 ((uZ len 3 (len 2)) 1)) 0)) 0 x) := by rfl
          have hP : va_P (dC, dI) vwCl (wId cI cJ cZ h0 h1 (reZ len x) (min (cnt + 1) 4)) H := by rw [w_5]; exact hP
          have hD : va_D A (wId cI cJ cZ h0 h1 (reZ len x) (min (cnt + 1) 4)) := by rw [w_5]; exact hD
          exact zret_v (W1 := fun _ : Unit => wId cI cJ cZ h0 h1 (reZ len x) (min (cnt + 1) 4)) () hx hb hr hP hD hS hlocks dX2_remember_47 (by trivial)
        · skip
          exact absurd c_4 (by decide)
def rmX2_mean : Room := { frames := 0, cells := 0, slots := 0, locals := 0 }
set_option maxRecDepth 100000 in
set_option maxHeartbeats 4000000 in
theorem kX2_mean (l : Launch) (dC : Nat → ClassId) (dI : Nat → Nat → Nat) (cI cJ cZ : ClassId) (h0 h1 : Nat)  (len : Int → Int) (cnt : Int) (hcnt : 0 ≤ cnt ∧ cnt ≤ 4) (hlen : rgZ len 4 1000000) : zPi l yX2_mean wsX2_mean rmX2_mean (dC, dI) (zT cI cJ cZ) (wId cI cJ cZ h0 h1 len cnt) [.ref h0] (meZ len cnt) := by
  refine zent_pi (cc := cX2_mean) (maxL := 3) (ret := (some .int)) (by decide +kernel) rfl (Nat.le_of_ble_eq_true rfl) ?_
  intro p e s m below meth c ls hE hP hK hl
  obtain ⟨hx, hb, hr, hml, hown, hts, hlocks, hmn⟩ := hE
  have hinX2 : ∀ w ∈ u_ws RX2 TX2 2, w ∈ wsX2_mean := by decide +kernel
  have hl : lv_has ls 3 [(0, .ref h0)] := hl
  refine z_gen (fun Q hQ => ?_)
  refine lv_aload_n hx hb dX2_mean_0 rfl (lv_at hl 0 rfl) ?_
  refine va_get (D := (dC, dI)) (ci := 2) (v := .int (iI cnt)) (C := RX2) (T := TX2) (N := 2) hx hb hts hinX2 hown hK.1 hP 0 rfl rfl 1 (by decide) (hts _ (List.mem_of_getElem? (i := 1) rfl)) (fun _ h9 => h9) rfl dX2_mean_1 ?_
  refine zi_fgt (tgt := 10) hx hb (by omega) dX2_mean_4 (by decide) (fun c_1 => ?_) (fun c_1 => ?_)
  · skip
    refine lv_iconst (v := iI 0) hx hb dX2_mean_10 rfl ?_
    refine lv_istore_n (lv' := [(1, .int (iI 0)), (0, .ref h0)]) hx hb dX2_mean_11 rfl hl (by decide) rfl (fun ls hl => ?_)
    refine lv_iconst (v := iI 0) hx hb dX2_mean_12 rfl ?_
    refine lv_istore_n (lv' := [(2, .int (iI 0)), (1, .int (iI 0)), (0, .ref h0)]) hx hb dX2_mean_13 rfl hl (by decide) rfl (fun ls hl => ?_)
    have L14 : ∀ (fuel : Nat) (k : Int) (x : Int), (0 ≤ k ∧ k ≤ cnt) → (x = suZ len k) → ((cnt - k).toNat) < fuel → ∀ ls : Array Slot, lv_has ls 3 [(2, .int (iI k)), (1, .int (iI x)), (0, .ref h0)] → W p l e rmX2_mean s m ([.ref h0] : List Value).toArray below meth c s.heap [] 0 0 Q (F0 m 14 ls []) := by
      intro fuel
      induction fuel with
      | zero =>
        intro k x hk hI hmeas ls hl
        exact absurd hmeas (by omega)
      | succ fuel ih =>
        intro k x hk hI hmeas ls hl
        have hr9 := su_r (n := k) (by omega) hlen (by omega)
        refine lv_iload_n hx hb dX2_mean_14 rfl (lv_at hl 0 rfl) ?_
        refine lv_aload_n hx hb dX2_mean_15 rfl (lv_at hl 2 rfl) ?_
        refine va_get (D := (dC, dI)) (ci := 2) (v := .int (iI cnt)) (C := RX2) (T := TX2) (N := 2) hx hb hts hinX2 hown hK.1 hP 0 rfl rfl 1 (by decide) (hts _ (List.mem_of_getElem? (i := 1) rfl)) (fun _ h9 => h9) rfl dX2_mean_16 ?_
        refine zi_cge (tgt := 37) hx hb (by omega) (by omega) dX2_mean_19 (by decide) (fun c_2 => ?_) (fun c_2 => ?_)
        · skip
          refine lv_iload_n hx hb dX2_mean_37 rfl (lv_at hl 1 rfl) ?_
          refine lv_aload_n hx hb dX2_mean_38 rfl (lv_at hl 2 rfl) ?_
          refine va_get (D := (dC, dI)) (ci := 2) (v := .int (iI cnt)) (C := RX2) (T := TX2) (N := 2) hx hb hts hinX2 hown hK.1 hP 0 rfl rfl 1 (by decide) (hts _ (List.mem_of_getElem? (i := 1) rfl)) (fun _ h9 => h9) rfl dX2_mean_39 ?_
          refine zi_div hx hb (by omega) (by omega) dX2_mean_42 ?_
          subst hQ
          exact zret_pi hx hb hr hlocks dX2_mean_43 (by (obtain rfl : k = cnt := by omega); rw [hI]; exact (if_neg (by omega)).symm)
        · skip
          refine lv_iload_n hx hb dX2_mean_22 rfl (lv_at hl 1 rfl) ?_
          refine lv_aload_n hx hb dX2_mean_23 rfl (lv_at hl 2 rfl) ?_
          refine va_get (D := (dC, dI)) (ci := 2) (v := .ref h1) (C := RX2) (T := TX2) (N := 2) hx hb hts hinX2 hown hK.1 hP 0 rfl rfl 0 (by decide) (hts _ (List.mem_of_getElem? (i := 3) rfl)) (fun _ h9 => h9) rfl dX2_mean_24 ?_
          refine lv_iload_n hx hb dX2_mean_27 rfl (lv_at hl 0 rfl) ?_
          refine za_ld hx hb hK hP 1 0 rfl rfl (by omega) (by omega) dX2_mean_28 ?_
          have e_3 := hlen k (by omega) (by omega)
          refine zi_add hx hb dX2_mean_29 ?_
          refine lv_istore_n (lv' := [(1, .int (iI (x + (len k)))), (2, .int (iI k)), (0, .ref h0)]) hx hb dX2_mean_30 rfl hl (by decide) rfl (fun ls hl => ?_)
          refine lv_iinc (v := iI (k + 1)) (lv' := [(2, .int (iI (k + 1))), (1, .int (iI (x + (len k)))), (0, .ref h0)]) hx hb dX2_mean_31 hl (k := 1) rfl (iI_add _ _) (by decide) rfl (fun ls hl => ?_)
          refine lv_goto (tgt := 14) hx hb dX2_mean_34 (by decide) ?_
          exact ih (k + 1) (x + (len k)) (by omega) (by unfold suZ; rw [foZ_s _ _ (by omega)]; show x + _ = idF len k (suZ len k); rw [← hI]; rfl) (by omega) ls (lv_sub hl [0, 1, 2] rfl)
    exact L14 (_ + 1) 0 0 (by omega) (rfl) (Nat.lt_succ_self _) ls (lv_sub hl [0, 1, 2] rfl)
  · skip
    refine lv_ldc (v := iI 1000000000) hx hb hown (hts _ (List.mem_of_getElem? (i := 2) rfl)) dX2_mean_7 ?_
    subst hQ
    exact zret_pi hx hb hr hlocks dX2_mean_9 (by exact (if_pos (by omega)).symm)
def rmX4_spend : Room := { frames := 0, cells := 0, slots := 0, locals := 0 }
set_option maxRecDepth 100000 in
set_option maxHeartbeats 4000000 in
theorem kX4_spend (l : Launch) (dC : Nat → ClassId) (dI : Nat → Nat → Nat) (cI cJ cZ : ClassId) (h0 h1 : Nat)  (tin : Int → Int) (sp : Int) (pe : Int) (slp : Int) (late : Int) (srv : Int) (en : Int)  : zMv l yX4_spend wsX4_spend rmX4_spend (dC, dI) (zT cI cJ cZ) (wLe cI cJ cZ h0 h1 tin sp pe slp late srv) [.ref h0, .long (lI en)] (fun (_ : Unit) => True) (fun _ : Unit => wLe cI cJ cZ h0 h1 tin (sp + en) (pe + en) slp late srv) 0 0 := by
  refine zent_v (cc := cX4_spend) (maxL := 3) (ret := none) (by decide +kernel) rfl (Nat.le_of_ble_eq_true rfl) ?_
  intro p e s m below meth c A ls hE hP hK hA hD hS hl
  obtain ⟨hx, hb, hr, hml, hown, hts, hlocks, hmn⟩ := hE
  have hinX4 : ∀ w ∈ u_ws RX4 TX4 6, w ∈ wsX4_spend := by decide +kernel
  have hl : lv_has ls 3 [(0, .ref h0), (1, .long (lI en))] := hl
  refine z_gen (fun Q hQ => ?_)
  refine lv_aload_n hx hb dX4_spend_0 rfl (lv_at hl 0 rfl) ?_
  refine lv_dup hx hb dX4_spend_1 rfl ?_
  refine va_get (D := (dC, dI)) (ci := 4) (v := .long (lI sp)) (C := RX4) (T := TX4) (N := 6) hx hb hts hinX4 hown hK.1 hP 0 rfl rfl 1 (by decide) (hts _ (List.mem_of_getElem? (i := 1) rfl)) (fun _ h9 => h9) rfl dX4_spend_2 ?_
  refine lv_lload_n hx hb dX4_spend_5 rfl (lv_at hl 1 rfl) ?_
  refine zl_add hx hb dX4_spend_6 ?_
  refine va_put (D := (dC, dI)) (ci := 4) (v := .long (lI (sp + en))) (ty := .long) (C := RX4) (T := TX4) (N := 6) hx hb hts hinX4 tyX4 tyX4_ok nmX4 hown hK.1 hP hD hS 0 rfl rfl 1 (by decide) (hts _ (List.mem_of_getElem? (i := 1) rfl)) (fun _ h9 => h9) rfl (by decide +kernel) rfl rfl (Nat.le_of_ble_eq_true rfl) dX4_spend_7 (fun H locs hP hD hS => ?_)
  have hP : va_P (dC, dI) vwCl (wLe cI cJ cZ h0 h1 tin (sp + en) pe slp late srv) H := hP
  have hD : va_D A (wLe cI cJ cZ h0 h1 tin (sp + en) pe slp late srv) := hD
  refine lv_aload_n hx hb dX4_spend_10 rfl (lv_at hl 0 rfl) ?_
  refine lv_dup hx hb dX4_spend_11 rfl ?_
  refine va_get (D := (dC, dI)) (ci := 4) (v := .long (lI pe)) (C := RX4) (T := TX4) (N := 6) hx hb hts hinX4 hown hK.1 hP 0 rfl rfl 2 (by decide) (hts _ (List.mem_of_getElem? (i := 2) rfl)) (fun _ h9 => h9) rfl dX4_spend_12 ?_
  refine lv_lload_n hx hb dX4_spend_15 rfl (lv_at hl 1 rfl) ?_
  refine zl_add hx hb dX4_spend_16 ?_
  refine va_put (D := (dC, dI)) (ci := 4) (v := .long (lI (pe + en))) (ty := .long) (C := RX4) (T := TX4) (N := 6) hx hb hts hinX4 tyX4 tyX4_ok nmX4 hown hK.1 hP hD hS 0 rfl rfl 2 (by decide) (hts _ (List.mem_of_getElem? (i := 2) rfl)) (fun _ h9 => h9) rfl (by decide +kernel) rfl rfl (Nat.le_of_ble_eq_true rfl) dX4_spend_17 (fun H locs hP hD hS => ?_)
  have hP : va_P (dC, dI) vwCl (wLe cI cJ cZ h0 h1 tin (sp + en) (pe + en) slp late srv) H := hP
  have hD : va_D A (wLe cI cJ cZ h0 h1 tin (sp + en) (pe + en) slp late srv) := hD
  subst hQ
  exact zret_v (W1 := fun _ : Unit => wLe cI cJ cZ h0 h1 tin (sp + en) (pe + en) slp late srv) () hx hb hr hP hD hS hlocks dX4_spend_20 (by trivial)
def rmX4_countTick : Room := { frames := 1, cells := 0, slots := 0, locals := 23 }
set_option maxRecDepth 100000 in
set_option maxHeartbeats 4000000 in
theorem kX4_countTick (l : Launch) (dC : Nat → ClassId) (dI : Nat → Nat → Nat) (cI cJ cZ : ClassId) (h0 h1 : Nat)  (tin : Int → Int) (sp : Int) (pe : Int) (slp : Int) (late : Int) (srv : Int) (st : Int) (hst : 0 ≤ st ∧ st ≤ 3) : zMv l yX4_countTick wsX4_countTick rmX4_countTick (dC, dI) (zT cI cJ cZ) (wLe cI cJ cZ h0 h1 tin sp pe slp late srv) [.ref h0, .int (iI st)] (fun (_ : Unit) => True) (fun _ : Unit => wLe cI cJ cZ h0 h1 (uZ tin st (tin st + 1)) sp pe slp late srv) 0 0 := by
  refine zent_v (cc := cX4_countTick) (maxL := 2) (ret := none) (by decide +kernel) rfl (Nat.le_of_ble_eq_true rfl) ?_
  intro p e s m below meth c A ls hE hP hK hA hD hS hl
  obtain ⟨hx, hb, hr, hml, hown, hts, hlocks, hmn⟩ := hE
  have hinX4 : ∀ w ∈ u_ws RX4 TX4 6, w ∈ wsX4_countTick := by decide +kernel
  have hl : lv_has ls 2 [(0, .ref h0), (1, .int (iI st))] := hl
  refine z_gen (fun Q hQ => ?_)
  refine lv_aload_n hx hb dX4_countTick_0 rfl (lv_at hl 0 rfl) ?_
  refine va_get (D := (dC, dI)) (ci := 4) (v := .ref h1) (C := RX4) (T := TX4) (N := 6) hx hb hts hinX4 hown hK.1 hP 0 rfl rfl 0 (by decide) (hts _ (List.mem_of_getElem? (i := 1) rfl)) (fun _ h9 => h9) rfl dX4_countTick_1 ?_
  refine lv_iload_n hx hb dX4_countTick_4 rfl (lv_at hl 1 rfl) ?_
  refine lv_aload_n hx hb dX4_countTick_5 rfl (lv_at hl 0 rfl) ?_
  refine va_get (D := (dC, dI)) (ci := 4) (v := .ref h1) (C := RX4) (T := TX4) (N := 6) hx hb hts hinX4 hown hK.1 hP 0 rfl rfl 0 (by decide) (hts _ (List.mem_of_getElem? (i := 1) rfl)) (fun _ h9 => h9) rfl dX4_countTick_6 ?_
  refine lv_iload_n hx hb dX4_countTick_9 rfl (lv_at hl 1 rfl) ?_
  refine zc_pi (va_runSN (As := [.ref h1, .int (iI st)]) (rest := [.int (iI st), .ref h1]) ⟨hx, hb, hml, hown, hts⟩ (kX7_read l dC dI cI cJ cZ h1 4 tin st (by first | assumption | omega | exact b2i_01 _) (by first | assumption | omega | exact b2i_01 _)) ⟨va_cnB 2 hts gX4_countTick_X7_read_n32 rfl rfl rfl (hK.2.2 _ (List.mem_of_getElem? (i := 3) rfl)) (hts _ (List.mem_of_getElem? (i := 3) rfl)) (by decide +kernel) ⟨Nat.le_of_ble_eq_true rfl, Nat.le_of_ble_eq_true rfl⟩, (hts _ (List.mem_of_getElem? (i := 2) rfl)), trivial⟩ (zqS hK hP [1] rfl) rfl rfl hl.1 rfl (lv_room (Nat.le_of_ble_eq_true rfl)) dX4_countTick_10 ⟨Nat.le_of_ble_eq_true rfl, Nat.le_of_ble_eq_true rfl⟩) ?_
  refine lv_iconst (v := iI 1) hx hb dX4_countTick_13 rfl ?_
  refine zi_add hx hb dX4_countTick_14 ?_
  refine zc_i (va_runSN (As := [.ref h1, .int (iI st), .int (iI ((rdZ tin 4 st) + 1))]) (rest := []) ⟨hx, hb, hml, hown, hts⟩ (kX7_exchange l dC dI cI cJ cZ h1 4 tin st ((rdZ tin 4 st) + 1) (by first | assumption | omega | exact b2i_01 _) (by first | assumption | omega | exact b2i_01 _) s.heap.size) ⟨va_cnB 3 hts gX4_countTick_X7_exchange_n36 rfl rfl rfl (hK.2.2 _ (List.mem_of_getElem? (i := 4) rfl)) (hts _ (List.mem_of_getElem? (i := 3) rfl)) (by decide +kernel) ⟨Nat.le_of_ble_eq_true rfl, Nat.le_of_ble_eq_true rfl⟩, (hts _ (List.mem_of_getElem? (i := 5) rfl)), trivial⟩ (zpS hK hP hD [1] rfl rfl) rfl rfl hl.1 rfl (lv_room (Nat.le_of_ble_eq_true rfl)) dX4_countTick_15 ⟨Nat.le_of_ble_eq_true rfl, Nat.le_of_ble_eq_true rfl⟩) hP hD hS hA [1] [0] rfl rfl rfl (by decide) (fun v_3 u_2 H locs r_1 hP hD hS => ?_)
  refine ze_i r_1 ?_
  have hP : va_P (dC, dI) vwCl (wLe cI cJ cZ h0 h1 (exZ tin 4 st ((rdZ tin 4 st) + 1)) sp pe slp late srv) H := hP
  have hD : va_D A (wLe cI cJ cZ h0 h1 (exZ tin 4 st ((rdZ tin 4 st) + 1)) sp pe slp late srv) := hD
  refine lv_pop hx hb dX4_countTick_18 rfl ?_
  subst hQ
  have w_4 : (uZ tin st (tin st + 1)) = (exZ tin 4 st ((rdZ tin 4 st) + 1)) := by rw [rdZ_i (by omega), exZ_i (by omega)]
  have hP : va_P (dC, dI) vwCl (wLe cI cJ cZ h0 h1 (uZ tin st (tin st + 1)) sp pe slp late srv) H := by rw [w_4]; exact hP
  have hD : va_D A (wLe cI cJ cZ h0 h1 (uZ tin st (tin st + 1)) sp pe slp late srv) := by rw [w_4]; exact hD
  exact zret_v (W1 := fun _ : Unit => wLe cI cJ cZ h0 h1 (uZ tin st (tin st + 1)) sp pe slp late srv) () hx hb hr hP hD hS hlocks dX4_countTick_19 (by trivial)
def rmX4_takeUnpaid : Room := { frames := 0, cells := 0, slots := 0, locals := 0 }
set_option maxRecDepth 100000 in
set_option maxHeartbeats 4000000 in
theorem kX4_takeUnpaid (l : Launch) (dC : Nat → ClassId) (dI : Nat → Nat → Nat) (cI cJ cZ : ClassId) (h0 h1 : Nat)  (tin : Int → Int) (sp : Int) (pe : Int) (slp : Int) (late : Int) (srv : Int)  : zMl l yX4_takeUnpaid wsX4_takeUnpaid rmX4_takeUnpaid (dC, dI) (zT cI cJ cZ) (wLe cI cJ cZ h0 h1 tin sp pe slp late srv) [.ref h0] (fun (r9 : Int) (_ : Unit) => r9 = pe) (fun _ : Unit => wLe cI cJ cZ h0 h1 tin sp 0 slp late srv) 0 0 := by
  refine zent_l (cc := cX4_takeUnpaid) (maxL := 3) (ret := (some .long)) (by decide +kernel) rfl (Nat.le_of_ble_eq_true rfl) ?_
  intro p e s m below meth c A ls hE hP hK hA hD hS hl
  obtain ⟨hx, hb, hr, hml, hown, hts, hlocks, hmn⟩ := hE
  have hinX4 : ∀ w ∈ u_ws RX4 TX4 6, w ∈ wsX4_takeUnpaid := by decide +kernel
  have hl : lv_has ls 3 [(0, .ref h0)] := hl
  refine z_gen (fun Q hQ => ?_)
  refine lv_aload_n hx hb dX4_takeUnpaid_0 rfl (lv_at hl 0 rfl) ?_
  refine va_get (D := (dC, dI)) (ci := 4) (v := .long (lI pe)) (C := RX4) (T := TX4) (N := 6) hx hb hts hinX4 hown hK.1 hP 0 rfl rfl 2 (by decide) (hts _ (List.mem_of_getElem? (i := 1) rfl)) (fun _ h9 => h9) rfl dX4_takeUnpaid_1 ?_
  refine lv_lstore_n (lv' := [(1, .long (lI pe)), (0, .ref h0)]) hx hb dX4_takeUnpaid_4 rfl hl (by decide) rfl (fun ls hl => ?_)
  refine lv_aload_n hx hb dX4_takeUnpaid_5 rfl (lv_at hl 1 rfl) ?_
  refine lv_lconst (v := lI 0) hx hb dX4_takeUnpaid_6 rfl ?_
  refine va_put (D := (dC, dI)) (ci := 4) (v := .long (lI 0)) (ty := .long) (C := RX4) (T := TX4) (N := 6) hx hb hts hinX4 tyX4 tyX4_ok nmX4 hown hK.1 hP hD hS 0 rfl rfl 2 (by decide) (hts _ (List.mem_of_getElem? (i := 1) rfl)) (fun _ h9 => h9) rfl (by decide +kernel) rfl rfl (Nat.le_of_ble_eq_true rfl) dX4_takeUnpaid_7 (fun H locs hP hD hS => ?_)
  have hP : va_P (dC, dI) vwCl (wLe cI cJ cZ h0 h1 tin sp 0 slp late srv) H := hP
  have hD : va_D A (wLe cI cJ cZ h0 h1 tin sp 0 slp late srv) := hD
  refine lv_lload_n hx hb dX4_takeUnpaid_10 rfl (lv_at hl 0 rfl) ?_
  subst hQ
  exact zret_l (W1 := fun _ : Unit => wLe cI cJ cZ h0 h1 tin sp 0 slp late srv) () hx hb hr hP hD hS hlocks dX4_takeUnpaid_11 (by rfl)
def rmX0_balance : Room := { frames := 1, cells := 0, slots := 0, locals := 22 }
set_option maxRecDepth 100000 in
set_option maxHeartbeats 4000000 in
theorem kX0_balance (l : Launch) (dC : Nat → ClassId) (dI : Nat → Nat → Nat) (cI cJ cZ : ClassId) (h0 h1 : Nat)  (hv : Int → Int) (av : Int) (bd : Int) (sh : Int) (hav : 0 ≤ av ∧ av ≤ 50000) (hbd : 0 ≤ bd ∧ bd ≤ 100000) : zMv l yX0_balance wsX0_balance rmX0_balance (dC, dI) (zT cI cJ cZ) (wBa cI cJ cZ h0 h1 hv av bd sh) [.ref h0] (fun (_ : Unit) => True) (fun _ : Unit => wBa cI cJ cZ h0 h1 hv (av + flZ av bd) (bd - flZ av bd) sh) 0 0 := by
  refine zent_v (cc := cX0_balance) (maxL := 2) (ret := none) (by decide +kernel) rfl (Nat.le_of_ble_eq_true rfl) ?_
  intro p e s m below meth c A ls hE hP hK hA hD hS hl
  obtain ⟨hx, hb, hr, hml, hown, hts, hlocks, hmn⟩ := hE
  have hinX0 : ∀ w ∈ u_ws RX0 TX0 4, w ∈ wsX0_balance := by decide +kernel
  have hl : lv_has ls 2 [(0, .ref h0)] := hl
  refine z_gen (fun Q hQ => ?_)
  refine lv_aload_n hx hb dX0_balance_0 rfl (lv_at hl 0 rfl) ?_
  refine va_get (D := (dC, dI)) (ci := 0) (v := .int (iI bd)) (C := RX0) (T := TX0) (N := 4) hx hb hts hinX0 hown hK.1 hP 0 rfl rfl 2 (by decide) (hts _ (List.mem_of_getElem? (i := 1) rfl)) (fun _ h9 => h9) rfl dX0_balance_1 ?_
  refine lv_iconst (v := iI 2) hx hb dX0_balance_4 rfl ?_
  refine zi_div hx hb (by omega) (by omega) dX0_balance_5 ?_
  refine lv_aload_n hx hb dX0_balance_6 rfl (lv_at hl 0 rfl) ?_
  refine va_get (D := (dC, dI)) (ci := 0) (v := .int (iI av)) (C := RX0) (T := TX0) (N := 4) hx hb hts hinX0 hown hK.1 hP 0 rfl rfl 1 (by decide) (hts _ (List.mem_of_getElem? (i := 2) rfl)) (fun _ h9 => h9) rfl dX0_balance_7 ?_
  refine zi_sub hx hb dX0_balance_10 ?_
  refine lv_bipush (v := iI 16) hx hb dX0_balance_11 (by decide) ?_
  refine zc_pi (va_runS (As := [.int (iI ((bd / 2) - av)), .int (iI 16)]) (rest := []) ⟨hx, hb, hml, hown, hts⟩ (kJ9_floorDiv_7cf53 l dC dI cI cJ cZ ((bd / 2) - av) 16 (by first | assumption | omega | exact b2i_01 _) (by first | assumption | omega | exact b2i_01 _)) (va_cwS 2 hts gX0_balance_J9_floorDiv_7cf53 rfl rfl rfl (by decide +kernel) ⟨Nat.le_of_ble_eq_true rfl, Nat.le_of_ble_eq_true rfl⟩) (zqS hK hP [] rfl) rfl rfl hl.1 rfl (lv_room (Nat.le_of_ble_eq_true rfl)) dX0_balance_13 ⟨Nat.le_of_ble_eq_true rfl, Nat.le_of_ble_eq_true rfl⟩) ?_
  refine lv_istore_n (lv' := [(1, .int (iI (((bd / 2) - av) / 16))), (0, .ref h0)]) hx hb dX0_balance_16 rfl hl (by decide) rfl (fun ls hl => ?_)
  refine lv_iload_n hx hb dX0_balance_17 rfl (lv_at hl 0 rfl) ?_
  refine zi_flt (tgt := 43) hx hb (by omega) dX0_balance_18 (by decide) (fun c_1 => ?_) (fun c_1 => ?_)
  · skip
    refine lv_iload_n hx hb dX0_balance_43 rfl (lv_at hl 0 rfl) ?_
    refine zi_neg hx hb dX0_balance_44 ?_
    refine lv_aload_n hx hb dX0_balance_45 rfl (lv_at hl 1 rfl) ?_
    refine va_get (D := (dC, dI)) (ci := 0) (v := .int (iI av)) (C := RX0) (T := TX0) (N := 4) hx hb hts hinX0 hown hK.1 hP 0 rfl rfl 1 (by decide) (hts _ (List.mem_of_getElem? (i := 2) rfl)) (fun _ h9 => h9) rfl dX0_balance_46 ?_
    refine lv_ldc (v := iI 100000) hx hb hown (hts _ (List.mem_of_getElem? (i := 8) rfl)) dX0_balance_49 ?_
    refine lv_aload_n hx hb dX0_balance_51 rfl (lv_at hl 1 rfl) ?_
    refine va_get (D := (dC, dI)) (ci := 0) (v := .int (iI bd)) (C := RX0) (T := TX0) (N := 4) hx hb hts hinX0 hown hK.1 hP 0 rfl rfl 2 (by decide) (hts _ (List.mem_of_getElem? (i := 1) rfl)) (fun _ h9 => h9) rfl dX0_balance_52 ?_
    refine zi_sub hx hb dX0_balance_55 ?_
    refine zi_min hx hb (by rw [hml]; exact hl.1.symm) hown (hts _ (List.mem_of_getElem? (i := 4) rfl)) (hts _ (List.mem_of_getElem? (i := 5) rfl)) (hts _ (List.mem_of_getElem? (i := 6) rfl)) (hts _ (List.mem_of_getElem? (i := 7) rfl)) (Nat.le_of_ble_eq_true rfl) (Nat.le_of_ble_eq_true rfl) (Nat.le_of_ble_eq_true rfl) (Nat.le_of_ble_eq_true rfl) (by omega) (by omega) dX0_balance_56 ?_
    refine zi_min hx hb (by rw [hml]; exact hl.1.symm) hown (hts _ (List.mem_of_getElem? (i := 4) rfl)) (hts _ (List.mem_of_getElem? (i := 5) rfl)) (hts _ (List.mem_of_getElem? (i := 6) rfl)) (hts _ (List.mem_of_getElem? (i := 7) rfl)) (Nat.le_of_ble_eq_true rfl) (Nat.le_of_ble_eq_true rfl) (Nat.le_of_ble_eq_true rfl) (Nat.le_of_ble_eq_true rfl) (by omega) (by omega) dX0_balance_59 ?_
    refine zi_neg hx hb dX0_balance_62 ?_
    refine lv_istore_n (lv' := [(1, .int (iI (-(min (-(((bd / 2) - av) / 16)) (min av (100000 - bd)))))), (0, .ref h0)]) hx hb dX0_balance_63 rfl hl (by decide) rfl (fun ls hl => ?_)
    refine lv_aload_n hx hb dX0_balance_64 rfl (lv_at hl 1 rfl) ?_
    refine lv_dup hx hb dX0_balance_65 rfl ?_
    refine va_get (D := (dC, dI)) (ci := 0) (v := .int (iI av)) (C := RX0) (T := TX0) (N := 4) hx hb hts hinX0 hown hK.1 hP 0 rfl rfl 1 (by decide) (hts _ (List.mem_of_getElem? (i := 2) rfl)) (fun _ h9 => h9) rfl dX0_balance_66 ?_
    refine lv_iload_n hx hb dX0_balance_69 rfl (lv_at hl 0 rfl) ?_
    refine zi_add hx hb dX0_balance_70 ?_
    refine va_put (D := (dC, dI)) (ci := 0) (v := .int (iI (av + (-(min (-(((bd / 2) - av) / 16)) (min av (100000 - bd))))))) (ty := .int) (C := RX0) (T := TX0) (N := 4) hx hb hts hinX0 tyX0 tyX0_ok nmX0 hown hK.1 hP hD hS 0 rfl rfl 1 (by decide) (hts _ (List.mem_of_getElem? (i := 2) rfl)) (fun _ h9 => h9) rfl (by decide +kernel) rfl rfl (Nat.le_of_ble_eq_true rfl) dX0_balance_71 (fun H locs hP hD hS => ?_)
    have hP : va_P (dC, dI) vwCl (wBa cI cJ cZ h0 h1 hv (av + (-(min (-(((bd / 2) - av) / 16)) (min av (100000 - bd))))) bd sh) H := hP
    have hD : va_D A (wBa cI cJ cZ h0 h1 hv (av + (-(min (-(((bd / 2) - av) / 16)) (min av (100000 - bd))))) bd sh) := hD
    refine lv_aload_n hx hb dX0_balance_74 rfl (lv_at hl 1 rfl) ?_
    refine lv_dup hx hb dX0_balance_75 rfl ?_
    refine va_get (D := (dC, dI)) (ci := 0) (v := .int (iI bd)) (C := RX0) (T := TX0) (N := 4) hx hb hts hinX0 hown hK.1 hP 0 rfl rfl 2 (by decide) (hts _ (List.mem_of_getElem? (i := 1) rfl)) (fun _ h9 => h9) rfl dX0_balance_76 ?_
    refine lv_iload_n hx hb dX0_balance_79 rfl (lv_at hl 0 rfl) ?_
    refine zi_sub hx hb dX0_balance_80 ?_
    refine va_put (D := (dC, dI)) (ci := 0) (v := .int (iI (bd - (-(min (-(((bd / 2) - av) / 16)) (min av (100000 - bd))))))) (ty := .int) (C := RX0) (T := TX0) (N := 4) hx hb hts hinX0 tyX0 tyX0_ok nmX0 hown hK.1 hP hD hS 0 rfl rfl 2 (by decide) (hts _ (List.mem_of_getElem? (i := 1) rfl)) (fun _ h9 => h9) rfl (by decide +kernel) rfl rfl (Nat.le_of_ble_eq_true rfl) dX0_balance_81 (fun H locs hP hD hS => ?_)
    have hP : va_P (dC, dI) vwCl (wBa cI cJ cZ h0 h1 hv (av + (-(min (-(((bd / 2) - av) / 16)) (min av (100000 - bd))))) (bd - (-(min (-(((bd / 2) - av) / 16)) (min av (100000 - bd))))) sh) H := hP
    have hD : va_D A (wBa cI cJ cZ h0 h1 hv (av + (-(min (-(((bd / 2) - av) / 16)) (min av (100000 - bd))))) (bd - (-(min (-(((bd / 2) - av) / 16)) (min av (100000 - bd))))) sh) := hD
    subst hQ
    have w_2 : (av + flZ av bd) = (av + (-(min (-(((bd / 2) - av) / 16)) (min av (100000 - bd))))) := by unfold flZ; first | rw [if_pos (by assumption)] | rw [if_neg (by assumption)]
    have w_3 : (bd - flZ av bd) = (bd - (-(min (-(((bd / 2) - av) / 16)) (min av (100000 - bd))))) := by unfold flZ; first | rw [if_pos (by assumption)] | rw [if_neg (by assumption)]
    have hP : va_P (dC, dI) vwCl (wBa cI cJ cZ h0 h1 hv (av + flZ av bd) (bd - flZ av bd) sh) H := by rw [w_2, w_3]; exact hP
    have hD : va_D A (wBa cI cJ cZ h0 h1 hv (av + flZ av bd) (bd - flZ av bd) sh) := by rw [w_2, w_3]; exact hD
    exact zret_v (W1 := fun _ : Unit => wBa cI cJ cZ h0 h1 hv (av + flZ av bd) (bd - flZ av bd) sh) () hx hb hr hP hD hS hlocks dX0_balance_84 (by trivial)
  · skip
    refine lv_iload_n hx hb dX0_balance_21 rfl (lv_at hl 0 rfl) ?_
    refine lv_aload_n hx hb dX0_balance_22 rfl (lv_at hl 1 rfl) ?_
    refine va_get (D := (dC, dI)) (ci := 0) (v := .int (iI bd)) (C := RX0) (T := TX0) (N := 4) hx hb hts hinX0 hown hK.1 hP 0 rfl rfl 2 (by decide) (hts _ (List.mem_of_getElem? (i := 1) rfl)) (fun _ h9 => h9) rfl dX0_balance_23 ?_
    refine lv_ldc (v := iI 50000) hx hb hown (hts _ (List.mem_of_getElem? (i := 3) rfl)) dX0_balance_26 ?_
    refine lv_aload_n hx hb dX0_balance_28 rfl (lv_at hl 1 rfl) ?_
    refine va_get (D := (dC, dI)) (ci := 0) (v := .int (iI av)) (C := RX0) (T := TX0) (N := 4) hx hb hts hinX0 hown hK.1 hP 0 rfl rfl 1 (by decide) (hts _ (List.mem_of_getElem? (i := 2) rfl)) (fun _ h9 => h9) rfl dX0_balance_29 ?_
    refine zi_sub hx hb dX0_balance_32 ?_
    refine zi_min hx hb (by rw [hml]; exact hl.1.symm) hown (hts _ (List.mem_of_getElem? (i := 4) rfl)) (hts _ (List.mem_of_getElem? (i := 5) rfl)) (hts _ (List.mem_of_getElem? (i := 6) rfl)) (hts _ (List.mem_of_getElem? (i := 7) rfl)) (Nat.le_of_ble_eq_true rfl) (Nat.le_of_ble_eq_true rfl) (Nat.le_of_ble_eq_true rfl) (Nat.le_of_ble_eq_true rfl) (by omega) (by omega) dX0_balance_33 ?_
    refine zi_min hx hb (by rw [hml]; exact hl.1.symm) hown (hts _ (List.mem_of_getElem? (i := 4) rfl)) (hts _ (List.mem_of_getElem? (i := 5) rfl)) (hts _ (List.mem_of_getElem? (i := 6) rfl)) (hts _ (List.mem_of_getElem? (i := 7) rfl)) (Nat.le_of_ble_eq_true rfl) (Nat.le_of_ble_eq_true rfl) (Nat.le_of_ble_eq_true rfl) (Nat.le_of_ble_eq_true rfl) (by omega) (by omega) dX0_balance_36 ?_
    refine lv_istore_n (lv' := [(1, .int (iI (min (((bd / 2) - av) / 16) (min bd (50000 - av))))), (0, .ref h0)]) hx hb dX0_balance_39 rfl hl (by decide) rfl (fun ls hl => ?_)
    refine lv_goto (tgt := 64) hx hb dX0_balance_40 (by decide) ?_
    refine lv_aload_n hx hb dX0_balance_64 rfl (lv_at hl 1 rfl) ?_
    refine lv_dup hx hb dX0_balance_65 rfl ?_
    refine va_get (D := (dC, dI)) (ci := 0) (v := .int (iI av)) (C := RX0) (T := TX0) (N := 4) hx hb hts hinX0 hown hK.1 hP 0 rfl rfl 1 (by decide) (hts _ (List.mem_of_getElem? (i := 2) rfl)) (fun _ h9 => h9) rfl dX0_balance_66 ?_
    refine lv_iload_n hx hb dX0_balance_69 rfl (lv_at hl 0 rfl) ?_
    refine zi_add hx hb dX0_balance_70 ?_
    refine va_put (D := (dC, dI)) (ci := 0) (v := .int (iI (av + (min (((bd / 2) - av) / 16) (min bd (50000 - av)))))) (ty := .int) (C := RX0) (T := TX0) (N := 4) hx hb hts hinX0 tyX0 tyX0_ok nmX0 hown hK.1 hP hD hS 0 rfl rfl 1 (by decide) (hts _ (List.mem_of_getElem? (i := 2) rfl)) (fun _ h9 => h9) rfl (by decide +kernel) rfl rfl (Nat.le_of_ble_eq_true rfl) dX0_balance_71 (fun H locs hP hD hS => ?_)
    have hP : va_P (dC, dI) vwCl (wBa cI cJ cZ h0 h1 hv (av + (min (((bd / 2) - av) / 16) (min bd (50000 - av)))) bd sh) H := hP
    have hD : va_D A (wBa cI cJ cZ h0 h1 hv (av + (min (((bd / 2) - av) / 16) (min bd (50000 - av)))) bd sh) := hD
    refine lv_aload_n hx hb dX0_balance_74 rfl (lv_at hl 1 rfl) ?_
    refine lv_dup hx hb dX0_balance_75 rfl ?_
    refine va_get (D := (dC, dI)) (ci := 0) (v := .int (iI bd)) (C := RX0) (T := TX0) (N := 4) hx hb hts hinX0 hown hK.1 hP 0 rfl rfl 2 (by decide) (hts _ (List.mem_of_getElem? (i := 1) rfl)) (fun _ h9 => h9) rfl dX0_balance_76 ?_
    refine lv_iload_n hx hb dX0_balance_79 rfl (lv_at hl 0 rfl) ?_
    refine zi_sub hx hb dX0_balance_80 ?_
    refine va_put (D := (dC, dI)) (ci := 0) (v := .int (iI (bd - (min (((bd / 2) - av) / 16) (min bd (50000 - av)))))) (ty := .int) (C := RX0) (T := TX0) (N := 4) hx hb hts hinX0 tyX0 tyX0_ok nmX0 hown hK.1 hP hD hS 0 rfl rfl 2 (by decide) (hts _ (List.mem_of_getElem? (i := 1) rfl)) (fun _ h9 => h9) rfl (by decide +kernel) rfl rfl (Nat.le_of_ble_eq_true rfl) dX0_balance_81 (fun H locs hP hD hS => ?_)
    have hP : va_P (dC, dI) vwCl (wBa cI cJ cZ h0 h1 hv (av + (min (((bd / 2) - av) / 16) (min bd (50000 - av)))) (bd - (min (((bd / 2) - av) / 16) (min bd (50000 - av)))) sh) H := hP
    have hD : va_D A (wBa cI cJ cZ h0 h1 hv (av + (min (((bd / 2) - av) / 16) (min bd (50000 - av)))) (bd - (min (((bd / 2) - av) / 16) (min bd (50000 - av)))) sh) := hD
    subst hQ
    have w_4 : (av + flZ av bd) = (av + (min (((bd / 2) - av) / 16) (min bd (50000 - av)))) := by unfold flZ; first | rw [if_pos (by assumption)] | rw [if_neg (by assumption)]
    have w_5 : (bd - flZ av bd) = (bd - (min (((bd / 2) - av) / 16) (min bd (50000 - av)))) := by unfold flZ; first | rw [if_pos (by assumption)] | rw [if_neg (by assumption)]
    have hP : va_P (dC, dI) vwCl (wBa cI cJ cZ h0 h1 hv (av + flZ av bd) (bd - flZ av bd) sh) H := by rw [w_4, w_5]; exact hP
    have hD : va_D A (wBa cI cJ cZ h0 h1 hv (av + flZ av bd) (bd - flZ av bd) sh) := by rw [w_4, w_5]; exact hD
    exact zret_v (W1 := fun _ : Unit => wBa cI cJ cZ h0 h1 hv (av + flZ av bd) (bd - flZ av bd) sh) () hx hb hr hP hD hS hlocks dX0_balance_84 (by trivial)
def rmX0_takeTick : Room := { frames := 2, cells := 0, slots := 0, locals := 43 }
set_option maxRecDepth 100000 in
set_option maxHeartbeats 4000000 in
theorem kX0_takeTick (l : Launch) (dC : Nat → ClassId) (dI : Nat → Nat → Nat) (cI cJ cZ : ClassId) (h0 h1 : Nat)  (hv : Int → Int) (av : Int) (bd : Int) (sh : Int) (hr0 us : Int) (hav : 0 ≤ av ∧ av ≤ 50000) (hbd : 0 ≤ bd ∧ bd ≤ 100000) (hhr : 0 ≤ hr0 ∧ hr0 < 24) (hhv : rgZ hv 24 1000) (hus : 0 ≤ us ∧ us ≤ 1000000000000000) : zMv l yX0_takeTick wsX0_takeTick rmX0_takeTick (dC, dI) (zT cI cJ cZ) (wBa cI cJ cZ h0 h1 hv av bd sh) [.ref h0, .int (iI hr0), .long (lI us)] (fun (_ : Unit) => True) (fun _ : Unit => wBa cI cJ cZ h0 h1 hv (avZ av (hv hr0) us + flZ (avZ av (hv hr0) us) bd) (bd - flZ (avZ av (hv hr0) us) bd) (if av + hv hr0 - us < 0 then sh + 1 else sh)) 0 0 := by
  refine zent_v (cc := cX0_takeTick) (maxL := 6) (ret := none) (by decide +kernel) rfl (Nat.le_of_ble_eq_true rfl) ?_
  intro p e s m below meth c A ls hE hP hK hA hD hS hl
  obtain ⟨hx, hb, hr, hml, hown, hts, hlocks, hmn⟩ := hE
  have hinX0 : ∀ w ∈ u_ws RX0 TX0 4, w ∈ wsX0_takeTick := by decide +kernel
  have hl : lv_has ls 6 [(0, .ref h0), (1, .int (iI hr0)), (2, .long (lI us))] := hl
  refine z_gen (fun Q hQ => ?_)
  refine lv_aload_n hx hb dX0_takeTick_0 rfl (lv_at hl 0 rfl) ?_
  refine va_get (D := (dC, dI)) (ci := 0) (v := .int (iI av)) (C := RX0) (T := TX0) (N := 4) hx hb hts hinX0 hown hK.1 hP 0 rfl rfl 1 (by decide) (hts _ (List.mem_of_getElem? (i := 1) rfl)) (fun _ h9 => h9) rfl dX0_takeTick_1 ?_
  refine lv_aload_n hx hb dX0_takeTick_4 rfl (lv_at hl 0 rfl) ?_
  refine va_get (D := (dC, dI)) (ci := 0) (v := .ref h1) (C := RX0) (T := TX0) (N := 4) hx hb hts hinX0 hown hK.1 hP 0 rfl rfl 0 (by decide) (hts _ (List.mem_of_getElem? (i := 2) rfl)) (fun _ h9 => h9) rfl dX0_takeTick_5 ?_
  refine lv_iload_n hx hb dX0_takeTick_8 rfl (lv_at hl 1 rfl) ?_
  refine zc_pi (va_runSN (As := [.ref h1, .int (iI hr0)]) (rest := [.int (iI av)]) ⟨hx, hb, hml, hown, hts⟩ (kX7_read l dC dI cI cJ cZ h1 24 hv hr0 (by first | assumption | omega | exact b2i_01 _) (by first | assumption | omega | exact b2i_01 _)) ⟨va_cnB 2 hts gX0_takeTick_X7_read_n27 rfl rfl rfl (hK.2.2 _ (List.mem_of_getElem? (i := 0) rfl)) (hts _ (List.mem_of_getElem? (i := 13) rfl)) (by decide +kernel) ⟨Nat.le_of_ble_eq_true rfl, Nat.le_of_ble_eq_true rfl⟩, (hts _ (List.mem_of_getElem? (i := 12) rfl)), trivial⟩ (zqS hK hP [1] rfl) rfl rfl hl.1 rfl (lv_room (Nat.le_of_ble_eq_true rfl)) dX0_takeTick_9 ⟨Nat.le_of_ble_eq_true rfl, Nat.le_of_ble_eq_true rfl⟩) ?_
  have er : rdZ hv 24 hr0 = hv hr0 := if_pos (by omega)
  have eh := hhv hr0 (by omega) (by omega)
  refine zi_add hx hb dX0_takeTick_12 ?_
  refine zi_l hx hb (by omega) dX0_takeTick_13 ?_
  refine lv_lload_n hx hb dX0_takeTick_14 rfl (lv_at hl 2 rfl) ?_
  refine zl_sub hx hb dX0_takeTick_15 ?_
  refine lv_lstore (lv' := [(4, .long (lI ((av + (rdZ hv 24 hr0)) - us))), (0, .ref h0), (1, .int (iI hr0)), (2, .long (lI us))]) hx hb dX0_takeTick_16 hl (by decide) rfl (fun ls hl => ?_)
  refine lv_lload hx hb dX0_takeTick_18 (lv_at hl 0 rfl) ?_
  refine lv_lconst (v := lI 0) hx hb dX0_takeTick_20 rfl ?_
  refine zl_cge (tgt := 35) hx hb (by omega) (by omega) dX0_takeTick_21 dX0_takeTick_22 (by decide) (fun c_1 => ?_) (fun c_1 => ?_)
  · skip
    refine lv_aload_n hx hb dX0_takeTick_35 rfl (lv_at hl 1 rfl) ?_
    refine lv_lconst (v := lI 0) hx hb dX0_takeTick_36 rfl ?_
    refine lv_lload hx hb dX0_takeTick_37 (lv_at hl 0 rfl) ?_
    refine lv_ldc2 (v := lI 50000) hx hb hown (hts _ (List.mem_of_getElem? (i := 4) rfl)) dX0_takeTick_39 ?_
    refine zl_min hx hb (by rw [hml]; exact hl.1.symm) hown (hts _ (List.mem_of_getElem? (i := 5) rfl)) (hts _ (List.mem_of_getElem? (i := 6) rfl)) (hts _ (List.mem_of_getElem? (i := 7) rfl)) (hts _ (List.mem_of_getElem? (i := 8) rfl)) (Nat.le_of_ble_eq_true rfl) (Nat.le_of_ble_eq_true rfl) (Nat.le_of_ble_eq_true rfl) (Nat.le_of_ble_eq_true rfl) (by omega) (by decide) dX0_takeTick_42 ?_
    refine zl_max hx hb (by rw [hml]; exact hl.1.symm) hown (hts _ (List.mem_of_getElem? (i := 9) rfl)) (hts _ (List.mem_of_getElem? (i := 10) rfl)) (hts _ (List.mem_of_getElem? (i := 7) rfl)) (hts _ (List.mem_of_getElem? (i := 11) rfl)) (Nat.le_of_ble_eq_true rfl) (Nat.le_of_ble_eq_true rfl) (Nat.le_of_ble_eq_true rfl) (Nat.le_of_ble_eq_true rfl) (by decide) (by omega) dX0_takeTick_45 ?_
    refine zl_i hx hb dX0_takeTick_48 ?_
    refine va_put (D := (dC, dI)) (ci := 0) (v := .int (iI (max 0 (min ((av + (rdZ hv 24 hr0)) - us) 50000)))) (ty := .int) (C := RX0) (T := TX0) (N := 4) hx hb hts hinX0 tyX0 tyX0_ok nmX0 hown hK.1 hP hD hS 0 rfl rfl 1 (by decide) (hts _ (List.mem_of_getElem? (i := 1) rfl)) (fun _ h9 => h9) rfl (by decide +kernel) rfl rfl (Nat.le_of_ble_eq_true rfl) dX0_takeTick_49 (fun H locs hP hD hS => ?_)
    have hP : va_P (dC, dI) vwCl (wBa cI cJ cZ h0 h1 hv (max 0 (min ((av + (rdZ hv 24 hr0)) - us) 50000)) bd sh) H := hP
    have hD : va_D A (wBa cI cJ cZ h0 h1 hv (max 0 (min ((av + (rdZ hv 24 hr0)) - us) 50000)) bd sh) := hD
    refine lv_aload_n hx hb dX0_takeTick_52 rfl (lv_at hl 1 rfl) ?_
    refine zc_v (va_runV (As := []) (rest := []) ⟨hx, hb, hml, hown, hts⟩ (kX0_balance l dC dI cI cJ cZ h0 h1 hv (max 0 (min ((av + (rdZ hv 24 hr0)) - us) 50000)) bd sh (by first | assumption | omega | exact b2i_01 _) (by first | assumption | omega | exact b2i_01 _) H.size) (cwV 0 hts gX0_takeTick_X0_balance rfl rfl rfl (by decide +kernel) ⟨Nat.le_of_ble_eq_true rfl, Nat.le_of_ble_eq_true rfl⟩) (zpV hK hP hD [0, 1] rfl rfl 0 rfl rfl) rfl rfl hl.1 rfl (lv_room (Nat.le_of_ble_eq_true rfl)) dX0_takeTick_53 ⟨Nat.le_of_ble_eq_true rfl, Nat.le_of_ble_eq_true rfl⟩) hP hD hS hA [0, 1] [] rfl rfl rfl (by decide) (fun u_3 H locs r_2 hP hD hS => ?_)
    have hP : va_P (dC, dI) vwCl (wBa cI cJ cZ h0 h1 hv ((max 0 (min ((av + (rdZ hv 24 hr0)) - us) 50000)) + flZ (max 0 (min ((av + (rdZ hv 24 hr0)) - us) 50000)) bd) (bd - flZ (max 0 (min ((av + (rdZ hv 24 hr0)) - us) 50000)) bd) sh) H := hP
    have hD : va_D A (wBa cI cJ cZ h0 h1 hv ((max 0 (min ((av + (rdZ hv 24 hr0)) - us) 50000)) + flZ (max 0 (min ((av + (rdZ hv 24 hr0)) - us) 50000)) bd) (bd - flZ (max 0 (min ((av + (rdZ hv 24 hr0)) - us) 50000)) bd) sh) := hD
    subst hQ
    have w_5 : (avZ av (hv hr0) us + flZ (avZ av (hv hr0) us) bd) = ((max 0 (min ((av + (rdZ hv 24 hr0)) - us) 50000)) + flZ (max 0 (min ((av + (rdZ hv 24 hr0)) - us) 50000)) bd) := by unfold avZ; rw [er]
    have w_6 : (bd - flZ (avZ av (hv hr0) us) bd) = (bd - flZ (max 0 (min ((av + (rdZ hv 24 hr0)) - us) 50000)) bd) := by unfold avZ; rw [er]
    have w_7 : (if av + hv hr0 - us < 0 then sh + 1 else sh) = sh := by rw [er] at *; first | exact if_pos (by omega) | exact if_neg (by omega)
    have hP : va_P (dC, dI) vwCl (wBa cI cJ cZ h0 h1 hv (avZ av (hv hr0) us + flZ (avZ av (hv hr0) us) bd) (bd - flZ (avZ av (hv hr0) us) bd) (if av + hv hr0 - us < 0 then sh + 1 else sh)) H := by rw [w_5, w_6, w_7]; exact hP
    have hD : va_D A (wBa cI cJ cZ h0 h1 hv (avZ av (hv hr0) us + flZ (avZ av (hv hr0) us) bd) (bd - flZ (avZ av (hv hr0) us) bd) (if av + hv hr0 - us < 0 then sh + 1 else sh)) := by rw [w_5, w_6, w_7]; exact hD
    exact zret_v (W1 := fun _ : Unit => wBa cI cJ cZ h0 h1 hv (avZ av (hv hr0) us + flZ (avZ av (hv hr0) us) bd) (bd - flZ (avZ av (hv hr0) us) bd) (if av + hv hr0 - us < 0 then sh + 1 else sh)) () hx hb hr hP hD hS hlocks dX0_takeTick_56 (by trivial)
  · skip
    refine lv_aload_n hx hb dX0_takeTick_25 rfl (lv_at hl 1 rfl) ?_
    refine lv_dup hx hb dX0_takeTick_26 rfl ?_
    refine va_get (D := (dC, dI)) (ci := 0) (v := .int (iI sh)) (C := RX0) (T := TX0) (N := 4) hx hb hts hinX0 hown hK.1 hP 0 rfl rfl 3 (by decide) (hts _ (List.mem_of_getElem? (i := 3) rfl)) (fun _ h9 => h9) rfl dX0_takeTick_27 ?_
    refine lv_iconst (v := iI 1) hx hb dX0_takeTick_30 rfl ?_
    refine zi_add hx hb dX0_takeTick_31 ?_
    refine va_put (D := (dC, dI)) (ci := 0) (v := .int (iI (sh + 1))) (ty := .int) (C := RX0) (T := TX0) (N := 4) hx hb hts hinX0 tyX0 tyX0_ok nmX0 hown hK.1 hP hD hS 0 rfl rfl 3 (by decide) (hts _ (List.mem_of_getElem? (i := 3) rfl)) (fun _ h9 => h9) rfl (by decide +kernel) rfl rfl (Nat.le_of_ble_eq_true rfl) dX0_takeTick_32 (fun H locs hP hD hS => ?_)
    have hP : va_P (dC, dI) vwCl (wBa cI cJ cZ h0 h1 hv av bd (sh + 1)) H := hP
    have hD : va_D A (wBa cI cJ cZ h0 h1 hv av bd (sh + 1)) := hD
    refine lv_aload_n hx hb dX0_takeTick_35 rfl (lv_at hl 1 rfl) ?_
    refine lv_lconst (v := lI 0) hx hb dX0_takeTick_36 rfl ?_
    refine lv_lload hx hb dX0_takeTick_37 (lv_at hl 0 rfl) ?_
    refine lv_ldc2 (v := lI 50000) hx hb hown (hts _ (List.mem_of_getElem? (i := 4) rfl)) dX0_takeTick_39 ?_
    refine zl_min hx hb (by rw [hml]; exact hl.1.symm) hown (hts _ (List.mem_of_getElem? (i := 5) rfl)) (hts _ (List.mem_of_getElem? (i := 6) rfl)) (hts _ (List.mem_of_getElem? (i := 7) rfl)) (hts _ (List.mem_of_getElem? (i := 8) rfl)) (Nat.le_of_ble_eq_true rfl) (Nat.le_of_ble_eq_true rfl) (Nat.le_of_ble_eq_true rfl) (Nat.le_of_ble_eq_true rfl) (by omega) (by decide) dX0_takeTick_42 ?_
    refine zl_max hx hb (by rw [hml]; exact hl.1.symm) hown (hts _ (List.mem_of_getElem? (i := 9) rfl)) (hts _ (List.mem_of_getElem? (i := 10) rfl)) (hts _ (List.mem_of_getElem? (i := 7) rfl)) (hts _ (List.mem_of_getElem? (i := 11) rfl)) (Nat.le_of_ble_eq_true rfl) (Nat.le_of_ble_eq_true rfl) (Nat.le_of_ble_eq_true rfl) (Nat.le_of_ble_eq_true rfl) (by decide) (by omega) dX0_takeTick_45 ?_
    refine zl_i hx hb dX0_takeTick_48 ?_
    refine va_put (D := (dC, dI)) (ci := 0) (v := .int (iI (max 0 (min ((av + (rdZ hv 24 hr0)) - us) 50000)))) (ty := .int) (C := RX0) (T := TX0) (N := 4) hx hb hts hinX0 tyX0 tyX0_ok nmX0 hown hK.1 hP hD hS 0 rfl rfl 1 (by decide) (hts _ (List.mem_of_getElem? (i := 1) rfl)) (fun _ h9 => h9) rfl (by decide +kernel) rfl rfl (Nat.le_of_ble_eq_true rfl) dX0_takeTick_49 (fun H locs hP hD hS => ?_)
    have hP : va_P (dC, dI) vwCl (wBa cI cJ cZ h0 h1 hv (max 0 (min ((av + (rdZ hv 24 hr0)) - us) 50000)) bd (sh + 1)) H := hP
    have hD : va_D A (wBa cI cJ cZ h0 h1 hv (max 0 (min ((av + (rdZ hv 24 hr0)) - us) 50000)) bd (sh + 1)) := hD
    refine lv_aload_n hx hb dX0_takeTick_52 rfl (lv_at hl 1 rfl) ?_
    refine zc_v (va_runV (As := []) (rest := []) ⟨hx, hb, hml, hown, hts⟩ (kX0_balance l dC dI cI cJ cZ h0 h1 hv (max 0 (min ((av + (rdZ hv 24 hr0)) - us) 50000)) bd (sh + 1) (by first | assumption | omega | exact b2i_01 _) (by first | assumption | omega | exact b2i_01 _) H.size) (cwV 0 hts gX0_takeTick_X0_balance rfl rfl rfl (by decide +kernel) ⟨Nat.le_of_ble_eq_true rfl, Nat.le_of_ble_eq_true rfl⟩) (zpV hK hP hD [0, 1] rfl rfl 0 rfl rfl) rfl rfl hl.1 rfl (lv_room (Nat.le_of_ble_eq_true rfl)) dX0_takeTick_53 ⟨Nat.le_of_ble_eq_true rfl, Nat.le_of_ble_eq_true rfl⟩) hP hD hS hA [0, 1] [] rfl rfl rfl (by decide) (fun u_9 H locs r_8 hP hD hS => ?_)
    have hP : va_P (dC, dI) vwCl (wBa cI cJ cZ h0 h1 hv ((max 0 (min ((av + (rdZ hv 24 hr0)) - us) 50000)) + flZ (max 0 (min ((av + (rdZ hv 24 hr0)) - us) 50000)) bd) (bd - flZ (max 0 (min ((av + (rdZ hv 24 hr0)) - us) 50000)) bd) (sh + 1)) H := hP
    have hD : va_D A (wBa cI cJ cZ h0 h1 hv ((max 0 (min ((av + (rdZ hv 24 hr0)) - us) 50000)) + flZ (max 0 (min ((av + (rdZ hv 24 hr0)) - us) 50000)) bd) (bd - flZ (max 0 (min ((av + (rdZ hv 24 hr0)) - us) 50000)) bd) (sh + 1)) := hD
    subst hQ
    have w_11 : (avZ av (hv hr0) us + flZ (avZ av (hv hr0) us) bd) = ((max 0 (min ((av + (rdZ hv 24 hr0)) - us) 50000)) + flZ (max 0 (min ((av + (rdZ hv 24 hr0)) - us) 50000)) bd) := by unfold avZ; rw [er]
    have w_12 : (bd - flZ (avZ av (hv hr0) us) bd) = (bd - flZ (max 0 (min ((av + (rdZ hv 24 hr0)) - us) 50000)) bd) := by unfold avZ; rw [er]
    have w_13 : (if av + hv hr0 - us < 0 then sh + 1 else sh) = (sh + 1) := by rw [er] at *; first | exact if_pos (by omega) | exact if_neg (by omega)
    have hP : va_P (dC, dI) vwCl (wBa cI cJ cZ h0 h1 hv (avZ av (hv hr0) us + flZ (avZ av (hv hr0) us) bd) (bd - flZ (avZ av (hv hr0) us) bd) (if av + hv hr0 - us < 0 then sh + 1 else sh)) H := by rw [w_11, w_12, w_13]; exact hP
    have hD : va_D A (wBa cI cJ cZ h0 h1 hv (avZ av (hv hr0) us + flZ (avZ av (hv hr0) us) bd) (bd - flZ (avZ av (hv hr0) us) bd) (if av + hv hr0 - us < 0 then sh + 1 else sh)) := by rw [w_11, w_12, w_13]; exact hD
    exact zret_v (W1 := fun _ : Unit => wBa cI cJ cZ h0 h1 hv (avZ av (hv hr0) us + flZ (avZ av (hv hr0) us) bd) (bd - flZ (avZ av (hv hr0) us) bd) (if av + hv hr0 - us < 0 then sh + 1 else sh)) () hx hb hr hP hD hS hlocks dX0_takeTick_56 (by trivial)
