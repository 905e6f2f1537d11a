def rdZ (f : Int → Int) (n : Nat) (i : Int) : Int := if 0 ≤ i ∧ i < n then f i else 0
def exZ (f : Int → Int) (n : Nat) (i x : Int) : Int → Int := if 0 ≤ i ∧ i < n then uZ f i x else f

def rmX7_isWithin : Room := { frames := 0, cells := 0, slots := 0, locals := 0 }
set_option maxRecDepth 100000 in
set_option maxHeartbeats 4000000 in
theorem kX7_isWithin (l : Launch) (dC : Nat → ClassId) (dI : Nat → Nat → Nat) (cI cJ cZ : ClassId)   (a0 a1 a2 : Int) (h0 : zR a0) (h1 : zR a1) (h2 : zR a2) : zPi l yX7_isWithin wsX7_isWithin rmX7_isWithin (dC, dI) (zT cI cJ cZ) (wNO cI cJ cZ ) [.int (iI a0), .int (iI a1), .int (iI a2)] (b2i (a1 ≤ a0 ∧ a0 ≤ a2)) := by
  refine zent_pi (cc := cX7_isWithin) (maxL := 3) (ret := (some .boolean)) (by decide) rfl (Nat.le_of_ble_eq_true rfl) ?_
  intro p e s m below meth c ls hE hP hK hl
  obtain ⟨hx, hb, hr, hml, hown, hts, hlocks, hmn⟩ := hE
  have hl : lv_has ls 3 [(0, .int (iI a0)), (1, .int (iI a1)), (2, .int (iI a2))] := hl
  refine z_gen (fun Q hQ => ?_)
  refine lv_iload_n hx hb dX7_isWithin_0 rfl (lv_at hl 0 rfl) ?_
  refine lv_iload_n hx hb dX7_isWithin_1 rfl (lv_at hl 1 rfl) ?_
  refine zi_clt (tgt := 14) hx hb (by omega) (by omega) dX7_isWithin_2 (by decide) (fun c_1 => ?_) (fun c_1 => ?_)
  · skip
    refine lv_iconst (v := iI 0) hx hb dX7_isWithin_14 rfl ?_
    subst hQ
    exact zret_pz hx hb hr hlocks dX7_isWithin_15 (by first | decide | omega) (by first | exact (b2i_t ⟨by omega, by omega⟩).symm | exact (b2i_f (by omega)).symm)
  · skip
    refine lv_iload_n hx hb dX7_isWithin_5 rfl (lv_at hl 0 rfl) ?_
    refine lv_iload_n hx hb dX7_isWithin_6 rfl (lv_at hl 2 rfl) ?_
    refine zi_cgt (tgt := 14) hx hb (by omega) (by omega) dX7_isWithin_7 (by decide) (fun c_2 => ?_) (fun c_2 => ?_)
    · skip
      refine lv_iconst (v := iI 0) hx hb dX7_isWithin_14 rfl ?_
      subst hQ
      exact zret_pz hx hb hr hlocks dX7_isWithin_15 (by first | decide | omega) (by first | exact (b2i_t ⟨by omega, by omega⟩).symm | exact (b2i_f (by omega)).symm)
    · skip
      refine lv_iconst (v := iI 1) hx hb dX7_isWithin_10 rfl ?_
      refine lv_goto (tgt := 15) hx hb dX7_isWithin_11 (by decide) ?_
      subst hQ
      exact zret_pz hx hb hr hlocks dX7_isWithin_15 (by first | decide | omega) (by first | exact (b2i_t ⟨by omega, by omega⟩).symm | exact (b2i_f (by omega)).symm)
def rmX7_read : Room := { frames := 0, cells := 0, slots := 0, locals := 0 }
set_option maxRecDepth 100000 in
set_option maxHeartbeats 4000000 in
theorem kX7_read (l : Launch) (dC : Nat → ClassId) (dI : Nat → Nat → Nat) (cI cJ cZ : ClassId) (h0 : Nat) (n : Nat) (f : Int → Int) (i : Int) (hi : zR i) (hn : n ≤ 1000) : zPi l yX7_read wsX7_read rmX7_read (dC, dI) (zT cI cJ cZ) (wRD cI cJ cZ h0 n f) [.ref h0, .int (iI i)] (rdZ f n i) := by
  refine zent_pi (cc := cX7_read) (maxL := 2) (ret := (some .int)) (by decide) rfl (Nat.le_of_ble_eq_true rfl) ?_
  intro p e s m below meth c ls hE hP hK hl
  obtain ⟨hx, hb, hr, hml, hown, hts, hlocks, hmn⟩ := hE
  have hl : lv_has ls 2 [(0, .ref h0), (1, .int (iI i))] := hl
  refine z_gen (fun Q hQ => ?_)
  refine lv_iload_n hx hb dX7_read_0 rfl (lv_at hl 1 rfl) ?_
  refine zi_flt (tgt := 16) hx hb (by omega) dX7_read_1 (by decide) (fun c_1 => ?_) (fun c_1 => ?_)
  · skip
    refine lv_iconst (v := iI 0) hx hb dX7_read_16 rfl ?_
    subst hQ
    exact zret_pi hx hb hr hlocks dX7_read_17 (by first | exact (if_pos (by omega)).symm | exact (if_neg (by omega)).symm)
  · skip
    refine lv_iload_n hx hb dX7_read_4 rfl (lv_at hl 1 rfl) ?_
    refine lv_aload_n hx hb dX7_read_5 rfl (lv_at hl 0 rfl) ?_
    refine za_len hx hb hK hP 0 0 rfl rfl dX7_read_6 ?_
    refine zi_cge (tgt := 16) hx hb (by omega) (by omega) dX7_read_7 (by decide) (fun c_2 => ?_) (fun c_2 => ?_)
    · skip
      refine lv_iconst (v := iI 0) hx hb dX7_read_16 rfl ?_
      subst hQ
      exact zret_pi hx hb hr hlocks dX7_read_17 (by first | exact (if_pos (by omega)).symm | exact (if_neg (by omega)).symm)
    · skip
      refine lv_aload_n hx hb dX7_read_10 rfl (lv_at hl 0 rfl) ?_
      refine lv_iload_n hx hb dX7_read_11 rfl (lv_at hl 1 rfl) ?_
      refine za_ld hx hb hK hP 0 0 rfl rfl (by omega) (by omega) dX7_read_12 ?_
      refine lv_goto (tgt := 17) hx hb dX7_read_13 (by decide) ?_
      subst hQ
      exact zret_pi hx hb hr hlocks dX7_read_17 (by first | exact (if_pos (by omega)).symm | exact (if_neg (by omega)).symm)
def rmX7_exchange : Room := { frames := 0, cells := 0, slots := 0, locals := 0 }
set_option maxRecDepth 100000 in
set_option maxHeartbeats 4000000 in
theorem kX7_exchange (l : Launch) (dC : Nat → ClassId) (dI : Nat → Nat → Nat) (cI cJ cZ : ClassId) (h0 : Nat) (n : Nat) (f : Int → Int) (i x : Int) (hi : zR i) (hn : n ≤ 1000) : zMi l yX7_exchange wsX7_exchange rmX7_exchange (dC, dI) (zT cI cJ cZ) (wRD cI cJ cZ h0 n f) [.ref h0, .int (iI i), .int (iI x)] (fun (r9 : Int) (_ : Unit) => r9 = rdZ f n i) (fun _ : Unit => wRD cI cJ cZ h0 n (exZ f n i x)) 0 0 := by
  refine zent_i (cc := cX7_exchange) (maxL := 4) (ret := (some .int)) (by decide) rfl (Nat.le_of_ble_eq_true rfl) ?_
  intro p e s m below meth c A ls hE hP hK hA hD hS hl
  obtain ⟨hx, hb, hr, hml, hown, hts, hlocks, hmn⟩ := hE
  have hl : lv_has ls 4 [(0, .ref h0), (1, .int (iI i)), (2, .int (iI x))] := hl
  refine z_gen (fun Q hQ => ?_)
  refine lv_iload_n hx hb dX7_exchange_0 rfl (lv_at hl 1 rfl) ?_
  refine zi_flt (tgt := 10) hx hb (by omega) dX7_exchange_1 (by decide) (fun c_1 => ?_) (fun c_1 => ?_)
  · skip
    refine lv_iconst (v := iI 0) hx hb dX7_exchange_10 rfl ?_
    subst hQ
    have w_2 : exZ f n i x = f := by first | exact if_pos (by omega) | exact if_neg (by omega)
    have hP : va_P (dC, dI) vwCl (wRD cI cJ cZ h0 n (exZ f n i x)) s.heap := by rw [w_2]; exact hP
    have hD : va_D A (wRD cI cJ cZ h0 n (exZ f n i x)) := by rw [w_2]; exact hD
    exact zret_i (W1 := fun _ : Unit => wRD cI cJ cZ h0 n (exZ f n i x)) () hx hb hr hP hD hS hlocks dX7_exchange_11 (by first | exact (if_pos (by omega)).symm | exact (if_neg (by omega)).symm)
  · skip
    refine lv_iload_n hx hb dX7_exchange_4 rfl (lv_at hl 1 rfl) ?_
    refine lv_aload_n hx hb dX7_exchange_5 rfl (lv_at hl 0 rfl) ?_
    refine za_len hx hb hK hP 0 0 rfl rfl dX7_exchange_6 ?_
    refine zi_clt (tgt := 12) hx hb (by omega) (by omega) dX7_exchange_7 (by decide) (fun c_3 => ?_) (fun c_3 => ?_)
    · skip
      refine lv_aload_n hx hb dX7_exchange_12 rfl (lv_at hl 0 rfl) ?_
      refine lv_iload_n hx hb dX7_exchange_13 rfl (lv_at hl 1 rfl) ?_
      refine za_ld hx hb hK hP 0 0 rfl rfl (by omega) (by omega) dX7_exchange_14 ?_
      refine lv_istore_n (lv' := [(3, .int (iI (f i))), (0, .ref h0), (1, .int (iI i)), (2, .int (iI x))]) hx hb dX7_exchange_15 rfl hl (by decide) rfl (fun ls hl => ?_)
      refine lv_aload_n hx hb dX7_exchange_16 rfl (lv_at hl 1 rfl) ?_
      refine lv_iload_n hx hb dX7_exchange_17 rfl (lv_at hl 2 rfl) ?_
      refine lv_iload_n hx hb dX7_exchange_18 rfl (lv_at hl 3 rfl) ?_
      refine za_st hx hb hK hP hD hS 0 0 rfl rfl (by omega) (by omega) dX7_exchange_19 (fun H locs hP hD hS => ?_)
      have hP : va_P (dC, dI) vwCl (wRD cI cJ cZ h0 n (uZ f i x)) H := hP
      have hD : va_D A (wRD cI cJ cZ h0 n (uZ f i x)) := hD
      refine lv_iload_n hx hb dX7_exchange_20 rfl (lv_at hl 0 rfl) ?_
      subst hQ
      have w_4 : exZ f n i x = uZ f i x := by first | exact if_pos (by omega) | exact if_neg (by omega)
      have hP : va_P (dC, dI) vwCl (wRD cI cJ cZ h0 n (exZ f n i x)) H := by rw [w_4]; exact hP
      have hD : va_D A (wRD cI cJ cZ h0 n (exZ f n i x)) := by rw [w_4]; exact hD
      exact zret_i (W1 := fun _ : Unit => wRD cI cJ cZ h0 n (exZ f n i x)) () hx hb hr hP hD hS hlocks dX7_exchange_21 (by first | exact (if_pos (by omega)).symm | exact (if_neg (by omega)).symm)
    · skip
      refine lv_iconst (v := iI 0) hx hb dX7_exchange_10 rfl ?_
      subst hQ
      have w_5 : exZ f n i x = f := by first | exact if_pos (by omega) | exact if_neg (by omega)
      have hP : va_P (dC, dI) vwCl (wRD cI cJ cZ h0 n (exZ f n i x)) s.heap := by rw [w_5]; exact hP
      have hD : va_D A (wRD cI cJ cZ h0 n (exZ f n i x)) := by rw [w_5]; exact hD
      exact zret_i (W1 := fun _ : Unit => wRD cI cJ cZ h0 n (exZ f n i x)) () hx hb hr hP hD hS hlocks dX7_exchange_11 (by first | exact (if_pos (by omega)).symm | exact (if_neg (by omega)).symm)
def rmX6_powerOf : Room := { frames := 1, cells := 0, slots := 0, locals := 21 }
set_option maxRecDepth 100000 in
set_option maxHeartbeats 4000000 in
theorem kX6_powerOf (l : Launch) (dC : Nat → ClassId) (dI : Nat → Nat → Nat) (cI cJ cZ : ClassId) (h0 h1 h2 h3 : Nat)  (pw : Int → Int) (co : Int → Int) (la : Int → Int) (st : Int) (hst : 0 ≤ st ∧ st ≤ 3) : zPi l yX6_powerOf wsX6_powerOf rmX6_powerOf (dC, dI) (zT cI cJ cZ) (wSt cI cJ cZ h0 h1 h2 h3 pw co la) [.ref h0, .int (iI st)] (pw st) := by
  refine zent_pi (cc := cX6_powerOf) (maxL := 2) (ret := (some .int)) (by decide) rfl (Nat.le_of_ble_eq_true rfl) ?_
  intro p e s m below meth c ls hE hP hK hl
  obtain ⟨hx, hb, hr, hml, hown, hts, hlocks, hmn⟩ := hE
  have hinX6 : ∀ w ∈ u_ws RX6 TX6 3, w ∈ wsX6_powerOf := by decide +kernel
  have hl : lv_has ls 2 [(0, .ref h0), (1, .int (iI st))] := hl
  refine z_gen (fun Q hQ => ?_)
  refine lv_aload_n hx hb dX6_powerOf_0 rfl (lv_at hl 0 rfl) ?_
  refine va_get (D := (dC, dI)) (ci := 6) (v := .ref h1) (C := RX6) (T := TX6) (N := 3) hx hb hts hinX6 hown hK.1 hP 0 rfl rfl 0 (by decide) (hts _ (List.mem_of_getElem? (i := 1) rfl)) (fun _ h9 => h9) rfl dX6_powerOf_1 ?_
  refine lv_iload_n hx hb dX6_powerOf_4 rfl (lv_at hl 1 rfl) ?_
  refine zc_pi (va_runSN (As := [.ref h1, .int (iI st)]) (rest := []) ⟨hx, hb, hml, hown, hts⟩ (kX7_read l dC dI cI cJ cZ h1 4 pw st (by first | assumption | omega) (by first | assumption | omega)) ⟨va_cnB 2 hts gX6_powerOf_X7_read_n25 rfl rfl rfl (hK.2.2 _ (List.mem_of_getElem? (i := 6) rfl)) (hts _ (List.mem_of_getElem? (i := 3) rfl)) (by decide +kernel) ⟨Nat.le_of_ble_eq_true rfl, Nat.le_of_ble_eq_true rfl⟩, (hts _ (List.mem_of_getElem? (i := 2) rfl)), trivial⟩ (zqS hK hP [1] rfl) rfl rfl hl.1 rfl (lv_room (Nat.le_of_ble_eq_true rfl)) dX6_powerOf_5 ⟨Nat.le_of_ble_eq_true rfl, Nat.le_of_ble_eq_true rfl⟩) ?_
  subst hQ
  exact zret_pi hx hb hr hlocks dX6_powerOf_8 (by exact if_pos (by omega))
def rmX6_costOf : Room := { frames := 1, cells := 0, slots := 0, locals := 21 }
set_option maxRecDepth 100000 in
set_option maxHeartbeats 4000000 in
theorem kX6_costOf (l : Launch) (dC : Nat → ClassId) (dI : Nat → Nat → Nat) (cI cJ cZ : ClassId) (h0 h1 h2 h3 : Nat)  (pw : Int → Int) (co : Int → Int) (la : Int → Int) (st : Int) (hst : 0 ≤ st ∧ st ≤ 3) : zPi l yX6_costOf wsX6_costOf rmX6_costOf (dC, dI) (zT cI cJ cZ) (wSt cI cJ cZ h0 h1 h2 h3 pw co la) [.ref h0, .int (iI st)] (co st) := by
  refine zent_pi (cc := cX6_costOf) (maxL := 2) (ret := (some .int)) (by decide) rfl (Nat.le_of_ble_eq_true rfl) ?_
  intro p e s m below meth c ls hE hP hK hl
  obtain ⟨hx, hb, hr, hml, hown, hts, hlocks, hmn⟩ := hE
  have hinX6 : ∀ w ∈ u_ws RX6 TX6 3, w ∈ wsX6_costOf := by decide +kernel
  have hl : lv_has ls 2 [(0, .ref h0), (1, .int (iI st))] := hl
  refine z_gen (fun Q hQ => ?_)
  refine lv_aload_n hx hb dX6_costOf_0 rfl (lv_at hl 0 rfl) ?_
  refine va_get (D := (dC, dI)) (ci := 6) (v := .ref h2) (C := RX6) (T := TX6) (N := 3) hx hb hts hinX6 hown hK.1 hP 0 rfl rfl 1 (by decide) (hts _ (List.mem_of_getElem? (i := 1) rfl)) (fun _ h9 => h9) rfl dX6_costOf_1 ?_
  refine lv_iload_n hx hb dX6_costOf_4 rfl (lv_at hl 1 rfl) ?_
  refine zc_pi (va_runSN (As := [.ref h2, .int (iI st)]) (rest := []) ⟨hx, hb, hml, hown, hts⟩ (kX7_read l dC dI cI cJ cZ h2 4 co st (by first | assumption | omega) (by first | assumption | omega)) ⟨va_cnB 2 hts gX6_costOf_X7_read_n25 rfl rfl rfl (hK.2.2 _ (List.mem_of_getElem? (i := 6) rfl)) (hts _ (List.mem_of_getElem? (i := 3) rfl)) (by decide +kernel) ⟨Nat.le_of_ble_eq_true rfl, Nat.le_of_ble_eq_true rfl⟩, (hts _ (List.mem_of_getElem? (i := 2) rfl)), trivial⟩ (zqS hK hP [2] rfl) rfl rfl hl.1 rfl (lv_room (Nat.le_of_ble_eq_true rfl)) dX6_costOf_5 ⟨Nat.le_of_ble_eq_true rfl, Nat.le_of_ble_eq_true rfl⟩) ?_
  subst hQ
  exact zret_pi hx hb hr hlocks dX6_costOf_8 (by exact if_pos (by omega))
def rmX6_latencyOf : Room := { frames := 1, cells := 0, slots := 0, locals := 21 }
set_option maxRecDepth 100000 in
set_option maxHeartbeats 4000000 in
theorem kX6_latencyOf (l : Launch) (dC : Nat → ClassId) (dI : Nat → Nat → Nat) (cI cJ cZ : ClassId) (h0 h1 h2 h3 : Nat)  (pw : Int → Int) (co : Int → Int) (la : Int → Int) (st : Int) (hst : 0 ≤ st ∧ st ≤ 3) : zPi l yX6_latencyOf wsX6_latencyOf rmX6_latencyOf (dC, dI) (zT cI cJ cZ) (wSt cI cJ cZ h0 h1 h2 h3 pw co la) [.ref h0, .int (iI st)] (la st) := by
  refine zent_pi (cc := cX6_latencyOf) (maxL := 2) (ret := (some .int)) (by decide) rfl (Nat.le_of_ble_eq_true rfl) ?_
  intro p e s m below meth c ls hE hP hK hl
  obtain ⟨hx, hb, hr, hml, hown, hts, hlocks, hmn⟩ := hE
  have hinX6 : ∀ w ∈ u_ws RX6 TX6 3, w ∈ wsX6_latencyOf := by decide +kernel
  have hl : lv_has ls 2 [(0, .ref h0), (1, .int (iI st))] := hl
  refine z_gen (fun Q hQ => ?_)
  refine lv_aload_n hx hb dX6_latencyOf_0 rfl (lv_at hl 0 rfl) ?_
  refine va_get (D := (dC, dI)) (ci := 6) (v := .ref h3) (C := RX6) (T := TX6) (N := 3) hx hb hts hinX6 hown hK.1 hP 0 rfl rfl 2 (by decide) (hts _ (List.mem_of_getElem? (i := 1) rfl)) (fun _ h9 => h9) rfl dX6_latencyOf_1 ?_
  refine lv_iload_n hx hb dX6_latencyOf_4 rfl (lv_at hl 1 rfl) ?_
  refine zc_pi (va_runSN (As := [.ref h3, .int (iI st)]) (rest := []) ⟨hx, hb, hml, hown, hts⟩ (kX7_read l dC dI cI cJ cZ h3 4 la st (by first | assumption | omega) (by first | assumption | omega)) ⟨va_cnB 2 hts gX6_latencyOf_X7_read_n25 rfl rfl rfl (hK.2.2 _ (List.mem_of_getElem? (i := 6) rfl)) (hts _ (List.mem_of_getElem? (i := 3) rfl)) (by decide +kernel) ⟨Nat.le_of_ble_eq_true rfl, Nat.le_of_ble_eq_true rfl⟩, (hts _ (List.mem_of_getElem? (i := 2) rfl)), trivial⟩ (zqS hK hP [3] rfl) rfl rfl hl.1 rfl (lv_room (Nat.le_of_ble_eq_true rfl)) dX6_latencyOf_5 ⟨Nat.le_of_ble_eq_true rfl, Nat.le_of_ble_eq_true rfl⟩) ?_
  subst hQ
  exact zret_pi hx hb hr hlocks dX6_latencyOf_8 (by exact if_pos (by omega))
